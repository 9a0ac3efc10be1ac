/-! the model's calls, 7: the dogs; who led -/
def em : Nat → Int32
  | 0 => -1
  | k + 1 => nI k
def cst (c : Nat → Nat) (q : Nat × Nat) : Nat → Nat := upN (upN c q.1 (c q.1 ||| c q.2)) q.2 (c q.1 ||| c q.2)
def LdP (N : bM) (f c : Nat → Nat) : Prop := (∀ j, j < 9 → gI N 11 8 j = em (f j)) ∧ ∀ j, j < 9 → gI N 11 9 j = nI (c j)
section M7
variable {d G : Nat} {M : bM} {lt : Nat → Nat} {len n : Nat} {τ : Nat → Nat → Nat} {σ : sT} {pa : Nat → sT} {ph : Nat} {ka : Nat → sT} {kh : Nat} {ci cs : Nat → Nat} {cn : Nat} {Q : bV → bM → Prop}
theorem vX8_dogs {x y w : Int32} (C : MA M lt len τ σ pa ph ka kh ci cs cn) (V : VA G τ σ pa ph ka kh ci cs cn) (hG : G < 2 ^ 28)
    (hQ : ∀ M', MA M' lt len τ σ pa ph ka kh ci cs cn → Eqx mdS M M' → Q (.inl (pDogs τ σ x y w)) M') : Run 1 (d + 5) 139 [vr 8 0, .inl x, .inl y, .inl w] M Q := by
  obtain ⟨P, T, S, P0, P1, L⟩ := id C
  obtain ⟨K, n1, hs, hg, -⟩ := V
  have hn := K.1
  have l1 : (9999 : Int32) = nI 9999 := rfl
  have e1 : ∀ x, inB x 0 1 = eiB x := fun x => ei_in
  rw [rX8_dogs]
  unfold pDogs at hQ
  simp only [eX8_dogs_0, eX8_dogs_1, eX8_dogs_2, eX8_dogs_5, eX8_dogs_8, eX8_dogs_11, eX8_dogs_12, eX8_dogs_13, eX8_dogs_15, eX8_dogs_18, eX8_dogs_21, eX8_dogs_22, eX8_dogs_23, eX8_dogs_24, eX8_dogs_27, eX8_dogs_30, eX8_dogs_31, eX8_dogs_32, eX8_dogs_33, eX8_dogs_36, eX8_dogs_37, eX8_dogs_41, eX8_dogs_42, eX8_dogs_45, eX8_dogs_48, eX8_dogs_49, eX8_dogs_50, eX8_dogs_51, eX8_dogs_54, eX8_dogs_56, eX8_dogs_57, eX8_dogs_58, eX8_dogs_59, eX8_dogs_60, eX8_dogs_61, eX8_dogs_63, eX8_dogs_65, eX8_dogs_67, eX8_dogs_68, eX8_dogs_71, eX8_dogs_72, eX8_dogs_73, eX8_dogs_75, eX8_dogs_76, eX8_dogs_78, eX8_dogs_80, eX8_dogs_81, eX8_dogs_84, eX8_dogs_85, eX8_dogs_86, eX8_dogs_87, eX8_dogs_89, eX8_dogs_91, eX8_dogs_93, eX8_dogs_94, eX8_dogs_95, eX8_dogs_98, eX8_dogs_99, eX8_dogs_100, eX8_dogs_101, eX8_dogs_103, eX8_dogs_105, eX8_dogs_107, eX8_dogs_110, eX8_dogs_111, eX8_dogs_113, eX8_dogs_115, eX8_dogs_118, eX8_dogs_119, eX8_dogs_120, eX8_dogs_123, eX8_dogs_126, eX8_dogs_129, eX8_dogs_130, eX8_dogs_132, eX8_dogs_133, eX8_dogs_137, eX8_dogs_138, eX8_dogs_141, eX8_dogs_142, eX8_dogs_143, eX8_dogs_146, eX8_dogs_147, eX8_dogs_149, eX8_dogs_152, eX8_dogs_155, eX8_dogs_156, eX8_dogs_159, eX8_dogs_161, eX8_dogs_162, eX8_dogs_164, eX8_dogs_167, eX8_dogs_168, eX8_dogs_171, eX8_dogs_173, eX8_dogs_174, eX8_dogs_177, eX8_dogs_179, eX8_dogs_181, eX8_dogs_184, eX8_dogs_187, eX8_dogs_188, eX8_dogs_191, eX8_dogs_192, eX8_dogs_195, eX8_dogs_198, eX8_dogs_200, eX8_dogs_202, eX8_dogs_203, eX8_dogs_206, eX8_dogs_208, c8_, c11_0, c11_1, c11_2, c11_3, c11_4, c11_5, c11_6, c11_7, c11_8, c11_9, alm_0, alm_1, alm_2, alm_3, alm_4, alm_5, alm_6, alm_7, alm_8, alm_9, vT, true_and, tX8_in, e1, psh_i, bi_0]
  unfold inB
  by_cases c1 : x < 0
  · rw [if_pos (Or.inl c1)] at hQ
    rw [decide_eq_false (not_not_intro c1), Bool.false_and, if_pos rfl]
    exact hQ M C Eqx_rf
  by_cases c2 : nI 9999 < x
  · rw [if_pos (Or.inr (Or.inl c2))] at hQ
    rw [l1, decide_eq_false (not_not_intro c2), Bool.and_false, if_pos rfl]
    exact hQ M C Eqx_rf
  rw [l1, decide_eq_true c1, decide_eq_true c2, if_neg (by decide)]
  by_cases c3 : y < 1
  · rw [if_pos (Or.inr (Or.inr (Or.inl c3)))] at hQ
    rw [decide_eq_false (not_not_intro c3), Bool.false_and, if_pos rfl]
    exact hQ M C Eqx_rf
  by_cases c4 : nI 48 < y
  · rw [if_pos (Or.inr (Or.inr (Or.inr (Or.inl c4))))] at hQ
    rw [lit_48, decide_eq_false (not_not_intro c4), Bool.and_false, if_pos rfl]
    exact hQ M C Eqx_rf
  rw [lit_48, decide_eq_true c3, decide_eq_true c4, if_neg (by decide)]
  by_cases c5 : eiB w = false
  · rw [if_pos (Or.inr (Or.inr (Or.inr (Or.inr c5))))] at hQ
    rw [if_pos c5]
    exact hQ M C Eqx_rf
  rw [if_neg c5]
  rw [if_neg (by rintro (q | q | q | q | q) <;> contradiction)] at hQ
  obtain ⟨a, ha, rfl⟩ : ∃ a, a < 10000 ∧ x = nI a := by
    rcases pk_ix x (n := 10000) (by decide) with q | q | q
    · exact absurd q c1
    · exfalso
      apply c2
      rw [Int32.le_iff_toInt_le, nI_toInt (by decide)] at q
      rw [Int32.lt_iff_toInt_lt, nI_toInt (by decide)]
      omega
    · exact q
  obtain ⟨m, hm, rfl⟩ : ∃ n, n < 49 ∧ y = nI n := by
    rcases pk_ix y (n := 49) (by decide) with q | q | q
    · exfalso
      apply c3
      rw [Int32.lt_iff_toInt_lt] at q ⊢
      simp at q ⊢
      omega
    · exfalso
      apply c4
      rw [Int32.le_iff_toInt_le, nI_toInt (by decide)] at q
      rw [Int32.lt_iff_toInt_lt, nI_toInt (by decide)]
      omega
    · exact q
  rw [nI_clamp (by omega), nI_clamp (by omega)] at hQ
  refine tX8_holds (fun N R hN => ?_)
  have SN : MS N (τ 7 0) σ := MS_h hn (fun j _ => hN j) S
  have TN := TR_T R T
  have R2 : TR M (wMs N (τ 7 0) (dgN τ a σ m)) := TR_w R
  have hkm := OKs_dgN (z := a) (k := m) K n1 hs
  have T2 : MT (wMs N (τ 7 0) (dgN τ a σ m)) 1 τ := MT_w TN
  have fin : ∀ a6 a7 a8 a9, ExG 1 (Run 1 (d + 4)) 8 1 true none cX8_dogs Q 135 [vr 8 0, .inl (nI a), .inl (nI m), .inl w, .inl (nI (dkN τ (dgN τ a σ m).1 (τ 7 0))), .inl (nI (τ 7 0)), a6, a7, a8, a9] [] (wMs N (τ 7 0) (dgN τ a σ m)) := by
    intro a6 a7 a8 a9
    rw [eX8_dogs_135]
    simp (disch := omega) only [eX8_dogs_0, eX8_dogs_1, eX8_dogs_2, eX8_dogs_5, eX8_dogs_8, eX8_dogs_11, eX8_dogs_12, eX8_dogs_13, eX8_dogs_15, eX8_dogs_18, eX8_dogs_21, eX8_dogs_22, eX8_dogs_23, eX8_dogs_24, eX8_dogs_27, eX8_dogs_30, eX8_dogs_31, eX8_dogs_32, eX8_dogs_33, eX8_dogs_36, eX8_dogs_37, eX8_dogs_41, eX8_dogs_42, eX8_dogs_45, eX8_dogs_48, eX8_dogs_49, eX8_dogs_50, eX8_dogs_51, eX8_dogs_54, eX8_dogs_56, eX8_dogs_57, eX8_dogs_58, eX8_dogs_59, eX8_dogs_60, eX8_dogs_61, eX8_dogs_63, eX8_dogs_65, eX8_dogs_67, eX8_dogs_68, eX8_dogs_71, eX8_dogs_72, eX8_dogs_73, eX8_dogs_75, eX8_dogs_76, eX8_dogs_78, eX8_dogs_80, eX8_dogs_81, eX8_dogs_84, eX8_dogs_85, eX8_dogs_86, eX8_dogs_87, eX8_dogs_89, eX8_dogs_91, eX8_dogs_93, eX8_dogs_94, eX8_dogs_95, eX8_dogs_98, eX8_dogs_99, eX8_dogs_100, eX8_dogs_101, eX8_dogs_103, eX8_dogs_105, eX8_dogs_107, eX8_dogs_110, eX8_dogs_111, eX8_dogs_113, eX8_dogs_115, eX8_dogs_118, eX8_dogs_119, eX8_dogs_120, eX8_dogs_123, eX8_dogs_126, eX8_dogs_129, eX8_dogs_130, eX8_dogs_132, eX8_dogs_133, eX8_dogs_137, eX8_dogs_138, eX8_dogs_141, eX8_dogs_142, eX8_dogs_143, eX8_dogs_146, eX8_dogs_147, eX8_dogs_149, eX8_dogs_152, eX8_dogs_155, eX8_dogs_156, eX8_dogs_159, eX8_dogs_161, eX8_dogs_162, eX8_dogs_164, eX8_dogs_167, eX8_dogs_168, eX8_dogs_171, eX8_dogs_173, eX8_dogs_174, eX8_dogs_177, eX8_dogs_179, eX8_dogs_181, eX8_dogs_184, eX8_dogs_187, eX8_dogs_188, eX8_dogs_191, eX8_dogs_192, eX8_dogs_195, eX8_dogs_198, eX8_dogs_200, eX8_dogs_202, eX8_dogs_203, eX8_dogs_206, eX8_dogs_208, c8_, c11_0, c11_1, c11_2, c11_3, c11_4, c11_5, c11_6, c11_7, c11_8, c11_9, alm_0, alm_1, alm_2, alm_3, alm_4, alm_5, alm_6, alm_7, alm_8, alm_9, vT, true_and, lit_0, nI_clamp, T2.1, nI_leI, Nat.le_refl, if_true, tX8_shaded T2 K hkm (MS_w hn), psh_i]
    have two : ∀ v : Int32, (∀ M', MA M' lt len τ σ pa ph ka kh ci cs cn → Eqx mdS M M' → Q (.inl v) M') → Run 1 (d + 4) 124 [vr 8 0] (wMs N (τ 7 0) (dgN τ a σ m)) (fun u M' => ExG 1 (Run 1 (d + 4)) 8 1 true none cX8_dogs Q 208 [vr 8 0, .inl (nI a), .inl (nI m), .inl w, .inl (nI (dkN τ (dgN τ a σ m).1 (τ 7 0))), .inl v, a6, a7, a8, a9] (.inl v :: psh u []) M') := by
      intro v hv
      refine tX8_lets R2 (fun N' R' h' => ?_)
      simp only [psh_u, eX8_dogs_0, eX8_dogs_1, eX8_dogs_2, eX8_dogs_5, eX8_dogs_8, eX8_dogs_11, eX8_dogs_12, eX8_dogs_13, eX8_dogs_15, eX8_dogs_18, eX8_dogs_21, eX8_dogs_22, eX8_dogs_23, eX8_dogs_24, eX8_dogs_27, eX8_dogs_30, eX8_dogs_31, eX8_dogs_32, eX8_dogs_33, eX8_dogs_36, eX8_dogs_37, eX8_dogs_41, eX8_dogs_42, eX8_dogs_45, eX8_dogs_48, eX8_dogs_49, eX8_dogs_50, eX8_dogs_51, eX8_dogs_54, eX8_dogs_56, eX8_dogs_57, eX8_dogs_58, eX8_dogs_59, eX8_dogs_60, eX8_dogs_61, eX8_dogs_63, eX8_dogs_65, eX8_dogs_67, eX8_dogs_68, eX8_dogs_71, eX8_dogs_72, eX8_dogs_73, eX8_dogs_75, eX8_dogs_76, eX8_dogs_78, eX8_dogs_80, eX8_dogs_81, eX8_dogs_84, eX8_dogs_85, eX8_dogs_86, eX8_dogs_87, eX8_dogs_89, eX8_dogs_91, eX8_dogs_93, eX8_dogs_94, eX8_dogs_95, eX8_dogs_98, eX8_dogs_99, eX8_dogs_100, eX8_dogs_101, eX8_dogs_103, eX8_dogs_105, eX8_dogs_107, eX8_dogs_110, eX8_dogs_111, eX8_dogs_113, eX8_dogs_115, eX8_dogs_118, eX8_dogs_119, eX8_dogs_120, eX8_dogs_123, eX8_dogs_126, eX8_dogs_129, eX8_dogs_130, eX8_dogs_132, eX8_dogs_133, eX8_dogs_137, eX8_dogs_138, eX8_dogs_141, eX8_dogs_142, eX8_dogs_143, eX8_dogs_146, eX8_dogs_147, eX8_dogs_149, eX8_dogs_152, eX8_dogs_155, eX8_dogs_156, eX8_dogs_159, eX8_dogs_161, eX8_dogs_162, eX8_dogs_164, eX8_dogs_167, eX8_dogs_168, eX8_dogs_171, eX8_dogs_173, eX8_dogs_174, eX8_dogs_177, eX8_dogs_179, eX8_dogs_181, eX8_dogs_184, eX8_dogs_187, eX8_dogs_188, eX8_dogs_191, eX8_dogs_192, eX8_dogs_195, eX8_dogs_198, eX8_dogs_200, eX8_dogs_202, eX8_dogs_203, eX8_dogs_206, eX8_dogs_208]
      exact hv N' (TR_A C hn R' h') (Mx_E R'.1)
    by_cases c6 : w = 0
    · rw [if_pos c6] at hQ
      rw [if_pos (show w = nI 0 from c6)]
      exact two _ hQ
    · rw [if_neg c6] at hQ
      rw [if_neg (show ¬ w = nI 0 from c6)]
      exact two _ hQ
  have dk : ∀ k i a6 a7 a8 a9, i + k = τ 7 0 → ExG 1 (Run 1 (d + 4)) 8 1 true none cX8_dogs Q 135 [vr 8 0, .inl (nI a), .inl (nI m), .inl w, .inl (nI (dkN τ (dgN τ a σ m).1 i)), .inl (nI i), a6, a7, a8, a9] [] (wMs N (τ 7 0) (dgN τ a σ m)) := by
    intro k
    induction k with
    | zero =>
      intro i a6 a7 a8 a9 ei
      have ei' : i = τ 7 0 := ei
      subst ei'
      exact fin a6 a7 a8 a9
    | succ k ih =>
      intro i a6 a7 a8 a9 ei
      have nx := ih (i + 1) a6 a7 a8 a9 (by omega)
      have hsi := hkm.1 i (by omega)
      have hdk : dkN τ (dgN τ a σ m).1 i ≤ 9 := dkN_le (fun j hj => hkm.1 j (by omega))
      rw [dkN] at nx
      rw [eX8_dogs_135]
      simp (disch := omega) only [eX8_dogs_0, eX8_dogs_1, eX8_dogs_2, eX8_dogs_5, eX8_dogs_8, eX8_dogs_11, eX8_dogs_12, eX8_dogs_13, eX8_dogs_15, eX8_dogs_18, eX8_dogs_21, eX8_dogs_22, eX8_dogs_23, eX8_dogs_24, eX8_dogs_27, eX8_dogs_30, eX8_dogs_31, eX8_dogs_32, eX8_dogs_33, eX8_dogs_36, eX8_dogs_37, eX8_dogs_41, eX8_dogs_42, eX8_dogs_45, eX8_dogs_48, eX8_dogs_49, eX8_dogs_50, eX8_dogs_51, eX8_dogs_54, eX8_dogs_56, eX8_dogs_57, eX8_dogs_58, eX8_dogs_59, eX8_dogs_60, eX8_dogs_61, eX8_dogs_63, eX8_dogs_65, eX8_dogs_67, eX8_dogs_68, eX8_dogs_71, eX8_dogs_72, eX8_dogs_73, eX8_dogs_75, eX8_dogs_76, eX8_dogs_78, eX8_dogs_80, eX8_dogs_81, eX8_dogs_84, eX8_dogs_85, eX8_dogs_86, eX8_dogs_87, eX8_dogs_89, eX8_dogs_91, eX8_dogs_93, eX8_dogs_94, eX8_dogs_95, eX8_dogs_98, eX8_dogs_99, eX8_dogs_100, eX8_dogs_101, eX8_dogs_103, eX8_dogs_105, eX8_dogs_107, eX8_dogs_110, eX8_dogs_111, eX8_dogs_113, eX8_dogs_115, eX8_dogs_118, eX8_dogs_119, eX8_dogs_120, eX8_dogs_123, eX8_dogs_126, eX8_dogs_129, eX8_dogs_130, eX8_dogs_132, eX8_dogs_133, eX8_dogs_137, eX8_dogs_138, eX8_dogs_141, eX8_dogs_142, eX8_dogs_143, eX8_dogs_146, eX8_dogs_147, eX8_dogs_149, eX8_dogs_152, eX8_dogs_155, eX8_dogs_156, eX8_dogs_159, eX8_dogs_161, eX8_dogs_162, eX8_dogs_164, eX8_dogs_167, eX8_dogs_168, eX8_dogs_171, eX8_dogs_173, eX8_dogs_174, eX8_dogs_177, eX8_dogs_179, eX8_dogs_181, eX8_dogs_184, eX8_dogs_187, eX8_dogs_188, eX8_dogs_191, eX8_dogs_192, eX8_dogs_195, eX8_dogs_198, eX8_dogs_200, eX8_dogs_202, eX8_dogs_203, eX8_dogs_206, eX8_dogs_208, c8_, c11_0, c11_1, c11_2, c11_3, c11_4, c11_5, c11_6, c11_7, c11_8, c11_9, alm_0, alm_1, alm_2, alm_3, alm_4, alm_5, alm_6, alm_7, alm_8, alm_9, vT, true_and, lit_0, nI_clamp, T2.1, nI_leI, if_neg (show ¬ τ 7 0 ≤ i by omega), tX8_isPerson T2 K n1, hpB_nI K, psh_i, bi_0n, wMs_s (show i < τ 7 0 by omega), nI_1]
      cases hp : per τ i
      · rw [hp, if_neg (show ¬ false = true by decide)] at nx
        rw [if_pos rfl]
        exact nx
      · rw [hp, if_pos rfl] at nx
        rw [if_neg (show ¬ true = false by decide)]
        by_cases c : (dgN τ a σ m).1 i ≤ dkN τ (dgN τ a σ m).1 i
        · rw [if_pos c]
          rw [Nat.max_eq_left c] at nx
          exact nx
        · rw [if_neg c]
          rw [Nat.max_eq_right (by omega)] at nx
          exact nx
  have go : ∀ r k a5 a6 a7 a8 a9, k + r = m → ExG 1 (Run 1 (d + 4)) 8 1 true none cX8_dogs Q 39 [vr 8 0, .inl (nI a), .inl (nI m), .inl w, .inl (nI k), a5, a6, a7, a8, a9] [] (wMs N (τ 7 0) (dgN τ a σ k)) := by
    intro r
    induction r with
    | zero =>
      intro k a5 a6 a7 a8 a9 ek
      have ek' : k = m := ek
      subst ek'
      have := dk (τ 7 0) 0 a6 a7 a8 a9 (by omega)
      rw [eX8_dogs_39]
      simp (disch := omega) only [eX8_dogs_0, eX8_dogs_1, eX8_dogs_2, eX8_dogs_5, eX8_dogs_8, eX8_dogs_11, eX8_dogs_12, eX8_dogs_13, eX8_dogs_15, eX8_dogs_18, eX8_dogs_21, eX8_dogs_22, eX8_dogs_23, eX8_dogs_24, eX8_dogs_27, eX8_dogs_30, eX8_dogs_31, eX8_dogs_32, eX8_dogs_33, eX8_dogs_36, eX8_dogs_37, eX8_dogs_41, eX8_dogs_42, eX8_dogs_45, eX8_dogs_48, eX8_dogs_49, eX8_dogs_50, eX8_dogs_51, eX8_dogs_54, eX8_dogs_56, eX8_dogs_57, eX8_dogs_58, eX8_dogs_59, eX8_dogs_60, eX8_dogs_61, eX8_dogs_63, eX8_dogs_65, eX8_dogs_67, eX8_dogs_68, eX8_dogs_71, eX8_dogs_72, eX8_dogs_73, eX8_dogs_75, eX8_dogs_76, eX8_dogs_78, eX8_dogs_80, eX8_dogs_81, eX8_dogs_84, eX8_dogs_85, eX8_dogs_86, eX8_dogs_87, eX8_dogs_89, eX8_dogs_91, eX8_dogs_93, eX8_dogs_94, eX8_dogs_95, eX8_dogs_98, eX8_dogs_99, eX8_dogs_100, eX8_dogs_101, eX8_dogs_103, eX8_dogs_105, eX8_dogs_107, eX8_dogs_110, eX8_dogs_111, eX8_dogs_113, eX8_dogs_115, eX8_dogs_118, eX8_dogs_119, eX8_dogs_120, eX8_dogs_123, eX8_dogs_126, eX8_dogs_129, eX8_dogs_130, eX8_dogs_132, eX8_dogs_133, eX8_dogs_137, eX8_dogs_138, eX8_dogs_141, eX8_dogs_142, eX8_dogs_143, eX8_dogs_146, eX8_dogs_147, eX8_dogs_149, eX8_dogs_152, eX8_dogs_155, eX8_dogs_156, eX8_dogs_159, eX8_dogs_161, eX8_dogs_162, eX8_dogs_164, eX8_dogs_167, eX8_dogs_168, eX8_dogs_171, eX8_dogs_173, eX8_dogs_174, eX8_dogs_177, eX8_dogs_179, eX8_dogs_181, eX8_dogs_184, eX8_dogs_187, eX8_dogs_188, eX8_dogs_191, eX8_dogs_192, eX8_dogs_195, eX8_dogs_198, eX8_dogs_200, eX8_dogs_202, eX8_dogs_203, eX8_dogs_206, eX8_dogs_208, nI_leI, Nat.le_refl, if_true]
      exact this
    | succ r ih =>
      intro k a5 a6 a7 a8 a9 ek
      have hk' := OKs_dgN (z := a) (k := k) K n1 hs
      have hg' := dgN_g (τ := τ) (z := a) (σ := σ) (k := k)
      have Tk : MT (wMs N (τ 7 0) (dgN τ a σ k)) 1 τ := MT_w TN
      have hb := drw_b ha (show k < 48 by omega)
      have hm' : (7919 * a + 6151 * k + 1) * (7919 * a + 6151 * k + 1) % 65521 < 65521 := Nat.mod_lt _ (by decide)
      have hd := drw_l (z := a) (k := k)
      have lng : (((7919 : Int64) * (nI a).toInt64 + 6151 * (nI k).toInt64 + 1) * ((7919 : Int64) * (nI a).toInt64 + 6151 * (nI k).toInt64 + 1) - ((7919 : Int64) * (nI a).toInt64 + 6151 * (nI k).toInt64 + 1) * ((7919 : Int64) * (nI a).toInt64 + 6151 * (nI k).toInt64 + 1) / 65521 * 65521).toInt32 = nI ((7919 * a + 6151 * k + 1) * (7919 * a + 6151 * k + 1) % 65521) := by
        rw [nI_l (by omega), nI_l (by omega), show (7919 : Int64) = lN 7919 from rfl, show (6151 : Int64) = lN 6151 from rfl, show (65521 : Int64) = lN 65521 from rfl, lN_mul, lN_mul, lN_add, lN_1, lN_mul, lN_rem hb (by decide) (by decide), lN_i]
      have ed : nI ((7919 * a + 6151 * k + 1) * (7919 * a + 6151 * k + 1) % 65521) / nI 8 = nI (drw a k) := pk_div (by omega) (by decide) (by decide)
      have a1 : drw a k % τ 7 0 < τ 7 0 := Nat.mod_lt _ (by omega)
      have a2 : drw a k / 8 % τ 7 0 < τ 7 0 := Nat.mod_lt _ (by omega)
      have q1 : nI (drw a k) - nI (drw a k) / nI (τ 7 0) * nI (τ 7 0) = nI (drw a k % τ 7 0) := rem_nI (by omega) (by omega) (by omega)
      have q2 : nI (drw a k) / nI 8 = nI (drw a k / 8) := pk_div (by omega) (by decide) (by decide)
      have q3 : nI (drw a k / 8) - nI (drw a k / 8) / nI (τ 7 0) * nI (τ 7 0) = nI (drw a k / 8 % τ 7 0) := rem_nI (by omega) (by omega) (by omega)
      have hT2 := OKs_dgT (dr := drw a k) K n1 hk'
      have gT : (dgT τ (drw a k) (dgN τ a σ k)).2.2 < 2 ^ 30 := by unfold dgT; split <;> (show (dgN τ a σ k).2.2 < 2 ^ 30) <;> omega
      have nx := ih (k + 1)
      rw [dgN] at nx
      have last : ∀ a5 a6 a7 a8 a9, ExG 1 (Run 1 (d + 4)) 8 1 true none cX8_dogs Q 119 [vr 8 0, .inl (nI a), .inl (nI m), .inl w, .inl (nI k), a5, a6, a7, a8, a9] [] (wMs N (τ 7 0) (dgT τ (drw a k) (dgN τ a σ k))) := by
        intro a5 a6 a7 a8 a9
        simp only [eX8_dogs_0, eX8_dogs_1, eX8_dogs_2, eX8_dogs_5, eX8_dogs_8, eX8_dogs_11, eX8_dogs_12, eX8_dogs_13, eX8_dogs_15, eX8_dogs_18, eX8_dogs_21, eX8_dogs_22, eX8_dogs_23, eX8_dogs_24, eX8_dogs_27, eX8_dogs_30, eX8_dogs_31, eX8_dogs_32, eX8_dogs_33, eX8_dogs_36, eX8_dogs_37, eX8_dogs_41, eX8_dogs_42, eX8_dogs_45, eX8_dogs_48, eX8_dogs_49, eX8_dogs_50, eX8_dogs_51, eX8_dogs_54, eX8_dogs_56, eX8_dogs_57, eX8_dogs_58, eX8_dogs_59, eX8_dogs_60, eX8_dogs_61, eX8_dogs_63, eX8_dogs_65, eX8_dogs_67, eX8_dogs_68, eX8_dogs_71, eX8_dogs_72, eX8_dogs_73, eX8_dogs_75, eX8_dogs_76, eX8_dogs_78, eX8_dogs_80, eX8_dogs_81, eX8_dogs_84, eX8_dogs_85, eX8_dogs_86, eX8_dogs_87, eX8_dogs_89, eX8_dogs_91, eX8_dogs_93, eX8_dogs_94, eX8_dogs_95, eX8_dogs_98, eX8_dogs_99, eX8_dogs_100, eX8_dogs_101, eX8_dogs_103, eX8_dogs_105, eX8_dogs_107, eX8_dogs_110, eX8_dogs_111, eX8_dogs_113, eX8_dogs_115, eX8_dogs_118, eX8_dogs_119, eX8_dogs_120, eX8_dogs_123, eX8_dogs_126, eX8_dogs_129, eX8_dogs_130, eX8_dogs_132, eX8_dogs_133, eX8_dogs_137, eX8_dogs_138, eX8_dogs_141, eX8_dogs_142, eX8_dogs_143, eX8_dogs_146, eX8_dogs_147, eX8_dogs_149, eX8_dogs_152, eX8_dogs_155, eX8_dogs_156, eX8_dogs_159, eX8_dogs_161, eX8_dogs_162, eX8_dogs_164, eX8_dogs_167, eX8_dogs_168, eX8_dogs_171, eX8_dogs_173, eX8_dogs_174, eX8_dogs_177, eX8_dogs_179, eX8_dogs_181, eX8_dogs_184, eX8_dogs_187, eX8_dogs_188, eX8_dogs_191, eX8_dogs_192, eX8_dogs_195, eX8_dogs_198, eX8_dogs_200, eX8_dogs_202, eX8_dogs_203, eX8_dogs_206, eX8_dogs_208, c8_, c11_0, c11_1, c11_2, c11_3, c11_4, c11_5, c11_6, c11_7, c11_8, c11_9, alm_0, alm_1, alm_2, alm_3, alm_4, alm_5, alm_6, alm_7, alm_8, alm_9, vT, true_and, tX8_passes (MT_w TN) K n1 hT2 gT (MS_w hn), psh_u, wMs_w, nI_1]
        exact nx _ _ _ _ _ (by omega)
      rw [eX8_dogs_39]
      simp (disch := omega) only [eX8_dogs_0, eX8_dogs_1, eX8_dogs_2, eX8_dogs_5, eX8_dogs_8, eX8_dogs_11, eX8_dogs_12, eX8_dogs_13, eX8_dogs_15, eX8_dogs_18, eX8_dogs_21, eX8_dogs_22, eX8_dogs_23, eX8_dogs_24, eX8_dogs_27, eX8_dogs_30, eX8_dogs_31, eX8_dogs_32, eX8_dogs_33, eX8_dogs_36, eX8_dogs_37, eX8_dogs_41, eX8_dogs_42, eX8_dogs_45, eX8_dogs_48, eX8_dogs_49, eX8_dogs_50, eX8_dogs_51, eX8_dogs_54, eX8_dogs_56, eX8_dogs_57, eX8_dogs_58, eX8_dogs_59, eX8_dogs_60, eX8_dogs_61, eX8_dogs_63, eX8_dogs_65, eX8_dogs_67, eX8_dogs_68, eX8_dogs_71, eX8_dogs_72, eX8_dogs_73, eX8_dogs_75, eX8_dogs_76, eX8_dogs_78, eX8_dogs_80, eX8_dogs_81, eX8_dogs_84, eX8_dogs_85, eX8_dogs_86, eX8_dogs_87, eX8_dogs_89, eX8_dogs_91, eX8_dogs_93, eX8_dogs_94, eX8_dogs_95, eX8_dogs_98, eX8_dogs_99, eX8_dogs_100, eX8_dogs_101, eX8_dogs_103, eX8_dogs_105, eX8_dogs_107, eX8_dogs_110, eX8_dogs_111, eX8_dogs_113, eX8_dogs_115, eX8_dogs_118, eX8_dogs_120, eX8_dogs_123, eX8_dogs_126, eX8_dogs_129, eX8_dogs_130, eX8_dogs_132, eX8_dogs_133, eX8_dogs_137, eX8_dogs_138, eX8_dogs_141, eX8_dogs_142, eX8_dogs_143, eX8_dogs_146, eX8_dogs_147, eX8_dogs_149, eX8_dogs_152, eX8_dogs_155, eX8_dogs_156, eX8_dogs_159, eX8_dogs_161, eX8_dogs_162, eX8_dogs_164, eX8_dogs_167, eX8_dogs_168, eX8_dogs_171, eX8_dogs_173, eX8_dogs_174, eX8_dogs_177, eX8_dogs_179, eX8_dogs_181, eX8_dogs_184, eX8_dogs_187, eX8_dogs_188, eX8_dogs_191, eX8_dogs_192, eX8_dogs_195, eX8_dogs_198, eX8_dogs_200, eX8_dogs_202, eX8_dogs_203, eX8_dogs_206, eX8_dogs_208, c8_, c11_0, c11_1, c11_2, c11_3, c11_4, c11_5, c11_6, c11_7, c11_8, c11_9, alm_0, alm_1, alm_2, alm_3, alm_4, alm_5, alm_6, alm_7, alm_8, alm_9, vT, true_and, nI_leI, if_neg (show ¬ m ≤ k by omega), l65, not_false_iff, lng, eq_i8, ed, lit_0, nI_clamp, Tk.1, nI_eq, show ¬ τ 7 0 = 0 by omega, Nat.reduceEqDiff, q1, q2, q3]
      unfold dgT at last
      by_cases c : drw a k % τ 7 0 = drw a k / 8 % τ 7 0
      · rw [if_pos c] at last
        rw [if_pos c]
        exact last _ _ _ _ _
      · rw [if_neg c] at last
        rw [if_neg c]
        simp only [tX8_touches Tk K hk' a1 a2 c (MS_w hn), psh_i, eX8_dogs_0, eX8_dogs_1, eX8_dogs_2, eX8_dogs_5, eX8_dogs_8, eX8_dogs_11, eX8_dogs_12, eX8_dogs_13, eX8_dogs_15, eX8_dogs_18, eX8_dogs_21, eX8_dogs_22, eX8_dogs_23, eX8_dogs_24, eX8_dogs_27, eX8_dogs_30, eX8_dogs_31, eX8_dogs_32, eX8_dogs_33, eX8_dogs_36, eX8_dogs_37, eX8_dogs_41, eX8_dogs_42, eX8_dogs_45, eX8_dogs_48, eX8_dogs_49, eX8_dogs_50, eX8_dogs_51, eX8_dogs_54, eX8_dogs_56, eX8_dogs_57, eX8_dogs_58, eX8_dogs_59, eX8_dogs_60, eX8_dogs_61, eX8_dogs_63, eX8_dogs_65, eX8_dogs_67, eX8_dogs_68, eX8_dogs_71, eX8_dogs_72, eX8_dogs_73, eX8_dogs_75, eX8_dogs_76, eX8_dogs_78, eX8_dogs_80, eX8_dogs_81, eX8_dogs_84, eX8_dogs_85, eX8_dogs_86, eX8_dogs_87, eX8_dogs_89, eX8_dogs_91, eX8_dogs_93, eX8_dogs_94, eX8_dogs_95, eX8_dogs_98, eX8_dogs_99, eX8_dogs_100, eX8_dogs_101, eX8_dogs_103, eX8_dogs_105, eX8_dogs_107, eX8_dogs_110, eX8_dogs_111, eX8_dogs_113, eX8_dogs_115, eX8_dogs_118, eX8_dogs_120, eX8_dogs_123, eX8_dogs_126, eX8_dogs_129, eX8_dogs_130, eX8_dogs_132, eX8_dogs_133, eX8_dogs_137, eX8_dogs_138, eX8_dogs_141, eX8_dogs_142, eX8_dogs_143, eX8_dogs_146, eX8_dogs_147, eX8_dogs_149, eX8_dogs_152, eX8_dogs_155, eX8_dogs_156, eX8_dogs_159, eX8_dogs_161, eX8_dogs_162, eX8_dogs_164, eX8_dogs_167, eX8_dogs_168, eX8_dogs_171, eX8_dogs_173, eX8_dogs_174, eX8_dogs_177, eX8_dogs_179, eX8_dogs_181, eX8_dogs_184, eX8_dogs_187, eX8_dogs_188, eX8_dogs_191, eX8_dogs_192, eX8_dogs_195, eX8_dogs_198, eX8_dogs_200, eX8_dogs_202, eX8_dogs_203, eX8_dogs_206, eX8_dogs_208, wMs_w]
        exact last _ _ _ _ _
  have := go m 0 vu vu vu vu vu (by omega)
  have e0 : wMs N (τ 7 0) (dgN τ a σ 0) = N := wMs_id SN
  rw [e0] at this
  simp only [psh_u, eX8_dogs_0, eX8_dogs_1, eX8_dogs_2, eX8_dogs_5, eX8_dogs_8, eX8_dogs_11, eX8_dogs_12, eX8_dogs_13, eX8_dogs_15, eX8_dogs_18, eX8_dogs_21, eX8_dogs_22, eX8_dogs_23, eX8_dogs_24, eX8_dogs_27, eX8_dogs_30, eX8_dogs_31, eX8_dogs_32, eX8_dogs_33, eX8_dogs_36, eX8_dogs_37, eX8_dogs_41, eX8_dogs_42, eX8_dogs_45, eX8_dogs_48, eX8_dogs_49, eX8_dogs_50, eX8_dogs_51, eX8_dogs_54, eX8_dogs_56, eX8_dogs_57, eX8_dogs_58, eX8_dogs_59, eX8_dogs_60, eX8_dogs_61, eX8_dogs_63, eX8_dogs_65, eX8_dogs_67, eX8_dogs_68, eX8_dogs_71, eX8_dogs_72, eX8_dogs_73, eX8_dogs_75, eX8_dogs_76, eX8_dogs_78, eX8_dogs_80, eX8_dogs_81, eX8_dogs_84, eX8_dogs_85, eX8_dogs_86, eX8_dogs_87, eX8_dogs_89, eX8_dogs_91, eX8_dogs_93, eX8_dogs_94, eX8_dogs_95, eX8_dogs_98, eX8_dogs_99, eX8_dogs_100, eX8_dogs_101, eX8_dogs_103, eX8_dogs_105, eX8_dogs_107, eX8_dogs_110, eX8_dogs_111, eX8_dogs_113, eX8_dogs_115, eX8_dogs_118, eX8_dogs_119, eX8_dogs_120, eX8_dogs_123, eX8_dogs_126, eX8_dogs_129, eX8_dogs_130, eX8_dogs_132, eX8_dogs_133, eX8_dogs_137, eX8_dogs_138, eX8_dogs_141, eX8_dogs_142, eX8_dogs_143, eX8_dogs_146, eX8_dogs_147, eX8_dogs_149, eX8_dogs_152, eX8_dogs_155, eX8_dogs_156, eX8_dogs_159, eX8_dogs_161, eX8_dogs_162, eX8_dogs_164, eX8_dogs_167, eX8_dogs_168, eX8_dogs_171, eX8_dogs_173, eX8_dogs_174, eX8_dogs_177, eX8_dogs_179, eX8_dogs_181, eX8_dogs_184, eX8_dogs_187, eX8_dogs_188, eX8_dogs_191, eX8_dogs_192, eX8_dogs_195, eX8_dogs_198, eX8_dogs_200, eX8_dogs_202, eX8_dogs_203, eX8_dogs_206, eX8_dogs_208, lit_0]
  exact this
theorem cst_lt {c : Nat → Nat} {q : Nat × Nat} (ha : q.1 < 9) (hb : q.2 < 9) (h : ∀ j, j < 9 → c j < 512) : ∀ j, j < 9 → cst c q j < 512 := by
  intro j hj
  have := (nI_or (h q.1 ha) (h q.2 hb)).2
  unfold cst upN
  split
  · exact this
  · split
    · exact this
    · exact h j hj
theorem lk_ab {f : Nat → Nat} {a b : Nat} (hab : a ≠ b) : lkS (a, b) f = upN (upN f a (if ¬ f b = 0 ∧ (f a = 0 ∨ f b + 1 < f a) then f b + 1 else f a)) b (if ¬ f a = 0 ∧ (f b = 0 ∨ f a + 1 < f b) then f a + 1 else f b) := by
  funext j
  unfold lkS upN
  by_cases c1 : j = a
  · have c2 : ¬ j = b := fun q => hab (c1.symm.trans q)
    simp only [if_pos c1, if_neg c2]
  · simp only [if_neg c1]
theorem em_lt {k : Nat} (h : k < 2 ^ 30) : (em k < 0) = (k = 0) := by
  cases k with
  | zero => exact propext ⟨fun _ => rfl, fun _ => by decide⟩
  | succ k => exact propext ⟨fun q => absurd q (nI_pos (by omega)), fun q => absurd q (by omega)⟩
theorem LdP_s {N : bM} {f c : Nat → Nat} {a b : Nat} (h : LdP N f c) (hab : a ≠ b) {u va vb : Int32} (hu : u = nI (c a ||| c b)) (ha : va = em (if ¬ f b = 0 ∧ (f a = 0 ∨ f b + 1 < f a) then f b + 1 else f a)) (hb : vb = em (if ¬ f a = 0 ∧ (f b = 0 ∨ f a + 1 < f b) then f a + 1 else f b)) : LdP (sI (sI (sI (sI N 11 9 a u) 11 9 b u) 11 8 a va) 11 8 b vb) (lkS (a, b) f) (cst c (a, b)) := by
  subst hu ha hb
  refine ⟨fun j hj => ?_, fun j hj => ?_⟩
  · rw [lk_ab hab]
    unfold upN
    by_cases c1 : j = b
    · rw [gI_sI, if_pos ⟨rfl, rfl, c1⟩, if_pos c1]
    · rw [gI_sI, if_neg (fun q => c1 q.2.2), if_neg c1]
      by_cases c2 : j = a
      · rw [gI_sI, if_pos ⟨rfl, rfl, c2⟩, if_pos c2]
      · rw [gI_sI, if_neg (fun q => c2 q.2.2), if_neg c2, gI_sI, if_neg (by omega), gI_sI, if_neg (by omega)]
        exact h.1 j hj
  · rw [gI_sI, if_neg (by omega), gI_sI, if_neg (by omega)]
    unfold cst upN
    by_cases c1 : j = b
    · rw [gI_sI, if_pos ⟨rfl, rfl, c1⟩, if_pos c1]
    · rw [gI_sI, if_neg (fun q => c1 q.2.2), if_neg c1]
      by_cases c2 : j = a
      · rw [gI_sI, if_pos ⟨rfl, rfl, c2⟩, if_pos c2]
      · rw [gI_sI, if_neg (fun q => c2 q.2.2), if_neg c2]
        exact h.2 j hj
theorem em_s {k : Nat} (h : ¬ k = 0) : em k + 1 = nI k := by
  cases k with
  | zero => exact absurd rfl h
  | succ k => exact nI_1 k
theorem em_n (k : Nat) : em (k + 1) = nI k := rfl
theorem em_le {k m : Nat} (hm : ¬ m = 0) (hk : k < 2 ^ 30) (hm2 : m < 2 ^ 30) : (em m ≤ nI k) = (m ≤ k + 1) := by
  cases m with
  | zero => exact absurd rfl hm
  | succ m =>
    rw [em_n, nI_leI (by omega) (by omega)]
    exact propext ⟨fun q => by omega, fun q => by omega⟩
theorem tX8_leads {x h : Nat} (T : MT M 1 τ) (K : OKh τ) (hx : x < 9) (hh : h < 12) (hQ : ∀ N, Mx (fun a => a = 8 ∨ a = 9) (fun f => f = 99) M N → LdP N ((tmL τ (h + 1)).foldl lkQ (upN (fun _ => 0) x 1)) ((tmL τ (h + 1)).foldl cst (fun j => 2 ^ j)) → (∀ j, j < 9 → (tmL τ (h + 1)).foldl cst (fun j => 2 ^ j) j < 512) → (∀ j, (tmL τ (h + 1)).foldl lkQ (upN (fun _ => 0) x 1) j ≤ 1000) → Q vu N) : Run 1 (d + 1) 136 [vr 8 0, .inl (nI x), .inl (nI h)] M Q := by
  have ht := K.2.1
  have hn := K.1
  have e9 : (9 : Int32) = nI 9 := rfl
  rw [rX8_leads]
  simp only [eX8_leads_0, eX8_leads_1, eX8_leads_3, eX8_leads_5, eX8_leads_8, eX8_leads_9, eX8_leads_12, eX8_leads_13, eX8_leads_14, eX8_leads_15, eX8_leads_18, eX8_leads_19, eX8_leads_22, eX8_leads_23, eX8_leads_24, eX8_leads_25, eX8_leads_28, eX8_leads_29, eX8_leads_30, eX8_leads_31, eX8_leads_32, eX8_leads_33, eX8_leads_36, eX8_leads_39, eX8_leads_40, eX8_leads_42, eX8_leads_43, eX8_leads_46, eX8_leads_47, eX8_leads_51, eX8_leads_52, eX8_leads_55, eX8_leads_56, eX8_leads_57, eX8_leads_60, eX8_leads_61, eX8_leads_64, eX8_leads_66, eX8_leads_68, eX8_leads_69, eX8_leads_70, eX8_leads_71, eX8_leads_74, eX8_leads_75, eX8_leads_78, eX8_leads_80, eX8_leads_82, eX8_leads_83, eX8_leads_84, eX8_leads_86, eX8_leads_87, eX8_leads_90, eX8_leads_92, eX8_leads_94, eX8_leads_95, eX8_leads_96, eX8_leads_98, eX8_leads_99, eX8_leads_102, eX8_leads_104, eX8_leads_105, eX8_leads_106, eX8_leads_109, eX8_leads_111, eX8_leads_112, eX8_leads_113, eX8_leads_115, eX8_leads_116, eX8_leads_119, eX8_leads_121, eX8_leads_123, eX8_leads_124, eX8_leads_125, eX8_leads_128, eX8_leads_130, eX8_leads_132, eX8_leads_133, eX8_leads_134, eX8_leads_137, eX8_leads_139, eX8_leads_140, eX8_leads_142, eX8_leads_143, eX8_leads_146, eX8_leads_148, eX8_leads_149, eX8_leads_151, eX8_leads_152, eX8_leads_155, eX8_leads_157, eX8_leads_159, eX8_leads_162, eX8_leads_164, eX8_leads_167, eX8_leads_169, eX8_leads_170, eX8_leads_171, eX8_leads_173, eX8_leads_176, eX8_leads_178, eX8_leads_179, eX8_leads_180, eX8_leads_183, eX8_leads_185, eX8_leads_186, eX8_leads_187, eX8_leads_190, eX8_leads_192, eX8_leads_194, eX8_leads_197, eX8_leads_199, eX8_leads_202, eX8_leads_204, eX8_leads_205, eX8_leads_206, eX8_leads_208, eX8_leads_211, eX8_leads_213, eX8_leads_214, eX8_leads_215, eX8_leads_218, eX8_leads_220, eX8_leads_221, eX8_leads_224, eX8_leads_227, eX8_leads_230, eX8_leads_233, lit_0]
  have out : ∀ m k N a4 a5 a6 a7 a8 a9, k + m = h + 1 → Mx (fun a => a = 8 ∨ a = 9) (fun f => f = 99) M N → LdP N ((tmL τ k).foldl lkQ (upN (fun _ => 0) x 1)) ((tmL τ k).foldl cst (fun j => 2 ^ j)) → (∀ j, j < 9 → (tmL τ k).foldl cst (fun j => 2 ^ j) j < 512) → (∀ j, (tmL τ k).foldl lkQ (upN (fun _ => 0) x 1) j ≤ 10 * k + 1) → ExG 1 (Run 1 d) 8 0 false none cX8_leads Q 41 [vr 8 0, .inl (nI x), .inl (nI h), .inl (nI k), a4, a5, a6, a7, a8, a9] [] N := by
    intro m
    induction m with
    | zero =>
      intro k N a4 a5 a6 a7 a8 a9 ek X Ld B1 B2
      have ek' : k = h + 1 := ek
      subst ek'
      rw [eX8_leads_41]
      simp (disch := omega) only [eX8_leads_0, eX8_leads_1, eX8_leads_3, eX8_leads_5, eX8_leads_8, eX8_leads_9, eX8_leads_12, eX8_leads_13, eX8_leads_14, eX8_leads_15, eX8_leads_18, eX8_leads_19, eX8_leads_22, eX8_leads_23, eX8_leads_24, eX8_leads_25, eX8_leads_28, eX8_leads_29, eX8_leads_30, eX8_leads_31, eX8_leads_32, eX8_leads_33, eX8_leads_36, eX8_leads_39, eX8_leads_40, eX8_leads_42, eX8_leads_43, eX8_leads_46, eX8_leads_47, eX8_leads_51, eX8_leads_52, eX8_leads_55, eX8_leads_56, eX8_leads_57, eX8_leads_60, eX8_leads_61, eX8_leads_64, eX8_leads_66, eX8_leads_68, eX8_leads_69, eX8_leads_70, eX8_leads_71, eX8_leads_74, eX8_leads_75, eX8_leads_78, eX8_leads_80, eX8_leads_82, eX8_leads_83, eX8_leads_84, eX8_leads_86, eX8_leads_87, eX8_leads_90, eX8_leads_92, eX8_leads_94, eX8_leads_95, eX8_leads_96, eX8_leads_98, eX8_leads_99, eX8_leads_102, eX8_leads_104, eX8_leads_105, eX8_leads_106, eX8_leads_109, eX8_leads_111, eX8_leads_112, eX8_leads_113, eX8_leads_115, eX8_leads_116, eX8_leads_119, eX8_leads_121, eX8_leads_123, eX8_leads_124, eX8_leads_125, eX8_leads_128, eX8_leads_130, eX8_leads_132, eX8_leads_133, eX8_leads_134, eX8_leads_137, eX8_leads_139, eX8_leads_140, eX8_leads_142, eX8_leads_143, eX8_leads_146, eX8_leads_148, eX8_leads_149, eX8_leads_151, eX8_leads_152, eX8_leads_155, eX8_leads_157, eX8_leads_159, eX8_leads_162, eX8_leads_164, eX8_leads_167, eX8_leads_169, eX8_leads_170, eX8_leads_171, eX8_leads_173, eX8_leads_176, eX8_leads_178, eX8_leads_179, eX8_leads_180, eX8_leads_183, eX8_leads_185, eX8_leads_186, eX8_leads_187, eX8_leads_190, eX8_leads_192, eX8_leads_194, eX8_leads_197, eX8_leads_199, eX8_leads_202, eX8_leads_204, eX8_leads_205, eX8_leads_206, eX8_leads_208, eX8_leads_211, eX8_leads_213, eX8_leads_214, eX8_leads_215, eX8_leads_218, eX8_leads_220, eX8_leads_221, eX8_leads_224, eX8_leads_227, eX8_leads_230, eX8_leads_233, nI_ltI, if_pos (show h < h + 1 by omega)]
      exact hQ N X Ld B1 (fun j => by have := B2 j; omega)
    | succ m ih =>
      intro k N a4 a5 a6 a7 a8 a9 ek X Ld B1 B2
      have nx := ih (k + 1)
      rw [tmL] at nx
      simp only [List.foldl_append] at nx
      generalize (tmL τ k).foldl lkQ (upN (fun _ => 0) x 1) = f at Ld B2 nx
      generalize (tmL τ k).foldl cst (fun j => 2 ^ j) = c at Ld B1 nx
      have inn : ∀ r t N a5 a6 a7 a8 a9, t + r = τ 8 0 → Mx (fun a => a = 8 ∨ a = 9) (fun f => f = 99) M N → LdP N ((thL τ k t).foldl lkQ f) ((thL τ k t).foldl cst c) → (∀ j, j < 9 → (thL τ k t).foldl cst c j < 512) → (∀ j, (thL τ k t).foldl lkQ f j ≤ 10 * k + t + 1) → ExG 1 (Run 1 d) 8 0 false none cX8_leads Q 49 [vr 8 0, .inl (nI x), .inl (nI h), .inl (nI k), .inl (nI t), a5, a6, a7, a8, a9] [] N := by
        intro r
        induction r with
        | zero =>
          intro t N a5 a6 a7 a8 a9 et X Ld B1 B2
          have et' : t = τ 8 0 := et
          subst et'
          have TN := MT_x X (by omega) T
          rw [eX8_leads_49]
          simp (disch := omega) only [eX8_leads_51, eX8_leads_52, eX8_leads_55, eX8_leads_56, c8_, c11_0, c11_1, c11_2, c11_3, c11_4, c11_5, c11_6, c11_7, c11_8, c11_9, alm_0, alm_1, alm_2, alm_3, alm_4, alm_5, alm_6, alm_7, alm_8, alm_9, vT, true_and, lit_1, nI_clamp, TN.2.1, nI_leI]
          simp (disch := omega) only [eX8_leads_57, nI_leI, Nat.le_refl, if_true]
          simp only [eX8_leads_227, eX8_leads_230, nI_1]
          exact nx N _ _ _ _ _ _ (by omega) X Ld B1 (fun j => by have := B2 j; omega)
        | succ r ihr =>
          intro t N a5 a6 a7 a8 a9 et X Ld B1 B2
          have TN := MT_x X (by omega) T
          obtain ⟨w1, w2, w3, w4⟩ := K.2.2.2.2.2.2.1 t (by omega)
          obtain ⟨u1, u2, u3⟩ := TN.2.2.2.2.2.2.1 t (by omega)
          have nt := ihr (t + 1)
          rw [thL] at nt
          rw [eX8_leads_49]
          by_cases cc : τ 2 t = k
          · simp only [if_pos cc, List.foldl_append, List.foldl_cons, List.foldl_nil] at nt
            generalize (thL τ k t).foldl lkQ f = f' at Ld B2 nt
            generalize (thL τ k t).foldl cst c = c' at Ld B1 nt
            have b1 := B2 (τ 3 t)
            have b2 := B2 (τ 4 t)
            obtain ⟨o1, o2⟩ := nI_or (B1 (τ 3 t) (by omega)) (B1 (τ 4 t) (by omega))
            have lkb : ∀ j, lkQ f' (τ 3 t, τ 4 t) j ≤ 10 * k + (t + 1) + 1 := fun j => by have := lkS_le (q := (τ 3 t, τ 4 t)) B2 j; exact this
            have step : ∀ va vb, va = em (if ¬ f' (τ 4 t) = 0 ∧ (f' (τ 3 t) = 0 ∨ f' (τ 4 t) + 1 < f' (τ 3 t)) then f' (τ 4 t) + 1 else f' (τ 3 t)) → vb = em (if ¬ f' (τ 3 t) = 0 ∧ (f' (τ 4 t) = 0 ∨ f' (τ 3 t) + 1 < f' (τ 4 t)) then f' (τ 3 t) + 1 else f' (τ 4 t)) → ∀ a5 a6 a7 a8 a9, ExG 1 (Run 1 d) 8 0 false none cX8_leads Q 49 [vr 8 0, .inl (nI x), .inl (nI h), .inl (nI k), .inl (nI (t + 1)), a5, a6, a7, a8, a9] [] (sI (sI (sI (sI N 11 9 (τ 3 t) (nI (c' (τ 3 t) ||| c' (τ 4 t)))) 11 9 (τ 4 t) (nI (c' (τ 3 t) ||| c' (τ 4 t)))) 11 8 (τ 3 t) va) 11 8 (τ 4 t) vb) := by
              intro va vb hva hvb a5 a6 a7 a8 a9
              refine nt _ _ _ _ _ _ (by omega) (Mx_tr X (Mx_tr (Mx_tr (Mx_tr (Mx_a (Or.inr rfl)) (Mx_a (Or.inr rfl))) (Mx_a (Or.inl rfl))) (Mx_a (Or.inl rfl)))) (LdP_s Ld w4 rfl hva hvb) (cst_lt (q := (τ 3 t, τ 4 t)) (by show τ 3 t < 9; omega) (by show τ 4 t < 9; omega) B1) lkb
            have g8 : ∀ {v1 v2 : Int32} {j : Nat}, j < 9 → gI (sI (sI N 11 9 (τ 3 t) v1) 11 9 (τ 4 t) v2) 11 8 j = em (f' j) := fun hj => by rw [gI_sI, if_neg (by omega), gI_sI, if_neg (by omega)]; exact Ld.1 _ hj
            have hla : f' (τ 3 t) < 2 ^ 30 := by omega
            have hlb : f' (τ 4 t) < 2 ^ 30 := by omega
            have A : ∀ (N : bM) a7, ExG 1 (Run 1 d) 8 0 false none cX8_leads Q 159 [vr 8 0, .inl (nI x), .inl (nI h), .inl (nI k), .inl (nI t), .inl (nI (τ 3 t)), .inl (nI (τ 4 t)), a7, .inl (em (f' (τ 3 t))), .inl (em (f' (τ 4 t)))] [.inl (em (f' (τ 4 t))), .inl (nI (τ 3 t)), vr 11 8] N = ExG 1 (Run 1 d) 8 0 false none cX8_leads Q 186 [vr 8 0, .inl (nI x), .inl (nI h), .inl (nI k), .inl (nI t), .inl (nI (τ 3 t)), .inl (nI (τ 4 t)), a7, .inl (em (f' (τ 3 t))), .inl (em (f' (τ 4 t)))] [] (sI N 11 8 (τ 3 t) (em (if ¬ f' (τ 4 t) = 0 ∧ (f' (τ 3 t) = 0 ∨ f' (τ 4 t) + 1 < f' (τ 3 t)) then f' (τ 4 t) + 1 else f' (τ 3 t)))) := by
              intro N a7
              rw [eX8_leads_159]
              simp only [em_lt hlb]
              by_cases z1 : f' (τ 4 t) = 0
              · rw [if_pos z1, if_neg (fun q => q.1 z1)]
                simp (disch := omega) only [eX8_leads_183, eX8_leads_185, c8_, c11_0, c11_1, c11_2, c11_3, c11_4, c11_5, c11_6, c11_7, c11_8, c11_9, alm_0, alm_1, alm_2, alm_3, alm_4, alm_5, alm_6, alm_7, alm_8, alm_9, vT, true_and, nI_clamp]
              · rw [if_neg z1, eX8_leads_162, eX8_leads_164]
                simp only [em_lt hla]
                by_cases z2 : f' (τ 3 t) = 0
                · rw [if_pos z2, if_pos ⟨z1, Or.inl z2⟩]
                  simp (disch := omega) only [eX8_leads_176, eX8_leads_178, eX8_leads_179, eX8_leads_180, eX8_leads_185, c8_, c11_0, c11_1, c11_2, c11_3, c11_4, c11_5, c11_6, c11_7, c11_8, c11_9, alm_0, alm_1, alm_2, alm_3, alm_4, alm_5, alm_6, alm_7, alm_8, alm_9, vT, true_and, nI_clamp, em_s z1, em_n]
                · rw [if_neg z2, eX8_leads_167, eX8_leads_169, eX8_leads_170, eX8_leads_171, eX8_leads_173, em_s z1]
                  simp only [em_le z2 hlb hla]
                  by_cases z3 : f' (τ 3 t) ≤ f' (τ 4 t) + 1
                  · rw [if_pos z3, if_neg (by omega)]
                    simp (disch := omega) only [eX8_leads_183, eX8_leads_185, c8_, c11_0, c11_1, c11_2, c11_3, c11_4, c11_5, c11_6, c11_7, c11_8, c11_9, alm_0, alm_1, alm_2, alm_3, alm_4, alm_5, alm_6, alm_7, alm_8, alm_9, vT, true_and, nI_clamp]
                  · rw [if_neg z3, if_pos ⟨z1, Or.inr (by omega)⟩]
                    simp (disch := omega) only [eX8_leads_176, eX8_leads_178, eX8_leads_179, eX8_leads_180, eX8_leads_185, c8_, c11_0, c11_1, c11_2, c11_3, c11_4, c11_5, c11_6, c11_7, c11_8, c11_9, alm_0, alm_1, alm_2, alm_3, alm_4, alm_5, alm_6, alm_7, alm_8, alm_9, vT, true_and, nI_clamp, em_s z1, em_n]
            have B : ∀ (N : bM) a7, ExG 1 (Run 1 d) 8 0 false none cX8_leads Q 194 [vr 8 0, .inl (nI x), .inl (nI h), .inl (nI k), .inl (nI t), .inl (nI (τ 3 t)), .inl (nI (τ 4 t)), a7, .inl (em (f' (τ 3 t))), .inl (em (f' (τ 4 t)))] [.inl (em (f' (τ 3 t))), .inl (nI (τ 4 t)), vr 11 8] N = ExG 1 (Run 1 d) 8 0 false none cX8_leads Q 221 [vr 8 0, .inl (nI x), .inl (nI h), .inl (nI k), .inl (nI t), .inl (nI (τ 3 t)), .inl (nI (τ 4 t)), a7, .inl (em (f' (τ 3 t))), .inl (em (f' (τ 4 t)))] [] (sI N 11 8 (τ 4 t) (em (if ¬ f' (τ 3 t) = 0 ∧ (f' (τ 4 t) = 0 ∨ f' (τ 3 t) + 1 < f' (τ 4 t)) then f' (τ 3 t) + 1 else f' (τ 4 t)))) := by
              intro N a7
              rw [eX8_leads_194]
              simp only [em_lt hla]
              by_cases z1 : f' (τ 3 t) = 0
              · rw [if_pos z1, if_neg (fun q => q.1 z1)]
                simp (disch := omega) only [eX8_leads_218, eX8_leads_220, c8_, c11_0, c11_1, c11_2, c11_3, c11_4, c11_5, c11_6, c11_7, c11_8, c11_9, alm_0, alm_1, alm_2, alm_3, alm_4, alm_5, alm_6, alm_7, alm_8, alm_9, vT, true_and, nI_clamp]
              · rw [if_neg z1, eX8_leads_197, eX8_leads_199]
                simp only [em_lt hlb]
                by_cases z2 : f' (τ 4 t) = 0
                · rw [if_pos z2, if_pos ⟨z1, Or.inl z2⟩]
                  simp (disch := omega) only [eX8_leads_211, eX8_leads_213, eX8_leads_214, eX8_leads_215, eX8_leads_220, c8_, c11_0, c11_1, c11_2, c11_3, c11_4, c11_5, c11_6, c11_7, c11_8, c11_9, alm_0, alm_1, alm_2, alm_3, alm_4, alm_5, alm_6, alm_7, alm_8, alm_9, vT, true_and, nI_clamp, em_s z1, em_n]
                · rw [if_neg z2, eX8_leads_202, eX8_leads_204, eX8_leads_205, eX8_leads_206, eX8_leads_208, em_s z1]
                  simp only [em_le z2 hla hlb]
                  by_cases z3 : f' (τ 4 t) ≤ f' (τ 3 t) + 1
                  · rw [if_pos z3, if_neg (by omega)]
                    simp (disch := omega) only [eX8_leads_218, eX8_leads_220, c8_, c11_0, c11_1, c11_2, c11_3, c11_4, c11_5, c11_6, c11_7, c11_8, c11_9, alm_0, alm_1, alm_2, alm_3, alm_4, alm_5, alm_6, alm_7, alm_8, alm_9, vT, true_and, nI_clamp]
                  · rw [if_neg z3, if_pos ⟨z1, Or.inr (by omega)⟩]
                    simp (disch := omega) only [eX8_leads_211, eX8_leads_213, eX8_leads_214, eX8_leads_215, eX8_leads_220, c8_, c11_0, c11_1, c11_2, c11_3, c11_4, c11_5, c11_6, c11_7, c11_8, c11_9, alm_0, alm_1, alm_2, alm_3, alm_4, alm_5, alm_6, alm_7, alm_8, alm_9, vT, true_and, nI_clamp, em_s z1, em_n]
            simp (disch := omega) only [eX8_leads_51, eX8_leads_52, eX8_leads_55, eX8_leads_56, c8_, c11_0, c11_1, c11_2, c11_3, c11_4, c11_5, c11_6, c11_7, c11_8, c11_9, alm_0, alm_1, alm_2, alm_3, alm_4, alm_5, alm_6, alm_7, alm_8, alm_9, vT, true_and, lit_1, nI_clamp, TN.2.1, nI_leI]
            simp (disch := omega) only [eX8_leads_57, nI_leI, if_neg (show ¬ τ 8 0 ≤ t by omega)]
            simp (disch := omega) only [eX8_leads_0, eX8_leads_1, eX8_leads_3, eX8_leads_5, eX8_leads_8, eX8_leads_9, eX8_leads_12, eX8_leads_13, eX8_leads_14, eX8_leads_15, eX8_leads_18, eX8_leads_19, eX8_leads_22, eX8_leads_23, eX8_leads_24, eX8_leads_25, eX8_leads_28, eX8_leads_29, eX8_leads_30, eX8_leads_31, eX8_leads_32, eX8_leads_33, eX8_leads_36, eX8_leads_39, eX8_leads_40, eX8_leads_42, eX8_leads_43, eX8_leads_46, eX8_leads_47, eX8_leads_51, eX8_leads_52, eX8_leads_55, eX8_leads_56, eX8_leads_57, eX8_leads_60, eX8_leads_61, eX8_leads_64, eX8_leads_66, eX8_leads_68, eX8_leads_69, eX8_leads_70, eX8_leads_74, eX8_leads_75, eX8_leads_78, eX8_leads_80, eX8_leads_82, eX8_leads_83, eX8_leads_84, eX8_leads_86, eX8_leads_87, eX8_leads_90, eX8_leads_92, eX8_leads_94, eX8_leads_95, eX8_leads_96, eX8_leads_98, eX8_leads_99, eX8_leads_102, eX8_leads_104, eX8_leads_105, eX8_leads_106, eX8_leads_109, eX8_leads_111, eX8_leads_112, eX8_leads_113, eX8_leads_115, eX8_leads_116, eX8_leads_119, eX8_leads_121, eX8_leads_123, eX8_leads_124, eX8_leads_125, eX8_leads_128, eX8_leads_130, eX8_leads_132, eX8_leads_133, eX8_leads_134, eX8_leads_137, eX8_leads_139, eX8_leads_140, eX8_leads_142, eX8_leads_143, eX8_leads_146, eX8_leads_148, eX8_leads_149, eX8_leads_151, eX8_leads_152, eX8_leads_155, eX8_leads_157, eX8_leads_162, eX8_leads_167, eX8_leads_169, eX8_leads_170, eX8_leads_171, eX8_leads_176, eX8_leads_178, eX8_leads_179, eX8_leads_180, eX8_leads_183, eX8_leads_185, eX8_leads_186, eX8_leads_187, eX8_leads_190, eX8_leads_192, eX8_leads_197, eX8_leads_202, eX8_leads_204, eX8_leads_205, eX8_leads_206, eX8_leads_211, eX8_leads_213, eX8_leads_214, eX8_leads_215, eX8_leads_218, eX8_leads_220, eX8_leads_224, eX8_leads_227, eX8_leads_230, eX8_leads_233, c8_, c11_0, c11_1, c11_2, c11_3, c11_4, c11_5, c11_6, c11_7, c11_8, c11_9, alm_0, alm_1, alm_2, alm_3, alm_4, alm_5, alm_6, alm_7, alm_8, alm_9, vT, true_and, lit_22, nI_add, nI_clamp, u1]
            rw [eX8_leads_71, cc, if_pos rfl]
            simp (disch := omega) only [eX8_leads_0, eX8_leads_1, eX8_leads_3, eX8_leads_5, eX8_leads_8, eX8_leads_9, eX8_leads_12, eX8_leads_13, eX8_leads_14, eX8_leads_15, eX8_leads_18, eX8_leads_19, eX8_leads_22, eX8_leads_23, eX8_leads_24, eX8_leads_25, eX8_leads_28, eX8_leads_29, eX8_leads_30, eX8_leads_31, eX8_leads_32, eX8_leads_33, eX8_leads_36, eX8_leads_39, eX8_leads_40, eX8_leads_42, eX8_leads_43, eX8_leads_46, eX8_leads_47, eX8_leads_51, eX8_leads_52, eX8_leads_55, eX8_leads_56, eX8_leads_57, eX8_leads_60, eX8_leads_61, eX8_leads_64, eX8_leads_66, eX8_leads_68, eX8_leads_69, eX8_leads_70, eX8_leads_74, eX8_leads_75, eX8_leads_78, eX8_leads_80, eX8_leads_82, eX8_leads_83, eX8_leads_84, eX8_leads_86, eX8_leads_87, eX8_leads_90, eX8_leads_92, eX8_leads_94, eX8_leads_95, eX8_leads_96, eX8_leads_98, eX8_leads_99, eX8_leads_102, eX8_leads_104, eX8_leads_105, eX8_leads_106, eX8_leads_109, eX8_leads_111, eX8_leads_112, eX8_leads_113, eX8_leads_115, eX8_leads_116, eX8_leads_119, eX8_leads_121, eX8_leads_123, eX8_leads_124, eX8_leads_125, eX8_leads_128, eX8_leads_130, eX8_leads_132, eX8_leads_133, eX8_leads_134, eX8_leads_137, eX8_leads_139, eX8_leads_140, eX8_leads_142, eX8_leads_143, eX8_leads_146, eX8_leads_148, eX8_leads_149, eX8_leads_151, eX8_leads_152, eX8_leads_155, eX8_leads_157, eX8_leads_162, eX8_leads_167, eX8_leads_169, eX8_leads_170, eX8_leads_171, eX8_leads_176, eX8_leads_178, eX8_leads_179, eX8_leads_180, eX8_leads_183, eX8_leads_185, eX8_leads_186, eX8_leads_187, eX8_leads_190, eX8_leads_192, eX8_leads_197, eX8_leads_202, eX8_leads_204, eX8_leads_205, eX8_leads_206, eX8_leads_211, eX8_leads_213, eX8_leads_214, eX8_leads_215, eX8_leads_218, eX8_leads_220, eX8_leads_224, eX8_leads_227, eX8_leads_230, eX8_leads_233, c8_, c11_0, c11_1, c11_2, c11_3, c11_4, c11_5, c11_6, c11_7, c11_8, c11_9, alm_0, alm_1, alm_2, alm_3, alm_4, alm_5, alm_6, alm_7, alm_8, alm_9, vT, true_and, lit_32, lit_42, nI_add, nI_clamp, u2, u3, Ld.2 (τ 3 t) (show τ 3 t < 9 by omega), Ld.2 (τ 4 t) (show τ 4 t < 9 by omega), o1, g8]
            rw [A]
            simp (disch := omega) only [eX8_leads_0, eX8_leads_1, eX8_leads_3, eX8_leads_5, eX8_leads_8, eX8_leads_9, eX8_leads_12, eX8_leads_13, eX8_leads_14, eX8_leads_15, eX8_leads_18, eX8_leads_19, eX8_leads_22, eX8_leads_23, eX8_leads_24, eX8_leads_25, eX8_leads_28, eX8_leads_29, eX8_leads_30, eX8_leads_31, eX8_leads_32, eX8_leads_33, eX8_leads_36, eX8_leads_39, eX8_leads_40, eX8_leads_42, eX8_leads_43, eX8_leads_46, eX8_leads_47, eX8_leads_51, eX8_leads_52, eX8_leads_55, eX8_leads_56, eX8_leads_57, eX8_leads_60, eX8_leads_61, eX8_leads_64, eX8_leads_66, eX8_leads_68, eX8_leads_69, eX8_leads_70, eX8_leads_74, eX8_leads_75, eX8_leads_78, eX8_leads_80, eX8_leads_82, eX8_leads_83, eX8_leads_84, eX8_leads_86, eX8_leads_87, eX8_leads_90, eX8_leads_92, eX8_leads_94, eX8_leads_95, eX8_leads_96, eX8_leads_98, eX8_leads_99, eX8_leads_102, eX8_leads_104, eX8_leads_105, eX8_leads_106, eX8_leads_109, eX8_leads_111, eX8_leads_112, eX8_leads_113, eX8_leads_115, eX8_leads_116, eX8_leads_119, eX8_leads_121, eX8_leads_123, eX8_leads_124, eX8_leads_125, eX8_leads_128, eX8_leads_130, eX8_leads_132, eX8_leads_133, eX8_leads_134, eX8_leads_137, eX8_leads_139, eX8_leads_140, eX8_leads_142, eX8_leads_143, eX8_leads_146, eX8_leads_148, eX8_leads_149, eX8_leads_151, eX8_leads_152, eX8_leads_155, eX8_leads_157, eX8_leads_162, eX8_leads_167, eX8_leads_169, eX8_leads_170, eX8_leads_171, eX8_leads_176, eX8_leads_178, eX8_leads_179, eX8_leads_180, eX8_leads_183, eX8_leads_185, eX8_leads_186, eX8_leads_187, eX8_leads_190, eX8_leads_192, eX8_leads_197, eX8_leads_202, eX8_leads_204, eX8_leads_205, eX8_leads_206, eX8_leads_211, eX8_leads_213, eX8_leads_214, eX8_leads_215, eX8_leads_218, eX8_leads_220, eX8_leads_224, eX8_leads_227, eX8_leads_230, eX8_leads_233, c8_, c11_0, c11_1, c11_2, c11_3, c11_4, c11_5, c11_6, c11_7, c11_8, c11_9, alm_0, alm_1, alm_2, alm_3, alm_4, alm_5, alm_6, alm_7, alm_8, alm_9, vT, true_and, nI_clamp]
            rw [B]
            simp only [eX8_leads_221, eX8_leads_224, nI_1]
            exact step _ _ rfl rfl _ _ _ _ _
          · simp only [if_neg cc, List.append_nil] at nt
            simp (disch := omega) only [eX8_leads_0, eX8_leads_1, eX8_leads_3, eX8_leads_5, eX8_leads_8, eX8_leads_9, eX8_leads_12, eX8_leads_13, eX8_leads_14, eX8_leads_15, eX8_leads_18, eX8_leads_19, eX8_leads_22, eX8_leads_23, eX8_leads_24, eX8_leads_25, eX8_leads_28, eX8_leads_29, eX8_leads_30, eX8_leads_31, eX8_leads_32, eX8_leads_33, eX8_leads_36, eX8_leads_39, eX8_leads_40, eX8_leads_42, eX8_leads_43, eX8_leads_46, eX8_leads_47, eX8_leads_51, eX8_leads_52, eX8_leads_55, eX8_leads_56, eX8_leads_57, eX8_leads_60, eX8_leads_61, eX8_leads_64, eX8_leads_66, eX8_leads_68, eX8_leads_69, eX8_leads_70, eX8_leads_71, eX8_leads_74, eX8_leads_75, eX8_leads_78, eX8_leads_80, eX8_leads_82, eX8_leads_83, eX8_leads_84, eX8_leads_86, eX8_leads_87, eX8_leads_90, eX8_leads_92, eX8_leads_94, eX8_leads_95, eX8_leads_96, eX8_leads_98, eX8_leads_99, eX8_leads_102, eX8_leads_104, eX8_leads_105, eX8_leads_106, eX8_leads_109, eX8_leads_111, eX8_leads_112, eX8_leads_113, eX8_leads_115, eX8_leads_116, eX8_leads_119, eX8_leads_121, eX8_leads_123, eX8_leads_124, eX8_leads_125, eX8_leads_128, eX8_leads_130, eX8_leads_132, eX8_leads_133, eX8_leads_134, eX8_leads_137, eX8_leads_139, eX8_leads_140, eX8_leads_142, eX8_leads_143, eX8_leads_146, eX8_leads_148, eX8_leads_149, eX8_leads_151, eX8_leads_152, eX8_leads_155, eX8_leads_157, eX8_leads_159, eX8_leads_162, eX8_leads_164, eX8_leads_167, eX8_leads_169, eX8_leads_170, eX8_leads_171, eX8_leads_173, eX8_leads_176, eX8_leads_178, eX8_leads_179, eX8_leads_180, eX8_leads_183, eX8_leads_185, eX8_leads_186, eX8_leads_187, eX8_leads_190, eX8_leads_192, eX8_leads_194, eX8_leads_197, eX8_leads_199, eX8_leads_202, eX8_leads_204, eX8_leads_205, eX8_leads_206, eX8_leads_208, eX8_leads_211, eX8_leads_213, eX8_leads_214, eX8_leads_215, eX8_leads_218, eX8_leads_220, eX8_leads_221, eX8_leads_224, eX8_leads_227, eX8_leads_230, eX8_leads_233, c8_, c11_0, c11_1, c11_2, c11_3, c11_4, c11_5, c11_6, c11_7, c11_8, c11_9, alm_0, alm_1, alm_2, alm_3, alm_4, alm_5, alm_6, alm_7, alm_8, alm_9, vT, true_and, lit_1, nI_clamp, TN.2.1, nI_leI, if_neg (show ¬ τ 8 0 ≤ t by omega), lit_22, nI_add, u1, nI_eq, if_neg cc]
            exact nt N _ _ _ _ _ (by omega) X Ld B1 (fun j => by have := B2 j; omega)
      rw [eX8_leads_41]
      simp (disch := omega) only [eX8_leads_0, eX8_leads_1, eX8_leads_3, eX8_leads_5, eX8_leads_8, eX8_leads_9, eX8_leads_12, eX8_leads_13, eX8_leads_14, eX8_leads_15, eX8_leads_18, eX8_leads_19, eX8_leads_22, eX8_leads_23, eX8_leads_24, eX8_leads_25, eX8_leads_28, eX8_leads_29, eX8_leads_30, eX8_leads_31, eX8_leads_32, eX8_leads_33, eX8_leads_36, eX8_leads_39, eX8_leads_40, eX8_leads_42, eX8_leads_43, eX8_leads_46, eX8_leads_47, eX8_leads_51, eX8_leads_52, eX8_leads_55, eX8_leads_56, eX8_leads_57, eX8_leads_60, eX8_leads_61, eX8_leads_64, eX8_leads_66, eX8_leads_68, eX8_leads_69, eX8_leads_70, eX8_leads_71, eX8_leads_74, eX8_leads_75, eX8_leads_78, eX8_leads_80, eX8_leads_82, eX8_leads_83, eX8_leads_84, eX8_leads_86, eX8_leads_87, eX8_leads_90, eX8_leads_92, eX8_leads_94, eX8_leads_95, eX8_leads_96, eX8_leads_98, eX8_leads_99, eX8_leads_102, eX8_leads_104, eX8_leads_105, eX8_leads_106, eX8_leads_109, eX8_leads_111, eX8_leads_112, eX8_leads_113, eX8_leads_115, eX8_leads_116, eX8_leads_119, eX8_leads_121, eX8_leads_123, eX8_leads_124, eX8_leads_125, eX8_leads_128, eX8_leads_130, eX8_leads_132, eX8_leads_133, eX8_leads_134, eX8_leads_137, eX8_leads_139, eX8_leads_140, eX8_leads_142, eX8_leads_143, eX8_leads_146, eX8_leads_148, eX8_leads_149, eX8_leads_151, eX8_leads_152, eX8_leads_155, eX8_leads_157, eX8_leads_159, eX8_leads_162, eX8_leads_164, eX8_leads_167, eX8_leads_169, eX8_leads_170, eX8_leads_171, eX8_leads_173, eX8_leads_176, eX8_leads_178, eX8_leads_179, eX8_leads_180, eX8_leads_183, eX8_leads_185, eX8_leads_186, eX8_leads_187, eX8_leads_190, eX8_leads_192, eX8_leads_194, eX8_leads_197, eX8_leads_199, eX8_leads_202, eX8_leads_204, eX8_leads_205, eX8_leads_206, eX8_leads_208, eX8_leads_211, eX8_leads_213, eX8_leads_214, eX8_leads_215, eX8_leads_218, eX8_leads_220, eX8_leads_221, eX8_leads_224, eX8_leads_227, eX8_leads_230, eX8_leads_233, nI_ltI, if_neg (show ¬ h < k by omega), lit_0]
      exact inn (τ 8 0) 0 N _ _ _ _ _ (by omega) X Ld B1 B2
  have ini : ∀ r i N, i + r = 9 → Mx (fun a => a = 8 ∨ a = 9) (fun f => f = 99) M N → (∀ j, j < i → gI N 11 8 j = em (upN (fun _ => 0) x 1 j)) → (∀ j, j < i → gI N 11 9 j = nI (2 ^ j)) → ExG 1 (Run 1 d) 8 0 false none cX8_leads Q 2 [vr 8 0, .inl (nI x), .inl (nI h), .inl (nI i), vu, vu, vu, vu, vu, vu] [] N := by
    intro r
    induction r with
    | zero =>
      intro i N ei X h1 h2
      have ei' : i = 9 := ei
      subst ei'
      rw [eX8_leads_2]
      simp (disch := omega) only [eX8_leads_0, eX8_leads_1, eX8_leads_3, eX8_leads_5, eX8_leads_8, eX8_leads_9, eX8_leads_12, eX8_leads_13, eX8_leads_14, eX8_leads_15, eX8_leads_18, eX8_leads_19, eX8_leads_22, eX8_leads_23, eX8_leads_24, eX8_leads_25, eX8_leads_28, eX8_leads_29, eX8_leads_30, eX8_leads_31, eX8_leads_32, eX8_leads_33, eX8_leads_36, eX8_leads_39, eX8_leads_40, eX8_leads_42, eX8_leads_43, eX8_leads_46, eX8_leads_47, eX8_leads_51, eX8_leads_52, eX8_leads_55, eX8_leads_56, eX8_leads_57, eX8_leads_60, eX8_leads_61, eX8_leads_64, eX8_leads_66, eX8_leads_68, eX8_leads_69, eX8_leads_70, eX8_leads_71, eX8_leads_74, eX8_leads_75, eX8_leads_78, eX8_leads_80, eX8_leads_82, eX8_leads_83, eX8_leads_84, eX8_leads_86, eX8_leads_87, eX8_leads_90, eX8_leads_92, eX8_leads_94, eX8_leads_95, eX8_leads_96, eX8_leads_98, eX8_leads_99, eX8_leads_102, eX8_leads_104, eX8_leads_105, eX8_leads_106, eX8_leads_109, eX8_leads_111, eX8_leads_112, eX8_leads_113, eX8_leads_115, eX8_leads_116, eX8_leads_119, eX8_leads_121, eX8_leads_123, eX8_leads_124, eX8_leads_125, eX8_leads_128, eX8_leads_130, eX8_leads_132, eX8_leads_133, eX8_leads_134, eX8_leads_137, eX8_leads_139, eX8_leads_140, eX8_leads_142, eX8_leads_143, eX8_leads_146, eX8_leads_148, eX8_leads_149, eX8_leads_151, eX8_leads_152, eX8_leads_155, eX8_leads_157, eX8_leads_159, eX8_leads_162, eX8_leads_164, eX8_leads_167, eX8_leads_169, eX8_leads_170, eX8_leads_171, eX8_leads_173, eX8_leads_176, eX8_leads_178, eX8_leads_179, eX8_leads_180, eX8_leads_183, eX8_leads_185, eX8_leads_186, eX8_leads_187, eX8_leads_190, eX8_leads_192, eX8_leads_194, eX8_leads_197, eX8_leads_199, eX8_leads_202, eX8_leads_204, eX8_leads_205, eX8_leads_206, eX8_leads_208, eX8_leads_211, eX8_leads_213, eX8_leads_214, eX8_leads_215, eX8_leads_218, eX8_leads_220, eX8_leads_221, eX8_leads_224, eX8_leads_227, eX8_leads_230, eX8_leads_233, e9, nI_leI, Nat.le_refl, if_true, lit_0]
      refine out (h + 1) 0 N _ _ _ _ _ _ (by omega) X ⟨h1, h2⟩ (fun j hj => sh_l hj) (fun j => ?_)
      show upN (fun _ => 0) x 1 j ≤ 10 * 0 + 1
      unfold upN
      split
      · exact Nat.le_refl _
      · exact Nat.zero_le _
    | succ r ih =>
      intro i N ei X h1 h2
      have nx : ∀ v, v = em (upN (fun _ => 0) x 1 i) → ExG 1 (Run 1 d) 8 0 false none cX8_leads Q 2 [vr 8 0, .inl (nI x), .inl (nI h), .inl (nI (i + 1)), vu, vu, vu, vu, vu, vu] [] (sI (sI N 11 8 i v) 11 9 i (nI (2 ^ i))) := by
        intro v hv
        refine ih (i + 1) _ (by omega) (Mx_tr X (Mx_tr (Mx_a (Or.inl rfl)) (Mx_a (Or.inr rfl)))) (fun j hj => ?_) (fun j hj => ?_)
        · rw [gI_sI, if_neg (by omega), gI_sI]
          by_cases c : j = i
          · rw [if_pos ⟨rfl, rfl, c⟩, hv, c]
          · rw [if_neg (fun q => c q.2.2)]
            exact h1 j (by omega)
        · rw [gI_sI]
          by_cases c : j = i
          · rw [if_pos ⟨rfl, rfl, c⟩, c]
          · rw [if_neg (fun q => c q.2.2), gI_sI, if_neg (by omega)]
            exact h2 j (by omega)
      rw [eX8_leads_2]
      simp (disch := omega) only [eX8_leads_0, eX8_leads_1, eX8_leads_3, eX8_leads_5, eX8_leads_8, eX8_leads_9, eX8_leads_12, eX8_leads_13, eX8_leads_14, eX8_leads_15, eX8_leads_18, eX8_leads_19, eX8_leads_22, eX8_leads_23, eX8_leads_24, eX8_leads_25, eX8_leads_28, eX8_leads_29, eX8_leads_30, eX8_leads_31, eX8_leads_32, eX8_leads_33, eX8_leads_36, eX8_leads_39, eX8_leads_40, eX8_leads_42, eX8_leads_43, eX8_leads_46, eX8_leads_47, eX8_leads_51, eX8_leads_52, eX8_leads_55, eX8_leads_56, eX8_leads_57, eX8_leads_60, eX8_leads_61, eX8_leads_64, eX8_leads_66, eX8_leads_68, eX8_leads_69, eX8_leads_70, eX8_leads_71, eX8_leads_74, eX8_leads_75, eX8_leads_78, eX8_leads_80, eX8_leads_82, eX8_leads_83, eX8_leads_84, eX8_leads_86, eX8_leads_87, eX8_leads_90, eX8_leads_92, eX8_leads_94, eX8_leads_95, eX8_leads_96, eX8_leads_98, eX8_leads_99, eX8_leads_102, eX8_leads_104, eX8_leads_105, eX8_leads_106, eX8_leads_109, eX8_leads_111, eX8_leads_112, eX8_leads_113, eX8_leads_115, eX8_leads_116, eX8_leads_119, eX8_leads_121, eX8_leads_123, eX8_leads_124, eX8_leads_125, eX8_leads_128, eX8_leads_130, eX8_leads_132, eX8_leads_133, eX8_leads_134, eX8_leads_137, eX8_leads_139, eX8_leads_140, eX8_leads_142, eX8_leads_143, eX8_leads_146, eX8_leads_148, eX8_leads_149, eX8_leads_151, eX8_leads_152, eX8_leads_155, eX8_leads_157, eX8_leads_159, eX8_leads_162, eX8_leads_164, eX8_leads_167, eX8_leads_169, eX8_leads_170, eX8_leads_171, eX8_leads_173, eX8_leads_176, eX8_leads_178, eX8_leads_179, eX8_leads_180, eX8_leads_183, eX8_leads_185, eX8_leads_186, eX8_leads_187, eX8_leads_190, eX8_leads_192, eX8_leads_194, eX8_leads_197, eX8_leads_199, eX8_leads_202, eX8_leads_204, eX8_leads_205, eX8_leads_206, eX8_leads_208, eX8_leads_211, eX8_leads_213, eX8_leads_214, eX8_leads_215, eX8_leads_218, eX8_leads_220, eX8_leads_221, eX8_leads_224, eX8_leads_227, eX8_leads_230, eX8_leads_233, c8_, c11_0, c11_1, c11_2, c11_3, c11_4, c11_5, c11_6, c11_7, c11_8, c11_9, alm_0, alm_1, alm_2, alm_3, alm_4, alm_5, alm_6, alm_7, alm_8, alm_9, vT, true_and, e9, nI_leI, if_neg (show ¬ 9 ≤ i by omega), nI_eq, nI_clamp, sh_t, nI_1]
      by_cases c : i = x
      · rw [if_pos c]
        exact nx _ (by unfold upN; rw [if_pos c]; rfl)
      · rw [if_neg c]
        exact nx _ (by unfold upN; rw [if_neg c]; rfl)
  exact ini 9 0 M (by omega) Mx_rf (fun j hj => by omega) (fun j hj => by omega)
end M7
