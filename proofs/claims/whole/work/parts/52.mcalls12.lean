/-! the model's calls, 12: as if -/
theorem pow9 {L k : Nat} (h : k < L) : 9 ^ (L - k) / 9 = 9 ^ (L - (k + 1)) := by
  rw [show L - k = (L - (k + 1)) + 1 by omega, Nat.pow_succ, Nat.mul_div_cancel _ (by decide)]
theorem pow9_b {k : Nat} (h : k ≤ 4) : 9 ^ k ≤ 6561 := (show 9 ^ k ≤ 9 ^ 4 from Nat.pow_le_pow_right (by decide) h)
theorem pow9_p (k : Nat) : 0 < 9 ^ k := Nat.pow_pos (by decide)
theorem e9_ : (9 : Int32) = nI 9 := rfl
section M10
variable {d G : Nat} {M : bM} {lt : Nat → Nat} {len n : Nat} {τ : Nat → Nat → Nat} {σ : sT} {pa : Nat → sT} {ph : Nat} {ka : Nat → sT} {kh : Nat} {ci cs : Nat → Nat} {cn : Nat} {Q : bV → bM → Prop}
theorem vX8_asIf {x y w : Int32} (C : MA M lt len τ σ pa ph ka kh ci cs cn) (V : VA G τ σ pa ph ka kh ci cs cn)
    (hQ : ∀ M', MA M' lt len τ σ pa ph ka kh ci cs cn → Eqx mdS M M' → Q (.inl (pAsIf τ σ x y w)) M') : Run 1 (d + 4) 126 [vr 8 0, .inl x, .inl y, .inl w] M Q := by
  obtain ⟨P, T, S, P0, P1, L⟩ := id C
  obtain ⟨K, n1, hs, hg, -⟩ := V
  have hn := K.1
  have e09 : ∀ x, inB x 0 9 = hsB x 10 := fun x => hs_in (by decide)
  rw [rX8_asIf]
  unfold pAsIf at hQ
  simp only [eX8_asIf_0, eX8_asIf_1, eX8_asIf_2, eX8_asIf_5, eX8_asIf_8, eX8_asIf_9, eX8_asIf_10, eX8_asIf_12, eX8_asIf_15, eX8_asIf_18, eX8_asIf_19, eX8_asIf_20, eX8_asIf_21, eX8_asIf_24, eX8_asIf_27, eX8_asIf_28, eX8_asIf_29, eX8_asIf_30, eX8_asIf_33, eX8_asIf_35, eX8_asIf_37, eX8_asIf_38, eX8_asIf_40, eX8_asIf_41, eX8_asIf_43, eX8_asIf_44, eX8_asIf_48, eX8_asIf_52, eX8_asIf_54, eX8_asIf_59, eX8_asIf_60, eX8_asIf_64, eX8_asIf_69, eX8_asIf_71, eX8_asIf_76, eX8_asIf_78, eX8_asIf_80, eX8_asIf_81, eX8_asIf_83, eX8_asIf_84, eX8_asIf_88, eX8_asIf_93, eX8_asIf_98, eX8_asIf_100, eX8_asIf_102, eX8_asIf_103, eX8_asIf_105, eX8_asIf_107, eX8_asIf_109, eX8_asIf_110, eX8_asIf_112, eX8_asIf_113, eX8_asIf_115, eX8_asIf_117, eX8_asIf_118, eX8_asIf_121, eX8_asIf_122, eX8_asIf_126, eX8_asIf_128, eX8_asIf_132, eX8_asIf_133, eX8_asIf_136, eX8_asIf_137, eX8_asIf_139, eX8_asIf_144, eX8_asIf_145, eX8_asIf_146, eX8_asIf_148, eX8_asIf_151, eX8_asIf_152, eX8_asIf_155, eX8_asIf_163, eX8_asIf_164, eX8_asIf_167, eX8_asIf_168, eX8_asIf_169, eX8_asIf_173, eX8_asIf_175, eX8_asIf_177, eX8_asIf_179, eX8_asIf_181, eX8_asIf_182, eX8_asIf_185, eX8_asIf_188, eX8_asIf_191, eX8_asIf_193, eX8_asIf_195, eX8_asIf_196, eX8_asIf_198, eX8_asIf_201, eX8_asIf_208, eX8_asIf_210, eX8_asIf_215, eX8_asIf_217, eX8_asIf_218, eX8_asIf_220, eX8_asIf_222, eX8_asIf_224, eX8_asIf_228, eX8_asIf_232, eX8_asIf_234, eX8_asIf_236, eX8_asIf_237, eX8_asIf_239, eX8_asIf_242, eX8_asIf_245, eX8_asIf_246, eX8_asIf_251, eX8_asIf_253, eX8_asIf_256, eX8_asIf_258, eX8_asIf_260, eX8_asIf_261, c8_, c11_0, c11_1, c11_2, c11_3, c11_4, c11_5, c11_6, c11_7, c11_8, c11_9, alm_0, alm_1, alm_2, alm_3, alm_4, alm_5, alm_6, alm_7, alm_8, alm_9, vT, true_and, tX8_isPerson T K n1, tX8_in, e09, psh_i, bi_0]
  rcases hpB_cases K x with ⟨i, hi, pi, rfl, e⟩ | e
  rotate_right
  · rw [if_pos (Or.inl e)] at hQ
    rw [e, if_pos rfl]
    exact hQ M C Eqx_rf
  rcases hsB_cases y (n := 10) (by decide) with ⟨s, hs', rfl, e2⟩ | e2
  rotate_right
  · rw [if_pos (Or.inr (Or.inl e2))] at hQ
    rw [e, e2, if_neg (by decide), if_pos rfl]
    exact hQ M C Eqx_rf
  rw [e, e2, if_neg (by decide), if_neg (by decide)]
  unfold inB
  by_cases c1 : w < 0
  · rw [if_pos (Or.inr (Or.inr (Or.inl c1)))] at hQ
    rw [decide_eq_false (not_not_intro c1), Bool.false_and, if_pos rfl]
    exact hQ M C Eqx_rf
  by_cases c3 : 3 < w
  · rw [if_pos (Or.inr (Or.inr (Or.inr c3)))] at hQ
    rw [decide_eq_false (not_not_intro c3), Bool.and_false, if_pos rfl]
    exact hQ M C Eqx_rf
  rw [decide_eq_true c1, decide_eq_true c3, if_neg (by decide)]
  rw [if_neg (by rintro (q | q | q | q) <;> simp_all), nI_clamp (by omega), nI_clamp (by omega)] at hQ
  obtain ⟨k, hk, rfl⟩ : ∃ k, k < 4 ∧ w = nI k := by
    rcases pk_ix w (n := 4) (by decide) with q | q | q
    · exact absurd q c1
    · exfalso
      apply c3
      rw [Int32.le_iff_toInt_le, nI_toInt (by decide)] at q
      rw [Int32.lt_iff_toInt_lt]
      simp at q ⊢
      omega
    · exact q
  rw [nI_clamp (by omega)] at hQ
  obtain ⟨RR, hR⟩ : ∃ RR, shF τ i s σ.1 4 0 = RR := ⟨_, rfl⟩
  rw [hR] at hQ
  have n44 : ((-4 : Int32) = -4) = True := eq_true rfl
  -- the end
  have finN : RR = none → ∀ N v5 v6 v7 v8 v9 v10 v11 v12, TR M N → (∀ j, j < 11 → gI N 11 3 j = gI M 11 3 j) → ExG 1 (Run 1 (d + 3)) 8 1 false none cX8_asIf Q 204 [vr 8 0, .inl (nI i), .inl (nI s), .inl (nI k), .inl (-4), v5, v6, v7, v8, v9, v10, v11, v12] [] N := by
    intro hr N v5 v6 v7 v8 v9 v10 v11 v12 R h
    have hQ := hQ N (TR_A C hn R h) (Mx_E R.1)
    rw [hr] at hQ
    rw [eX8_asIf_204, eX8_asIf_205, eX8_asIf_208, eX8_asIf_210, eX8_asIf_212]
    simp only [eX8_asIf_0, eX8_asIf_1, eX8_asIf_2, eX8_asIf_5, eX8_asIf_8, eX8_asIf_9, eX8_asIf_10, eX8_asIf_12, eX8_asIf_15, eX8_asIf_18, eX8_asIf_19, eX8_asIf_20, eX8_asIf_21, eX8_asIf_24, eX8_asIf_27, eX8_asIf_28, eX8_asIf_29, eX8_asIf_30, eX8_asIf_33, eX8_asIf_35, eX8_asIf_37, eX8_asIf_38, eX8_asIf_40, eX8_asIf_41, eX8_asIf_43, eX8_asIf_44, eX8_asIf_48, eX8_asIf_52, eX8_asIf_54, eX8_asIf_59, eX8_asIf_60, eX8_asIf_64, eX8_asIf_69, eX8_asIf_71, eX8_asIf_76, eX8_asIf_78, eX8_asIf_80, eX8_asIf_81, eX8_asIf_83, eX8_asIf_84, eX8_asIf_88, eX8_asIf_93, eX8_asIf_98, eX8_asIf_100, eX8_asIf_102, eX8_asIf_103, eX8_asIf_105, eX8_asIf_107, eX8_asIf_109, eX8_asIf_110, eX8_asIf_112, eX8_asIf_113, eX8_asIf_115, eX8_asIf_117, eX8_asIf_118, eX8_asIf_121, eX8_asIf_122, eX8_asIf_126, eX8_asIf_128, eX8_asIf_132, eX8_asIf_133, eX8_asIf_136, eX8_asIf_137, eX8_asIf_139, eX8_asIf_144, eX8_asIf_145, eX8_asIf_146, eX8_asIf_148, eX8_asIf_151, eX8_asIf_152, eX8_asIf_155, eX8_asIf_163, eX8_asIf_164, eX8_asIf_167, eX8_asIf_168, eX8_asIf_169, eX8_asIf_173, eX8_asIf_175, eX8_asIf_177, eX8_asIf_179, eX8_asIf_181, eX8_asIf_182, eX8_asIf_185, eX8_asIf_188, eX8_asIf_191, eX8_asIf_193, eX8_asIf_195, eX8_asIf_196, eX8_asIf_198, eX8_asIf_201, eX8_asIf_208, eX8_asIf_210, eX8_asIf_215, eX8_asIf_217, eX8_asIf_218, eX8_asIf_220, eX8_asIf_222, eX8_asIf_224, eX8_asIf_228, eX8_asIf_232, eX8_asIf_234, eX8_asIf_236, eX8_asIf_237, eX8_asIf_239, eX8_asIf_242, eX8_asIf_245, eX8_asIf_246, eX8_asIf_251, eX8_asIf_253, eX8_asIf_256, eX8_asIf_258, eX8_asIf_260, eX8_asIf_261, if_true, ite_self]
    exact hQ
  have finS : ∀ l c, RR = some (l, c) → l ≤ 3 → c < 9 ^ l → ∀ N v6 v7 v8 v9 v10 v11 v12, TR M N → (∀ j, j < 11 → gI N 11 3 j = gI M 11 3 j) → ExG 1 (Run 1 (d + 3)) 8 1 false none cX8_asIf Q 204 [vr 8 0, .inl (nI i), .inl (nI s), .inl (nI k), .inl (nI l), .inl (nI c), v6, v7, v8, v9, v10, v11, v12] [] N := by
    intro l c hr hl hc N v6 v7 v8 v9 v10 v11 v12 R h
    have hQ := hQ N (TR_A C hn R h) (Mx_E R.1)
    rw [hr] at hQ
    dsimp only at hQ
    have hpl := pow9_b (show l ≤ 4 by omega)
    have hcl : ∀ j, c / 9 ^ j ≤ c := fun j => Nat.div_le_self _ _
    rw [eX8_asIf_204, eX8_asIf_205]
    by_cases k0 : nI k = 0
    · rw [if_pos k0] at hQ ⊢
      simp only [eX8_asIf_0, eX8_asIf_1, eX8_asIf_2, eX8_asIf_5, eX8_asIf_8, eX8_asIf_9, eX8_asIf_10, eX8_asIf_12, eX8_asIf_15, eX8_asIf_18, eX8_asIf_19, eX8_asIf_20, eX8_asIf_21, eX8_asIf_24, eX8_asIf_27, eX8_asIf_28, eX8_asIf_29, eX8_asIf_30, eX8_asIf_33, eX8_asIf_35, eX8_asIf_37, eX8_asIf_38, eX8_asIf_40, eX8_asIf_41, eX8_asIf_43, eX8_asIf_44, eX8_asIf_48, eX8_asIf_52, eX8_asIf_54, eX8_asIf_59, eX8_asIf_60, eX8_asIf_64, eX8_asIf_69, eX8_asIf_71, eX8_asIf_76, eX8_asIf_78, eX8_asIf_80, eX8_asIf_81, eX8_asIf_83, eX8_asIf_84, eX8_asIf_88, eX8_asIf_93, eX8_asIf_98, eX8_asIf_100, eX8_asIf_102, eX8_asIf_103, eX8_asIf_105, eX8_asIf_107, eX8_asIf_109, eX8_asIf_110, eX8_asIf_112, eX8_asIf_113, eX8_asIf_115, eX8_asIf_117, eX8_asIf_118, eX8_asIf_121, eX8_asIf_122, eX8_asIf_126, eX8_asIf_128, eX8_asIf_132, eX8_asIf_133, eX8_asIf_136, eX8_asIf_137, eX8_asIf_139, eX8_asIf_144, eX8_asIf_145, eX8_asIf_146, eX8_asIf_148, eX8_asIf_151, eX8_asIf_152, eX8_asIf_155, eX8_asIf_163, eX8_asIf_164, eX8_asIf_167, eX8_asIf_168, eX8_asIf_169, eX8_asIf_173, eX8_asIf_175, eX8_asIf_177, eX8_asIf_179, eX8_asIf_181, eX8_asIf_182, eX8_asIf_185, eX8_asIf_188, eX8_asIf_191, eX8_asIf_193, eX8_asIf_195, eX8_asIf_196, eX8_asIf_198, eX8_asIf_201, eX8_asIf_208, eX8_asIf_210, eX8_asIf_215, eX8_asIf_217, eX8_asIf_218, eX8_asIf_220, eX8_asIf_222, eX8_asIf_224, eX8_asIf_228, eX8_asIf_232, eX8_asIf_234, eX8_asIf_236, eX8_asIf_237, eX8_asIf_239, eX8_asIf_242, eX8_asIf_245, eX8_asIf_246, eX8_asIf_251, eX8_asIf_253, eX8_asIf_256, eX8_asIf_258, eX8_asIf_260, eX8_asIf_261]
      exact hQ
    · rw [if_neg k0] at hQ ⊢
      rw [eX8_asIf_208, eX8_asIf_210, eX8_asIf_212]
      simp (disch := omega) only [neg4, if_false]
      simp only [eX8_asIf_0, eX8_asIf_1, eX8_asIf_2, eX8_asIf_5, eX8_asIf_8, eX8_asIf_9, eX8_asIf_10, eX8_asIf_12, eX8_asIf_15, eX8_asIf_18, eX8_asIf_19, eX8_asIf_20, eX8_asIf_21, eX8_asIf_24, eX8_asIf_27, eX8_asIf_28, eX8_asIf_29, eX8_asIf_30, eX8_asIf_33, eX8_asIf_35, eX8_asIf_37, eX8_asIf_38, eX8_asIf_40, eX8_asIf_41, eX8_asIf_43, eX8_asIf_44, eX8_asIf_48, eX8_asIf_52, eX8_asIf_54, eX8_asIf_59, eX8_asIf_60, eX8_asIf_64, eX8_asIf_69, eX8_asIf_71, eX8_asIf_76, eX8_asIf_78, eX8_asIf_80, eX8_asIf_81, eX8_asIf_83, eX8_asIf_84, eX8_asIf_88, eX8_asIf_93, eX8_asIf_98, eX8_asIf_100, eX8_asIf_102, eX8_asIf_103, eX8_asIf_105, eX8_asIf_107, eX8_asIf_109, eX8_asIf_110, eX8_asIf_112, eX8_asIf_113, eX8_asIf_115, eX8_asIf_117, eX8_asIf_118, eX8_asIf_121, eX8_asIf_122, eX8_asIf_126, eX8_asIf_128, eX8_asIf_132, eX8_asIf_133, eX8_asIf_136, eX8_asIf_137, eX8_asIf_139, eX8_asIf_144, eX8_asIf_145, eX8_asIf_146, eX8_asIf_148, eX8_asIf_151, eX8_asIf_152, eX8_asIf_155, eX8_asIf_163, eX8_asIf_164, eX8_asIf_167, eX8_asIf_168, eX8_asIf_169, eX8_asIf_173, eX8_asIf_175, eX8_asIf_177, eX8_asIf_179, eX8_asIf_181, eX8_asIf_182, eX8_asIf_185, eX8_asIf_188, eX8_asIf_191, eX8_asIf_193, eX8_asIf_195, eX8_asIf_196, eX8_asIf_198, eX8_asIf_201, eX8_asIf_208, eX8_asIf_210, eX8_asIf_215, eX8_asIf_217, eX8_asIf_218, eX8_asIf_220, eX8_asIf_222, eX8_asIf_224, eX8_asIf_228, eX8_asIf_232, eX8_asIf_234, eX8_asIf_236, eX8_asIf_237, eX8_asIf_239, eX8_asIf_242, eX8_asIf_245, eX8_asIf_246, eX8_asIf_251, eX8_asIf_253, eX8_asIf_256, eX8_asIf_258, eX8_asIf_260, eX8_asIf_261]
      have dn : ∀ r j, k + r = j → j ≤ l → (∀ _ : bV, ExG 1 (Run 1 (d + 3)) 8 1 false none cX8_asIf Q 226 [vr 8 0, .inl (nI i), .inl (nI s), .inl (nI k), .inl (nI l), .inl (nI c), v6, .inl (nI (c / 9 ^ (l - k))), .inl (nI k), v9, v10, v11, v12] [] N) → ExG 1 (Run 1 (d + 3)) 8 1 false none cX8_asIf Q 226 [vr 8 0, .inl (nI i), .inl (nI s), .inl (nI k), .inl (nI l), .inl (nI c), v6, .inl (nI (c / 9 ^ (l - j))), .inl (nI j), v9, v10, v11, v12] [] N := by
        intro r
        induction r with
        | zero =>
          intro j ej hj hf
          have ej' : k = j := ej
          subst ej'
          exact hf v8
        | succ r ih =>
          intro j ej hj hf
          have hcj := hcl (l - j)
          have nx := ih (j - 1) (by omega) (by omega) hf
          have em' : nI j + (-1) = nI (j - 1) := by
            have := pk_m1 (j - 1)
            rwa [show j - 1 + 1 = j by omega] at this
          have dv : nI (c / 9 ^ (l - j)) / nI 9 = nI (c / 9 ^ (l - (j - 1))) := by
            rw [pk_div (by omega) (by decide) (by decide), Nat.div_div_eq_div_mul, ← Nat.pow_succ, show (l - j).succ = l - (j - 1) by omega]
          rw [eX8_asIf_226, eX8_asIf_228, eX8_asIf_229]
          simp (disch := omega) only [nI_leI, if_neg (show ¬ j ≤ k by omega)]
          simp (disch := omega) only [eX8_asIf_0, eX8_asIf_1, eX8_asIf_2, eX8_asIf_5, eX8_asIf_8, eX8_asIf_9, eX8_asIf_10, eX8_asIf_12, eX8_asIf_15, eX8_asIf_18, eX8_asIf_19, eX8_asIf_20, eX8_asIf_21, eX8_asIf_24, eX8_asIf_27, eX8_asIf_28, eX8_asIf_29, eX8_asIf_30, eX8_asIf_33, eX8_asIf_35, eX8_asIf_37, eX8_asIf_38, eX8_asIf_40, eX8_asIf_41, eX8_asIf_43, eX8_asIf_44, eX8_asIf_48, eX8_asIf_52, eX8_asIf_54, eX8_asIf_59, eX8_asIf_60, eX8_asIf_64, eX8_asIf_69, eX8_asIf_71, eX8_asIf_76, eX8_asIf_78, eX8_asIf_80, eX8_asIf_81, eX8_asIf_83, eX8_asIf_84, eX8_asIf_88, eX8_asIf_93, eX8_asIf_98, eX8_asIf_100, eX8_asIf_102, eX8_asIf_103, eX8_asIf_105, eX8_asIf_107, eX8_asIf_109, eX8_asIf_110, eX8_asIf_112, eX8_asIf_113, eX8_asIf_115, eX8_asIf_117, eX8_asIf_118, eX8_asIf_121, eX8_asIf_122, eX8_asIf_126, eX8_asIf_128, eX8_asIf_132, eX8_asIf_133, eX8_asIf_136, eX8_asIf_137, eX8_asIf_139, eX8_asIf_144, eX8_asIf_145, eX8_asIf_146, eX8_asIf_148, eX8_asIf_151, eX8_asIf_152, eX8_asIf_155, eX8_asIf_163, eX8_asIf_164, eX8_asIf_167, eX8_asIf_168, eX8_asIf_169, eX8_asIf_173, eX8_asIf_175, eX8_asIf_177, eX8_asIf_179, eX8_asIf_181, eX8_asIf_182, eX8_asIf_185, eX8_asIf_188, eX8_asIf_191, eX8_asIf_193, eX8_asIf_195, eX8_asIf_196, eX8_asIf_198, eX8_asIf_201, eX8_asIf_208, eX8_asIf_210, eX8_asIf_215, eX8_asIf_217, eX8_asIf_218, eX8_asIf_220, eX8_asIf_222, eX8_asIf_224, eX8_asIf_228, eX8_asIf_232, eX8_asIf_234, eX8_asIf_236, eX8_asIf_237, eX8_asIf_239, eX8_asIf_242, eX8_asIf_245, eX8_asIf_246, eX8_asIf_251, eX8_asIf_253, eX8_asIf_256, eX8_asIf_258, eX8_asIf_260, eX8_asIf_261, e9_, lit_0, nI_eq, Nat.reduceEqDiff, not_false_iff, true_and, dv, em']
          exact nx
      by_cases kl : k ≤ l
      · rw [if_neg (by omega)] at hQ
        have hcj := hcl (l - k)
        have dd := dn (l - k) l (by omega) (Nat.le_refl _) (fun _ => by
          have rm : nI (c / 9 ^ (l - k)) - nI (c / 9 ^ (l - k)) / nI 9 * nI 9 = nI (c / 9 ^ (l - k) % 9) := rem_nI (by omega) (by decide) (by decide)
          rw [eX8_asIf_226, eX8_asIf_228, eX8_asIf_229]
          simp (disch := omega) only [nI_leI, Nat.le_refl, if_true]
          rw [eX8_asIf_245, eX8_asIf_246, eX8_asIf_248]
          simp (disch := omega) only [nI_leI, if_pos kl]
          simp (disch := omega) only [eX8_asIf_0, eX8_asIf_1, eX8_asIf_2, eX8_asIf_5, eX8_asIf_8, eX8_asIf_9, eX8_asIf_10, eX8_asIf_12, eX8_asIf_15, eX8_asIf_18, eX8_asIf_19, eX8_asIf_20, eX8_asIf_21, eX8_asIf_24, eX8_asIf_27, eX8_asIf_28, eX8_asIf_29, eX8_asIf_30, eX8_asIf_33, eX8_asIf_35, eX8_asIf_37, eX8_asIf_38, eX8_asIf_40, eX8_asIf_41, eX8_asIf_43, eX8_asIf_44, eX8_asIf_48, eX8_asIf_52, eX8_asIf_54, eX8_asIf_59, eX8_asIf_60, eX8_asIf_64, eX8_asIf_69, eX8_asIf_71, eX8_asIf_76, eX8_asIf_78, eX8_asIf_80, eX8_asIf_81, eX8_asIf_83, eX8_asIf_84, eX8_asIf_88, eX8_asIf_93, eX8_asIf_98, eX8_asIf_100, eX8_asIf_102, eX8_asIf_103, eX8_asIf_105, eX8_asIf_107, eX8_asIf_109, eX8_asIf_110, eX8_asIf_112, eX8_asIf_113, eX8_asIf_115, eX8_asIf_117, eX8_asIf_118, eX8_asIf_121, eX8_asIf_122, eX8_asIf_126, eX8_asIf_128, eX8_asIf_132, eX8_asIf_133, eX8_asIf_136, eX8_asIf_137, eX8_asIf_139, eX8_asIf_144, eX8_asIf_145, eX8_asIf_146, eX8_asIf_148, eX8_asIf_151, eX8_asIf_152, eX8_asIf_155, eX8_asIf_163, eX8_asIf_164, eX8_asIf_167, eX8_asIf_168, eX8_asIf_169, eX8_asIf_173, eX8_asIf_175, eX8_asIf_177, eX8_asIf_179, eX8_asIf_181, eX8_asIf_182, eX8_asIf_185, eX8_asIf_188, eX8_asIf_191, eX8_asIf_193, eX8_asIf_195, eX8_asIf_196, eX8_asIf_198, eX8_asIf_201, eX8_asIf_208, eX8_asIf_210, eX8_asIf_215, eX8_asIf_217, eX8_asIf_218, eX8_asIf_220, eX8_asIf_222, eX8_asIf_224, eX8_asIf_228, eX8_asIf_232, eX8_asIf_234, eX8_asIf_236, eX8_asIf_237, eX8_asIf_239, eX8_asIf_242, eX8_asIf_245, eX8_asIf_246, eX8_asIf_251, eX8_asIf_253, eX8_asIf_256, eX8_asIf_258, eX8_asIf_260, eX8_asIf_261, e9_, lit_0, nI_eq, Nat.reduceEqDiff, not_false_iff, true_and, rm]
          exact hQ)
        rw [Nat.sub_self, Nat.pow_zero, Nat.div_one] at dd
        exact dd
      · rw [if_pos (by omega)] at hQ
        rw [eX8_asIf_226, eX8_asIf_228, eX8_asIf_229]
        simp (disch := omega) only [nI_leI, if_pos (show l ≤ k by omega)]
        rw [eX8_asIf_245, eX8_asIf_246, eX8_asIf_248]
        simp (disch := omega) only [nI_leI, if_neg (show ¬ k ≤ l by omega)]
        simp only [eX8_asIf_0, eX8_asIf_1, eX8_asIf_2, eX8_asIf_5, eX8_asIf_8, eX8_asIf_9, eX8_asIf_10, eX8_asIf_12, eX8_asIf_15, eX8_asIf_18, eX8_asIf_19, eX8_asIf_20, eX8_asIf_21, eX8_asIf_24, eX8_asIf_27, eX8_asIf_28, eX8_asIf_29, eX8_asIf_30, eX8_asIf_33, eX8_asIf_35, eX8_asIf_37, eX8_asIf_38, eX8_asIf_40, eX8_asIf_41, eX8_asIf_43, eX8_asIf_44, eX8_asIf_48, eX8_asIf_52, eX8_asIf_54, eX8_asIf_59, eX8_asIf_60, eX8_asIf_64, eX8_asIf_69, eX8_asIf_71, eX8_asIf_76, eX8_asIf_78, eX8_asIf_80, eX8_asIf_81, eX8_asIf_83, eX8_asIf_84, eX8_asIf_88, eX8_asIf_93, eX8_asIf_98, eX8_asIf_100, eX8_asIf_102, eX8_asIf_103, eX8_asIf_105, eX8_asIf_107, eX8_asIf_109, eX8_asIf_110, eX8_asIf_112, eX8_asIf_113, eX8_asIf_115, eX8_asIf_117, eX8_asIf_118, eX8_asIf_121, eX8_asIf_122, eX8_asIf_126, eX8_asIf_128, eX8_asIf_132, eX8_asIf_133, eX8_asIf_136, eX8_asIf_137, eX8_asIf_139, eX8_asIf_144, eX8_asIf_145, eX8_asIf_146, eX8_asIf_148, eX8_asIf_151, eX8_asIf_152, eX8_asIf_155, eX8_asIf_163, eX8_asIf_164, eX8_asIf_167, eX8_asIf_168, eX8_asIf_169, eX8_asIf_173, eX8_asIf_175, eX8_asIf_177, eX8_asIf_179, eX8_asIf_181, eX8_asIf_182, eX8_asIf_185, eX8_asIf_188, eX8_asIf_191, eX8_asIf_193, eX8_asIf_195, eX8_asIf_196, eX8_asIf_198, eX8_asIf_201, eX8_asIf_208, eX8_asIf_210, eX8_asIf_215, eX8_asIf_217, eX8_asIf_218, eX8_asIf_220, eX8_asIf_222, eX8_asIf_224, eX8_asIf_228, eX8_asIf_232, eX8_asIf_234, eX8_asIf_236, eX8_asIf_237, eX8_asIf_239, eX8_asIf_242, eX8_asIf_245, eX8_asIf_246, eX8_asIf_251, eX8_asIf_253, eX8_asIf_256, eX8_asIf_258, eX8_asIf_260, eX8_asIf_261]
        exact hQ
  -- the touches of a code
  have digs : ∀ l, l ≤ 3 → ∀ c, c < 9 ^ l → ∀ (v4 v5 v6 : bV), ∀ r kk f N p g v12, kk + r = l → TR M N → MS N (τ 7 0) (f, p, g) → OKs (f, p, g) →
      (∀ N' (ok : Bool) f' p' g' v9 v11 v12, TR M N' → MS N' (τ 7 0) (f', p', g') → OKs (f', p', g') → ((ok = true ∧ f' i = s) ↔ go9 τ i s r c f = true) → ExG 1 (Run 1 (d + 3)) 8 1 false none cX8_asIf Q 158 [vr 8 0, .inl (nI i), .inl (nI s), .inl (nI k), v4, v5, v6, .inl (nI l), .inl (nI c), v9, .inl (bi ok), v11, v12] [] N') →
      ExG 1 (Run 1 (d + 3)) 8 1 false none cX8_asIf Q 86 [vr 8 0, .inl (nI i), .inl (nI s), .inl (nI k), v4, v5, v6, .inl (nI l), .inl (nI c), .inl (nI (9 ^ (l - kk))), .inl (nI 1), .inl (nI kk), v12] [] N := by
    intro l hl c hc v4 v5 v6 r
    induction r with
    | zero =>
      intro kk f N p g v12 ek R S hs' hf
      have ek' : kk = l := ek
      subst ek'
      rw [eX8_asIf_86, eX8_asIf_88, eX8_asIf_90]
      simp (disch := omega) only [nI_leI, Nat.le_refl, if_true]
      refine hf N true f p g _ _ _ R S hs' ?_
      unfold go9
      rw [decide_eq_true_eq]
      exact ⟨fun q => q.2, fun q => ⟨rfl, q⟩⟩
    | succ r ih =>
      intro kk f N p g v12 ek R S hs' hf
      have TN := TR_T R T
      have hpl := pow9_b (show l ≤ 4 by omega)
      have hq1 := pow9_b (show l - kk ≤ 4 by omega)
      have hq2 := pow9_b (show l - (kk + 1) ≤ 4 by omega)
      have hq3 := pow9_p (l - (kk + 1))
      have d1 : nI (9 ^ (l - kk)) / nI 9 = nI (9 ^ (l - (kk + 1))) := by rw [pk_div (by omega) (by decide) (by decide), pow9 (by omega)]
      have d2 : nI c / nI (9 ^ (l - (kk + 1))) = nI (c / 9 ^ (l - (kk + 1))) := pk_div (by omega) hq3 (by omega)
      have hcd : c / 9 ^ (l - (kk + 1)) ≤ c := Nat.div_le_self _ _
      have d3 : nI (c / 9 ^ (l - (kk + 1))) - nI (c / 9 ^ (l - (kk + 1))) / nI 9 * nI 9 = nI (c / 9 ^ (l - (kk + 1)) % 9) := rem_nI (by omega) (by decide) (by decide)
      have er : l - (kk + 1) = r := by omega
      have hdg : c / 9 ^ r % 9 < 9 := Nat.mod_lt _ (by decide)
      rw [er] at d1 d2 d3 hq2 hq3
      unfold go9 at hf
      have t10 : ¬ nI 1 = (0 : Int32) := by decide
      rw [eX8_asIf_86, eX8_asIf_88, eX8_asIf_90]
      simp (disch := omega) only [nI_leI, if_neg (show ¬ l ≤ kk by omega)]
      rw [eX8_asIf_93, eX8_asIf_95, if_neg t10]
      simp (disch := omega) only [eX8_asIf_0, eX8_asIf_1, eX8_asIf_2, eX8_asIf_5, eX8_asIf_8, eX8_asIf_9, eX8_asIf_10, eX8_asIf_12, eX8_asIf_15, eX8_asIf_18, eX8_asIf_19, eX8_asIf_20, eX8_asIf_21, eX8_asIf_24, eX8_asIf_27, eX8_asIf_28, eX8_asIf_29, eX8_asIf_30, eX8_asIf_33, eX8_asIf_35, eX8_asIf_37, eX8_asIf_38, eX8_asIf_40, eX8_asIf_41, eX8_asIf_43, eX8_asIf_44, eX8_asIf_48, eX8_asIf_52, eX8_asIf_54, eX8_asIf_59, eX8_asIf_60, eX8_asIf_64, eX8_asIf_69, eX8_asIf_71, eX8_asIf_76, eX8_asIf_78, eX8_asIf_80, eX8_asIf_81, eX8_asIf_83, eX8_asIf_84, eX8_asIf_88, eX8_asIf_93, eX8_asIf_98, eX8_asIf_100, eX8_asIf_102, eX8_asIf_103, eX8_asIf_105, eX8_asIf_107, eX8_asIf_109, eX8_asIf_110, eX8_asIf_112, eX8_asIf_113, eX8_asIf_115, eX8_asIf_117, eX8_asIf_118, eX8_asIf_121, eX8_asIf_122, eX8_asIf_126, eX8_asIf_128, eX8_asIf_132, eX8_asIf_133, eX8_asIf_136, eX8_asIf_137, eX8_asIf_139, eX8_asIf_144, eX8_asIf_145, eX8_asIf_146, eX8_asIf_148, eX8_asIf_151, eX8_asIf_152, eX8_asIf_155, eX8_asIf_163, eX8_asIf_164, eX8_asIf_167, eX8_asIf_168, eX8_asIf_169, eX8_asIf_173, eX8_asIf_175, eX8_asIf_177, eX8_asIf_179, eX8_asIf_181, eX8_asIf_182, eX8_asIf_185, eX8_asIf_188, eX8_asIf_191, eX8_asIf_193, eX8_asIf_195, eX8_asIf_196, eX8_asIf_198, eX8_asIf_201, eX8_asIf_208, eX8_asIf_210, eX8_asIf_215, eX8_asIf_217, eX8_asIf_218, eX8_asIf_220, eX8_asIf_222, eX8_asIf_224, eX8_asIf_228, eX8_asIf_232, eX8_asIf_234, eX8_asIf_236, eX8_asIf_237, eX8_asIf_239, eX8_asIf_242, eX8_asIf_245, eX8_asIf_246, eX8_asIf_251, eX8_asIf_253, eX8_asIf_256, eX8_asIf_258, eX8_asIf_260, eX8_asIf_261, c8_, c11_0, c11_1, c11_2, c11_3, c11_4, c11_5, c11_6, c11_7, c11_8, c11_9, alm_0, alm_1, alm_2, alm_3, alm_4, alm_5, alm_6, alm_7, alm_8, alm_9, vT, true_and, e9_, lit_0, nI_eq, Nat.reduceEqDiff, not_false_iff, d1, d2, show ¬ 9 ^ r = 0 by omega, d3, nI_clamp, TN.1]
      rw [eX8_asIf_123]
      simp (disch := omega) only [nI_leI]
      -- not ok
      have badE : ¬ (c / 9 ^ r % 9 < τ 7 0 ∧ ¬ c / 9 ^ r % 9 = i) → ExG 1 (Run 1 (d + 3)) 8 1 false none cX8_asIf Q 136 [vr 8 0, .inl (nI i), .inl (nI s), .inl (nI k), v4, v5, v6, .inl (nI l), .inl (nI c), .inl (nI (9 ^ r)), .inl (nI 1), .inl (nI kk), .inl (nI (c / 9 ^ r % 9))] [] N := by
        intro hb
        rw [if_neg hb] at hf
        have hend : ∀ v11, ExG 1 (Run 1 (d + 3)) 8 1 false none cX8_asIf Q 158 [vr 8 0, .inl (nI i), .inl (nI s), .inl (nI k), v4, v5, v6, .inl (nI l), .inl (nI c), .inl (nI (9 ^ r)), .inl 0, v11, .inl (nI (c / 9 ^ r % 9))] [] N := fun v11 => hf N false f p g _ _ _ R S hs' ⟨fun q => absurd q.1 (by decide), fun q => absurd q (by decide)⟩
        simp only [eX8_asIf_0, eX8_asIf_1, eX8_asIf_2, eX8_asIf_5, eX8_asIf_8, eX8_asIf_9, eX8_asIf_10, eX8_asIf_12, eX8_asIf_15, eX8_asIf_18, eX8_asIf_19, eX8_asIf_20, eX8_asIf_21, eX8_asIf_24, eX8_asIf_27, eX8_asIf_28, eX8_asIf_29, eX8_asIf_30, eX8_asIf_33, eX8_asIf_35, eX8_asIf_37, eX8_asIf_38, eX8_asIf_40, eX8_asIf_41, eX8_asIf_43, eX8_asIf_44, eX8_asIf_48, eX8_asIf_52, eX8_asIf_54, eX8_asIf_59, eX8_asIf_60, eX8_asIf_64, eX8_asIf_69, eX8_asIf_71, eX8_asIf_76, eX8_asIf_78, eX8_asIf_80, eX8_asIf_81, eX8_asIf_83, eX8_asIf_84, eX8_asIf_88, eX8_asIf_93, eX8_asIf_98, eX8_asIf_100, eX8_asIf_102, eX8_asIf_103, eX8_asIf_105, eX8_asIf_107, eX8_asIf_109, eX8_asIf_110, eX8_asIf_112, eX8_asIf_113, eX8_asIf_115, eX8_asIf_117, eX8_asIf_118, eX8_asIf_121, eX8_asIf_122, eX8_asIf_126, eX8_asIf_128, eX8_asIf_132, eX8_asIf_133, eX8_asIf_136, eX8_asIf_137, eX8_asIf_139, eX8_asIf_144, eX8_asIf_145, eX8_asIf_146, eX8_asIf_148, eX8_asIf_151, eX8_asIf_152, eX8_asIf_155, eX8_asIf_163, eX8_asIf_164, eX8_asIf_167, eX8_asIf_168, eX8_asIf_169, eX8_asIf_173, eX8_asIf_175, eX8_asIf_177, eX8_asIf_179, eX8_asIf_181, eX8_asIf_182, eX8_asIf_185, eX8_asIf_188, eX8_asIf_191, eX8_asIf_193, eX8_asIf_195, eX8_asIf_196, eX8_asIf_198, eX8_asIf_201, eX8_asIf_208, eX8_asIf_210, eX8_asIf_215, eX8_asIf_217, eX8_asIf_218, eX8_asIf_220, eX8_asIf_222, eX8_asIf_224, eX8_asIf_228, eX8_asIf_232, eX8_asIf_234, eX8_asIf_236, eX8_asIf_237, eX8_asIf_239, eX8_asIf_242, eX8_asIf_245, eX8_asIf_246, eX8_asIf_251, eX8_asIf_253, eX8_asIf_256, eX8_asIf_258, eX8_asIf_260, eX8_asIf_261]
        rw [eX8_asIf_141, if_pos rfl]
        simp only [eX8_asIf_0, eX8_asIf_1, eX8_asIf_2, eX8_asIf_5, eX8_asIf_8, eX8_asIf_9, eX8_asIf_10, eX8_asIf_12, eX8_asIf_15, eX8_asIf_18, eX8_asIf_19, eX8_asIf_20, eX8_asIf_21, eX8_asIf_24, eX8_asIf_27, eX8_asIf_28, eX8_asIf_29, eX8_asIf_30, eX8_asIf_33, eX8_asIf_35, eX8_asIf_37, eX8_asIf_38, eX8_asIf_40, eX8_asIf_41, eX8_asIf_43, eX8_asIf_44, eX8_asIf_48, eX8_asIf_52, eX8_asIf_54, eX8_asIf_59, eX8_asIf_60, eX8_asIf_64, eX8_asIf_69, eX8_asIf_71, eX8_asIf_76, eX8_asIf_78, eX8_asIf_80, eX8_asIf_81, eX8_asIf_83, eX8_asIf_84, eX8_asIf_88, eX8_asIf_93, eX8_asIf_98, eX8_asIf_100, eX8_asIf_102, eX8_asIf_103, eX8_asIf_105, eX8_asIf_107, eX8_asIf_109, eX8_asIf_110, eX8_asIf_112, eX8_asIf_113, eX8_asIf_115, eX8_asIf_117, eX8_asIf_118, eX8_asIf_121, eX8_asIf_122, eX8_asIf_126, eX8_asIf_128, eX8_asIf_132, eX8_asIf_133, eX8_asIf_136, eX8_asIf_137, eX8_asIf_139, eX8_asIf_144, eX8_asIf_145, eX8_asIf_146, eX8_asIf_148, eX8_asIf_151, eX8_asIf_152, eX8_asIf_155, eX8_asIf_163, eX8_asIf_164, eX8_asIf_167, eX8_asIf_168, eX8_asIf_169, eX8_asIf_173, eX8_asIf_175, eX8_asIf_177, eX8_asIf_179, eX8_asIf_181, eX8_asIf_182, eX8_asIf_185, eX8_asIf_188, eX8_asIf_191, eX8_asIf_193, eX8_asIf_195, eX8_asIf_196, eX8_asIf_198, eX8_asIf_201, eX8_asIf_208, eX8_asIf_210, eX8_asIf_215, eX8_asIf_217, eX8_asIf_218, eX8_asIf_220, eX8_asIf_222, eX8_asIf_224, eX8_asIf_228, eX8_asIf_232, eX8_asIf_234, eX8_asIf_236, eX8_asIf_237, eX8_asIf_239, eX8_asIf_242, eX8_asIf_245, eX8_asIf_246, eX8_asIf_251, eX8_asIf_253, eX8_asIf_256, eX8_asIf_258, eX8_asIf_260, eX8_asIf_261, nI_1]
        rw [eX8_asIf_86, eX8_asIf_88, eX8_asIf_90]
        by_cases q : l ≤ kk + 1
        · rw [if_pos ((nI_leI (by omega) (by omega)).mpr q)]
          exact hend _
        · rw [if_neg (fun w => q ((nI_leI (by omega) (by omega)).mp w)), eX8_asIf_93, eX8_asIf_95, if_pos rfl]
          exact hend _
      by_cases b1 : τ 7 0 ≤ c / 9 ^ r % 9
      · rw [if_pos b1]
        exact badE (fun q => by omega)
      · rw [if_neg b1, eX8_asIf_126, eX8_asIf_128, eX8_asIf_129]
        simp (disch := omega) only [nI_eq]
        by_cases b2 : c / 9 ^ r % 9 = i
        · rw [if_pos b2]
          exact badE (fun q => q.2 b2)
        · rw [if_neg b2]
          rw [if_pos ⟨by omega, b2⟩] at hf
          have b2' : i ≠ c / 9 ^ r % 9 := fun q => b2 q.symm
          simp only [eX8_asIf_0, eX8_asIf_1, eX8_asIf_2, eX8_asIf_5, eX8_asIf_8, eX8_asIf_9, eX8_asIf_10, eX8_asIf_12, eX8_asIf_15, eX8_asIf_18, eX8_asIf_19, eX8_asIf_20, eX8_asIf_21, eX8_asIf_24, eX8_asIf_27, eX8_asIf_28, eX8_asIf_29, eX8_asIf_30, eX8_asIf_33, eX8_asIf_35, eX8_asIf_37, eX8_asIf_38, eX8_asIf_40, eX8_asIf_41, eX8_asIf_43, eX8_asIf_44, eX8_asIf_48, eX8_asIf_52, eX8_asIf_54, eX8_asIf_59, eX8_asIf_60, eX8_asIf_64, eX8_asIf_69, eX8_asIf_71, eX8_asIf_76, eX8_asIf_78, eX8_asIf_80, eX8_asIf_81, eX8_asIf_83, eX8_asIf_84, eX8_asIf_88, eX8_asIf_93, eX8_asIf_98, eX8_asIf_100, eX8_asIf_102, eX8_asIf_103, eX8_asIf_105, eX8_asIf_107, eX8_asIf_109, eX8_asIf_110, eX8_asIf_112, eX8_asIf_113, eX8_asIf_115, eX8_asIf_117, eX8_asIf_118, eX8_asIf_121, eX8_asIf_122, eX8_asIf_126, eX8_asIf_128, eX8_asIf_132, eX8_asIf_133, eX8_asIf_136, eX8_asIf_137, eX8_asIf_139, eX8_asIf_144, eX8_asIf_145, eX8_asIf_146, eX8_asIf_148, eX8_asIf_151, eX8_asIf_152, eX8_asIf_155, eX8_asIf_163, eX8_asIf_164, eX8_asIf_167, eX8_asIf_168, eX8_asIf_169, eX8_asIf_173, eX8_asIf_175, eX8_asIf_177, eX8_asIf_179, eX8_asIf_181, eX8_asIf_182, eX8_asIf_185, eX8_asIf_188, eX8_asIf_191, eX8_asIf_193, eX8_asIf_195, eX8_asIf_196, eX8_asIf_198, eX8_asIf_201, eX8_asIf_208, eX8_asIf_210, eX8_asIf_215, eX8_asIf_217, eX8_asIf_218, eX8_asIf_220, eX8_asIf_222, eX8_asIf_224, eX8_asIf_228, eX8_asIf_232, eX8_asIf_234, eX8_asIf_236, eX8_asIf_237, eX8_asIf_239, eX8_asIf_242, eX8_asIf_245, eX8_asIf_246, eX8_asIf_251, eX8_asIf_253, eX8_asIf_256, eX8_asIf_258, eX8_asIf_260, eX8_asIf_261]
          rw [eX8_asIf_141, if_neg (show ¬ (1 : Int32) = 0 by decide)]
          simp only [eX8_asIf_0, eX8_asIf_1, eX8_asIf_2, eX8_asIf_5, eX8_asIf_8, eX8_asIf_9, eX8_asIf_10, eX8_asIf_12, eX8_asIf_15, eX8_asIf_18, eX8_asIf_19, eX8_asIf_20, eX8_asIf_21, eX8_asIf_24, eX8_asIf_27, eX8_asIf_28, eX8_asIf_29, eX8_asIf_30, eX8_asIf_33, eX8_asIf_35, eX8_asIf_37, eX8_asIf_38, eX8_asIf_40, eX8_asIf_41, eX8_asIf_43, eX8_asIf_44, eX8_asIf_48, eX8_asIf_52, eX8_asIf_54, eX8_asIf_59, eX8_asIf_60, eX8_asIf_64, eX8_asIf_69, eX8_asIf_71, eX8_asIf_76, eX8_asIf_78, eX8_asIf_80, eX8_asIf_81, eX8_asIf_83, eX8_asIf_84, eX8_asIf_88, eX8_asIf_93, eX8_asIf_98, eX8_asIf_100, eX8_asIf_102, eX8_asIf_103, eX8_asIf_105, eX8_asIf_107, eX8_asIf_109, eX8_asIf_110, eX8_asIf_112, eX8_asIf_113, eX8_asIf_115, eX8_asIf_117, eX8_asIf_118, eX8_asIf_121, eX8_asIf_122, eX8_asIf_126, eX8_asIf_128, eX8_asIf_132, eX8_asIf_133, eX8_asIf_136, eX8_asIf_137, eX8_asIf_139, eX8_asIf_144, eX8_asIf_145, eX8_asIf_146, eX8_asIf_148, eX8_asIf_151, eX8_asIf_152, eX8_asIf_155, eX8_asIf_163, eX8_asIf_164, eX8_asIf_167, eX8_asIf_168, eX8_asIf_169, eX8_asIf_173, eX8_asIf_175, eX8_asIf_177, eX8_asIf_179, eX8_asIf_181, eX8_asIf_182, eX8_asIf_185, eX8_asIf_188, eX8_asIf_191, eX8_asIf_193, eX8_asIf_195, eX8_asIf_196, eX8_asIf_198, eX8_asIf_201, eX8_asIf_208, eX8_asIf_210, eX8_asIf_215, eX8_asIf_217, eX8_asIf_218, eX8_asIf_220, eX8_asIf_222, eX8_asIf_224, eX8_asIf_228, eX8_asIf_232, eX8_asIf_234, eX8_asIf_236, eX8_asIf_237, eX8_asIf_239, eX8_asIf_242, eX8_asIf_245, eX8_asIf_246, eX8_asIf_251, eX8_asIf_253, eX8_asIf_256, eX8_asIf_258, eX8_asIf_260, eX8_asIf_261, c8_, c11_0, c11_1, c11_2, c11_3, c11_4, c11_5, c11_6, c11_7, c11_8, c11_9, alm_0, alm_1, alm_2, alm_3, alm_4, alm_5, alm_6, alm_7, alm_8, alm_9, vT, true_and, tX8_touches TN K hs' hi (show c / 9 ^ r % 9 < τ 7 0 by omega) b2' S, psh_i, nI_1]
          have nx := ih (kk + 1) (pmt (τ 0) f i (c / 9 ^ r % 9)) (wMs N (τ 7 0) (tcS τ i (c / 9 ^ r % 9) (f, p, g))) (p &&& msk i (c / 9 ^ r % 9)) g (.inl (nI (c / 9 ^ r % 9))) (by omega) (TR_w R) (MS_w hn) (OKs_tc (by omega) (by omega) hs') hf
          rw [er] at nx
          exact nx
  -- the codes of a length
  have cods : ∀ l, l ≤ 3 → (∀ (v8 v9 v10 v11 v12 : bV) N, fcd τ i s l σ.1 = none → TR M N → (∀ j, j < 11 → gI N 11 3 j = gI M 11 3 j) → ∀ v5 : bV, ExG 1 (Run 1 (d + 3)) 8 1 false none cX8_asIf Q 46 [vr 8 0, .inl (nI i), .inl (nI s), .inl (nI k), .inl (-4), v5, .inl (nI (9 ^ (l + 1))), .inl (nI (l + 1)), v8, v9, v10, v11, v12] [] N) →
      (∀ c, fcd τ i s l σ.1 = some c → RR = some (l, c)) → ∀ q c N v5 v9 v10 v11 v12, c + q = 9 ^ l → (∀ c', c' < c → go9 τ i s l c' σ.1 = false) → TR M N → (∀ j, j < 11 → gI N 11 3 j = gI M 11 3 j) → ExG 1 (Run 1 (d + 3)) 8 1 false none cX8_asIf Q 62 [vr 8 0, .inl (nI i), .inl (nI s), .inl (nI k), .inl (-4), v5, .inl (nI (9 ^ l)), .inl (nI l), .inl (nI c), v9, v10, v11, v12] [] N := by
    intro l hl hno hyes q
    have hpl := pow9_b (show l ≤ 4 by omega)
    induction q with
    | zero =>
      intro c N v5 v9 v10 v11 v12 ec hall R h
      have ec' : c = 9 ^ l := ec
      subst ec'
      rw [eX8_asIf_62, eX8_asIf_64, eX8_asIf_66]
      simp (disch := omega) only [nI_leI, Nat.le_refl, if_true]
      simp only [eX8_asIf_0, eX8_asIf_1, eX8_asIf_2, eX8_asIf_5, eX8_asIf_8, eX8_asIf_9, eX8_asIf_10, eX8_asIf_12, eX8_asIf_15, eX8_asIf_18, eX8_asIf_19, eX8_asIf_20, eX8_asIf_21, eX8_asIf_24, eX8_asIf_27, eX8_asIf_28, eX8_asIf_29, eX8_asIf_30, eX8_asIf_33, eX8_asIf_35, eX8_asIf_37, eX8_asIf_38, eX8_asIf_40, eX8_asIf_41, eX8_asIf_43, eX8_asIf_44, eX8_asIf_48, eX8_asIf_52, eX8_asIf_54, eX8_asIf_59, eX8_asIf_60, eX8_asIf_64, eX8_asIf_69, eX8_asIf_71, eX8_asIf_76, eX8_asIf_78, eX8_asIf_80, eX8_asIf_81, eX8_asIf_83, eX8_asIf_84, eX8_asIf_88, eX8_asIf_93, eX8_asIf_98, eX8_asIf_100, eX8_asIf_102, eX8_asIf_103, eX8_asIf_105, eX8_asIf_107, eX8_asIf_109, eX8_asIf_110, eX8_asIf_112, eX8_asIf_113, eX8_asIf_115, eX8_asIf_117, eX8_asIf_118, eX8_asIf_121, eX8_asIf_122, eX8_asIf_126, eX8_asIf_128, eX8_asIf_132, eX8_asIf_133, eX8_asIf_136, eX8_asIf_137, eX8_asIf_139, eX8_asIf_144, eX8_asIf_145, eX8_asIf_146, eX8_asIf_148, eX8_asIf_151, eX8_asIf_152, eX8_asIf_155, eX8_asIf_163, eX8_asIf_164, eX8_asIf_167, eX8_asIf_168, eX8_asIf_169, eX8_asIf_173, eX8_asIf_175, eX8_asIf_177, eX8_asIf_179, eX8_asIf_181, eX8_asIf_182, eX8_asIf_185, eX8_asIf_188, eX8_asIf_191, eX8_asIf_193, eX8_asIf_195, eX8_asIf_196, eX8_asIf_198, eX8_asIf_201, eX8_asIf_208, eX8_asIf_210, eX8_asIf_215, eX8_asIf_217, eX8_asIf_218, eX8_asIf_220, eX8_asIf_222, eX8_asIf_224, eX8_asIf_228, eX8_asIf_232, eX8_asIf_234, eX8_asIf_236, eX8_asIf_237, eX8_asIf_239, eX8_asIf_242, eX8_asIf_245, eX8_asIf_246, eX8_asIf_251, eX8_asIf_253, eX8_asIf_256, eX8_asIf_258, eX8_asIf_260, eX8_asIf_261, e9_, pk_mul, nI_1]
      have := hno (.inl (nI (9 ^ l))) v9 v10 v11 v12 N (fcd_no K hall) R h v5
      rw [Nat.pow_succ] at this
      exact this
    | succ q ih =>
      intro c N v5 v9 v10 v11 v12 ec hall R h
      have hc : c < 9 ^ l := by omega
      have SN : MS N (τ 7 0) σ := MS_h hn h S
      rw [eX8_asIf_62, eX8_asIf_64, eX8_asIf_66]
      simp (disch := omega) only [nI_leI, if_neg (show ¬ 9 ^ l ≤ c by omega)]
      rw [eX8_asIf_69, eX8_asIf_71, eX8_asIf_73, if_pos rfl]
      simp only [eX8_asIf_0, eX8_asIf_1, eX8_asIf_2, eX8_asIf_5, eX8_asIf_8, eX8_asIf_9, eX8_asIf_10, eX8_asIf_12, eX8_asIf_15, eX8_asIf_18, eX8_asIf_19, eX8_asIf_20, eX8_asIf_21, eX8_asIf_24, eX8_asIf_27, eX8_asIf_28, eX8_asIf_29, eX8_asIf_30, eX8_asIf_33, eX8_asIf_35, eX8_asIf_37, eX8_asIf_38, eX8_asIf_40, eX8_asIf_41, eX8_asIf_43, eX8_asIf_44, eX8_asIf_48, eX8_asIf_52, eX8_asIf_54, eX8_asIf_59, eX8_asIf_60, eX8_asIf_64, eX8_asIf_69, eX8_asIf_71, eX8_asIf_76, eX8_asIf_78, eX8_asIf_80, eX8_asIf_81, eX8_asIf_83, eX8_asIf_84, eX8_asIf_88, eX8_asIf_93, eX8_asIf_98, eX8_asIf_100, eX8_asIf_102, eX8_asIf_103, eX8_asIf_105, eX8_asIf_107, eX8_asIf_109, eX8_asIf_110, eX8_asIf_112, eX8_asIf_113, eX8_asIf_115, eX8_asIf_117, eX8_asIf_118, eX8_asIf_121, eX8_asIf_122, eX8_asIf_126, eX8_asIf_128, eX8_asIf_132, eX8_asIf_133, eX8_asIf_136, eX8_asIf_137, eX8_asIf_139, eX8_asIf_144, eX8_asIf_145, eX8_asIf_146, eX8_asIf_148, eX8_asIf_151, eX8_asIf_152, eX8_asIf_155, eX8_asIf_163, eX8_asIf_164, eX8_asIf_167, eX8_asIf_168, eX8_asIf_169, eX8_asIf_173, eX8_asIf_175, eX8_asIf_177, eX8_asIf_179, eX8_asIf_181, eX8_asIf_182, eX8_asIf_185, eX8_asIf_188, eX8_asIf_191, eX8_asIf_193, eX8_asIf_195, eX8_asIf_196, eX8_asIf_198, eX8_asIf_201, eX8_asIf_208, eX8_asIf_210, eX8_asIf_215, eX8_asIf_217, eX8_asIf_218, eX8_asIf_220, eX8_asIf_222, eX8_asIf_224, eX8_asIf_228, eX8_asIf_232, eX8_asIf_234, eX8_asIf_236, eX8_asIf_237, eX8_asIf_239, eX8_asIf_242, eX8_asIf_245, eX8_asIf_246, eX8_asIf_251, eX8_asIf_253, eX8_asIf_256, eX8_asIf_258, eX8_asIf_260, eX8_asIf_261, lit_0, lit_1]
      have dd := digs l hl c hc (.inl (-4)) v5 (.inl (nI (9 ^ l))) l 0 σ.1 N σ.2.1 σ.2.2 v12 (by omega) R SN hs (fun N' ok f' p' g' v9 v11 v12 R' S' hs' hiff => by
        -- what follows the touches
        have lets : ∀ (v4 v5 : bV), (∀ N2, TR M N2 → (∀ j, j < 11 → gI N2 11 3 j = gI M 11 3 j) → ExG 1 (Run 1 (d + 3)) 8 1 false none cX8_asIf Q 62 [vr 8 0, .inl (nI i), .inl (nI s), .inl (nI k), v4, v5, .inl (nI (9 ^ l)), .inl (nI l), .inl (nI (c + 1)), v9, .inl (bi ok), v11, v12] [] N2) → ExG 1 (Run 1 (d + 3)) 8 1 false none cX8_asIf Q 181 [vr 8 0, .inl (nI i), .inl (nI s), .inl (nI k), v4, v5, .inl (nI (9 ^ l)), .inl (nI l), .inl (nI c), v9, .inl (bi ok), v11, v12] [] N' := by
          intro v4 v5 hf
          simp only [eX8_asIf_0, eX8_asIf_1, eX8_asIf_2, eX8_asIf_5, eX8_asIf_8, eX8_asIf_9, eX8_asIf_10, eX8_asIf_12, eX8_asIf_15, eX8_asIf_18, eX8_asIf_19, eX8_asIf_20, eX8_asIf_21, eX8_asIf_24, eX8_asIf_27, eX8_asIf_28, eX8_asIf_29, eX8_asIf_30, eX8_asIf_33, eX8_asIf_35, eX8_asIf_37, eX8_asIf_38, eX8_asIf_40, eX8_asIf_41, eX8_asIf_43, eX8_asIf_44, eX8_asIf_48, eX8_asIf_52, eX8_asIf_54, eX8_asIf_59, eX8_asIf_60, eX8_asIf_64, eX8_asIf_69, eX8_asIf_71, eX8_asIf_76, eX8_asIf_78, eX8_asIf_80, eX8_asIf_81, eX8_asIf_83, eX8_asIf_84, eX8_asIf_88, eX8_asIf_93, eX8_asIf_98, eX8_asIf_100, eX8_asIf_102, eX8_asIf_103, eX8_asIf_105, eX8_asIf_107, eX8_asIf_109, eX8_asIf_110, eX8_asIf_112, eX8_asIf_113, eX8_asIf_115, eX8_asIf_117, eX8_asIf_118, eX8_asIf_121, eX8_asIf_122, eX8_asIf_126, eX8_asIf_128, eX8_asIf_132, eX8_asIf_133, eX8_asIf_136, eX8_asIf_137, eX8_asIf_139, eX8_asIf_144, eX8_asIf_145, eX8_asIf_146, eX8_asIf_148, eX8_asIf_151, eX8_asIf_152, eX8_asIf_155, eX8_asIf_163, eX8_asIf_164, eX8_asIf_167, eX8_asIf_168, eX8_asIf_169, eX8_asIf_173, eX8_asIf_175, eX8_asIf_177, eX8_asIf_179, eX8_asIf_181, eX8_asIf_182, eX8_asIf_185, eX8_asIf_188, eX8_asIf_191, eX8_asIf_193, eX8_asIf_195, eX8_asIf_196, eX8_asIf_198, eX8_asIf_201, eX8_asIf_208, eX8_asIf_210, eX8_asIf_215, eX8_asIf_217, eX8_asIf_218, eX8_asIf_220, eX8_asIf_222, eX8_asIf_224, eX8_asIf_228, eX8_asIf_232, eX8_asIf_234, eX8_asIf_236, eX8_asIf_237, eX8_asIf_239, eX8_asIf_242, eX8_asIf_245, eX8_asIf_246, eX8_asIf_251, eX8_asIf_253, eX8_asIf_256, eX8_asIf_258, eX8_asIf_260, eX8_asIf_261, c8_, c11_0, c11_1, c11_2, c11_3, c11_4, c11_5, c11_6, c11_7, c11_8, c11_9, alm_0, alm_1, alm_2, alm_3, alm_4, alm_5, alm_6, alm_7, alm_8, alm_9, vT, true_and]
          refine tX8_lets R' (fun N2 R2 h2 => ?_)
          simp only [psh_u, eX8_asIf_0, eX8_asIf_1, eX8_asIf_2, eX8_asIf_5, eX8_asIf_8, eX8_asIf_9, eX8_asIf_10, eX8_asIf_12, eX8_asIf_15, eX8_asIf_18, eX8_asIf_19, eX8_asIf_20, eX8_asIf_21, eX8_asIf_24, eX8_asIf_27, eX8_asIf_28, eX8_asIf_29, eX8_asIf_30, eX8_asIf_33, eX8_asIf_35, eX8_asIf_37, eX8_asIf_38, eX8_asIf_40, eX8_asIf_41, eX8_asIf_43, eX8_asIf_44, eX8_asIf_48, eX8_asIf_52, eX8_asIf_54, eX8_asIf_59, eX8_asIf_60, eX8_asIf_64, eX8_asIf_69, eX8_asIf_71, eX8_asIf_76, eX8_asIf_78, eX8_asIf_80, eX8_asIf_81, eX8_asIf_83, eX8_asIf_84, eX8_asIf_88, eX8_asIf_93, eX8_asIf_98, eX8_asIf_100, eX8_asIf_102, eX8_asIf_103, eX8_asIf_105, eX8_asIf_107, eX8_asIf_109, eX8_asIf_110, eX8_asIf_112, eX8_asIf_113, eX8_asIf_115, eX8_asIf_117, eX8_asIf_118, eX8_asIf_121, eX8_asIf_122, eX8_asIf_126, eX8_asIf_128, eX8_asIf_132, eX8_asIf_133, eX8_asIf_136, eX8_asIf_137, eX8_asIf_139, eX8_asIf_144, eX8_asIf_145, eX8_asIf_146, eX8_asIf_148, eX8_asIf_151, eX8_asIf_152, eX8_asIf_155, eX8_asIf_163, eX8_asIf_164, eX8_asIf_167, eX8_asIf_168, eX8_asIf_169, eX8_asIf_173, eX8_asIf_175, eX8_asIf_177, eX8_asIf_179, eX8_asIf_181, eX8_asIf_182, eX8_asIf_185, eX8_asIf_188, eX8_asIf_191, eX8_asIf_193, eX8_asIf_195, eX8_asIf_196, eX8_asIf_198, eX8_asIf_201, eX8_asIf_208, eX8_asIf_210, eX8_asIf_215, eX8_asIf_217, eX8_asIf_218, eX8_asIf_220, eX8_asIf_222, eX8_asIf_224, eX8_asIf_228, eX8_asIf_232, eX8_asIf_234, eX8_asIf_236, eX8_asIf_237, eX8_asIf_239, eX8_asIf_242, eX8_asIf_245, eX8_asIf_246, eX8_asIf_251, eX8_asIf_253, eX8_asIf_256, eX8_asIf_258, eX8_asIf_260, eX8_asIf_261, nI_1]
          exact hf N2 R2 h2
        have failE : go9 τ i s l c σ.1 = false → ExG 1 (Run 1 (d + 3)) 8 1 false none cX8_asIf Q 181 [vr 8 0, .inl (nI i), .inl (nI s), .inl (nI k), .inl (-4), v5, .inl (nI (9 ^ l)), .inl (nI l), .inl (nI c), v9, .inl (bi ok), v11, v12] [] N' := by
          intro hgo
          refine lets _ _ (fun N2 R2 h2 => ih (c + 1) N2 _ _ _ _ _ (by omega) (fun c' hc' => ?_) R2 h2)
          by_cases w : c' = c
          · rw [w]; exact hgo
          · exact hall c' (by omega)
        rw [eX8_asIf_158, eX8_asIf_160]
        simp only [bi_0]
        cases ok
        · rw [if_pos rfl]
          exact failE (by
            cases hg : go9 τ i s l c σ.1
            · rfl
            · exact absurd (hiff.mpr hg).1 (by decide))
        · have hfi := hs'.1 i (by omega)
          rw [if_neg (by decide)]
          simp (disch := omega) only [eX8_asIf_0, eX8_asIf_1, eX8_asIf_2, eX8_asIf_5, eX8_asIf_8, eX8_asIf_9, eX8_asIf_10, eX8_asIf_12, eX8_asIf_15, eX8_asIf_18, eX8_asIf_19, eX8_asIf_20, eX8_asIf_21, eX8_asIf_24, eX8_asIf_27, eX8_asIf_28, eX8_asIf_29, eX8_asIf_30, eX8_asIf_33, eX8_asIf_35, eX8_asIf_37, eX8_asIf_38, eX8_asIf_40, eX8_asIf_41, eX8_asIf_43, eX8_asIf_44, eX8_asIf_48, eX8_asIf_52, eX8_asIf_54, eX8_asIf_59, eX8_asIf_60, eX8_asIf_64, eX8_asIf_69, eX8_asIf_71, eX8_asIf_76, eX8_asIf_78, eX8_asIf_80, eX8_asIf_81, eX8_asIf_83, eX8_asIf_84, eX8_asIf_88, eX8_asIf_93, eX8_asIf_98, eX8_asIf_100, eX8_asIf_102, eX8_asIf_103, eX8_asIf_105, eX8_asIf_107, eX8_asIf_109, eX8_asIf_110, eX8_asIf_112, eX8_asIf_113, eX8_asIf_115, eX8_asIf_117, eX8_asIf_118, eX8_asIf_121, eX8_asIf_122, eX8_asIf_126, eX8_asIf_128, eX8_asIf_132, eX8_asIf_133, eX8_asIf_136, eX8_asIf_137, eX8_asIf_139, eX8_asIf_144, eX8_asIf_145, eX8_asIf_146, eX8_asIf_148, eX8_asIf_151, eX8_asIf_152, eX8_asIf_155, eX8_asIf_163, eX8_asIf_164, eX8_asIf_167, eX8_asIf_168, eX8_asIf_169, eX8_asIf_173, eX8_asIf_175, eX8_asIf_177, eX8_asIf_179, eX8_asIf_181, eX8_asIf_182, eX8_asIf_185, eX8_asIf_188, eX8_asIf_191, eX8_asIf_193, eX8_asIf_195, eX8_asIf_196, eX8_asIf_198, eX8_asIf_201, eX8_asIf_208, eX8_asIf_210, eX8_asIf_215, eX8_asIf_217, eX8_asIf_218, eX8_asIf_220, eX8_asIf_222, eX8_asIf_224, eX8_asIf_228, eX8_asIf_232, eX8_asIf_234, eX8_asIf_236, eX8_asIf_237, eX8_asIf_239, eX8_asIf_242, eX8_asIf_245, eX8_asIf_246, eX8_asIf_251, eX8_asIf_253, eX8_asIf_256, eX8_asIf_258, eX8_asIf_260, eX8_asIf_261, c8_, c11_0, c11_1, c11_2, c11_3, c11_4, c11_5, c11_6, c11_7, c11_8, c11_9, alm_0, alm_1, alm_2, alm_3, alm_4, alm_5, alm_6, alm_7, alm_8, alm_9, vT, true_and, nI_clamp, S'.1 i hi]
          rw [eX8_asIf_170]
          have hfi' : f' i ≤ 9 := hfi
          simp (disch := omega) only [nI_eq]
          by_cases w : f' i = s
          · rw [if_pos w]
            have hgo := hiff.mp ⟨rfl, w⟩
            have hR2 := hyes c (fcd_u K hc hgo hall)
            simp only [eX8_asIf_173, eX8_asIf_175, eX8_asIf_177, eX8_asIf_179]
            refine lets (.inl (nI l)) (.inl (nI c)) (fun N2 R2 h2 => ?_)
            have f204 := fun v6 v7 v8 v9 v10 v11 v12 => finS l c hR2 hl hc N2 v6 v7 v8 v9 v10 v11 v12 R2 h2
            have out191 : ExG 1 (Run 1 (d + 3)) 8 1 false none cX8_asIf Q 191 [vr 8 0, .inl (nI i), .inl (nI s), .inl (nI k), .inl (nI l), .inl (nI c), .inl (nI (9 ^ l)), .inl (nI l), .inl (nI (c + 1)), v9, .inl (bi true), v11, v12] [] N2 := by
              simp only [eX8_asIf_0, eX8_asIf_1, eX8_asIf_2, eX8_asIf_5, eX8_asIf_8, eX8_asIf_9, eX8_asIf_10, eX8_asIf_12, eX8_asIf_15, eX8_asIf_18, eX8_asIf_19, eX8_asIf_20, eX8_asIf_21, eX8_asIf_24, eX8_asIf_27, eX8_asIf_28, eX8_asIf_29, eX8_asIf_30, eX8_asIf_33, eX8_asIf_35, eX8_asIf_37, eX8_asIf_38, eX8_asIf_40, eX8_asIf_41, eX8_asIf_43, eX8_asIf_44, eX8_asIf_48, eX8_asIf_52, eX8_asIf_54, eX8_asIf_59, eX8_asIf_60, eX8_asIf_64, eX8_asIf_69, eX8_asIf_71, eX8_asIf_76, eX8_asIf_78, eX8_asIf_80, eX8_asIf_81, eX8_asIf_83, eX8_asIf_84, eX8_asIf_88, eX8_asIf_93, eX8_asIf_98, eX8_asIf_100, eX8_asIf_102, eX8_asIf_103, eX8_asIf_105, eX8_asIf_107, eX8_asIf_109, eX8_asIf_110, eX8_asIf_112, eX8_asIf_113, eX8_asIf_115, eX8_asIf_117, eX8_asIf_118, eX8_asIf_121, eX8_asIf_122, eX8_asIf_126, eX8_asIf_128, eX8_asIf_132, eX8_asIf_133, eX8_asIf_136, eX8_asIf_137, eX8_asIf_139, eX8_asIf_144, eX8_asIf_145, eX8_asIf_146, eX8_asIf_148, eX8_asIf_151, eX8_asIf_152, eX8_asIf_155, eX8_asIf_163, eX8_asIf_164, eX8_asIf_167, eX8_asIf_168, eX8_asIf_169, eX8_asIf_173, eX8_asIf_175, eX8_asIf_177, eX8_asIf_179, eX8_asIf_181, eX8_asIf_182, eX8_asIf_185, eX8_asIf_188, eX8_asIf_191, eX8_asIf_193, eX8_asIf_195, eX8_asIf_196, eX8_asIf_198, eX8_asIf_201, eX8_asIf_208, eX8_asIf_210, eX8_asIf_215, eX8_asIf_217, eX8_asIf_218, eX8_asIf_220, eX8_asIf_222, eX8_asIf_224, eX8_asIf_228, eX8_asIf_232, eX8_asIf_234, eX8_asIf_236, eX8_asIf_237, eX8_asIf_239, eX8_asIf_242, eX8_asIf_245, eX8_asIf_246, eX8_asIf_251, eX8_asIf_253, eX8_asIf_256, eX8_asIf_258, eX8_asIf_260, eX8_asIf_261, nI_1, e9_, pk_mul]
              rw [eX8_asIf_46, eX8_asIf_48, eX8_asIf_49]
              simp (disch := omega) only [lit_4, nI_leI]
              by_cases l4 : 4 ≤ l + 1
              · rw [if_pos l4]
                exact f204 _ _ _ _ _ _ _
              · rw [if_neg l4, eX8_asIf_52, eX8_asIf_54, eX8_asIf_56]
                simp (disch := omega) only [neg4, if_false]
                exact f204 _ _ _ _ _ _ _
            rw [eX8_asIf_62, eX8_asIf_64, eX8_asIf_66]
            simp (disch := omega) only [nI_leI]
            by_cases l9 : 9 ^ l ≤ c + 1
            · rw [if_pos l9]
              exact out191
            · rw [if_neg l9, eX8_asIf_69, eX8_asIf_71, eX8_asIf_73]
              simp (disch := omega) only [neg4, if_false]
              exact out191
          · rw [if_neg w]
            exact failE (by
              cases hg : go9 τ i s l c σ.1
              · rfl
              · exact absurd (hiff.mpr hg).2 w))
      rw [Nat.sub_zero] at dd
      exact dd
  have out : ∀ r l N v5 v8 v9 v10 v11 v12, l + r = 4 → shF τ i s σ.1 r l = RR → TR M N → (∀ j, j < 11 → gI N 11 3 j = gI M 11 3 j) → ExG 1 (Run 1 (d + 3)) 8 1 false none cX8_asIf Q 46 [vr 8 0, .inl (nI i), .inl (nI s), .inl (nI k), .inl (-4), v5, .inl (nI (9 ^ l)), .inl (nI l), v8, v9, v10, v11, v12] [] N := by
    intro r
    induction r with
    | zero =>
      intro l N v5 v8 v9 v10 v11 v12 el hr R h
      have el' : l = 4 := el
      subst el'
      rw [eX8_asIf_46, eX8_asIf_48, eX8_asIf_49]
      simp (disch := omega) only [lit_4, nI_leI, Nat.le_refl, if_true]
      exact finN hr.symm N _ _ _ _ _ _ _ _ R h
    | succ r ih =>
      intro l N v5 v8 v9 v10 v11 v12 el hr R h
      unfold shF at hr
      rw [eX8_asIf_46, eX8_asIf_48, eX8_asIf_49]
      rw [if_neg (show ¬ (4 : Int32) ≤ nI l by rw [show (4 : Int32) = nI 4 from rfl, nI_leI (by decide) (by omega)]; omega)]
      rw [eX8_asIf_52, eX8_asIf_54, eX8_asIf_56, if_pos rfl]
      simp only [eX8_asIf_0, eX8_asIf_1, eX8_asIf_2, eX8_asIf_5, eX8_asIf_8, eX8_asIf_9, eX8_asIf_10, eX8_asIf_12, eX8_asIf_15, eX8_asIf_18, eX8_asIf_19, eX8_asIf_20, eX8_asIf_21, eX8_asIf_24, eX8_asIf_27, eX8_asIf_28, eX8_asIf_29, eX8_asIf_30, eX8_asIf_33, eX8_asIf_35, eX8_asIf_37, eX8_asIf_38, eX8_asIf_40, eX8_asIf_41, eX8_asIf_43, eX8_asIf_44, eX8_asIf_48, eX8_asIf_52, eX8_asIf_54, eX8_asIf_59, eX8_asIf_60, eX8_asIf_64, eX8_asIf_69, eX8_asIf_71, eX8_asIf_76, eX8_asIf_78, eX8_asIf_80, eX8_asIf_81, eX8_asIf_83, eX8_asIf_84, eX8_asIf_88, eX8_asIf_93, eX8_asIf_98, eX8_asIf_100, eX8_asIf_102, eX8_asIf_103, eX8_asIf_105, eX8_asIf_107, eX8_asIf_109, eX8_asIf_110, eX8_asIf_112, eX8_asIf_113, eX8_asIf_115, eX8_asIf_117, eX8_asIf_118, eX8_asIf_121, eX8_asIf_122, eX8_asIf_126, eX8_asIf_128, eX8_asIf_132, eX8_asIf_133, eX8_asIf_136, eX8_asIf_137, eX8_asIf_139, eX8_asIf_144, eX8_asIf_145, eX8_asIf_146, eX8_asIf_148, eX8_asIf_151, eX8_asIf_152, eX8_asIf_155, eX8_asIf_163, eX8_asIf_164, eX8_asIf_167, eX8_asIf_168, eX8_asIf_169, eX8_asIf_173, eX8_asIf_175, eX8_asIf_177, eX8_asIf_179, eX8_asIf_181, eX8_asIf_182, eX8_asIf_185, eX8_asIf_188, eX8_asIf_191, eX8_asIf_193, eX8_asIf_195, eX8_asIf_196, eX8_asIf_198, eX8_asIf_201, eX8_asIf_208, eX8_asIf_210, eX8_asIf_215, eX8_asIf_217, eX8_asIf_218, eX8_asIf_220, eX8_asIf_222, eX8_asIf_224, eX8_asIf_228, eX8_asIf_232, eX8_asIf_234, eX8_asIf_236, eX8_asIf_237, eX8_asIf_239, eX8_asIf_242, eX8_asIf_245, eX8_asIf_246, eX8_asIf_251, eX8_asIf_253, eX8_asIf_256, eX8_asIf_258, eX8_asIf_260, eX8_asIf_261, lit_0]
      refine cods l (by omega) (fun v8 v9 v10 v11 v12 N2 hno R2 h2 v5 => ?_) (fun c hc => ?_) (9 ^ l) 0 N _ _ _ _ _ (by omega) (fun c' hc' => by omega) R h
      · rw [hno] at hr
        exact ih (l + 1) N2 _ _ _ _ _ _ (by omega) hr R2 h2
      · rw [hc] at hr
        exact hr.symm
  refine tX8_holds (fun N R hN => ?_)
  have := out 4 0 N (.inl (nI 0)) vu vu vu vu vu (by omega) hR R (fun j _ => hN j)
  rw [Nat.pow_zero] at this
  simp only [psh_u, eX8_asIf_0, eX8_asIf_1, eX8_asIf_2, eX8_asIf_5, eX8_asIf_8, eX8_asIf_9, eX8_asIf_10, eX8_asIf_12, eX8_asIf_15, eX8_asIf_18, eX8_asIf_19, eX8_asIf_20, eX8_asIf_21, eX8_asIf_24, eX8_asIf_27, eX8_asIf_28, eX8_asIf_29, eX8_asIf_30, eX8_asIf_33, eX8_asIf_35, eX8_asIf_37, eX8_asIf_38, eX8_asIf_40, eX8_asIf_41, eX8_asIf_43, eX8_asIf_44, eX8_asIf_48, eX8_asIf_52, eX8_asIf_54, eX8_asIf_59, eX8_asIf_60, eX8_asIf_64, eX8_asIf_69, eX8_asIf_71, eX8_asIf_76, eX8_asIf_78, eX8_asIf_80, eX8_asIf_81, eX8_asIf_83, eX8_asIf_84, eX8_asIf_88, eX8_asIf_93, eX8_asIf_98, eX8_asIf_100, eX8_asIf_102, eX8_asIf_103, eX8_asIf_105, eX8_asIf_107, eX8_asIf_109, eX8_asIf_110, eX8_asIf_112, eX8_asIf_113, eX8_asIf_115, eX8_asIf_117, eX8_asIf_118, eX8_asIf_121, eX8_asIf_122, eX8_asIf_126, eX8_asIf_128, eX8_asIf_132, eX8_asIf_133, eX8_asIf_136, eX8_asIf_137, eX8_asIf_139, eX8_asIf_144, eX8_asIf_145, eX8_asIf_146, eX8_asIf_148, eX8_asIf_151, eX8_asIf_152, eX8_asIf_155, eX8_asIf_163, eX8_asIf_164, eX8_asIf_167, eX8_asIf_168, eX8_asIf_169, eX8_asIf_173, eX8_asIf_175, eX8_asIf_177, eX8_asIf_179, eX8_asIf_181, eX8_asIf_182, eX8_asIf_185, eX8_asIf_188, eX8_asIf_191, eX8_asIf_193, eX8_asIf_195, eX8_asIf_196, eX8_asIf_198, eX8_asIf_201, eX8_asIf_208, eX8_asIf_210, eX8_asIf_215, eX8_asIf_217, eX8_asIf_218, eX8_asIf_220, eX8_asIf_222, eX8_asIf_224, eX8_asIf_228, eX8_asIf_232, eX8_asIf_234, eX8_asIf_236, eX8_asIf_237, eX8_asIf_239, eX8_asIf_242, eX8_asIf_245, eX8_asIf_246, eX8_asIf_251, eX8_asIf_253, eX8_asIf_256, eX8_asIf_258, eX8_asIf_260, eX8_asIf_261, lit_0, lit_1]
  exact this
end M10
