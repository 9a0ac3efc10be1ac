/-! the model's calls, 2 -/
theorem cnE_st (f : Nat → Nat) (v n : Nat) : cnE f v (n + 1) = cnE f v n + if f n = v then 1 else 0 := rfl
section M2
variable {d G : Nat} {M : bM} {lt : Nat → Nat} {len : Nat} {τ : Nat → Nat → Nat} {σ : sT} {pa : Nat → sT} {ph : Nat} {ka : Nat → sT} {kh : Nat} {ci cs : Nat → Nat} {cn : Nat} {Q : bV → bM → Prop}
theorem tX8_shaded (T : MT M 1 τ) (K : OKh τ) (hs : OKs σ) (S : MS M (τ 7 0) σ) : Run 1 (d + 1) 140 [vr 8 0] M Q = Q (.inl (nI (τ 7 0 - cnE σ.1 0 (τ 7 0)))) M := by
  have hn := K.1
  rw [rX8_shaded]
  simp only [eX8_shaded_0, eX8_shaded_1, eX8_shaded_2, eX8_shaded_3, eX8_shaded_5, eX8_shaded_6, eX8_shaded_9, eX8_shaded_10, eX8_shaded_11, eX8_shaded_14, eX8_shaded_15, eX8_shaded_16, eX8_shaded_19, eX8_shaded_20, eX8_shaded_21, eX8_shaded_24, eX8_shaded_25, eX8_shaded_28, eX8_shaded_29, eX8_shaded_30, eX8_shaded_31, eX8_shaded_34, eX8_shaded_37, eX8_shaded_38, lit_0]
  refine (eq_up (fun i => ExG 1 (Run 1 d) 8 1 false none cX8_shaded Q 4 [vr 8 0, .inl (nI (i - cnE σ.1 0 i)), .inl (nI i)] [] M) (Nat.zero_le (τ 7 0)) (fun i _ hi => ?_)).trans ?_
  · have hsi := hs.1 i (by omega)
    have hc := cnE_le σ.1 0 i
    rw [eX8_shaded_4]
    simp (disch := omega) only [eX8_shaded_0, eX8_shaded_1, eX8_shaded_2, eX8_shaded_3, eX8_shaded_5, eX8_shaded_6, eX8_shaded_9, eX8_shaded_10, eX8_shaded_11, eX8_shaded_14, eX8_shaded_15, eX8_shaded_16, eX8_shaded_19, eX8_shaded_20, eX8_shaded_21, eX8_shaded_24, eX8_shaded_25, eX8_shaded_28, eX8_shaded_29, eX8_shaded_30, eX8_shaded_31, eX8_shaded_34, eX8_shaded_37, eX8_shaded_38, c8_, c11_0, c11_1, c11_2, c11_3, c11_4, c11_5, c11_6, c11_7, c11_8, c11_9, alm_0, alm_1, alm_2, alm_3, alm_4, alm_5, alm_6, alm_7, alm_8, alm_9, vT, true_and, lit_0, lit_1, nI_clamp, T.1, nI_leI, if_neg (Nat.not_le.mpr hi), S.1 i hi, nI_add]
    rw [cnE_st]
    by_cases c : σ.1 i = 0
    · rw [if_pos c, if_pos (by omega), show i + 1 - (cnE σ.1 0 i + 1) = i - cnE σ.1 0 i + 0 by omega]
    · rw [if_neg c, if_neg (by omega), show i + 1 - (cnE σ.1 0 i + 0) = i - cnE σ.1 0 i + 1 by omega]
  · rw [eX8_shaded_4]
    simp (disch := omega) only [eX8_shaded_0, eX8_shaded_1, eX8_shaded_2, eX8_shaded_3, eX8_shaded_5, eX8_shaded_6, eX8_shaded_9, eX8_shaded_10, eX8_shaded_11, eX8_shaded_14, eX8_shaded_15, eX8_shaded_16, eX8_shaded_19, eX8_shaded_20, eX8_shaded_21, eX8_shaded_24, eX8_shaded_25, eX8_shaded_28, eX8_shaded_29, eX8_shaded_30, eX8_shaded_31, eX8_shaded_34, eX8_shaded_37, eX8_shaded_38, c8_, c11_0, c11_1, c11_2, c11_3, c11_4, c11_5, c11_6, c11_7, c11_8, c11_9, alm_0, alm_1, alm_2, alm_3, alm_4, alm_5, alm_6, alm_7, alm_8, alm_9, vT, true_and, lit_0, nI_clamp, T.1, nI_leI, Nat.le_refl, if_true]
theorem vX8_hour {x w : Int32} (C : MA M lt len τ σ pa ph ka kh ci cs cn) (V : VA G τ σ pa ph ka kh ci cs cn) (hQ : Q (.inl (pHour τ x w)) M) : Run 1 (d + 2) 109 [vr 8 0, .inl x, .inl w] M Q := by
  obtain ⟨P, T, S, P0, P1, L⟩ := id C
  obtain ⟨K, n1, hs, hg, -⟩ := V
  have ht := K.2.1
  have hw := K.2.2.1
  rw [rX8_hour]
  have e0 : ∀ x, inB x 0 11 = hsB x 12 := fun x => hs_in (by decide)
  have e1 : ∀ x, inB x 0 1 = eiB x := fun x => ei_in
  simp only [eX8_hour_0, eX8_hour_1, eX8_hour_2, eX8_hour_4, eX8_hour_7, eX8_hour_10, eX8_hour_11, eX8_hour_12, eX8_hour_13, eX8_hour_16, eX8_hour_19, eX8_hour_20, eX8_hour_21, eX8_hour_22, eX8_hour_23, eX8_hour_24, eX8_hour_28, eX8_hour_29, eX8_hour_32, eX8_hour_33, eX8_hour_36, eX8_hour_37, eX8_hour_40, eX8_hour_41, eX8_hour_42, eX8_hour_45, eX8_hour_46, eX8_hour_47, eX8_hour_50, eX8_hour_51, eX8_hour_54, eX8_hour_56, eX8_hour_59, eX8_hour_61, eX8_hour_63, eX8_hour_64, eX8_hour_65, eX8_hour_66, eX8_hour_69, eX8_hour_70, eX8_hour_73, eX8_hour_74, eX8_hour_75, eX8_hour_76, eX8_hour_79, eX8_hour_82, eX8_hour_83, tX8_in, psh_i, bi_0, e0, e1]
  unfold pHour at hQ
  rcases hsB_cases x (n := 12) (by decide) with ⟨j, hj, rfl, e⟩ | e
  · rw [e, if_neg (by decide), nI_clamp (by omega)] at hQ
    rw [e, if_neg (by decide)]
    simp only [lit_0]
    rcases eiB_cases w with ⟨rfl, e3⟩ | ⟨rfl, e3⟩ | e3
    · rw [e3, if_neg (by decide)]
      rw [if_pos (by decide)] at hQ
      refine ((eq_up (fun i => ExG 1 (Run 1 (d + 1)) 8 1 false none cX8_hour Q 26 [vr 8 0, .inl (nI j), .inl (nI 0), .inl (nI (cnE (τ 2) j i)), .inl (nI i)] [] M) (Nat.zero_le (τ 8 0)) (fun i _ hi => ?_)).trans ?_).mpr hQ
      · have h2 := (K.2.2.2.2.2.2.1 i hi).1
        rw [eX8_hour_26]
        simp (disch := omega) only [eX8_hour_0, eX8_hour_1, eX8_hour_2, eX8_hour_4, eX8_hour_7, eX8_hour_10, eX8_hour_11, eX8_hour_12, eX8_hour_13, eX8_hour_16, eX8_hour_19, eX8_hour_20, eX8_hour_21, eX8_hour_22, eX8_hour_23, eX8_hour_24, eX8_hour_28, eX8_hour_29, eX8_hour_32, eX8_hour_33, eX8_hour_36, eX8_hour_37, eX8_hour_40, eX8_hour_41, eX8_hour_42, eX8_hour_45, eX8_hour_46, eX8_hour_47, eX8_hour_50, eX8_hour_51, eX8_hour_54, eX8_hour_56, eX8_hour_59, eX8_hour_61, eX8_hour_63, eX8_hour_64, eX8_hour_65, eX8_hour_66, eX8_hour_69, eX8_hour_70, eX8_hour_73, eX8_hour_74, eX8_hour_75, eX8_hour_76, eX8_hour_79, eX8_hour_82, eX8_hour_83, c8_, c11_0, c11_1, c11_2, c11_3, c11_4, c11_5, c11_6, c11_7, c11_8, c11_9, alm_0, alm_1, alm_2, alm_3, alm_4, alm_5, alm_6, alm_7, alm_8, alm_9, vT, true_and, lit_0, lit_1, lit_2, lit_22, nI_eq, Nat.reduceEqDiff, if_true, if_false, nI_clamp, T.2.1, nI_leI, if_neg (Nat.not_le.mpr hi), (T.2.2.2.2.2.2.1 i hi).1, nI_add]
        rw [cnE_st]
        by_cases c : τ 2 i = j
        · rw [if_pos c, if_pos c]
        · rw [if_neg c, if_neg c]
      · rw [eX8_hour_26]
        simp (disch := omega) only [eX8_hour_0, eX8_hour_1, eX8_hour_2, eX8_hour_4, eX8_hour_7, eX8_hour_10, eX8_hour_11, eX8_hour_12, eX8_hour_13, eX8_hour_16, eX8_hour_19, eX8_hour_20, eX8_hour_21, eX8_hour_22, eX8_hour_23, eX8_hour_24, eX8_hour_28, eX8_hour_29, eX8_hour_32, eX8_hour_33, eX8_hour_36, eX8_hour_37, eX8_hour_40, eX8_hour_41, eX8_hour_42, eX8_hour_45, eX8_hour_46, eX8_hour_47, eX8_hour_50, eX8_hour_51, eX8_hour_54, eX8_hour_56, eX8_hour_59, eX8_hour_61, eX8_hour_63, eX8_hour_64, eX8_hour_65, eX8_hour_66, eX8_hour_69, eX8_hour_70, eX8_hour_73, eX8_hour_74, eX8_hour_75, eX8_hour_76, eX8_hour_79, eX8_hour_82, eX8_hour_83, c8_, c11_0, c11_1, c11_2, c11_3, c11_4, c11_5, c11_6, c11_7, c11_8, c11_9, alm_0, alm_1, alm_2, alm_3, alm_4, alm_5, alm_6, alm_7, alm_8, alm_9, vT, true_and, lit_0, lit_1, lit_2, lit_22, nI_eq, Nat.reduceEqDiff, if_true, if_false, nI_clamp, T.2.1, nI_leI, Nat.le_refl]
    · rw [e3, if_neg (by decide)]
      rw [if_neg (by decide), if_pos (by decide)] at hQ
      refine ((eq_up (fun i => ExG 1 (Run 1 (d + 1)) 8 1 false none cX8_hour Q 26 [vr 8 0, .inl (nI j), .inl (nI 1), .inl (nI (cnE (τ 5) j i)), .inl (nI i)] [] M) (Nat.zero_le (τ 9 0)) (fun i _ hi => ?_)).trans ?_).mpr hQ
      · have h2 := (K.2.2.2.2.2.2.2 i hi).1
        rw [eX8_hour_26]
        simp (disch := omega) only [eX8_hour_0, eX8_hour_1, eX8_hour_2, eX8_hour_4, eX8_hour_7, eX8_hour_10, eX8_hour_11, eX8_hour_12, eX8_hour_13, eX8_hour_16, eX8_hour_19, eX8_hour_20, eX8_hour_21, eX8_hour_22, eX8_hour_23, eX8_hour_24, eX8_hour_28, eX8_hour_29, eX8_hour_32, eX8_hour_33, eX8_hour_36, eX8_hour_37, eX8_hour_40, eX8_hour_41, eX8_hour_42, eX8_hour_45, eX8_hour_46, eX8_hour_47, eX8_hour_50, eX8_hour_51, eX8_hour_54, eX8_hour_56, eX8_hour_59, eX8_hour_61, eX8_hour_63, eX8_hour_64, eX8_hour_65, eX8_hour_66, eX8_hour_69, eX8_hour_70, eX8_hour_73, eX8_hour_74, eX8_hour_75, eX8_hour_76, eX8_hour_79, eX8_hour_82, eX8_hour_83, c8_, c11_0, c11_1, c11_2, c11_3, c11_4, c11_5, c11_6, c11_7, c11_8, c11_9, alm_0, alm_1, alm_2, alm_3, alm_4, alm_5, alm_6, alm_7, alm_8, alm_9, vT, true_and, lit_0, lit_1, lit_2, lit_52, nI_eq, Nat.reduceEqDiff, if_true, if_false, nI_clamp, T.2.2.1, nI_leI, if_neg (Nat.not_le.mpr hi), (T.2.2.2.2.2.2.2 i hi).1, nI_add]
        rw [cnE_st]
        by_cases c : τ 5 i = j
        · rw [if_pos c, if_pos c]
        · rw [if_neg c, if_neg c]
      · rw [eX8_hour_26]
        simp (disch := omega) only [eX8_hour_0, eX8_hour_1, eX8_hour_2, eX8_hour_4, eX8_hour_7, eX8_hour_10, eX8_hour_11, eX8_hour_12, eX8_hour_13, eX8_hour_16, eX8_hour_19, eX8_hour_20, eX8_hour_21, eX8_hour_22, eX8_hour_23, eX8_hour_24, eX8_hour_28, eX8_hour_29, eX8_hour_32, eX8_hour_33, eX8_hour_36, eX8_hour_37, eX8_hour_40, eX8_hour_41, eX8_hour_42, eX8_hour_45, eX8_hour_46, eX8_hour_47, eX8_hour_50, eX8_hour_51, eX8_hour_54, eX8_hour_56, eX8_hour_59, eX8_hour_61, eX8_hour_63, eX8_hour_64, eX8_hour_65, eX8_hour_66, eX8_hour_69, eX8_hour_70, eX8_hour_73, eX8_hour_74, eX8_hour_75, eX8_hour_76, eX8_hour_79, eX8_hour_82, eX8_hour_83, c8_, c11_0, c11_1, c11_2, c11_3, c11_4, c11_5, c11_6, c11_7, c11_8, c11_9, alm_0, alm_1, alm_2, alm_3, alm_4, alm_5, alm_6, alm_7, alm_8, alm_9, vT, true_and, lit_0, lit_1, lit_2, lit_22, nI_eq, Nat.reduceEqDiff, if_true, if_false, nI_clamp, T.2.2.1, nI_leI, Nat.le_refl]
    · rw [e3, if_pos rfl]
      have h0 : ¬ w.toInt = 0 := by
        intro q
        have : w = 0 := Int32.toInt_inj.mp q
        subst this
        exact absurd e3 (by decide)
      have h1 : ¬ w.toInt = 1 := by
        intro q
        have : w = 1 := Int32.toInt_inj.mp q
        subst this
        exact absurd e3 (by decide)
      rw [if_neg h0, if_neg h1] at hQ
      exact hQ
  · rw [if_pos e] at hQ
    rw [if_pos e]
    exact hQ
theorem ppl_st (τ : Nat → Nat → Nat) (n : Nat) : ppl τ (n + 1) = ppl τ n + if per τ n = true then 1 else 0 := rfl
theorem vX8_count {x : Int32} (C : MA M lt len τ σ pa ph ka kh ci cs cn) (V : VA G τ σ pa ph ka kh ci cs cn) (hG : G < 2 ^ 28) (hQ : Q (.inl (pCount τ σ len ph kh cn x)) M) : Run 1 (d + 4) 143 [vr 8 0, .inl x] M Q := by
  obtain ⟨P, T, S, P0, P1, L⟩ := id C
  obtain ⟨K, n1, hs, hg, -⟩ := V
  have hn := K.1
  have pl : ExG 1 (Run 1 (d + 3)) 8 1 false none cX8_count Q 71 [vr 8 0, .inl x, .inl (nI (ppl τ 0)), .inl (nI 0)] [] M = Q (.inl (nI (ppl τ (τ 7 0)))) M := by
    refine (eq_up (fun i => ExG 1 (Run 1 (d + 3)) 8 1 false none cX8_count Q 71 [vr 8 0, .inl x, .inl (nI (ppl τ i)), .inl (nI i)] [] M) (Nat.zero_le (τ 7 0)) (fun i _ hi => ?_)).trans ?_
    · rw [eX8_count_71]
      simp (disch := omega) only [eX8_count_0, eX8_count_1, eX8_count_60, eX8_count_61, eX8_count_64, eX8_count_65, eX8_count_66, eX8_count_67, eX8_count_68, eX8_count_69, eX8_count_70, eX8_count_72, eX8_count_73, eX8_count_76, eX8_count_77, eX8_count_78, eX8_count_81, eX8_count_82, eX8_count_83, eX8_count_84, eX8_count_87, eX8_count_90, eX8_count_91, eX8_count_94, eX8_count_95, eX8_count_96, eX8_count_97, eX8_count_100, eX8_count_103, eX8_count_104, eX8_count_105, eX8_count_106, eX8_count_109, eX8_count_110, eX8_count_111, eX8_count_112, eX8_count_113, eX8_count_116, eX8_count_118, eX8_count_119, eX8_count_121, eX8_count_122, eX8_count_123, eX8_count_124, eX8_count_127, eX8_count_129, eX8_count_130, eX8_count_131, eX8_count_132, eX8_count_135, eX8_count_136, eX8_count_137, eX8_count_140, eX8_count_141, eX8_count_142, eX8_count_145, eX8_count_146, eX8_count_147, eX8_count_150, eX8_count_151, eX8_count_152, eX8_count_155, eX8_count_156, eX8_count_157, eX8_count_160, eX8_count_161, eX8_count_162, eX8_count_163, eX8_count_164, c8_, c11_0, c11_1, c11_2, c11_3, c11_4, c11_5, c11_6, c11_7, c11_8, c11_9, alm_0, alm_1, alm_2, alm_3, alm_4, alm_5, alm_6, alm_7, alm_8, alm_9, vT, true_and, lit_0, lit_1, nI_clamp, T.1, nI_leI, if_neg (Nat.not_le.mpr hi), tX8_isPerson T K n1, hpB_nI K, psh_i, bi_0n, nI_add]
      rw [ppl_st]
      cases per τ i <;> rfl
    · rw [eX8_count_71]
      simp (disch := omega) only [eX8_count_0, eX8_count_1, eX8_count_60, eX8_count_61, eX8_count_64, eX8_count_65, eX8_count_66, eX8_count_67, eX8_count_68, eX8_count_69, eX8_count_70, eX8_count_72, eX8_count_73, eX8_count_76, eX8_count_77, eX8_count_78, eX8_count_81, eX8_count_82, eX8_count_83, eX8_count_84, eX8_count_87, eX8_count_90, eX8_count_91, eX8_count_94, eX8_count_95, eX8_count_96, eX8_count_97, eX8_count_100, eX8_count_103, eX8_count_104, eX8_count_105, eX8_count_106, eX8_count_109, eX8_count_110, eX8_count_111, eX8_count_112, eX8_count_113, eX8_count_116, eX8_count_118, eX8_count_119, eX8_count_121, eX8_count_122, eX8_count_123, eX8_count_124, eX8_count_127, eX8_count_129, eX8_count_130, eX8_count_131, eX8_count_132, eX8_count_135, eX8_count_136, eX8_count_137, eX8_count_140, eX8_count_141, eX8_count_142, eX8_count_145, eX8_count_146, eX8_count_147, eX8_count_150, eX8_count_151, eX8_count_152, eX8_count_155, eX8_count_156, eX8_count_157, eX8_count_160, eX8_count_161, eX8_count_162, eX8_count_163, eX8_count_164, c8_, c11_0, c11_1, c11_2, c11_3, c11_4, c11_5, c11_6, c11_7, c11_8, c11_9, alm_0, alm_1, alm_2, alm_3, alm_4, alm_5, alm_6, alm_7, alm_8, alm_9, vT, true_and, lit_0, lit_1, nI_clamp, T.1, nI_leI, Nat.le_refl, if_true]
  have e12 : nI σ.2.2 - nI σ.2.2 / nI 12 * nI 12 = nI (σ.2.2 % 12) := rem_nI (by omega) (by decide) (by decide)
  rw [show (nI (ppl τ 0)) = nI 0 from rfl] at pl
  rw [rX8_count]
  simp only [eX8_count_0, eX8_count_1]
  unfold pCount at hQ
  by_cases q : x.toInt = 0
  · rw [if_pos q] at hQ ⊢
    simp (disch := omega) only [eX8_count_0, eX8_count_1, eX8_count_60, eX8_count_61, eX8_count_64, eX8_count_65, eX8_count_66, eX8_count_67, eX8_count_68, eX8_count_69, eX8_count_70, eX8_count_72, eX8_count_73, eX8_count_76, eX8_count_77, eX8_count_78, eX8_count_81, eX8_count_82, eX8_count_83, eX8_count_84, eX8_count_87, eX8_count_90, eX8_count_91, eX8_count_94, eX8_count_95, eX8_count_96, eX8_count_97, eX8_count_100, eX8_count_103, eX8_count_104, eX8_count_105, eX8_count_106, eX8_count_109, eX8_count_110, eX8_count_111, eX8_count_112, eX8_count_113, eX8_count_116, eX8_count_118, eX8_count_119, eX8_count_121, eX8_count_122, eX8_count_123, eX8_count_124, eX8_count_127, eX8_count_129, eX8_count_130, eX8_count_131, eX8_count_132, eX8_count_135, eX8_count_136, eX8_count_137, eX8_count_140, eX8_count_141, eX8_count_142, eX8_count_145, eX8_count_146, eX8_count_147, eX8_count_150, eX8_count_151, eX8_count_152, eX8_count_155, eX8_count_156, eX8_count_157, eX8_count_160, eX8_count_161, eX8_count_162, eX8_count_163, eX8_count_164, c8_, c11_0, c11_1, c11_2, c11_3, c11_4, c11_5, c11_6, c11_7, c11_8, c11_9, alm_0, alm_1, alm_2, alm_3, alm_4, alm_5, alm_6, alm_7, alm_8, alm_9, vT, true_and, lit_0, lit_1, lit_3, lit_10, lit_12, nI_clamp, T.1, T.2.1, T.2.2.2.1, S.2.2, P.1, P0.1, P1.1, L.1, nI_eq, Nat.reduceEqDiff, not_false_iff, e12, tX8_shaded T K hs S, psh_i, pl]
    exact hQ
  rw [if_neg q] at hQ ⊢
  clear q
  by_cases q : x.toInt = 1
  · rw [if_pos q] at hQ ⊢
    simp (disch := omega) only [eX8_count_0, eX8_count_1, eX8_count_60, eX8_count_61, eX8_count_64, eX8_count_65, eX8_count_66, eX8_count_67, eX8_count_68, eX8_count_69, eX8_count_70, eX8_count_72, eX8_count_73, eX8_count_76, eX8_count_77, eX8_count_78, eX8_count_81, eX8_count_82, eX8_count_83, eX8_count_84, eX8_count_87, eX8_count_90, eX8_count_91, eX8_count_94, eX8_count_95, eX8_count_96, eX8_count_97, eX8_count_100, eX8_count_103, eX8_count_104, eX8_count_105, eX8_count_106, eX8_count_109, eX8_count_110, eX8_count_111, eX8_count_112, eX8_count_113, eX8_count_116, eX8_count_118, eX8_count_119, eX8_count_121, eX8_count_122, eX8_count_123, eX8_count_124, eX8_count_127, eX8_count_129, eX8_count_130, eX8_count_131, eX8_count_132, eX8_count_135, eX8_count_136, eX8_count_137, eX8_count_140, eX8_count_141, eX8_count_142, eX8_count_145, eX8_count_146, eX8_count_147, eX8_count_150, eX8_count_151, eX8_count_152, eX8_count_155, eX8_count_156, eX8_count_157, eX8_count_160, eX8_count_161, eX8_count_162, eX8_count_163, eX8_count_164, c8_, c11_0, c11_1, c11_2, c11_3, c11_4, c11_5, c11_6, c11_7, c11_8, c11_9, alm_0, alm_1, alm_2, alm_3, alm_4, alm_5, alm_6, alm_7, alm_8, alm_9, vT, true_and, lit_0, lit_1, lit_3, lit_10, lit_12, nI_clamp, T.1, T.2.1, T.2.2.2.1, S.2.2, P.1, P0.1, P1.1, L.1, nI_eq, Nat.reduceEqDiff, not_false_iff, e12, tX8_shaded T K hs S, psh_i, pl]
    exact hQ
  rw [if_neg q] at hQ ⊢
  clear q
  by_cases q : x.toInt = 2
  · rw [if_pos q] at hQ ⊢
    simp (disch := omega) only [eX8_count_0, eX8_count_1, eX8_count_60, eX8_count_61, eX8_count_64, eX8_count_65, eX8_count_66, eX8_count_67, eX8_count_68, eX8_count_69, eX8_count_70, eX8_count_72, eX8_count_73, eX8_count_76, eX8_count_77, eX8_count_78, eX8_count_81, eX8_count_82, eX8_count_83, eX8_count_84, eX8_count_87, eX8_count_90, eX8_count_91, eX8_count_94, eX8_count_95, eX8_count_96, eX8_count_97, eX8_count_100, eX8_count_103, eX8_count_104, eX8_count_105, eX8_count_106, eX8_count_109, eX8_count_110, eX8_count_111, eX8_count_112, eX8_count_113, eX8_count_116, eX8_count_118, eX8_count_119, eX8_count_121, eX8_count_122, eX8_count_123, eX8_count_124, eX8_count_127, eX8_count_129, eX8_count_130, eX8_count_131, eX8_count_132, eX8_count_135, eX8_count_136, eX8_count_137, eX8_count_140, eX8_count_141, eX8_count_142, eX8_count_145, eX8_count_146, eX8_count_147, eX8_count_150, eX8_count_151, eX8_count_152, eX8_count_155, eX8_count_156, eX8_count_157, eX8_count_160, eX8_count_161, eX8_count_162, eX8_count_163, eX8_count_164, c8_, c11_0, c11_1, c11_2, c11_3, c11_4, c11_5, c11_6, c11_7, c11_8, c11_9, alm_0, alm_1, alm_2, alm_3, alm_4, alm_5, alm_6, alm_7, alm_8, alm_9, vT, true_and, lit_0, lit_1, lit_3, lit_10, lit_12, nI_clamp, T.1, T.2.1, T.2.2.2.1, S.2.2, P.1, P0.1, P1.1, L.1, nI_eq, Nat.reduceEqDiff, not_false_iff, e12, tX8_shaded T K hs S, psh_i, pl]
    exact hQ
  rw [if_neg q] at hQ ⊢
  clear q
  by_cases q : x.toInt = 3
  · rw [if_pos q] at hQ ⊢
    simp (disch := omega) only [eX8_count_0, eX8_count_1, eX8_count_60, eX8_count_61, eX8_count_64, eX8_count_65, eX8_count_66, eX8_count_67, eX8_count_68, eX8_count_69, eX8_count_70, eX8_count_72, eX8_count_73, eX8_count_76, eX8_count_77, eX8_count_78, eX8_count_81, eX8_count_82, eX8_count_83, eX8_count_84, eX8_count_87, eX8_count_90, eX8_count_91, eX8_count_94, eX8_count_95, eX8_count_96, eX8_count_97, eX8_count_100, eX8_count_103, eX8_count_104, eX8_count_105, eX8_count_106, eX8_count_109, eX8_count_110, eX8_count_111, eX8_count_112, eX8_count_113, eX8_count_116, eX8_count_118, eX8_count_119, eX8_count_121, eX8_count_122, eX8_count_123, eX8_count_124, eX8_count_127, eX8_count_129, eX8_count_130, eX8_count_131, eX8_count_132, eX8_count_135, eX8_count_136, eX8_count_137, eX8_count_140, eX8_count_141, eX8_count_142, eX8_count_145, eX8_count_146, eX8_count_147, eX8_count_150, eX8_count_151, eX8_count_152, eX8_count_155, eX8_count_156, eX8_count_157, eX8_count_160, eX8_count_161, eX8_count_162, eX8_count_163, eX8_count_164, c8_, c11_0, c11_1, c11_2, c11_3, c11_4, c11_5, c11_6, c11_7, c11_8, c11_9, alm_0, alm_1, alm_2, alm_3, alm_4, alm_5, alm_6, alm_7, alm_8, alm_9, vT, true_and, lit_0, lit_1, lit_3, lit_10, lit_12, nI_clamp, T.1, T.2.1, T.2.2.2.1, S.2.2, P.1, P0.1, P1.1, L.1, nI_eq, Nat.reduceEqDiff, not_false_iff, e12, tX8_shaded T K hs S, psh_i, pl]
    exact hQ
  rw [if_neg q] at hQ ⊢
  clear q
  by_cases q : x.toInt = 4
  · rw [if_pos q] at hQ ⊢
    simp (disch := omega) only [eX8_count_0, eX8_count_1, eX8_count_60, eX8_count_61, eX8_count_64, eX8_count_65, eX8_count_66, eX8_count_67, eX8_count_68, eX8_count_69, eX8_count_70, eX8_count_72, eX8_count_73, eX8_count_76, eX8_count_77, eX8_count_78, eX8_count_81, eX8_count_82, eX8_count_83, eX8_count_84, eX8_count_87, eX8_count_90, eX8_count_91, eX8_count_94, eX8_count_95, eX8_count_96, eX8_count_97, eX8_count_100, eX8_count_103, eX8_count_104, eX8_count_105, eX8_count_106, eX8_count_109, eX8_count_110, eX8_count_111, eX8_count_112, eX8_count_113, eX8_count_116, eX8_count_118, eX8_count_119, eX8_count_121, eX8_count_122, eX8_count_123, eX8_count_124, eX8_count_127, eX8_count_129, eX8_count_130, eX8_count_131, eX8_count_132, eX8_count_135, eX8_count_136, eX8_count_137, eX8_count_140, eX8_count_141, eX8_count_142, eX8_count_145, eX8_count_146, eX8_count_147, eX8_count_150, eX8_count_151, eX8_count_152, eX8_count_155, eX8_count_156, eX8_count_157, eX8_count_160, eX8_count_161, eX8_count_162, eX8_count_163, eX8_count_164, c8_, c11_0, c11_1, c11_2, c11_3, c11_4, c11_5, c11_6, c11_7, c11_8, c11_9, alm_0, alm_1, alm_2, alm_3, alm_4, alm_5, alm_6, alm_7, alm_8, alm_9, vT, true_and, lit_0, lit_1, lit_3, lit_10, lit_12, nI_clamp, T.1, T.2.1, T.2.2.2.1, S.2.2, P.1, P0.1, P1.1, L.1, nI_eq, Nat.reduceEqDiff, not_false_iff, e12, tX8_shaded T K hs S, psh_i, pl]
    exact hQ
  rw [if_neg q] at hQ ⊢
  clear q
  by_cases q : x.toInt = 5
  · rw [if_pos q] at hQ ⊢
    simp (disch := omega) only [eX8_count_0, eX8_count_1, eX8_count_60, eX8_count_61, eX8_count_64, eX8_count_65, eX8_count_66, eX8_count_67, eX8_count_68, eX8_count_69, eX8_count_70, eX8_count_72, eX8_count_73, eX8_count_76, eX8_count_77, eX8_count_78, eX8_count_81, eX8_count_82, eX8_count_83, eX8_count_84, eX8_count_87, eX8_count_90, eX8_count_91, eX8_count_94, eX8_count_95, eX8_count_96, eX8_count_97, eX8_count_100, eX8_count_103, eX8_count_104, eX8_count_105, eX8_count_106, eX8_count_109, eX8_count_110, eX8_count_111, eX8_count_112, eX8_count_113, eX8_count_116, eX8_count_118, eX8_count_119, eX8_count_121, eX8_count_122, eX8_count_123, eX8_count_124, eX8_count_127, eX8_count_129, eX8_count_130, eX8_count_131, eX8_count_132, eX8_count_135, eX8_count_136, eX8_count_137, eX8_count_140, eX8_count_141, eX8_count_142, eX8_count_145, eX8_count_146, eX8_count_147, eX8_count_150, eX8_count_151, eX8_count_152, eX8_count_155, eX8_count_156, eX8_count_157, eX8_count_160, eX8_count_161, eX8_count_162, eX8_count_163, eX8_count_164, c8_, c11_0, c11_1, c11_2, c11_3, c11_4, c11_5, c11_6, c11_7, c11_8, c11_9, alm_0, alm_1, alm_2, alm_3, alm_4, alm_5, alm_6, alm_7, alm_8, alm_9, vT, true_and, lit_0, lit_1, lit_3, lit_10, lit_12, nI_clamp, T.1, T.2.1, T.2.2.2.1, S.2.2, P.1, P0.1, P1.1, L.1, nI_eq, Nat.reduceEqDiff, not_false_iff, e12, tX8_shaded T K hs S, psh_i, pl]
    exact hQ
  rw [if_neg q] at hQ ⊢
  clear q
  by_cases q : x.toInt = 6
  · rw [if_pos q] at hQ ⊢
    simp (disch := omega) only [eX8_count_0, eX8_count_1, eX8_count_60, eX8_count_61, eX8_count_64, eX8_count_65, eX8_count_66, eX8_count_67, eX8_count_68, eX8_count_69, eX8_count_70, eX8_count_72, eX8_count_73, eX8_count_76, eX8_count_77, eX8_count_78, eX8_count_81, eX8_count_82, eX8_count_83, eX8_count_84, eX8_count_87, eX8_count_90, eX8_count_91, eX8_count_94, eX8_count_95, eX8_count_96, eX8_count_97, eX8_count_100, eX8_count_103, eX8_count_104, eX8_count_105, eX8_count_106, eX8_count_109, eX8_count_110, eX8_count_111, eX8_count_112, eX8_count_113, eX8_count_116, eX8_count_118, eX8_count_119, eX8_count_121, eX8_count_122, eX8_count_123, eX8_count_124, eX8_count_127, eX8_count_129, eX8_count_130, eX8_count_131, eX8_count_132, eX8_count_135, eX8_count_136, eX8_count_137, eX8_count_140, eX8_count_141, eX8_count_142, eX8_count_145, eX8_count_146, eX8_count_147, eX8_count_150, eX8_count_151, eX8_count_152, eX8_count_155, eX8_count_156, eX8_count_157, eX8_count_160, eX8_count_161, eX8_count_162, eX8_count_163, eX8_count_164, c8_, c11_0, c11_1, c11_2, c11_3, c11_4, c11_5, c11_6, c11_7, c11_8, c11_9, alm_0, alm_1, alm_2, alm_3, alm_4, alm_5, alm_6, alm_7, alm_8, alm_9, vT, true_and, lit_0, lit_1, lit_3, lit_10, lit_12, nI_clamp, T.1, T.2.1, T.2.2.2.1, S.2.2, P.1, P0.1, P1.1, L.1, nI_eq, Nat.reduceEqDiff, not_false_iff, e12, tX8_shaded T K hs S, psh_i, pl]
    exact hQ
  rw [if_neg q] at hQ ⊢
  clear q
  by_cases q : x.toInt = 7
  · rw [if_pos q] at hQ ⊢
    simp (disch := omega) only [eX8_count_0, eX8_count_1, eX8_count_60, eX8_count_61, eX8_count_64, eX8_count_65, eX8_count_66, eX8_count_67, eX8_count_68, eX8_count_69, eX8_count_70, eX8_count_72, eX8_count_73, eX8_count_76, eX8_count_77, eX8_count_78, eX8_count_81, eX8_count_82, eX8_count_83, eX8_count_84, eX8_count_87, eX8_count_90, eX8_count_91, eX8_count_94, eX8_count_95, eX8_count_96, eX8_count_97, eX8_count_100, eX8_count_103, eX8_count_104, eX8_count_105, eX8_count_106, eX8_count_109, eX8_count_110, eX8_count_111, eX8_count_112, eX8_count_113, eX8_count_116, eX8_count_118, eX8_count_119, eX8_count_121, eX8_count_122, eX8_count_123, eX8_count_124, eX8_count_127, eX8_count_129, eX8_count_130, eX8_count_131, eX8_count_132, eX8_count_135, eX8_count_136, eX8_count_137, eX8_count_140, eX8_count_141, eX8_count_142, eX8_count_145, eX8_count_146, eX8_count_147, eX8_count_150, eX8_count_151, eX8_count_152, eX8_count_155, eX8_count_156, eX8_count_157, eX8_count_160, eX8_count_161, eX8_count_162, eX8_count_163, eX8_count_164, c8_, c11_0, c11_1, c11_2, c11_3, c11_4, c11_5, c11_6, c11_7, c11_8, c11_9, alm_0, alm_1, alm_2, alm_3, alm_4, alm_5, alm_6, alm_7, alm_8, alm_9, vT, true_and, lit_0, lit_1, lit_3, lit_10, lit_12, nI_clamp, T.1, T.2.1, T.2.2.2.1, S.2.2, P.1, P0.1, P1.1, L.1, nI_eq, Nat.reduceEqDiff, not_false_iff, e12, tX8_shaded T K hs S, psh_i, pl]
    exact hQ
  rw [if_neg q] at hQ ⊢
  clear q
  by_cases q : x.toInt = 8
  · rw [if_pos q] at hQ ⊢
    simp (disch := omega) only [eX8_count_0, eX8_count_1, eX8_count_60, eX8_count_61, eX8_count_64, eX8_count_65, eX8_count_66, eX8_count_67, eX8_count_68, eX8_count_69, eX8_count_70, eX8_count_72, eX8_count_73, eX8_count_76, eX8_count_77, eX8_count_78, eX8_count_81, eX8_count_82, eX8_count_83, eX8_count_84, eX8_count_87, eX8_count_90, eX8_count_91, eX8_count_94, eX8_count_95, eX8_count_96, eX8_count_97, eX8_count_100, eX8_count_103, eX8_count_104, eX8_count_105, eX8_count_106, eX8_count_109, eX8_count_110, eX8_count_111, eX8_count_112, eX8_count_113, eX8_count_116, eX8_count_118, eX8_count_119, eX8_count_121, eX8_count_122, eX8_count_123, eX8_count_124, eX8_count_127, eX8_count_129, eX8_count_130, eX8_count_131, eX8_count_132, eX8_count_135, eX8_count_136, eX8_count_137, eX8_count_140, eX8_count_141, eX8_count_142, eX8_count_145, eX8_count_146, eX8_count_147, eX8_count_150, eX8_count_151, eX8_count_152, eX8_count_155, eX8_count_156, eX8_count_157, eX8_count_160, eX8_count_161, eX8_count_162, eX8_count_163, eX8_count_164, c8_, c11_0, c11_1, c11_2, c11_3, c11_4, c11_5, c11_6, c11_7, c11_8, c11_9, alm_0, alm_1, alm_2, alm_3, alm_4, alm_5, alm_6, alm_7, alm_8, alm_9, vT, true_and, lit_0, lit_1, lit_3, lit_10, lit_12, nI_clamp, T.1, T.2.1, T.2.2.2.1, S.2.2, P.1, P0.1, P1.1, L.1, nI_eq, Nat.reduceEqDiff, not_false_iff, e12, tX8_shaded T K hs S, psh_i, pl]
    exact hQ
  rw [if_neg q] at hQ ⊢
  clear q
  by_cases q : x.toInt = 9
  · rw [if_pos q] at hQ ⊢
    simp (disch := omega) only [eX8_count_0, eX8_count_1, eX8_count_60, eX8_count_61, eX8_count_64, eX8_count_65, eX8_count_66, eX8_count_67, eX8_count_68, eX8_count_69, eX8_count_70, eX8_count_72, eX8_count_73, eX8_count_76, eX8_count_77, eX8_count_78, eX8_count_81, eX8_count_82, eX8_count_83, eX8_count_84, eX8_count_87, eX8_count_90, eX8_count_91, eX8_count_94, eX8_count_95, eX8_count_96, eX8_count_97, eX8_count_100, eX8_count_103, eX8_count_104, eX8_count_105, eX8_count_106, eX8_count_109, eX8_count_110, eX8_count_111, eX8_count_112, eX8_count_113, eX8_count_116, eX8_count_118, eX8_count_119, eX8_count_121, eX8_count_122, eX8_count_123, eX8_count_124, eX8_count_127, eX8_count_129, eX8_count_130, eX8_count_131, eX8_count_132, eX8_count_135, eX8_count_136, eX8_count_137, eX8_count_140, eX8_count_141, eX8_count_142, eX8_count_145, eX8_count_146, eX8_count_147, eX8_count_150, eX8_count_151, eX8_count_152, eX8_count_155, eX8_count_156, eX8_count_157, eX8_count_160, eX8_count_161, eX8_count_162, eX8_count_163, eX8_count_164, c8_, c11_0, c11_1, c11_2, c11_3, c11_4, c11_5, c11_6, c11_7, c11_8, c11_9, alm_0, alm_1, alm_2, alm_3, alm_4, alm_5, alm_6, alm_7, alm_8, alm_9, vT, true_and, lit_0, lit_1, lit_3, lit_10, lit_12, nI_clamp, T.1, T.2.1, T.2.2.2.1, S.2.2, P.1, P0.1, P1.1, L.1, nI_eq, Nat.reduceEqDiff, not_false_iff, e12, tX8_shaded T K hs S, psh_i, pl]
    exact hQ
  rw [if_neg q] at hQ ⊢
  clear q
  by_cases q : x.toInt = 10
  · rw [if_pos q] at hQ ⊢
    simp (disch := omega) only [eX8_count_0, eX8_count_1, eX8_count_60, eX8_count_61, eX8_count_64, eX8_count_65, eX8_count_66, eX8_count_67, eX8_count_68, eX8_count_69, eX8_count_70, eX8_count_72, eX8_count_73, eX8_count_76, eX8_count_77, eX8_count_78, eX8_count_81, eX8_count_82, eX8_count_83, eX8_count_84, eX8_count_87, eX8_count_90, eX8_count_91, eX8_count_94, eX8_count_95, eX8_count_96, eX8_count_97, eX8_count_100, eX8_count_103, eX8_count_104, eX8_count_105, eX8_count_106, eX8_count_109, eX8_count_110, eX8_count_111, eX8_count_112, eX8_count_113, eX8_count_116, eX8_count_118, eX8_count_119, eX8_count_121, eX8_count_122, eX8_count_123, eX8_count_124, eX8_count_127, eX8_count_129, eX8_count_130, eX8_count_131, eX8_count_132, eX8_count_135, eX8_count_136, eX8_count_137, eX8_count_140, eX8_count_141, eX8_count_142, eX8_count_145, eX8_count_146, eX8_count_147, eX8_count_150, eX8_count_151, eX8_count_152, eX8_count_155, eX8_count_156, eX8_count_157, eX8_count_160, eX8_count_161, eX8_count_162, eX8_count_163, eX8_count_164, c8_, c11_0, c11_1, c11_2, c11_3, c11_4, c11_5, c11_6, c11_7, c11_8, c11_9, alm_0, alm_1, alm_2, alm_3, alm_4, alm_5, alm_6, alm_7, alm_8, alm_9, vT, true_and, lit_0, lit_1, lit_3, lit_10, lit_12, nI_clamp, T.1, T.2.1, T.2.2.2.1, S.2.2, P.1, P0.1, P1.1, L.1, nI_eq, Nat.reduceEqDiff, not_false_iff, e12, tX8_shaded T K hs S, psh_i, pl]
    exact hQ
  rw [if_neg q] at hQ ⊢
  clear q
  simp only [eX8_count_0, eX8_count_1, eX8_count_60, eX8_count_61, eX8_count_64, eX8_count_65, eX8_count_66, eX8_count_67, eX8_count_68, eX8_count_69, eX8_count_70, eX8_count_72, eX8_count_73, eX8_count_76, eX8_count_77, eX8_count_78, eX8_count_81, eX8_count_82, eX8_count_83, eX8_count_84, eX8_count_87, eX8_count_90, eX8_count_91, eX8_count_94, eX8_count_95, eX8_count_96, eX8_count_97, eX8_count_100, eX8_count_103, eX8_count_104, eX8_count_105, eX8_count_106, eX8_count_109, eX8_count_110, eX8_count_111, eX8_count_112, eX8_count_113, eX8_count_116, eX8_count_118, eX8_count_119, eX8_count_121, eX8_count_122, eX8_count_123, eX8_count_124, eX8_count_127, eX8_count_129, eX8_count_130, eX8_count_131, eX8_count_132, eX8_count_135, eX8_count_136, eX8_count_137, eX8_count_140, eX8_count_141, eX8_count_142, eX8_count_145, eX8_count_146, eX8_count_147, eX8_count_150, eX8_count_151, eX8_count_152, eX8_count_155, eX8_count_156, eX8_count_157, eX8_count_160, eX8_count_161, eX8_count_162, eX8_count_163, eX8_count_164]
  exact hQ
theorem vX8_forget (C : MA M lt len τ σ pa ph ka kh ci cs cn) (hQ : ∀ M', MA M' lt len τ σ pa ph ka kh ci cs 0 → Eqx mdS M M' → Q (.inl (nI cn)) M') : Run 1 (d + 1) 130 [vr 8 0] M Q := by
  obtain ⟨P, T, S, P0, P1, L⟩ := id C
  rw [rX8_forget]
  simp only [eX8_forget_0, eX8_forget_1, eX8_forget_4, eX8_forget_5, eX8_forget_6, eX8_forget_7, eX8_forget_10, eX8_forget_11, c8_, c11_0, c11_1, c11_2, c11_3, c11_4, c11_5, c11_6, c11_7, c11_8, c11_9, alm_0, alm_1, alm_2, alm_3, alm_4, alm_5, alm_6, alm_7, alm_8, alm_9, vT, true_and, L.1, lit_0]
  have x1 : Mx (fun a => a = 99) (fun f => f = 10) M (sI M 8 0 10 (nI 0)) := Mx_f rfl
  exact hQ _ ⟨MPg_x x1 (by omega) (by omega) P, MT_x x1 (by omega) T, MS_x x1 (by omega) S, MIs_x x1 (by omega) (by omega) P0, MIs_x x1 (by omega) (by omega) P1, ⟨by rw [gI_sI, if_pos ⟨rfl, rfl, rfl⟩], by decide, fun j hj => by omega⟩⟩ (Mx_E x1)
theorem vX8_show {x y : Int32} (C : MA M lt len τ σ pa ph ka kh ci cs cn) (V : VA G τ σ pa ph ka kh ci cs cn)
    (hQ : ((hsB x (τ 7 0) = false ∨ hsB y 10 = false) → Q (.inl (-1)) M) ∧ ∀ i s, i < τ 7 0 → s < 10 → x = nI i → y = nI s → (cn = 6 → Q (.inl (-3)) M) ∧ (¬ cn = 6 → ∀ M', MA M' lt len τ σ pa ph ka kh (upN ci cn i) (upN cs cn s) (cn + 1) → Eqx mdS M M' → Q (.inl (nI (cn + 1))) M')) : Run 1 (d + 3) 129 [vr 8 0, .inl x, .inl y] M Q := by
  obtain ⟨P, T, S, P0, P1, L⟩ := id C
  obtain ⟨K, n1, hs, hg, -⟩ := V
  have hn := K.1
  have hl := L.2.1
  have e9 : ∀ x, inB x 0 9 = hsB x 10 := fun x => hs_in (by decide)
  rw [rX8_show]
  simp only [eX8_show_0, eX8_show_1, eX8_show_2, eX8_show_5, eX8_show_8, eX8_show_9, eX8_show_10, eX8_show_12, eX8_show_15, eX8_show_18, eX8_show_19, eX8_show_20, eX8_show_21, eX8_show_24, eX8_show_26, eX8_show_29, eX8_show_31, eX8_show_32, eX8_show_33, eX8_show_36, eX8_show_37, eX8_show_40, eX8_show_42, eX8_show_43, eX8_show_44, eX8_show_45, eX8_show_46, eX8_show_47, eX8_show_48, eX8_show_48r, eX8_show_49, eX8_show_52, eX8_show_53, eX8_show_54, eX8_show_57, eX8_show_58, eX8_show_61, c8_, c11_0, c11_1, c11_2, c11_3, c11_4, c11_5, c11_6, c11_7, c11_8, c11_9, alm_0, alm_1, alm_2, alm_3, alm_4, alm_5, alm_6, alm_7, alm_8, alm_9, vT, true_and, tX8_isItem T K n1, tX8_in, e9, psh_i, bi_0]
  rcases hsB_cases x (n := τ 7 0) (by omega) with ⟨i, hi, rfl, e⟩ | e
  · rcases hsB_cases y (n := 10) (by decide) with ⟨s, hs', rfl, e2⟩ | e2
    · have hQ := hQ.2 i s hi hs' rfl rfl
      rw [e, e2, if_neg (by decide), if_neg (by decide)]
      simp (disch := omega) only [L.1, lit_6, nI_eq]
      by_cases q : cn = 6
      · rw [if_pos q]
        exact hQ.1 q
      · rw [if_neg q]
        have x1 : Mx (fun a => a = 6) (fun f => f = 10) M (sI (sI M 11 6 cn (nI (10 * i + s))) 8 0 10 (nI (cn + 1))) := Mx_tr (Mx_a rfl) (Mx_f rfl)
        have e81 : ∀ {M : bM} {v w : Int32} {l : Nat}, gI M 8 0 10 = w → gI (sI M 11 6 l v) 8 0 10 = w := fun h => by rw [gI_sI, if_neg (by omega)]; exact h
        simp (disch := omega) only [lit_10, pk_mul, nI_add, vT, nI_clamp, true_and, e81 L.1, nI_1, gI_sI, and_self, if_true]
        refine hQ.2 q _ ?_ (Mx_E x1)
        refine ⟨MPg_x x1 (by omega) (by omega) P, MT_x x1 (by omega) T, MS_x x1 (by omega) S, MIs_x x1 (by omega) (by omega) P0, MIs_x x1 (by omega) (by omega) P1, ⟨by rw [gI_sI, if_pos ⟨rfl, rfl, rfl⟩], by omega, fun j hj => ?_⟩⟩
        rw [gI_sI, if_neg (by omega), gI_sI]
        unfold upN
        by_cases w : j = cn
        · rw [if_pos ⟨rfl, rfl, w⟩, if_pos w, if_pos w]
        · rw [if_neg (by omega), if_neg w, if_neg w]; exact L.2.2 j (by omega)
    · rw [e, e2, if_neg (by decide), if_pos rfl]
      exact hQ.1 (Or.inr e2)
  · rw [e, if_pos rfl]
    exact hQ.1 (Or.inl e)
theorem vX8_soap {x : Int32} (C : MA M lt len τ σ pa ph ka kh ci cs cn) (V : VA G τ σ pa ph ka kh ci cs cn) (hQ : Q (.inl (pSoap τ σ x)) M) : Run 1 (d + 4) 127 [vr 8 0, .inl x] M Q := by
  obtain ⟨P, T, S, P0, P1, L⟩ := id C
  obtain ⟨K, n1, hs, hg, -⟩ := V
  have hn := K.1
  have e9 : ∀ x, inB x 0 9 = hsB x 10 := fun x => hs_in (by decide)
  rw [rX8_soap]
  simp only [eX8_soap_0, eX8_soap_1, eX8_soap_2, eX8_soap_4, eX8_soap_7, eX8_soap_10, eX8_soap_11, eX8_soap_12, eX8_soap_13, eX8_soap_14, eX8_soap_15, eX8_soap_17, eX8_soap_18, eX8_soap_21, eX8_soap_22, eX8_soap_23, eX8_soap_26, eX8_soap_27, eX8_soap_28, eX8_soap_31, eX8_soap_33, eX8_soap_34, eX8_soap_35, eX8_soap_36, eX8_soap_39, eX8_soap_42, eX8_soap_43, eX8_soap_46, eX8_soap_47, eX8_soap_48, eX8_soap_49, eX8_soap_52, eX8_soap_53, eX8_soap_56, eX8_soap_57, eX8_soap_58, eX8_soap_59, eX8_soap_60, eX8_soap_62, eX8_soap_63, eX8_soap_64, eX8_soap_65, eX8_soap_67, eX8_soap_68, eX8_soap_71, eX8_soap_72, eX8_soap_73, eX8_soap_74, eX8_soap_77, eX8_soap_80, eX8_soap_81, tX8_in, e9, psh_i, bi_0]
  unfold pSoap at hQ
  rcases hsB_cases x (n := 10) (by decide) with ⟨g, hg', rfl, e⟩ | e
  · rw [e, if_neg (by decide), nI_clamp (by omega)] at hQ
    rw [e, if_neg (by decide)]
    simp only [lit_0]
    have go : ∀ k i a4, i + k = τ 7 0 → ExG 1 (Run 1 (d + 3)) 8 1 false none cX8_soap Q 16 [vr 8 0, .inl (nI g), .inl (nI (soN τ σ.1 g i)), .inl (nI i), a4] [] M := by
      intro k
      induction k with
      | zero =>
        intro i a4 ei
        have ei' : i = τ 7 0 := ei
        subst ei'
        rw [eX8_soap_16]
        simp (disch := omega) only [eX8_soap_0, eX8_soap_1, eX8_soap_2, eX8_soap_4, eX8_soap_7, eX8_soap_10, eX8_soap_11, eX8_soap_12, eX8_soap_13, eX8_soap_14, eX8_soap_15, eX8_soap_17, eX8_soap_18, eX8_soap_21, eX8_soap_22, eX8_soap_23, eX8_soap_26, eX8_soap_27, eX8_soap_28, eX8_soap_31, eX8_soap_33, eX8_soap_34, eX8_soap_35, eX8_soap_36, eX8_soap_39, eX8_soap_42, eX8_soap_43, eX8_soap_46, eX8_soap_47, eX8_soap_48, eX8_soap_49, eX8_soap_52, eX8_soap_53, eX8_soap_56, eX8_soap_57, eX8_soap_58, eX8_soap_59, eX8_soap_60, eX8_soap_62, eX8_soap_63, eX8_soap_64, eX8_soap_65, eX8_soap_67, eX8_soap_68, eX8_soap_71, eX8_soap_72, eX8_soap_73, eX8_soap_74, eX8_soap_77, eX8_soap_80, eX8_soap_81, c8_, c11_0, c11_1, c11_2, c11_3, c11_4, c11_5, c11_6, c11_7, c11_8, c11_9, alm_0, alm_1, alm_2, alm_3, alm_4, alm_5, alm_6, alm_7, alm_8, alm_9, vT, true_and, lit_0, nI_clamp, T.1, nI_leI, Nat.le_refl, if_true]
        exact hQ
      | succ k ih =>
        intro i a4 ei
        have hi : i < τ 7 0 := by omega
        have hb2 := wby_le τ i
        have hb1 : 1 ≤ wby τ i := by unfold wby; split <;> omega
        have hsi := hs.1 i (by omega)
        have nx := ih (i + 1)
        rw [soN] at nx
        rw [eX8_soap_16]
        simp (disch := omega) only [eX8_soap_0, eX8_soap_1, eX8_soap_2, eX8_soap_4, eX8_soap_7, eX8_soap_10, eX8_soap_11, eX8_soap_12, eX8_soap_13, eX8_soap_14, eX8_soap_15, eX8_soap_17, eX8_soap_18, eX8_soap_21, eX8_soap_22, eX8_soap_23, eX8_soap_26, eX8_soap_27, eX8_soap_28, eX8_soap_31, eX8_soap_33, eX8_soap_34, eX8_soap_35, eX8_soap_36, eX8_soap_39, eX8_soap_42, eX8_soap_43, eX8_soap_46, eX8_soap_47, eX8_soap_48, eX8_soap_49, eX8_soap_52, eX8_soap_53, eX8_soap_56, eX8_soap_57, eX8_soap_58, eX8_soap_59, eX8_soap_60, eX8_soap_62, eX8_soap_63, eX8_soap_64, eX8_soap_65, eX8_soap_67, eX8_soap_68, eX8_soap_71, eX8_soap_72, eX8_soap_73, eX8_soap_74, eX8_soap_77, eX8_soap_80, eX8_soap_81, c8_, c11_0, c11_1, c11_2, c11_3, c11_4, c11_5, c11_6, c11_7, c11_8, c11_9, alm_0, alm_1, alm_2, alm_3, alm_4, alm_5, alm_6, alm_7, alm_8, alm_9, vT, true_and, lit_0, nI_clamp, T.1, nI_leI, if_neg (Nat.not_le.mpr hi), tX8_washesBy T K hi, tX8_isPerson T K n1, hpB_nI K, psh_i, bi_0n, S.1 i hi, nI_1]
        cases hp : per τ i
        · rw [hp, if_neg (by decide)] at nx
          rw [if_pos rfl, nI_add]
          exact nx _ (by omega)
        · rw [hp, if_pos rfl] at nx
          rw [if_neg (by decide)]
          unfold wt at nx
          by_cases c : σ.1 i ≤ g
          · rw [if_pos c] at nx
            rw [if_pos c, nI_add]
            exact nx _ (by omega)
          · rw [if_neg c] at nx
            rw [if_neg c]
            have q1 : nI (σ.1 i) - nI g = nI (σ.1 i - g) := pk_sub (by omega)
            have q2 : nI (σ.1 i - g + wby τ i) - 1 = nI (σ.1 i - g + wby τ i - 1) := pk_sub (a := σ.1 i - g + wby τ i) (b := 1) (by omega)
            have q3 : nI (σ.1 i - g + wby τ i - 1) / nI (wby τ i) = nI ((σ.1 i - g + wby τ i - 1) / wby τ i) := pk_div (by omega) (by omega) (by omega)
            simp (disch := omega) only [q1, nI_add, q2, q3, nI_eq, show ¬ wby τ i = 0 by omega, not_false_iff, true_and]
            exact nx _ (by omega)
    exact go (τ 7 0) 0 _ (by omega)
  · rw [if_pos e] at hQ
    rw [if_pos e]
    exact hQ
end M2
