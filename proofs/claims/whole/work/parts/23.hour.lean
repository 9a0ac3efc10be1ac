/-! contracts: hours -/
theorem rem_nI {a d : Nat} (ha : a < 2 ^ 31) (h0 : 0 < d) (hd : d < 2 ^ 31) : nI a - nI a / nI d * nI d = nI (a % d) := pk_rem ha h0 hd
theorem tX5_fade {z d k h : Nat} {M : bM} {σ : sT} {τ : Nat → Nat → Nat} {Q : bV → bM → Prop} (hk : k < 12) (hh : h < 2) (H : Ho M h τ) (K : OKh τ) (hs : OKs σ) : Run z (d + 3) 47 [vr 5 k, vr 1 h] (wSt M k σ) Q = Q vu (wSt M k (fdN τ (σ.2.2 % 12) (τ 7 0) σ)) := by
  have hn := K.1
  have gk : ∀ σ i, i < 9 → rowAt (wSt M k σ) (2 + 7 * h) (nI i) = nI (τ 0 i) := fun σ i hi => Ho_k hh (Ho_w hh H) hi
  have gn : ∀ σ, gI (wSt M k σ) 1 h 7 = nI (τ 7 0) := fun σ => Ho_n (Ho_w hh H)
  have hr12 : σ.2.2 % 12 < 12 := Nat.mod_lt _ (by decide)
  have key : ∀ (p c : Bool), p = decide (σ.2.2 % 12 % 3 = 2) → c = decide (σ.2.2 % 12 % 6 = 5) → ExG z (Run z (d + 2)) 5 0 false none cX5_fade Q 36 [vr 5 k, vr 1 h, .inl (bi p), .inl (bi c), .inl (nI 0)] [] (wSt M k σ) = Q vu (wSt M k (fdN τ (σ.2.2 % 12) (τ 7 0) σ)) := by
    intro p c hp hc
    refine (eq_up (fun i => ExG z (Run z (d + 2)) 5 0 false none cX5_fade Q 36 [vr 5 k, vr 1 h, .inl (bi p), .inl (bi c), .inl (nI i)] [] (wSt M k (fdN τ (σ.2.2 % 12) i σ))) (Nat.zero_le (τ 7 0)) (fun i _ hi => ?_)).trans ?_
    · have hsi := OKs_fdN (τ := τ) (hr := σ.2.2 % 12) hs (show i ≤ 9 by omega)
      have hki := OKh_k K hi
      rw [eX5_fade_36]
      simp (disch := omega) only [eX5_fade_0, eX5_fade_1, eX5_fade_4, eX5_fade_5, eX5_fade_6, eX5_fade_7, eX5_fade_10, eX5_fade_11, eX5_fade_14, eX5_fade_15, eX5_fade_16, eX5_fade_17, eX5_fade_20, eX5_fade_22, eX5_fade_23, eX5_fade_24, eX5_fade_27, eX5_fade_28, eX5_fade_31, eX5_fade_32, eX5_fade_33, eX5_fade_34, eX5_fade_38, eX5_fade_39, eX5_fade_42, eX5_fade_45, eX5_fade_46, eX5_fade_48, eX5_fade_51, eX5_fade_54, eX5_fade_55, eX5_fade_58, eX5_fade_61, eX5_fade_62, eX5_fade_65, eX5_fade_66, eX5_fade_69, eX5_fade_71, eX5_fade_74, eX5_fade_75, eX5_fade_78, eX5_fade_79, eX5_fade_81, eX5_fade_82, eX5_fade_85, eX5_fade_88, eX5_fade_91, cnt_0, cnt_1, cnt_2, cnt_3, cnt_4, cnt_5, cnt_6, cnt_7, cnt_8, cnt_9, cnt_10, cnt_11, hk, hh, lt_h0, true_and, gn, nI_leI, if_neg (Nat.not_le.mpr hi), tX1_hasPerson hh (Ho_w hh H) K, hpB_nI K, psh_i, psh_u, bi_0, tX4_at, gk, lit_3, lit_1, nI_eq, nI_add, tX5_lighten hk (show i < 9 by omega) (show 1 ≤ 9 by omega) hsi]
      have hfd : fdN τ (σ.2.2 % 12) (i + 1) σ = if fdB τ (σ.2.2 % 12) i = true then liS i 1 (fdN τ (σ.2.2 % 12) i σ) else fdN τ (σ.2.2 % 12) i σ := rfl
      rw [hfd]
      unfold fdB
      cases hpi : per τ i
      · rw [← hc]
        cases c
        · simp
        · by_cases h3 : τ 0 i = 3 <;> simp [h3]
      · rw [← hp]
        cases p <;> simp
    · rw [eX5_fade_36]
      simp (disch := omega) only [eX5_fade_0, eX5_fade_1, eX5_fade_4, eX5_fade_5, eX5_fade_6, eX5_fade_7, eX5_fade_10, eX5_fade_11, eX5_fade_14, eX5_fade_15, eX5_fade_16, eX5_fade_17, eX5_fade_20, eX5_fade_22, eX5_fade_23, eX5_fade_24, eX5_fade_27, eX5_fade_28, eX5_fade_31, eX5_fade_32, eX5_fade_33, eX5_fade_34, eX5_fade_38, eX5_fade_39, eX5_fade_42, eX5_fade_45, eX5_fade_46, eX5_fade_48, eX5_fade_51, eX5_fade_54, eX5_fade_55, eX5_fade_58, eX5_fade_61, eX5_fade_62, eX5_fade_65, eX5_fade_66, eX5_fade_69, eX5_fade_71, eX5_fade_74, eX5_fade_75, eX5_fade_78, eX5_fade_79, eX5_fade_81, eX5_fade_82, eX5_fade_85, eX5_fade_88, eX5_fade_91, cnt_0, cnt_1, cnt_2, cnt_3, cnt_4, cnt_5, cnt_6, cnt_7, cnt_8, cnt_9, cnt_10, cnt_11, hh, true_and, gn, nI_leI, Nat.le_refl, if_true]
  rw [rX5_fade]
  simp (disch := omega) only [eX5_fade_0, eX5_fade_1, eX5_fade_4, eX5_fade_5, eX5_fade_6, eX5_fade_7, eX5_fade_10, eX5_fade_11, eX5_fade_14, eX5_fade_15, eX5_fade_16, eX5_fade_17, eX5_fade_20, eX5_fade_22, eX5_fade_23, eX5_fade_24, eX5_fade_27, eX5_fade_28, eX5_fade_31, eX5_fade_32, eX5_fade_33, eX5_fade_34, eX5_fade_38, eX5_fade_39, eX5_fade_42, eX5_fade_45, eX5_fade_46, eX5_fade_48, eX5_fade_51, eX5_fade_54, eX5_fade_55, eX5_fade_58, eX5_fade_61, eX5_fade_62, eX5_fade_65, eX5_fade_66, eX5_fade_69, eX5_fade_71, eX5_fade_74, eX5_fade_75, eX5_fade_78, eX5_fade_79, eX5_fade_81, eX5_fade_82, eX5_fade_85, eX5_fade_88, eX5_fade_91, cnt_0, cnt_1, cnt_2, cnt_3, cnt_4, cnt_5, cnt_6, cnt_7, cnt_8, cnt_9, cnt_10, cnt_11, hk, true_and, wSt_h, lit_0, lit_1, lit_2, lit_3, lit_5, lit_6, nI_eq, pk_rem, not_false_iff, Nat.reduceEqDiff]
  by_cases a : σ.2.2 % 12 % 3 = 2
  · by_cases b : σ.2.2 % 12 % 6 = 5
    · rw [if_pos a, if_pos b]; exact key true true (decide_eq_true a).symm (decide_eq_true b).symm
    · rw [if_pos a, if_neg b]; exact key true false (decide_eq_true a).symm (decide_eq_false b).symm
  · by_cases b : σ.2.2 % 12 % 6 = 5
    · rw [if_neg a, if_pos b]; exact key false true (decide_eq_false a).symm (decide_eq_true b).symm
    · rw [if_neg a, if_neg b]; exact key false false (decide_eq_false a).symm (decide_eq_false b).symm
theorem tX5_goHour {z d k h : Nat} {M : bM} {σ : sT} {τ : Nat → Nat → Nat} {Q : bV → bM → Prop} (hk : k < 12) (hh : h < 2) (H : Ho M h τ) (K : OKh τ) (hs : OKs σ) (hg : σ.2.2 < 2 ^ 30) : Run z (d + 4) 46 [vr 5 k, vr 1 h] (wSt M k σ) Q = Q vu (wSt M k (hrS τ σ)) := by
  have hn := K.1
  have ht := K.2.1
  have hw := K.2.2.1
  have hsu := K.2.2.2.1
  have gt : ∀ σ, gI (wSt M k σ) 1 h 8 = nI (τ 8 0) := fun σ => Ho_t (Ho_w hh H)
  have gw : ∀ σ, gI (wSt M k σ) 1 h 9 = nI (τ 9 0) := fun σ => Ho_wn (Ho_w hh H)
  have gs : ∀ σ, gI (wSt M k σ) 1 h 10 = nI (τ 10 0) := fun σ => Ho_su (Ho_w hh H)
  have g2 : ∀ σ i, i < 10 → rowAt (wSt M k σ) (4 + 7 * h) (nI i) = nI (τ 2 i) := fun σ i hi => Ho_th hh (Ho_w hh H) hi
  have g3 : ∀ σ i, i < 10 → rowAt (wSt M k σ) (5 + 7 * h) (nI i) = nI (τ 3 i) := fun σ i hi => Ho_ta hh (Ho_w hh H) hi
  have g4 : ∀ σ i, i < 10 → rowAt (wSt M k σ) (6 + 7 * h) (nI i) = nI (τ 4 i) := fun σ i hi => Ho_tb hh (Ho_w hh H) hi
  have g5 : ∀ σ i, i < 4 → rowAt (wSt M k σ) (7 + 7 * h) (nI i) = nI (τ 5 i) := fun σ i hi => Ho_wh hh (Ho_w hh H) hi
  have g6 : ∀ σ i, i < 4 → rowAt (wSt M k σ) (8 + 7 * h) (nI i) = nI (τ 6 i) := fun σ i hi => Ho_ww hh (Ho_w hh H) hi
  have hr12 : σ.2.2 % 12 < 12 := Nat.mod_lt _ (by decide)
  rw [rX5_goHour]
  simp only [eX5_goHour_0, eX5_goHour_1, eX5_goHour_3, eX5_goHour_4, eX5_goHour_7, eX5_goHour_10, eX5_goHour_11, eX5_goHour_14, eX5_goHour_15, eX5_goHour_18, eX5_goHour_19, eX5_goHour_22, eX5_goHour_25, eX5_goHour_26, eX5_goHour_27, eX5_goHour_28, eX5_goHour_31, eX5_goHour_32, eX5_goHour_35, eX5_goHour_36, eX5_goHour_39, eX5_goHour_40, eX5_goHour_43, eX5_goHour_46, eX5_goHour_47, eX5_goHour_50, eX5_goHour_53, eX5_goHour_54, eX5_goHour_56, eX5_goHour_57, eX5_goHour_60, eX5_goHour_63, eX5_goHour_64, eX5_goHour_67, eX5_goHour_68, eX5_goHour_71, eX5_goHour_72, eX5_goHour_75, eX5_goHour_78, eX5_goHour_79, eX5_goHour_80, eX5_goHour_81, eX5_goHour_84, eX5_goHour_85, eX5_goHour_88, eX5_goHour_91, eX5_goHour_94, eX5_goHour_97, eX5_goHour_98, eX5_goHour_99, eX5_goHour_102, eX5_goHour_103, eX5_goHour_106, eX5_goHour_107, eX5_goHour_110, eX5_goHour_113, eX5_goHour_114, eX5_goHour_115, eX5_goHour_118, eX5_goHour_119, eX5_goHour_120, eX5_goHour_123, eX5_goHour_124, eX5_goHour_125, eX5_goHour_127, eX5_goHour_128, eX5_goHour_131, eX5_goHour_132, eX5_goHour_132r, eX5_goHour_133, eX5_goHour_136, eX5_goHour_137, eX5_goHour_138, eX5_goHour_141, lit_0]
  refine (eq_up (fun i => ExG z (Run z (d + 3)) 5 0 false none cX5_goHour Q 2 [vr 5 k, vr 1 h, .inl (nI i)] [] (wSt M k (tcN τ (σ.2.2 % 12) i σ))) (Nat.zero_le (τ 8 0)) (fun i _ hi => ?_)).trans ?_
  · obtain ⟨q1, q2, q3, q4⟩ := K.2.2.2.2.2.2.1 i hi
    have hsi := OKs_tcN (hr := σ.2.2 % 12) K hs (Nat.le_of_lt hi)
    rw [eX5_goHour_2]
    simp (disch := omega) only [eX5_goHour_0, eX5_goHour_1, eX5_goHour_3, eX5_goHour_4, eX5_goHour_7, eX5_goHour_10, eX5_goHour_11, eX5_goHour_14, eX5_goHour_15, eX5_goHour_18, eX5_goHour_19, eX5_goHour_22, eX5_goHour_25, eX5_goHour_26, eX5_goHour_27, eX5_goHour_28, eX5_goHour_31, eX5_goHour_32, eX5_goHour_35, eX5_goHour_36, eX5_goHour_39, eX5_goHour_40, eX5_goHour_43, eX5_goHour_46, eX5_goHour_47, eX5_goHour_50, eX5_goHour_53, eX5_goHour_54, eX5_goHour_56, eX5_goHour_57, eX5_goHour_60, eX5_goHour_63, eX5_goHour_64, eX5_goHour_67, eX5_goHour_68, eX5_goHour_71, eX5_goHour_72, eX5_goHour_75, eX5_goHour_78, eX5_goHour_79, eX5_goHour_80, eX5_goHour_81, eX5_goHour_84, eX5_goHour_85, eX5_goHour_88, eX5_goHour_91, eX5_goHour_94, eX5_goHour_97, eX5_goHour_98, eX5_goHour_99, eX5_goHour_102, eX5_goHour_103, eX5_goHour_106, eX5_goHour_107, eX5_goHour_110, eX5_goHour_113, eX5_goHour_114, eX5_goHour_115, eX5_goHour_118, eX5_goHour_119, eX5_goHour_120, eX5_goHour_123, eX5_goHour_124, eX5_goHour_125, eX5_goHour_127, eX5_goHour_128, eX5_goHour_131, eX5_goHour_132, eX5_goHour_132r, eX5_goHour_133, eX5_goHour_136, eX5_goHour_137, eX5_goHour_138, eX5_goHour_141, cnt_0, cnt_1, cnt_2, cnt_3, cnt_4, cnt_5, cnt_6, cnt_7, cnt_8, cnt_9, cnt_10, cnt_11, hk, hh, lt_h2, lt_h3, lt_h4, true_and, gt, nI_leI, if_neg (Nat.not_le.mpr hi), tX4_at, g2, g3, g4, psh_i, wSt_h, tcN_g, nI_eq, nI_1, tX5_meet hk hh H K hsi q2 q3 q4]
    rw [tcN]
    split <;> rfl
  · rw [eX5_goHour_2]
    simp (disch := omega) only [eX5_goHour_0, eX5_goHour_1, eX5_goHour_3, eX5_goHour_4, eX5_goHour_7, eX5_goHour_10, eX5_goHour_11, eX5_goHour_14, eX5_goHour_15, eX5_goHour_18, eX5_goHour_19, eX5_goHour_22, eX5_goHour_25, eX5_goHour_26, eX5_goHour_27, eX5_goHour_28, eX5_goHour_31, eX5_goHour_32, eX5_goHour_35, eX5_goHour_36, eX5_goHour_39, eX5_goHour_40, eX5_goHour_43, eX5_goHour_46, eX5_goHour_47, eX5_goHour_50, eX5_goHour_53, eX5_goHour_54, eX5_goHour_56, eX5_goHour_57, eX5_goHour_60, eX5_goHour_63, eX5_goHour_64, eX5_goHour_67, eX5_goHour_68, eX5_goHour_71, eX5_goHour_72, eX5_goHour_75, eX5_goHour_78, eX5_goHour_79, eX5_goHour_80, eX5_goHour_81, eX5_goHour_84, eX5_goHour_85, eX5_goHour_88, eX5_goHour_91, eX5_goHour_94, eX5_goHour_97, eX5_goHour_98, eX5_goHour_99, eX5_goHour_102, eX5_goHour_103, eX5_goHour_106, eX5_goHour_107, eX5_goHour_110, eX5_goHour_113, eX5_goHour_114, eX5_goHour_115, eX5_goHour_118, eX5_goHour_119, eX5_goHour_120, eX5_goHour_123, eX5_goHour_124, eX5_goHour_125, eX5_goHour_127, eX5_goHour_128, eX5_goHour_131, eX5_goHour_132, eX5_goHour_132r, eX5_goHour_133, eX5_goHour_136, eX5_goHour_137, eX5_goHour_138, eX5_goHour_141, cnt_0, cnt_1, cnt_2, cnt_3, cnt_4, cnt_5, cnt_6, cnt_7, cnt_8, cnt_9, cnt_10, cnt_11, hh, true_and, gt, nI_leI, Nat.le_refl, if_true, lit_0]
    have hs1 := OKs_tcN (hr := σ.2.2 % 12) K hs (Nat.le_refl (τ 8 0))
    have e1 : (tcN τ (σ.2.2 % 12) (τ 8 0) σ).2.2 = σ.2.2 := tcN_g
    have eh : hrS τ σ = ((fdN τ (σ.2.2 % 12) (τ 7 0) (wsN τ (σ.2.2 % 12) (τ 9 0) (tcN τ (σ.2.2 % 12) (τ 8 0) σ))).1, (if σ.2.2 % 12 = τ 10 0 then 0 else (fdN τ (σ.2.2 % 12) (τ 7 0) (wsN τ (σ.2.2 % 12) (τ 9 0) (tcN τ (σ.2.2 % 12) (τ 8 0) σ))).2.1), σ.2.2 + 1) := rfl
    rw [eh]
    generalize tcN τ (σ.2.2 % 12) (τ 8 0) σ = σ1 at hs1 e1 ⊢
    refine (eq_up (fun i => ExG z (Run z (d + 3)) 5 0 false none cX5_goHour Q 55 [vr 5 k, vr 1 h, .inl (nI i)] [] (wSt M k (wsN τ (σ.2.2 % 12) i σ1))) (Nat.zero_le (τ 9 0)) (fun i _ hi => ?_)).trans ?_
    · obtain ⟨q1, q2, q3, q4⟩ := K.2.2.2.2.2.2.2 i hi
      have hsi := OKs_wsN (hr := σ.2.2 % 12) K hs1 (Nat.le_of_lt hi)
      rw [eX5_goHour_55]
      simp (disch := omega) only [eX5_goHour_0, eX5_goHour_1, eX5_goHour_3, eX5_goHour_4, eX5_goHour_7, eX5_goHour_10, eX5_goHour_11, eX5_goHour_14, eX5_goHour_15, eX5_goHour_18, eX5_goHour_19, eX5_goHour_22, eX5_goHour_25, eX5_goHour_26, eX5_goHour_27, eX5_goHour_28, eX5_goHour_31, eX5_goHour_32, eX5_goHour_35, eX5_goHour_36, eX5_goHour_39, eX5_goHour_40, eX5_goHour_43, eX5_goHour_46, eX5_goHour_47, eX5_goHour_50, eX5_goHour_53, eX5_goHour_54, eX5_goHour_56, eX5_goHour_57, eX5_goHour_60, eX5_goHour_63, eX5_goHour_64, eX5_goHour_67, eX5_goHour_68, eX5_goHour_71, eX5_goHour_72, eX5_goHour_75, eX5_goHour_78, eX5_goHour_79, eX5_goHour_80, eX5_goHour_81, eX5_goHour_84, eX5_goHour_85, eX5_goHour_88, eX5_goHour_91, eX5_goHour_94, eX5_goHour_97, eX5_goHour_98, eX5_goHour_99, eX5_goHour_102, eX5_goHour_103, eX5_goHour_106, eX5_goHour_107, eX5_goHour_110, eX5_goHour_113, eX5_goHour_114, eX5_goHour_115, eX5_goHour_118, eX5_goHour_119, eX5_goHour_120, eX5_goHour_123, eX5_goHour_124, eX5_goHour_125, eX5_goHour_127, eX5_goHour_128, eX5_goHour_131, eX5_goHour_132, eX5_goHour_132r, eX5_goHour_133, eX5_goHour_136, eX5_goHour_137, eX5_goHour_138, eX5_goHour_141, cnt_0, cnt_1, cnt_2, cnt_3, cnt_4, cnt_5, cnt_6, cnt_7, cnt_8, cnt_9, cnt_10, cnt_11, hk, hh, lt_h5, lt_h6, true_and, gw, nI_leI, if_neg (Nat.not_le.mpr hi), tX4_at, g5, g6, psh_i, psh_u, wSt_h, wsN_g, e1, nI_eq, nI_1, tX5_rinse hk hh H K hsi q2]
      rw [wsN]
      split <;> rfl
    · have hs2 := OKs_wsN (hr := σ.2.2 % 12) K hs1 (Nat.le_refl (τ 9 0))
      have e2 : (wsN τ (σ.2.2 % 12) (τ 9 0) σ1).2.2 = σ.2.2 := wsN_g.trans e1
      generalize wsN τ (σ.2.2 % 12) (τ 9 0) σ1 = σ2 at hs2 e2 ⊢
      have f2 := fun Q => tX5_fade (z := z) (d := d) (Q := Q) hk hh H K hs2
      rw [e2] at f2
      have e3 : (fdN τ (σ.2.2 % 12) (τ 7 0) σ2).2.2 = σ.2.2 := fdN_g.trans e2
      generalize fdN τ (σ.2.2 % 12) (τ 7 0) σ2 = σ3 at e3 f2 ⊢
      have em : (σ.2.2 % 12 + 1) % 12 = (σ.2.2 + 1) % 12 := by omega
      rw [eX5_goHour_55]
      simp (disch := omega) only [eX5_goHour_0, eX5_goHour_1, eX5_goHour_3, eX5_goHour_4, eX5_goHour_7, eX5_goHour_10, eX5_goHour_11, eX5_goHour_14, eX5_goHour_15, eX5_goHour_18, eX5_goHour_19, eX5_goHour_22, eX5_goHour_25, eX5_goHour_26, eX5_goHour_27, eX5_goHour_28, eX5_goHour_31, eX5_goHour_32, eX5_goHour_35, eX5_goHour_36, eX5_goHour_39, eX5_goHour_40, eX5_goHour_43, eX5_goHour_46, eX5_goHour_47, eX5_goHour_50, eX5_goHour_53, eX5_goHour_54, eX5_goHour_56, eX5_goHour_57, eX5_goHour_60, eX5_goHour_63, eX5_goHour_64, eX5_goHour_67, eX5_goHour_68, eX5_goHour_71, eX5_goHour_72, eX5_goHour_75, eX5_goHour_78, eX5_goHour_79, eX5_goHour_80, eX5_goHour_81, eX5_goHour_84, eX5_goHour_85, eX5_goHour_88, eX5_goHour_91, eX5_goHour_94, eX5_goHour_97, eX5_goHour_98, eX5_goHour_99, eX5_goHour_102, eX5_goHour_103, eX5_goHour_106, eX5_goHour_107, eX5_goHour_110, eX5_goHour_113, eX5_goHour_114, eX5_goHour_115, eX5_goHour_118, eX5_goHour_119, eX5_goHour_120, eX5_goHour_123, eX5_goHour_124, eX5_goHour_125, eX5_goHour_127, eX5_goHour_128, eX5_goHour_131, eX5_goHour_132, eX5_goHour_132r, eX5_goHour_133, eX5_goHour_136, eX5_goHour_137, eX5_goHour_138, eX5_goHour_141, cnt_0, cnt_1, cnt_2, cnt_3, cnt_4, cnt_5, cnt_6, cnt_7, cnt_8, cnt_9, cnt_10, cnt_11, hk, hh, true_and, gw, nI_leI, Nat.le_refl, if_true, f2, psh_u, gs, wSt_h, e3, nI_eq, lit_0, lit_1, lit_12, wSt_pp, pk_rem, nI_add, not_false_iff, Nat.reduceEqDiff, em, gI_sI, and_false, if_false, wSt_g, wSt_pg]
      split <;> rfl
theorem tX5_goHours {z d k h n : Nat} {M : bM} {σ : sT} {τ : Nat → Nat → Nat} {Q : bV → bM → Prop} (hk : k < 12) (hh : h < 2) (H : Ho M h τ) (K : OKh τ) (hs : OKs σ) (hg : σ.2.2 < 2 ^ 29) (hn : n < 2 ^ 29) : Run z (d + 5) 45 [vr 5 k, vr 1 h, .inl (nI n)] (wSt M k σ) Q = Q vu (wSt M k (hrN τ n σ)) := by
  rw [rX5_goHours]
  simp only [eX5_goHours_0, eX5_goHours_1, eX5_goHours_3, eX5_goHours_4, eX5_goHours_7, eX5_goHours_8, eX5_goHours_9, eX5_goHours_12, eX5_goHours_15, eX5_goHours_18, lit_0]
  refine (eq_up (fun i => ExG z (Run z (d + 4)) 5 0 false none cX5_goHours Q 2 [vr 5 k, vr 1 h, .inl (nI n), .inl (nI i)] [] (wSt M k (hrN τ i σ))) (Nat.zero_le n) (fun i _ hi => ?_)).trans ?_
  · have hsi := OKs_hrN (n := i) K hs
    have hgi : (hrN τ i σ).2.2 < 2 ^ 30 := by rw [hrN_g]; omega
    rw [eX5_goHours_2]
    simp (disch := omega) only [eX5_goHours_0, eX5_goHours_1, eX5_goHours_3, eX5_goHours_4, eX5_goHours_7, eX5_goHours_8, eX5_goHours_9, eX5_goHours_12, eX5_goHours_15, eX5_goHours_18, cnt_0, cnt_1, cnt_2, cnt_3, cnt_4, cnt_5, cnt_6, cnt_7, cnt_8, cnt_9, cnt_10, cnt_11, hk, hh, true_and, nI_leI, if_neg (Nat.not_le.mpr hi), psh_u, nI_1, tX5_goHour hk hh H K hsi hgi]
    rfl
  · rw [eX5_goHours_2]
    simp (disch := omega) only [eX5_goHours_0, eX5_goHours_1, eX5_goHours_3, eX5_goHours_4, eX5_goHours_7, eX5_goHours_8, eX5_goHours_9, eX5_goHours_12, eX5_goHours_15, eX5_goHours_18, nI_leI, Nat.le_refl, if_true]
