/-! the model lays -/
theorem scn_lt {lt : Nat → Nat} {len : Nat} : ∀ n τ p q, (scn lt len n τ p).1 = some q → q < len := by
  intro n
  induction n with
  | zero => intro τ p q h; exact absurd h (by simp [scn])
  | succ n ih =>
    intro τ p q h
    unfold scn at h
    split at h
    · rename_i c
      split at h
      · have h : some p = some q := h
        injection h with h
        omega
      · exact ih _ _ _ h
    · exact absurd h (by simp)
section M15
variable {d G : Nat} {M : bM} {lt : Nat → Nat} {len n : Nat} {τ τd : Nat → Nat → Nat} {σ : sT} {pa : Nat → sT} {ph : Nat} {ka : Nat → sT} {kh : Nat} {ci cs : Nat → Nat} {cn : Nat} {Q : bV → bM → Prop}
theorem per_al {τ : Nat → Nat → Nat} {i : Nat} (h : i < τ 7 0) : per τ i = alB (τ 0 i) := by unfold per alB; rw [decide_eq_true h, Bool.true_and]
theorem vX8_lay (C : MA M lt len τ σ pa ph ka kh ci cs cn)
    (hQ : (¬ ((scn lt len 200 (nil0 τd) 0).1 = none ∧ ¬ ppl (scn lt len 200 (nil0 τd) 0).2 ((scn lt len 200 (nil0 τd) 0).2 7 0) = 0) → ∀ M', MA M' lt len τ σ pa ph ka kh ci cs cn → Eqx mdS M M' → Q (.inl (-2)) M') ∧
      (((scn lt len 200 (nil0 τd) 0).1 = none ∧ ¬ ppl (scn lt len 200 (nil0 τd) 0).2 ((scn lt len 200 (nil0 τd) 0).2 7 0) = 0) → OKh (scn lt len 200 (nil0 τd) 0).2 → ∀ M', MA M' lt len (scn lt len 200 (nil0 τd) 0).2 ((scn lt len 200 (nil0 τd) 0).2 1, 0, 0) pa 0 ka 0 ci cs 0 → Eqx mdS M M' → Q (.inl (nI ((scn lt len 200 (nil0 τd) 0).2 7 0))) M')) : Run 1 (d + 6) 106 [vr 8 0] M Q := by
  have hl := C.1.2.1
  rw [rX8_lay]
  simp only [eX8_lay_0, eX8_lay_1, eX8_lay_4, eX8_lay_9, eX8_lay_10, eX8_lay_13, eX8_lay_14, eX8_lay_15, eX8_lay_16, eX8_lay_17, eX8_lay_18, eX8_lay_20, eX8_lay_21, eX8_lay_24, eX8_lay_25, eX8_lay_29, eX8_lay_33, eX8_lay_34, eX8_lay_35, eX8_lay_38, eX8_lay_39, eX8_lay_40, eX8_lay_41, eX8_lay_42, eX8_lay_48, eX8_lay_49, eX8_lay_52, eX8_lay_53, eX8_lay_54, eX8_lay_55, eX8_lay_58, eX8_lay_61, eX8_lay_65, eX8_lay_69, eX8_lay_71, eX8_lay_72, eX8_lay_73, eX8_lay_76, eX8_lay_77, eX8_lay_80, eX8_lay_81, eX8_lay_82, c8_, c11_0, c11_1, c11_2, c11_3, c11_4, c11_5, c11_6, c11_7, c11_8, c11_9, alm_0, alm_1, alm_2, alm_3, alm_4, alm_5, alm_6, alm_7, alm_8, alm_9, vT, true_and]
  refine tX8_reads (τd := τd) C.1 (fun N x hT => ?_)
  have CN := MA_r C x
  obtain ⟨RR, hRR⟩ : ∃ RR, scn lt len 200 (nil0 τd) 0 = RR := ⟨_, rfl⟩
  have hlt := fun q => scn_lt (lt := lt) (len := len) 200 (nil0 τd) 0 q
  rw [hRR] at hQ hT hlt ⊢
  obtain ⟨o, τ'⟩ := RR
  simp only [psh_i, eX8_lay_0, eX8_lay_1, eX8_lay_4, eX8_lay_9, eX8_lay_10, eX8_lay_13, eX8_lay_14, eX8_lay_15, eX8_lay_16, eX8_lay_17, eX8_lay_18, eX8_lay_20, eX8_lay_21, eX8_lay_24, eX8_lay_25, eX8_lay_29, eX8_lay_33, eX8_lay_34, eX8_lay_35, eX8_lay_38, eX8_lay_39, eX8_lay_40, eX8_lay_41, eX8_lay_42, eX8_lay_48, eX8_lay_49, eX8_lay_52, eX8_lay_53, eX8_lay_54, eX8_lay_55, eX8_lay_58, eX8_lay_61, eX8_lay_65, eX8_lay_69, eX8_lay_71, eX8_lay_72, eX8_lay_73, eX8_lay_76, eX8_lay_77, eX8_lay_80, eX8_lay_81, eX8_lay_82]
  rw [eX8_lay_6]
  cases o with
  | some q =>
    have hq := hlt q rfl
    have e : (fR (some q) = -4) = False := neg4 (show q < 2 ^ 31 by omega)
    simp only [e, if_false]
    have o61 : ∀ a3, ExG 1 (Run 1 (d + 5)) 8 1 false none cX8_lay Q 61 [vr 8 0, .inl 0, .inl 0, a3] [] N := by
      intro a3
      simp only [eX8_lay_0, eX8_lay_1, eX8_lay_4, eX8_lay_9, eX8_lay_10, eX8_lay_13, eX8_lay_14, eX8_lay_15, eX8_lay_16, eX8_lay_17, eX8_lay_18, eX8_lay_20, eX8_lay_21, eX8_lay_24, eX8_lay_25, eX8_lay_29, eX8_lay_33, eX8_lay_34, eX8_lay_35, eX8_lay_38, eX8_lay_39, eX8_lay_40, eX8_lay_41, eX8_lay_42, eX8_lay_48, eX8_lay_49, eX8_lay_52, eX8_lay_53, eX8_lay_54, eX8_lay_55, eX8_lay_58, eX8_lay_61, eX8_lay_65, eX8_lay_69, eX8_lay_71, eX8_lay_72, eX8_lay_73, eX8_lay_76, eX8_lay_77, eX8_lay_80, eX8_lay_81, eX8_lay_82]
      rw [eX8_lay_62, if_pos rfl]
      simp only [eX8_lay_0, eX8_lay_1, eX8_lay_4, eX8_lay_9, eX8_lay_10, eX8_lay_13, eX8_lay_14, eX8_lay_15, eX8_lay_16, eX8_lay_17, eX8_lay_18, eX8_lay_20, eX8_lay_21, eX8_lay_24, eX8_lay_25, eX8_lay_29, eX8_lay_33, eX8_lay_34, eX8_lay_35, eX8_lay_38, eX8_lay_39, eX8_lay_40, eX8_lay_41, eX8_lay_42, eX8_lay_48, eX8_lay_49, eX8_lay_52, eX8_lay_53, eX8_lay_54, eX8_lay_55, eX8_lay_58, eX8_lay_61, eX8_lay_65, eX8_lay_69, eX8_lay_71, eX8_lay_72, eX8_lay_73, eX8_lay_76, eX8_lay_77, eX8_lay_80, eX8_lay_81, eX8_lay_82]
      exact hQ.1 (fun w => absurd w.1 (by simp)) N CN (Mx_E x)
    simp only [eX8_lay_0, eX8_lay_1, eX8_lay_4, eX8_lay_9, eX8_lay_10, eX8_lay_13, eX8_lay_14, eX8_lay_15, eX8_lay_16, eX8_lay_17, eX8_lay_18, eX8_lay_20, eX8_lay_21, eX8_lay_24, eX8_lay_25, eX8_lay_29, eX8_lay_33, eX8_lay_34, eX8_lay_35, eX8_lay_38, eX8_lay_39, eX8_lay_40, eX8_lay_41, eX8_lay_42, eX8_lay_48, eX8_lay_49, eX8_lay_52, eX8_lay_53, eX8_lay_54, eX8_lay_55, eX8_lay_58, eX8_lay_61, eX8_lay_65, eX8_lay_69, eX8_lay_71, eX8_lay_72, eX8_lay_73, eX8_lay_76, eX8_lay_77, eX8_lay_80, eX8_lay_81, eX8_lay_82]
    rw [eX8_lay_19]
    simp (disch := omega) only [eX8_lay_20, eX8_lay_21, eX8_lay_24, eX8_lay_25, c8_, c11_0, c11_1, c11_2, c11_3, c11_4, c11_5, c11_6, c11_7, c11_8, c11_9, alm_0, alm_1, alm_2, alm_3, alm_4, alm_5, alm_6, alm_7, alm_8, alm_9, vT, true_and, lit_0]
    rw [eX8_lay_26]
    by_cases c : gI N 11 2 (nI 0).toNatClampNeg ≤ nI 0
    · rw [if_pos c]; exact o61 _
    · rw [if_neg c]
      simp only [eX8_lay_29]
      rw [eX8_lay_30, if_pos (show nI 0 = (0 : Int32) from rfl)]
      exact o61 _
  | none =>
    obtain ⟨T, K⟩ := hT rfl
    have hn := K.1
    have T : MT N 2 τ' := T
    have K : OKh τ' := K
    have hn : τ' 7 0 ≤ 9 := hn
    rw [if_pos (show fR none = -4 from rfl)]
    simp only [eX8_lay_0, eX8_lay_1, eX8_lay_4, eX8_lay_9, eX8_lay_10, eX8_lay_13, eX8_lay_14, eX8_lay_15, eX8_lay_16, eX8_lay_17, eX8_lay_18, eX8_lay_20, eX8_lay_21, eX8_lay_24, eX8_lay_25, eX8_lay_29, eX8_lay_33, eX8_lay_34, eX8_lay_35, eX8_lay_38, eX8_lay_39, eX8_lay_40, eX8_lay_41, eX8_lay_42, eX8_lay_48, eX8_lay_49, eX8_lay_52, eX8_lay_53, eX8_lay_54, eX8_lay_55, eX8_lay_58, eX8_lay_61, eX8_lay_65, eX8_lay_69, eX8_lay_71, eX8_lay_72, eX8_lay_73, eX8_lay_76, eX8_lay_77, eX8_lay_80, eX8_lay_81, eX8_lay_82, lit_0, lit_1]
    have t10 : ¬ nI 1 = (0 : Int32) := by decide
    have fin : ExG 1 (Run 1 (d + 5)) 8 1 false none cX8_lay Q 19 [vr 8 0, .inl (nI 1), .inl (nI (ppl τ' (τ' 7 0))), .inl (nI (τ' 7 0))] [] N := by
      have hpp := ppl_le τ' (τ' 7 0)
      rw [eX8_lay_19]
      simp (disch := omega) only [eX8_lay_20, eX8_lay_21, eX8_lay_24, eX8_lay_25, c8_, c11_0, c11_1, c11_2, c11_3, c11_4, c11_5, c11_6, c11_7, c11_8, c11_9, alm_0, alm_1, alm_2, alm_3, alm_4, alm_5, alm_6, alm_7, alm_8, alm_9, vT, true_and, lit_0, nI_clamp, T.1]
      rw [eX8_lay_26]
      simp (disch := omega) only [nI_leI, Nat.le_refl, if_true]
      rw [eX8_lay_61, eX8_lay_62, if_neg t10, eX8_lay_65, eX8_lay_66]
      by_cases c : ppl τ' (τ' 7 0) = 0
      · rw [if_pos (show nI (ppl τ' (τ' 7 0)) = 0 by rw [c]; rfl)]
        simp only [eX8_lay_0, eX8_lay_1, eX8_lay_4, eX8_lay_9, eX8_lay_10, eX8_lay_13, eX8_lay_14, eX8_lay_15, eX8_lay_16, eX8_lay_17, eX8_lay_18, eX8_lay_20, eX8_lay_21, eX8_lay_24, eX8_lay_25, eX8_lay_29, eX8_lay_33, eX8_lay_34, eX8_lay_35, eX8_lay_38, eX8_lay_39, eX8_lay_40, eX8_lay_41, eX8_lay_42, eX8_lay_48, eX8_lay_49, eX8_lay_52, eX8_lay_53, eX8_lay_54, eX8_lay_55, eX8_lay_58, eX8_lay_61, eX8_lay_65, eX8_lay_69, eX8_lay_71, eX8_lay_72, eX8_lay_73, eX8_lay_76, eX8_lay_77, eX8_lay_80, eX8_lay_81, eX8_lay_82]
        exact hQ.1 (fun w => w.2 c) N CN (Mx_E x)
      · rw [if_neg (show ¬ nI (ppl τ' (τ' 7 0)) = 0 by rw [lit_0, nI_eq (by omega) (by decide)]; exact c)]
        simp only [eX8_lay_0, eX8_lay_1, eX8_lay_4, eX8_lay_9, eX8_lay_10, eX8_lay_13, eX8_lay_14, eX8_lay_15, eX8_lay_16, eX8_lay_17, eX8_lay_18, eX8_lay_20, eX8_lay_21, eX8_lay_24, eX8_lay_25, eX8_lay_29, eX8_lay_33, eX8_lay_34, eX8_lay_35, eX8_lay_38, eX8_lay_39, eX8_lay_40, eX8_lay_41, eX8_lay_42, eX8_lay_48, eX8_lay_49, eX8_lay_52, eX8_lay_53, eX8_lay_54, eX8_lay_55, eX8_lay_58, eX8_lay_61, eX8_lay_65, eX8_lay_69, eX8_lay_71, eX8_lay_72, eX8_lay_73, eX8_lay_76, eX8_lay_77, eX8_lay_80, eX8_lay_81, eX8_lay_82, c8_, c11_0, c11_1, c11_2, c11_3, c11_4, c11_5, c11_6, c11_7, c11_8, c11_9, alm_0, alm_1, alm_2, alm_3, alm_4, alm_5, alm_6, alm_7, alm_8, alm_9, vT, true_and]
        refine tX8_lays CN T K (fun M' C' E' => ?_)
        have T1 := C'.2.1.1
        simp (disch := omega) only [psh_u, eX8_lay_0, eX8_lay_1, eX8_lay_4, eX8_lay_9, eX8_lay_10, eX8_lay_13, eX8_lay_14, eX8_lay_15, eX8_lay_16, eX8_lay_17, eX8_lay_18, eX8_lay_20, eX8_lay_21, eX8_lay_24, eX8_lay_25, eX8_lay_29, eX8_lay_33, eX8_lay_34, eX8_lay_35, eX8_lay_38, eX8_lay_39, eX8_lay_40, eX8_lay_41, eX8_lay_42, eX8_lay_48, eX8_lay_49, eX8_lay_52, eX8_lay_53, eX8_lay_54, eX8_lay_55, eX8_lay_58, eX8_lay_61, eX8_lay_65, eX8_lay_69, eX8_lay_71, eX8_lay_72, eX8_lay_73, eX8_lay_76, eX8_lay_77, eX8_lay_80, eX8_lay_81, eX8_lay_82, c8_, c11_0, c11_1, c11_2, c11_3, c11_4, c11_5, c11_6, c11_7, c11_8, c11_9, alm_0, alm_1, alm_2, alm_3, alm_4, alm_5, alm_6, alm_7, alm_8, alm_9, vT, true_and, lit_0, nI_clamp, T1]
        exact hQ.2 ⟨rfl, c⟩ K M' C' (Eqx_tr (Mx_E x) E' (fun _ _ q => q) (fun _ _ q => q))
    have go : ∀ r i, i + r = τ' 7 0 → ExG 1 (Run 1 (d + 5)) 8 1 false none cX8_lay Q 19 [vr 8 0, .inl (nI 1), .inl (nI (ppl τ' i)), .inl (nI i)] [] N := by
      intro r
      induction r with
      | zero =>
        intro i ei
        have ei' : i = τ' 7 0 := ei
        subst ei'
        exact fin
      | succ r ih =>
        intro i ei
        have hi : i < τ' 7 0 := by omega
        have nx := ih (i + 1) (by omega)
        rw [ppl_st] at nx
        rw [eX8_lay_19]
        simp (disch := omega) only [eX8_lay_20, eX8_lay_21, eX8_lay_24, eX8_lay_25, c8_, c11_0, c11_1, c11_2, c11_3, c11_4, c11_5, c11_6, c11_7, c11_8, c11_9, alm_0, alm_1, alm_2, alm_3, alm_4, alm_5, alm_6, alm_7, alm_8, alm_9, vT, true_and, lit_0, nI_clamp, T.1]
        rw [eX8_lay_26]
        simp (disch := omega) only [nI_leI, if_neg (show ¬ τ' 7 0 ≤ i by omega)]
        rw [eX8_lay_29, eX8_lay_30, if_neg t10]
        simp (disch := omega) only [eX8_lay_0, eX8_lay_1, eX8_lay_4, eX8_lay_9, eX8_lay_10, eX8_lay_13, eX8_lay_14, eX8_lay_15, eX8_lay_16, eX8_lay_17, eX8_lay_18, eX8_lay_20, eX8_lay_21, eX8_lay_24, eX8_lay_25, eX8_lay_29, eX8_lay_33, eX8_lay_34, eX8_lay_35, eX8_lay_38, eX8_lay_39, eX8_lay_40, eX8_lay_41, eX8_lay_42, eX8_lay_48, eX8_lay_49, eX8_lay_52, eX8_lay_53, eX8_lay_54, eX8_lay_55, eX8_lay_58, eX8_lay_61, eX8_lay_65, eX8_lay_69, eX8_lay_71, eX8_lay_72, eX8_lay_73, eX8_lay_76, eX8_lay_77, eX8_lay_80, eX8_lay_81, eX8_lay_82, c8_, c11_0, c11_1, c11_2, c11_3, c11_4, c11_5, c11_6, c11_7, c11_8, c11_9, alm_0, alm_1, alm_2, alm_3, alm_4, alm_5, alm_6, alm_7, alm_8, alm_9, vT, true_and, lit_4, nI_add, nI_clamp, T.2.2.2.2.1 i hi, tX8_isAlive (OKh_k K hi), psh_i]
        rw [eX8_lay_45]
        simp only [bi_0]
        rw [per_al hi] at nx
        cases hp : alB (τ' 0 i)
        · rw [hp, if_neg (by decide)] at nx
          rw [if_pos rfl]
          simp only [eX8_lay_0, eX8_lay_1, eX8_lay_4, eX8_lay_9, eX8_lay_10, eX8_lay_13, eX8_lay_14, eX8_lay_15, eX8_lay_16, eX8_lay_17, eX8_lay_18, eX8_lay_20, eX8_lay_21, eX8_lay_24, eX8_lay_25, eX8_lay_29, eX8_lay_33, eX8_lay_34, eX8_lay_35, eX8_lay_38, eX8_lay_39, eX8_lay_40, eX8_lay_41, eX8_lay_42, eX8_lay_48, eX8_lay_49, eX8_lay_52, eX8_lay_53, eX8_lay_54, eX8_lay_55, eX8_lay_58, eX8_lay_61, eX8_lay_65, eX8_lay_69, eX8_lay_71, eX8_lay_72, eX8_lay_73, eX8_lay_76, eX8_lay_77, eX8_lay_80, eX8_lay_81, eX8_lay_82, lit_0, lit_1, nI_add]
          exact nx
        · rw [hp, if_pos rfl] at nx
          rw [if_neg (by decide)]
          simp only [eX8_lay_0, eX8_lay_1, eX8_lay_4, eX8_lay_9, eX8_lay_10, eX8_lay_13, eX8_lay_14, eX8_lay_15, eX8_lay_16, eX8_lay_17, eX8_lay_18, eX8_lay_20, eX8_lay_21, eX8_lay_24, eX8_lay_25, eX8_lay_29, eX8_lay_33, eX8_lay_34, eX8_lay_35, eX8_lay_38, eX8_lay_39, eX8_lay_40, eX8_lay_41, eX8_lay_42, eX8_lay_48, eX8_lay_49, eX8_lay_52, eX8_lay_53, eX8_lay_54, eX8_lay_55, eX8_lay_58, eX8_lay_61, eX8_lay_65, eX8_lay_69, eX8_lay_71, eX8_lay_72, eX8_lay_73, eX8_lay_76, eX8_lay_77, eX8_lay_80, eX8_lay_81, eX8_lay_82, lit_1, nI_add]
          exact nx
    exact go (τ' 7 0) 0 (by omega)
end M15
