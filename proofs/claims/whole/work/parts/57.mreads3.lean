/-! the model reads, 5: the TEXT, and lays -/
section M14
variable {d G : Nat} {M : bM} {lt : Nat → Nat} {len n : Nat} {τ τd : Nat → Nat → Nat} {σ : sT} {pa : Nat → sT} {ph : Nat} {ka : Nat → sT} {kh : Nat} {ci cs : Nat → Nat} {cn : Nat} {Q : bV → bM → Prop}
theorem l60 : (60 : Int32) = nI 60 := rfl
theorem tX8_begins (hQ : ∀ N, Mr M N → MT N 2 (nil0 τd) → Q vu N) : Run 1 (d + 1) 98 [vr 8 0] M Q := by
  rw [rX8_begins]
  have up : ExG 1 (Run 1 d) 8 0 false none cX8_begins Q 2 [vr 8 0, .inl (nI 0)] [] (aset M 2 0 0 (fun _ => nI 0)) = Q vu (sI (aset M 2 0 60 (fun _ => nI 0)) 11 2 3 (nI 7)) := by
    refine (eq_up (fun i => ExG 1 (Run 1 d) 8 0 false none cX8_begins Q 2 [vr 8 0, .inl (nI i)] [] (aset M 2 0 i (fun _ => nI 0))) (Nat.zero_le 60) (fun i _ hi => ?_)).trans ?_
    · rw [eX8_begins_2]
      simp (disch := omega) only [eX8_begins_0, eX8_begins_1, eX8_begins_3, eX8_begins_5, eX8_begins_8, eX8_begins_9, eX8_begins_12, eX8_begins_13, eX8_begins_14, eX8_begins_15, eX8_begins_18, eX8_begins_21, eX8_begins_22, eX8_begins_25, eX8_begins_26, eX8_begins_28, eX8_begins_29, c8_, c11_0, c11_1, c11_2, c11_3, c11_4, c11_5, c11_6, c11_7, c11_8, c11_9, alm_0, alm_1, alm_2, alm_3, alm_4, alm_5, alm_6, alm_7, alm_8, alm_9, vT, true_and, l60, nI_leI, if_neg (show ¬ 60 ≤ i by omega), nI_clamp, nI_1, lit_0]
      have := aset_s M 2 0 i (fun _ => nI 0) (v := nI 0) rfl
      rw [Nat.zero_add] at this
      rw [this]
    · rw [eX8_begins_2]
      simp (disch := omega) only [eX8_begins_0, eX8_begins_1, eX8_begins_3, eX8_begins_5, eX8_begins_8, eX8_begins_9, eX8_begins_12, eX8_begins_13, eX8_begins_14, eX8_begins_15, eX8_begins_18, eX8_begins_21, eX8_begins_22, eX8_begins_25, eX8_begins_26, eX8_begins_28, eX8_begins_29, c8_, c11_0, c11_1, c11_2, c11_3, c11_4, c11_5, c11_6, c11_7, c11_8, c11_9, alm_0, alm_1, alm_2, alm_3, alm_4, alm_5, alm_6, alm_7, alm_8, alm_9, vT, true_and, l60, nI_leI, Nat.le_refl, if_true, lit_3, lit_7, nI_clamp]
  rw [aset_0] at up
  simp only [eX8_begins_0, eX8_begins_1, eX8_begins_3, eX8_begins_5, eX8_begins_8, eX8_begins_9, eX8_begins_12, eX8_begins_13, eX8_begins_14, eX8_begins_15, eX8_begins_18, eX8_begins_21, eX8_begins_22, eX8_begins_25, eX8_begins_26, eX8_begins_28, eX8_begins_29, lit_0]
  rw [up]
  have g : ∀ j, j < 60 → gI (aset M 2 0 60 (fun _ => nI 0)) 11 2 j = nI 0 := fun j hj => by rw [gI_aset, if_pos ⟨rfl, rfl, by omega, by omega⟩]
  have n7 : nil0 τd 7 0 = 0 := by unfold nil0; rw [upT_j (by decide), upT_j (by decide), upT_j (by decide), upT_eq]
  have n8 : nil0 τd 8 0 = 0 := by unfold nil0; rw [upT_j (by decide), upT_j (by decide), upT_eq]
  have n9 : nil0 τd 9 0 = 0 := by unfold nil0; rw [upT_j (by decide), upT_eq]
  have n10 : nil0 τd 10 0 = 7 := by unfold nil0; rw [upT_eq]
  refine hQ _ (Mx_tr (Mx_as rfl) (Mx_a rfl)) ⟨?_, ?_, ?_, ?_, fun i hi => ?_, fun i hi => ?_, fun t ht => ?_, fun t ht => ?_⟩
  · rw [sN (by omega), g 0 (by omega), n7]
  · rw [sN (by omega), g 1 (by omega), n8]
  · rw [sN (by omega), g 2 (by omega), n9]
  · rw [sE rfl, n10]
  · omega
  · omega
  · omega
  · omega
theorem itm_m {p : Nat} : itm lt len τ p = mIt lt len τ (lt p) (p + 1) := adM_m
theorem tX8_reads (P : MPg M lt len) (hQ : ∀ N, Mr M N → ((scn lt len 200 (nil0 τd) 0).1 = none → MT N 2 (scn lt len 200 (nil0 τd) 0).2 ∧ OKh (scn lt len 200 (nil0 τd) 0).2) → Q (.inl (fR (scn lt len 200 (nil0 τd) 0).1)) N) : Run 1 (d + 5) 103 [vr 8 0] M Q := by
  have hl := P.2.1
  rw [rX8_reads]
  simp only [eX8_reads_0, eX8_reads_1, eX8_reads_4, eX8_reads_5, eX8_reads_6, eX8_reads_10, eX8_reads_13, eX8_reads_14, eX8_reads_20, eX8_reads_21, eX8_reads_24, eX8_reads_25, eX8_reads_26, eX8_reads_26r, eX8_reads_27, eX8_reads_30, eX8_reads_31, eX8_reads_32, eX8_reads_35, eX8_reads_36, eX8_reads_37, eX8_reads_40, eX8_reads_41, eX8_reads_42, eX8_reads_48, eX8_reads_49, eX8_reads_50, eX8_reads_53, eX8_reads_55, c8_, c11_0, c11_1, c11_2, c11_3, c11_4, c11_5, c11_6, c11_7, c11_8, c11_9, alm_0, alm_1, alm_2, alm_3, alm_4, alm_5, alm_6, alm_7, alm_8, alm_9, vT, true_and]
  refine tX8_begins (τd := τd) (fun N x T => ?_)
  simp only [psh_u, eX8_reads_0, eX8_reads_1, eX8_reads_4, eX8_reads_5, eX8_reads_6, eX8_reads_10, eX8_reads_13, eX8_reads_14, eX8_reads_20, eX8_reads_21, eX8_reads_24, eX8_reads_25, eX8_reads_26, eX8_reads_26r, eX8_reads_27, eX8_reads_30, eX8_reads_31, eX8_reads_32, eX8_reads_35, eX8_reads_36, eX8_reads_37, eX8_reads_40, eX8_reads_41, eX8_reads_42, eX8_reads_48, eX8_reads_49, eX8_reads_50, eX8_reads_53, eX8_reads_55, c8_, c11_0, c11_1, c11_2, c11_3, c11_4, c11_5, c11_6, c11_7, c11_8, c11_9, alm_0, alm_1, alm_2, alm_3, alm_4, alm_5, alm_6, alm_7, alm_8, alm_9, vT, true_and, lit_0]
  obtain ⟨RR, hRR⟩ : ∃ RR, scn lt len 200 (nil0 τd) 0 = RR := ⟨_, rfl⟩
  rw [hRR] at hQ
  have go : ∀ m p τ N a1, len ≤ p + m → Mr M N → MT N 2 τ → OKh τ → gI N 8 0 11 = nI p → scn lt len m τ p = RR → p < 2 ^ 19 → ExG 1 (Run 1 (d + 4)) 8 1 false none cX8_reads Q 9 [vr 8 0, a1] [] N := by
    intro m
    induction m with
    | zero =>
      intro p τ N a1 hm x T K a es hp
      have PN : MPg N lt len := MPg_x x (by omega) (by omega) P
      have es' : (none, τ) = RR := es
      have := hQ N x
      rw [← es'] at this
      rw [eX8_reads_9]
      simp (disch := omega) only [eX8_reads_10, eX8_reads_13, eX8_reads_14, c8_, c11_0, c11_1, c11_2, c11_3, c11_4, c11_5, c11_6, c11_7, c11_8, c11_9, alm_0, alm_1, alm_2, alm_3, alm_4, alm_5, alm_6, alm_7, alm_8, alm_9, vT, true_and, a, PN.1]
      rw [eX8_reads_17]
      simp (disch := omega) only [nI_leI, if_pos (show len ≤ p by omega)]
      simp only [eX8_reads_0, eX8_reads_1, eX8_reads_4, eX8_reads_5, eX8_reads_6, eX8_reads_10, eX8_reads_13, eX8_reads_14, eX8_reads_20, eX8_reads_21, eX8_reads_24, eX8_reads_25, eX8_reads_26, eX8_reads_26r, eX8_reads_27, eX8_reads_30, eX8_reads_31, eX8_reads_32, eX8_reads_35, eX8_reads_36, eX8_reads_37, eX8_reads_40, eX8_reads_41, eX8_reads_42, eX8_reads_48, eX8_reads_49, eX8_reads_50, eX8_reads_53, eX8_reads_55]
      exact this (fun _ => ⟨T, K⟩)
    | succ m ih =>
      intro p τ N a1 hm x T K a es hp
      have PN : MPg N lt len := MPg_x x (by omega) (by omega) P
      unfold scn at es
      rw [eX8_reads_9]
      simp (disch := omega) only [eX8_reads_10, eX8_reads_13, eX8_reads_14, c8_, c11_0, c11_1, c11_2, c11_3, c11_4, c11_5, c11_6, c11_7, c11_8, c11_9, alm_0, alm_1, alm_2, alm_3, alm_4, alm_5, alm_6, alm_7, alm_8, alm_9, vT, true_and, a, PN.1]
      rw [eX8_reads_17]
      simp (disch := omega) only [nI_leI]
      by_cases c : len ≤ p
      · rw [if_neg (by omega)] at es
        have := hQ N x
        rw [← es] at this
        rw [if_pos c]
        simp only [eX8_reads_0, eX8_reads_1, eX8_reads_4, eX8_reads_5, eX8_reads_6, eX8_reads_10, eX8_reads_13, eX8_reads_14, eX8_reads_20, eX8_reads_21, eX8_reads_24, eX8_reads_25, eX8_reads_26, eX8_reads_26r, eX8_reads_27, eX8_reads_30, eX8_reads_31, eX8_reads_32, eX8_reads_35, eX8_reads_36, eX8_reads_37, eX8_reads_40, eX8_reads_41, eX8_reads_42, eX8_reads_48, eX8_reads_49, eX8_reads_50, eX8_reads_53, eX8_reads_55]
        exact this (fun _ => ⟨T, K⟩)
      · rw [if_pos (by omega)] at es
        rw [if_neg c]
        obtain ⟨l1, l2⟩ := PN.2.2 p (by omega)
        have PN2 : MPg (sI N 8 0 11 (nI (p + 1))) lt len := MPg_11 PN
        have xN : Mr N (sI N 8 0 11 (nI (p + 1))) := Mx_f rfl
        have l3 : gI (sI N 8 0 11 (nI (p + 1))) 11 0 p = nI (lt p) := by rw [gI_sI, if_neg (by omega)]; exact l1
        have T2 : MT (sI N 8 0 11 (nI (p + 1))) 2 τ := MT_x (A := fun _ => False) (F := fun f => f = 11) (Mx_f rfl) (fun q => q) T
        simp (disch := omega) only [eX8_reads_0, eX8_reads_1, eX8_reads_4, eX8_reads_5, eX8_reads_6, eX8_reads_10, eX8_reads_13, eX8_reads_14, eX8_reads_20, eX8_reads_21, eX8_reads_24, eX8_reads_25, eX8_reads_26, eX8_reads_26r, eX8_reads_27, eX8_reads_30, eX8_reads_31, eX8_reads_32, eX8_reads_35, eX8_reads_36, eX8_reads_37, eX8_reads_40, eX8_reads_41, eX8_reads_42, eX8_reads_48, eX8_reads_49, eX8_reads_50, eX8_reads_53, eX8_reads_55, c8_, c11_0, c11_1, c11_2, c11_3, c11_4, c11_5, c11_6, c11_7, c11_8, c11_9, alm_0, alm_1, alm_2, alm_3, alm_4, alm_5, alm_6, alm_7, alm_8, alm_9, vT, true_and, a, nI_1, nI_clamp, l3]
        refine tX8_readsItem PN2 T2 K g11 (by omega) l2 ⟨fun hn N2 x2 => ?_, fun q τ' hs N2 x2 a2 T3 hq => ?_⟩
        · simp only [psh_i]
          rw [eX8_reads_45]
          simp only [bi_0, if_true]
          simp only [eX8_reads_0, eX8_reads_1, eX8_reads_4, eX8_reads_5, eX8_reads_6, eX8_reads_10, eX8_reads_13, eX8_reads_14, eX8_reads_20, eX8_reads_21, eX8_reads_24, eX8_reads_25, eX8_reads_26, eX8_reads_26r, eX8_reads_27, eX8_reads_30, eX8_reads_31, eX8_reads_32, eX8_reads_35, eX8_reads_36, eX8_reads_37, eX8_reads_40, eX8_reads_41, eX8_reads_42, eX8_reads_48, eX8_reads_49, eX8_reads_50, eX8_reads_53, eX8_reads_55]
          rw [itm_m, hn] at es
          have := hQ N2 (Mx_tr (Mx_tr x xN) x2)
          rw [← es] at this
          exact this (fun q => absurd q (by simp))
        · simp only [psh_i]
          rw [eX8_reads_45]
          simp only [bi_0, show (true = false) = False from eq_false (by decide), if_false]
          simp only [eX8_reads_0, eX8_reads_1, eX8_reads_4, eX8_reads_5, eX8_reads_6, eX8_reads_10, eX8_reads_13, eX8_reads_14, eX8_reads_20, eX8_reads_21, eX8_reads_24, eX8_reads_25, eX8_reads_26, eX8_reads_26r, eX8_reads_27, eX8_reads_30, eX8_reads_31, eX8_reads_32, eX8_reads_35, eX8_reads_36, eX8_reads_37, eX8_reads_40, eX8_reads_41, eX8_reads_42, eX8_reads_48, eX8_reads_49, eX8_reads_50, eX8_reads_53, eX8_reads_55]
          have ei : itm lt len τ p = some (q, τ') := by rw [itm_m, hs]
          rw [ei] at es
          have K' : OKh τ' := by
            unfold itm at ei
            split at ei
            · exact absurd ei (by simp)
            · rename_i r _
              cases ea : adI τ (lt p) r.1 with
              | none => rw [ea] at ei; exact absurd ei (by simp)
              | some τ2 =>
                rw [ea] at ei
                have ei : (r.2, τ2) = (q, τ') := by simpa using ei
                have : τ2 = τ' := congrArg Prod.snd ei
                subst this
                exact OKh_ad K ea
          have hpq : p < q := by
            unfold itm at ei
            split at ei
            · exact absurd ei (by simp)
            · rename_i r hr
              cases ea : adI τ (lt p) r.1 with
              | none => rw [ea] at ei; exact absurd ei (by simp)
              | some τ2 =>
                rw [ea] at ei
                have ei : (r.2, τ2) = (q, τ') := by simpa using ei
                have : r.2 = q := congrArg Prod.fst ei
                have := (rdF_b _ _ r.1 r.2 hr).2.2
                omega
          exact ih q τ' N2 _ (by omega) (Mx_tr (Mx_tr x xN) x2) T3 K' a2 es (by omega)
  have xz : Mr N (sI N 8 0 11 (nI 0)) := Mx_f rfl
  exact go 200 0 (nil0 τd) _ _ (by omega) (Mx_tr x xz) (MT_x (A := fun _ => False) (F := fun f => f = 11) (Mx_f rfl) (fun q => q) T) OKh_nil g11 hRR (by decide)
theorem MA_r {N : bM} (C : MA M lt len τ σ pa ph ka kh ci cs cn) (x : Mr M N) : MA N lt len τ σ pa ph ka kh ci cs cn := by
  obtain ⟨P, T, S, P0, P1, L⟩ := C
  exact ⟨MPg_x x (by omega) (by omega) P, MT_x x (by omega) T, MS_x x (by omega) S, MIs_x x (by omega) (by omega) P0, MIs_x x (by omega) (by omega) P1, MCl_x x (by omega) (by omega) L⟩
theorem vX8_fault (C : MA M lt len τ σ pa ph ka kh ci cs cn) (hQ : ∀ M', MA M' lt len τ σ pa ph ka kh ci cs cn → Eqx mdS M M' → Q (.inl (fR (scn lt len 200 (nil0 τd) 0).1)) M') : Run 1 (d + 6) 104 [vr 8 0] M Q := by
  rw [rX8_fault]
  simp only [eX8_fault_0, eX8_fault_1, eX8_fault_4, c8_, c11_0, c11_1, c11_2, c11_3, c11_4, c11_5, c11_6, c11_7, c11_8, c11_9, alm_0, alm_1, alm_2, alm_3, alm_4, alm_5, alm_6, alm_7, alm_8, alm_9, vT, true_and]
  refine tX8_reads (τd := τd) C.1 (fun N x _ => ?_)
  simp only [psh_i, eX8_fault_0, eX8_fault_1, eX8_fault_4]
  exact hQ N (MA_r C x) (Mx_E x)
theorem tX8_lays {τ' : Nat → Nat → Nat} (C : MA M lt len τ σ pa ph ka kh ci cs cn) (T' : MT M 2 τ') (K' : OKh τ') (hQ : ∀ M', MA M' lt len τ' (τ' 1, 0, 0) pa 0 ka 0 ci cs 0 → Eqx mdS M M' → Q vu M') : Run 1 (d + 1) 105 [vr 8 0] M Q := by
  obtain ⟨P, T, S, P0, P1, L⟩ := C
  have e9 : (9 : Int32) = nI 9 := rfl
  have hn := K'.1
  rw [rX8_lays]
  have up : ExG 1 (Run 1 d) 8 0 false none cX8_lays Q 2 [vr 8 0, .inl (nI 0)] [] (aset M 1 0 0 (fun j => gI M 11 2 j)) = ExG 1 (Run 1 d) 8 0 false none cX8_lays Q 28 [vr 8 0, .inl (nI 0)] [] (aset M 1 0 60 (fun j => gI M 11 2 j)) := by
    refine (eq_up (fun i => ExG 1 (Run 1 d) 8 0 false none cX8_lays Q 2 [vr 8 0, .inl (nI i)] [] (aset M 1 0 i (fun j => gI M 11 2 j))) (Nat.zero_le 60) (fun i _ hi => ?_)).trans ?_
    · have e3 : gI (aset M 1 0 i (fun j => gI M 11 2 j)) 11 2 i = gI M 11 2 i := by rw [gI_aset, if_neg (by omega)]
      rw [eX8_lays_2]
      simp (disch := omega) only [eX8_lays_0, eX8_lays_1, eX8_lays_3, eX8_lays_5, eX8_lays_8, eX8_lays_9, eX8_lays_12, eX8_lays_13, eX8_lays_14, eX8_lays_17, eX8_lays_18, eX8_lays_19, eX8_lays_20, eX8_lays_23, eX8_lays_26, eX8_lays_27, eX8_lays_29, eX8_lays_31, eX8_lays_34, eX8_lays_35, eX8_lays_38, eX8_lays_39, eX8_lays_40, eX8_lays_42, eX8_lays_45, eX8_lays_46, eX8_lays_49, eX8_lays_51, eX8_lays_52, eX8_lays_53, eX8_lays_54, eX8_lays_57, eX8_lays_58, eX8_lays_59, eX8_lays_62, eX8_lays_65, eX8_lays_66, eX8_lays_67, eX8_lays_70, eX8_lays_71, eX8_lays_72, eX8_lays_75, eX8_lays_76, eX8_lays_77, eX8_lays_80, c8_, c11_0, c11_1, c11_2, c11_3, c11_4, c11_5, c11_6, c11_7, c11_8, c11_9, alm_0, alm_1, alm_2, alm_3, alm_4, alm_5, alm_6, alm_7, alm_8, alm_9, vT, true_and, l60, nI_leI, if_neg (show ¬ 60 ≤ i by omega), nI_clamp, nI_1, e3]
      have := aset_s M 1 0 i (fun j => gI M 11 2 j) (v := gI M 11 2 i) (by rw [Nat.zero_add])
      rw [Nat.zero_add] at this
      rw [this]
    · rw [eX8_lays_2]
      simp (disch := omega) only [eX8_lays_0, eX8_lays_1, eX8_lays_3, eX8_lays_5, eX8_lays_8, eX8_lays_9, eX8_lays_12, eX8_lays_13, eX8_lays_14, eX8_lays_17, eX8_lays_18, eX8_lays_19, eX8_lays_20, eX8_lays_23, eX8_lays_26, eX8_lays_27, eX8_lays_29, eX8_lays_31, eX8_lays_34, eX8_lays_35, eX8_lays_38, eX8_lays_39, eX8_lays_40, eX8_lays_42, eX8_lays_45, eX8_lays_46, eX8_lays_49, eX8_lays_51, eX8_lays_52, eX8_lays_53, eX8_lays_54, eX8_lays_57, eX8_lays_58, eX8_lays_59, eX8_lays_62, eX8_lays_65, eX8_lays_66, eX8_lays_67, eX8_lays_70, eX8_lays_71, eX8_lays_72, eX8_lays_75, eX8_lays_76, eX8_lays_77, eX8_lays_80, c8_, c11_0, c11_1, c11_2, c11_3, c11_4, c11_5, c11_6, c11_7, c11_8, c11_9, alm_0, alm_1, alm_2, alm_3, alm_4, alm_5, alm_6, alm_7, alm_8, alm_9, vT, true_and, l60, nI_leI, Nat.le_refl, if_true, lit_0]
  rw [aset_0] at up
  simp only [eX8_lays_0, eX8_lays_1, eX8_lays_3, eX8_lays_5, eX8_lays_8, eX8_lays_9, eX8_lays_12, eX8_lays_13, eX8_lays_14, eX8_lays_17, eX8_lays_18, eX8_lays_19, eX8_lays_20, eX8_lays_23, eX8_lays_26, eX8_lays_27, eX8_lays_29, eX8_lays_31, eX8_lays_34, eX8_lays_35, eX8_lays_38, eX8_lays_39, eX8_lays_40, eX8_lays_42, eX8_lays_45, eX8_lays_46, eX8_lays_49, eX8_lays_51, eX8_lays_52, eX8_lays_53, eX8_lays_54, eX8_lays_57, eX8_lays_58, eX8_lays_59, eX8_lays_62, eX8_lays_65, eX8_lays_66, eX8_lays_67, eX8_lays_70, eX8_lays_71, eX8_lays_72, eX8_lays_75, eX8_lays_76, eX8_lays_77, eX8_lays_80, lit_0]
  rw [up]
  have x1 : Mx (fun a => a = 1) (fun f => f = 99) M (aset M 1 0 60 (fun j => gI M 11 2 j)) := Mx_as rfl
  have g1 : ∀ j, j < 60 → gI (aset M 1 0 60 (fun j => gI M 11 2 j)) 11 1 j = gI M 11 2 j := fun j hj => by rw [gI_aset, if_pos ⟨rfl, rfl, by omega, by omega⟩]
  generalize aset M 1 0 60 (fun j => gI M 11 2 j) = N at x1 g1 ⊢
  have ht := K'.2.1
  have hw := K'.2.2.1
  have TN : MT N 1 τ' := by
    obtain ⟨q0, q1, q2, q3, q4, q5, q6, q7⟩ := T'
    exact ⟨(g1 0 (by omega)).trans q0, (g1 1 (by omega)).trans q1, (g1 2 (by omega)).trans q2, (g1 3 (by omega)).trans q3, fun i hi => (g1 _ (by omega)).trans (q4 i hi), fun i hi => (g1 _ (by omega)).trans (q5 i hi), fun t h => ⟨(g1 _ (by omega)).trans (q6 t h).1, (g1 _ (by omega)).trans (q6 t h).2.1, (g1 _ (by omega)).trans (q6 t h).2.2⟩, fun t h => ⟨(g1 _ (by omega)).trans (q7 t h).1, (g1 _ (by omega)).trans (q7 t h).2⟩⟩
  have up2 : ExG 1 (Run 1 d) 8 0 false none cX8_lays Q 28 [vr 8 0, .inl (nI 0)] [] (aset N 3 0 0 (fun j => if 9 ≤ j then nI 0 else gI N 11 1 (13 + j))) = Q vu (sI (sI (sI (aset N 3 0 11 (fun j => if 9 ≤ j then nI 0 else gI N 11 1 (13 + j))) 8 0 6 (nI 0)) 8 0 8 (nI 0)) 8 0 10 (nI 0)) := by
    refine (eq_up (fun i => ExG 1 (Run 1 d) 8 0 false none cX8_lays Q 28 [vr 8 0, .inl (nI i)] [] (aset N 3 0 i (fun j => if 9 ≤ j then nI 0 else gI N 11 1 (13 + j)))) (Nat.zero_le 11) (fun i _ hi => ?_)).trans ?_
    · have as := fun v h => aset_s N 3 0 i (fun j => if 9 ≤ j then nI 0 else gI N 11 1 (13 + j)) (v := v) h
      rw [Nat.zero_add] at as
      rw [eX8_lays_28]
      by_cases c : 9 ≤ i
      · simp (disch := omega) only [eX8_lays_0, eX8_lays_1, eX8_lays_3, eX8_lays_5, eX8_lays_8, eX8_lays_9, eX8_lays_12, eX8_lays_13, eX8_lays_14, eX8_lays_17, eX8_lays_18, eX8_lays_19, eX8_lays_20, eX8_lays_23, eX8_lays_26, eX8_lays_27, eX8_lays_29, eX8_lays_31, eX8_lays_34, eX8_lays_35, eX8_lays_38, eX8_lays_39, eX8_lays_40, eX8_lays_42, eX8_lays_45, eX8_lays_46, eX8_lays_49, eX8_lays_51, eX8_lays_52, eX8_lays_53, eX8_lays_54, eX8_lays_57, eX8_lays_58, eX8_lays_59, eX8_lays_62, eX8_lays_65, eX8_lays_66, eX8_lays_67, eX8_lays_70, eX8_lays_71, eX8_lays_72, eX8_lays_75, eX8_lays_76, eX8_lays_77, eX8_lays_80, c8_, c11_0, c11_1, c11_2, c11_3, c11_4, c11_5, c11_6, c11_7, c11_8, c11_9, alm_0, alm_1, alm_2, alm_3, alm_4, alm_5, alm_6, alm_7, alm_8, alm_9, vT, true_and, lit_11, e9, nI_leI, if_neg (show ¬ 11 ≤ i by omega), if_pos c, nI_clamp, nI_1, lit_0]
        rw [as _ (by rw [if_pos c])]
      · have e3 : gI (aset N 3 0 i (fun j => if 9 ≤ j then nI 0 else gI N 11 1 (13 + j))) 11 1 (13 + i) = gI N 11 1 (13 + i) := by rw [gI_aset, if_neg (by omega)]
        simp (disch := omega) only [eX8_lays_0, eX8_lays_1, eX8_lays_3, eX8_lays_5, eX8_lays_8, eX8_lays_9, eX8_lays_12, eX8_lays_13, eX8_lays_14, eX8_lays_17, eX8_lays_18, eX8_lays_19, eX8_lays_20, eX8_lays_23, eX8_lays_26, eX8_lays_27, eX8_lays_29, eX8_lays_31, eX8_lays_34, eX8_lays_35, eX8_lays_38, eX8_lays_39, eX8_lays_40, eX8_lays_42, eX8_lays_45, eX8_lays_46, eX8_lays_49, eX8_lays_51, eX8_lays_52, eX8_lays_53, eX8_lays_54, eX8_lays_57, eX8_lays_58, eX8_lays_59, eX8_lays_62, eX8_lays_65, eX8_lays_66, eX8_lays_67, eX8_lays_70, eX8_lays_71, eX8_lays_72, eX8_lays_75, eX8_lays_76, eX8_lays_77, eX8_lays_80, c8_, c11_0, c11_1, c11_2, c11_3, c11_4, c11_5, c11_6, c11_7, c11_8, c11_9, alm_0, alm_1, alm_2, alm_3, alm_4, alm_5, alm_6, alm_7, alm_8, alm_9, vT, true_and, lit_11, e9, lit_13, nI_add, nI_leI, if_neg (show ¬ 11 ≤ i by omega), if_neg c, nI_clamp, nI_1, e3]
        rw [as _ (by rw [if_neg c])]
    · rw [eX8_lays_28]
      simp (disch := omega) only [eX8_lays_0, eX8_lays_1, eX8_lays_3, eX8_lays_5, eX8_lays_8, eX8_lays_9, eX8_lays_12, eX8_lays_13, eX8_lays_14, eX8_lays_17, eX8_lays_18, eX8_lays_19, eX8_lays_20, eX8_lays_23, eX8_lays_26, eX8_lays_27, eX8_lays_29, eX8_lays_31, eX8_lays_34, eX8_lays_35, eX8_lays_38, eX8_lays_39, eX8_lays_40, eX8_lays_42, eX8_lays_45, eX8_lays_46, eX8_lays_49, eX8_lays_51, eX8_lays_52, eX8_lays_53, eX8_lays_54, eX8_lays_57, eX8_lays_58, eX8_lays_59, eX8_lays_62, eX8_lays_65, eX8_lays_66, eX8_lays_67, eX8_lays_70, eX8_lays_71, eX8_lays_72, eX8_lays_75, eX8_lays_76, eX8_lays_77, eX8_lays_80, c8_, c11_0, c11_1, c11_2, c11_3, c11_4, c11_5, c11_6, c11_7, c11_8, c11_9, alm_0, alm_1, alm_2, alm_3, alm_4, alm_5, alm_6, alm_7, alm_8, alm_9, vT, true_and, lit_11, nI_leI, Nat.le_refl, if_true, lit_0]
  rw [aset_0] at up2
  rw [up2]
  have x2 : Mx (fun a => a = 3) (fun f => f = 6 ∨ f = 8 ∨ f = 10) N (sI (sI (sI (aset N 3 0 11 (fun j => if 9 ≤ j then nI 0 else gI N 11 1 (13 + j))) 8 0 6 (nI 0)) 8 0 8 (nI 0)) 8 0 10 (nI 0)) := Mx_tr (Mx_tr (Mx_tr (Mx_as rfl) (Mx_f (Or.inl rfl))) (Mx_f (Or.inr (Or.inl rfl)))) (Mx_f (Or.inr (Or.inr rfl)))
  have xx : Mx (fun a => a = 1 ∨ a = 3) (fun f => f = 6 ∨ f = 8 ∨ f = 10 ∨ f = 99) M (sI (sI (sI (aset N 3 0 11 (fun j => if 9 ≤ j then nI 0 else gI N 11 1 (13 + j))) 8 0 6 (nI 0)) 8 0 8 (nI 0)) 8 0 10 (nI 0)) := Mx_tr (Mx_mo x1 (fun a q => Or.inl q) (fun f q => Or.inr (Or.inr (Or.inr q)))) (Mx_mo x2 (fun a q => Or.inr q) (fun f q => by omega))
  have s3 : ∀ j, j < 11 → gI (sI (sI (sI (aset N 3 0 11 (fun j => if 9 ≤ j then nI 0 else gI N 11 1 (13 + j))) 8 0 6 (nI 0)) 8 0 8 (nI 0)) 8 0 10 (nI 0)) 11 3 j = if 9 ≤ j then nI 0 else gI N 11 1 (13 + j) := fun j hj => by
    rw [gI_sI, if_neg (by omega), gI_sI, if_neg (by omega), gI_sI, if_neg (by omega), gI_aset, if_pos ⟨rfl, rfl, by omega, by omega⟩]
  refine hQ _ ⟨MPg_x xx (by omega) (by omega) P, MT_x x2 (by omega) TN, ⟨fun i hi => ?_, ?_, ?_⟩, ⟨?_, by decide, fun j hj => by omega⟩, ⟨?_, by decide, fun j hj => by omega⟩, ⟨?_, by decide, fun j hj => by omega⟩⟩ (Mx_E xx)
  · rw [s3 i (by omega), if_neg (by omega)]
    exact TN.2.2.2.2.2.1 i hi
  · rw [s3 9 (by omega), if_pos (by omega)]
  · rw [s3 10 (by omega), if_pos (by omega)]
  · rw [gI_sI, if_neg (by omega), gI_sI, if_neg (by omega), gI_sI, if_pos ⟨rfl, rfl, rfl⟩]
  · rw [gI_sI, if_neg (by omega), gI_sI, if_pos ⟨rfl, rfl, rfl⟩]
  · rw [gI_sI, if_pos ⟨rfl, rfl, rfl⟩]
end M14
