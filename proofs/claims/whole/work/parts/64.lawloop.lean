/-! the law's loop, whole -/
theorem INV_mo {G G' : Nat} {M : bM} (h : G ≤ G') (I : INV G M) : INV G' M := by
  obtain ⟨lt, len, τ, τd, σ, pa, ph, ka, kh, ci, cs, cn, C, A, V, s1, s2⟩ := I
  exact ⟨lt, len, τ, τd, σ, pa, ph, ka, kh, ci, cs, cn, C, A, VA_mo V h, s1, s2⟩
theorem law_loop {d sl : Nat} {sx : Nat → Int32} {Q : bV → bM → Prop} (hs : sl ≤ 4096) (hQ : ∀ M, Q (.inl 1) M) : ∀ n k M, sl ≤ k + n → k ≤ sl → INV (6 * k) M → ExG 1 (Run 1 (d + 20)) 9 2 false (some (sl, sx)) cL_law Q 18 [vr 12 0, vr 7 0, vr 8 0, .inl (nI k)] [] M := by
  intro n
  induction n with
  | zero =>
    intro k M h1 h2 I
    have c : nI sl - 4 < nI k := by
      rw [Int32.lt_iff_toInt_lt, nI_toInt (by omega), show (4 : Int32) = nI 4 from rfl, pk_sub_toInt (by omega) (by omega)]
      omega
    rw [eL_law_18, eL_law_19, eL_law_20, eL_law_21, eL_law_22, eL_law_23, if_pos c]
    rw [eL_law_806, eL_law_807]
    exact ⟨Or.inr rfl, hQ M⟩
  | succ n ih =>
    intro k M h1 h2 I
    rw [eL_law_18, eL_law_19, eL_law_20, eL_law_21, eL_law_22, eL_law_23]
    by_cases c : k + 4 ≤ sl
    · have c' : ¬ nI sl - 4 < nI k := by
        rw [Int32.lt_iff_toInt_lt, nI_toInt (by omega), show (4 : Int32) = nI 4 from rfl, pk_sub_toInt (by omega) (by omega)]
        omega
      rw [if_neg c']
      have e8 : ∀ M', INV (6 * k + 24) M' → ExG 1 (Run 1 (d + 20)) 9 2 false (some (sl, sx)) cL_law Q 800 [vr 12 0, vr 7 0, vr 8 0, .inl (nI k)] [] M' := by
        intro M' I'
        rw [eL_law_800, eL_law_803, show (4 : Int32) = nI 4 from rfl, nI_add]
        exact ih (k + 4) M' (by omega) c (INV_mo (by omega) I')
      rw [eL_law_26, eL_law_27, eL_law_28]
      refine ⟨vin_nI (by omega) (by omega), ?_⟩
      rw [eL_law_29, eL_law_31, eL_law_32]
      by_cases q : (sx (nI k).toNatClampNeg &&& 31).toInt = 0
      · rw [if_pos q]
        exact lw_write c hs (by omega) I e8
      rw [if_neg q]
      clear q
      by_cases q : (sx (nI k).toNatClampNeg &&& 31).toInt = 1
      · rw [if_pos q]
        exact lw_wipe c hs (by omega) I e8
      rw [if_neg q]
      clear q
      by_cases q : (sx (nI k).toNatClampNeg &&& 31).toInt = 2
      · rw [if_pos q]
        exact lw_fault c hs (by omega) I e8
      rw [if_neg q]
      clear q
      by_cases q : (sx (nI k).toNatClampNeg &&& 31).toInt = 3
      · rw [if_pos q]
        exact lw_lay c hs (by omega) I e8
      rw [if_neg q]
      clear q
      by_cases q : (sx (nI k).toNatClampNeg &&& 31).toInt = 4
      · rw [if_pos q]
        exact lw_item c hs (by omega) I e8
      rw [if_neg q]
      clear q
      by_cases q : (sx (nI k).toNatClampNeg &&& 31).toInt = 5
      · rw [if_pos q]
        exact lw_hour c hs (by omega) I e8
      rw [if_neg q]
      clear q
      by_cases q : (sx (nI k).toNatClampNeg &&& 31).toInt = 6
      · rw [if_pos q]
        exact lw_pass c hs (by omega) I e8
      rw [if_neg q]
      clear q
      by_cases q : (sx (nI k).toNatClampNeg &&& 31).toInt = 7
      · rw [if_pos q]
        exact lw_touch c hs (by omega) I e8
      rw [if_neg q]
      clear q
      by_cases q : (sx (nI k).toNatClampNeg &&& 31).toInt = 8
      · rw [if_pos q]
        exact lw_wash c hs (by omega) I e8
      rw [if_neg q]
      clear q
      by_cases q : (sx (nI k).toNatClampNeg &&& 31).toInt = 9
      · rw [if_pos q]
        exact lw_powder c hs (by omega) I e8
      rw [if_neg q]
      clear q
      by_cases q : (sx (nI k).toNatClampNeg &&& 31).toInt = 10
      · rw [if_pos q]
        exact lw_undo c hs (by omega) I e8
      rw [if_neg q]
      clear q
      by_cases q : (sx (nI k).toNatClampNeg &&& 31).toInt = 11
      · rw [if_pos q]
        exact lw_behind c hs (by omega) I e8
      rw [if_neg q]
      clear q
      by_cases q : (sx (nI k).toNatClampNeg &&& 31).toInt = 12
      · rw [if_pos q]
        exact lw_asIf c hs (by omega) I e8
      rw [if_neg q]
      clear q
      by_cases q : (sx (nI k).toNatClampNeg &&& 31).toInt = 13
      · rw [if_pos q]
        exact lw_soap c hs (by omega) I e8
      rw [if_neg q]
      clear q
      by_cases q : (sx (nI k).toNatClampNeg &&& 31).toInt = 14
      · rw [if_pos q]
        exact lw_alike c hs (by omega) I e8
      rw [if_neg q]
      clear q
      by_cases q : (sx (nI k).toNatClampNeg &&& 31).toInt = 15
      · rw [if_pos q]
        exact lw_show c hs (by omega) I e8
      rw [if_neg q]
      clear q
      by_cases q : (sx (nI k).toNatClampNeg &&& 31).toInt = 16
      · rw [if_pos q]
        exact lw_forget c hs (by omega) I e8
      rw [if_neg q]
      clear q
      by_cases q : (sx (nI k).toNatClampNeg &&& 31).toInt = 17
      · rw [if_pos q]
        exact lw_touched c hs (by omega) I e8
      rw [if_neg q]
      clear q
      by_cases q : (sx (nI k).toNatClampNeg &&& 31).toInt = 18
      · rw [if_pos q]
        exact lw_order c hs (by omega) I e8
      rw [if_neg q]
      clear q
      by_cases q : (sx (nI k).toNatClampNeg &&& 31).toInt = 19
      · rw [if_pos q]
        exact lw_box c hs (by omega) I e8
      rw [if_neg q]
      clear q
      by_cases q : (sx (nI k).toNatClampNeg &&& 31).toInt = 20
      · rw [if_pos q]
        exact lw_from c hs (by omega) I e8
      rw [if_neg q]
      clear q
      by_cases q : (sx (nI k).toNatClampNeg &&& 31).toInt = 21
      · rw [if_pos q]
        exact lw_led c hs (by omega) I e8
      rw [if_neg q]
      clear q
      by_cases q : (sx (nI k).toNatClampNeg &&& 31).toInt = 22
      · rw [if_pos q]
        exact lw_dogs c hs (by omega) I e8
      rw [if_neg q]
      clear q
      by_cases q : (sx (nI k).toNatClampNeg &&& 31).toInt = 23
      · rw [if_pos q]
        exact lw_keep c hs (by omega) I e8
      rw [if_neg q]
      clear q
      by_cases q : (sx (nI k).toNatClampNeg &&& 31).toInt = 24
      · rw [if_pos q]
        exact lw_back c hs (by omega) I e8
      rw [if_neg q]
      clear q
      by_cases q : (sx (nI k).toNatClampNeg &&& 31).toInt = 25
      · rw [if_pos q]
        exact lw_count c hs (by omega) I e8
      rw [if_neg q]
      clear q
      exact e8 M (INV_mo (by omega) I)
    · have c' : nI sl - 4 < nI k := by
        rw [Int32.lt_iff_toInt_lt, nI_toInt (by omega), show (4 : Int32) = nI 4 from rfl, pk_sub_toInt (by omega) (by omega)]
        omega
      rw [if_pos c', eL_law_806, eL_law_807]
      exact ⟨Or.inr rfl, hQ M⟩
