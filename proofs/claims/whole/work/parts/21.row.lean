/-! contracts: rows, houses -/
theorem tX4_fill {z d r : Nat} {v : Int32} {M : bM} {Q : bV → bM → Prop} (hr : r < 32) : Run z (d + 1) 31 [vr 4 r, .inl v] M Q = Q vu (rset M r (aln r) (fun _ => v)) := by
  have hb := aln_b r
  rw [rX4_fill]
  simp only [eX4_fill_0, eX4_fill_1, eX4_fill_3, eX4_fill_4, eX4_fill_7, eX4_fill_8, eX4_fill_11, eX4_fill_12, eX4_fill_15, eX4_fill_16, eX4_fill_17, eX4_fill_18, eX4_fill_21, eX4_fill_24, lit_0]
  conv => lhs; rw [← rset_0 M r (fun _ => v)]
  refine (eq_up (fun i => ExG z (Run z d) 4 0 false none cX4_fill Q 2 [vr 4 r, .inl v, .inl (nI i)] [] (rset M r i (fun _ => v))) (Nat.zero_le (aln r)) (fun i _ hi => ?_)).trans ?_
  · rw [eX4_fill_2]
    simp (disch := omega) only [eX4_fill_0, eX4_fill_1, eX4_fill_3, eX4_fill_4, eX4_fill_7, eX4_fill_8, eX4_fill_11, eX4_fill_12, eX4_fill_15, eX4_fill_16, eX4_fill_17, eX4_fill_18, eX4_fill_21, eX4_fill_24, cnt_0, cnt_1, cnt_2, cnt_3, cnt_4, cnt_5, cnt_6, cnt_7, cnt_8, cnt_9, cnt_10, cnt_11, hr, true_and, nI_leI, if_neg (Nat.not_le.mpr hi), vin_nI, nI_clamp, nI_1]
    rw [rset_s M r i _ rfl]
  · rw [eX4_fill_2]
    simp (disch := omega) only [eX4_fill_0, eX4_fill_1, eX4_fill_3, eX4_fill_4, eX4_fill_7, eX4_fill_8, eX4_fill_11, eX4_fill_12, eX4_fill_15, eX4_fill_16, eX4_fill_17, eX4_fill_18, eX4_fill_21, eX4_fill_24, cnt_0, cnt_1, cnt_2, cnt_3, cnt_4, cnt_5, cnt_6, cnt_7, cnt_8, cnt_9, cnt_10, cnt_11, hr, true_and, nI_leI, Nat.le_refl, if_true]
theorem tX4_copy {z d r o : Nat} {M : bM} {Q : bV → bM → Prop} (hr : r < 32) (ho : o < 32) (hne : o ≠ r) : Run z (d + 2) 32 [vr 4 r, vr 4 o] M Q = Q vu (rset M r (aln r) (fun j => rowAt M o (nI j))) := by
  have hb := aln_b r
  rw [rX4_copy]
  simp only [eX4_copy_0, eX4_copy_1, eX4_copy_3, eX4_copy_4, eX4_copy_7, eX4_copy_8, eX4_copy_11, eX4_copy_12, eX4_copy_15, eX4_copy_16, eX4_copy_17, eX4_copy_18, eX4_copy_21, eX4_copy_22, eX4_copy_25, eX4_copy_28, lit_0]
  conv => lhs; rw [← rset_0 M r (fun j => rowAt M o (nI j))]
  refine (eq_up (fun i => ExG z (Run z (d + 1)) 4 0 false none cX4_copy Q 2 [vr 4 r, vr 4 o, .inl (nI i)] [] (rset M r i (fun j => rowAt M o (nI j)))) (Nat.zero_le (aln r)) (fun i _ hi => ?_)).trans ?_
  · rw [eX4_copy_2]
    simp (disch := omega) only [eX4_copy_0, eX4_copy_1, eX4_copy_3, eX4_copy_4, eX4_copy_7, eX4_copy_8, eX4_copy_11, eX4_copy_12, eX4_copy_15, eX4_copy_16, eX4_copy_17, eX4_copy_18, eX4_copy_21, eX4_copy_22, eX4_copy_25, eX4_copy_28, cnt_0, cnt_1, cnt_2, cnt_3, cnt_4, cnt_5, cnt_6, cnt_7, cnt_8, cnt_9, cnt_10, cnt_11, hr, ho, true_and, nI_leI, if_neg (Nat.not_le.mpr hi), tX4_at, psh_i, vin_nI, nI_clamp, nI_1, rowAt_rset_ne hne]
    rw [rset_s M r i _ rfl]
  · rw [eX4_copy_2]
    simp (disch := omega) only [eX4_copy_0, eX4_copy_1, eX4_copy_3, eX4_copy_4, eX4_copy_7, eX4_copy_8, eX4_copy_11, eX4_copy_12, eX4_copy_15, eX4_copy_16, eX4_copy_17, eX4_copy_18, eX4_copy_21, eX4_copy_22, eX4_copy_25, eX4_copy_28, cnt_0, cnt_1, cnt_2, cnt_3, cnt_4, cnt_5, cnt_6, cnt_7, cnt_8, cnt_9, cnt_10, cnt_11, hr, true_and, nI_leI, Nat.le_refl, if_true]
theorem tX4_times {z d r v n : Nat} {M : bM} {f : Nat → Nat} {Q : bV → bM → Prop} (hr : r < 32) (hf : ∀ i, i < n → gI M 9 r i = nI (f i) ∧ f i < 2 ^ 31) (hn : n ≤ aln r) (hv : v < 2 ^ 31) : Run z (d + 1) 33 [vr 4 r, .inl (nI v), .inl (nI n)] M Q = Q (.inl (nI (cnE f v n))) M := by
  have hb := aln_b r
  rw [rX4_times]
  simp only [eX4_times_0, eX4_times_1, eX4_times_2, eX4_times_3, eX4_times_7, eX4_times_8, eX4_times_11, eX4_times_13, eX4_times_14, eX4_times_17, eX4_times_18, eX4_times_21, eX4_times_22, eX4_times_25, eX4_times_27, eX4_times_28, eX4_times_29, eX4_times_32, eX4_times_35, eX4_times_38, eX4_times_41, eX4_times_42, lit_0]
  refine (eq_up (fun i => ExG z (Run z d) 4 1 false none cX4_times Q 5 [vr 4 r, .inl (nI v), .inl (nI n), .inl (nI (cnE f v i)), .inl (nI i)] [] M) (Nat.zero_le n) (fun i _ hi => ?_)).trans ?_
  · rw [eX4_times_5]
    obtain ⟨h1, h2⟩ := hf i hi
    simp (disch := omega) only [eX4_times_0, eX4_times_1, eX4_times_2, eX4_times_3, eX4_times_7, eX4_times_8, eX4_times_11, eX4_times_13, eX4_times_14, eX4_times_17, eX4_times_18, eX4_times_21, eX4_times_22, eX4_times_25, eX4_times_27, eX4_times_28, eX4_times_29, eX4_times_32, eX4_times_35, eX4_times_38, eX4_times_41, eX4_times_42, cnt_0, cnt_1, cnt_2, cnt_3, cnt_4, cnt_5, cnt_6, cnt_7, cnt_8, cnt_9, cnt_10, cnt_11, hr, true_and, nI_leI, if_neg (Nat.not_le.mpr hi), if_neg (Nat.not_le.mpr (Nat.lt_of_lt_of_le hi hn)), vin_nI, nI_clamp, nI_1, h1, nI_eq]
    rw [cnE]
    split <;> rfl
  · rw [eX4_times_5]
    simp (disch := omega) only [eX4_times_0, eX4_times_1, eX4_times_2, eX4_times_3, eX4_times_7, eX4_times_8, eX4_times_11, eX4_times_13, eX4_times_14, eX4_times_17, eX4_times_18, eX4_times_21, eX4_times_22, eX4_times_25, eX4_times_27, eX4_times_28, eX4_times_29, eX4_times_32, eX4_times_35, eX4_times_38, eX4_times_41, eX4_times_42, cnt_0, cnt_1, cnt_2, cnt_3, cnt_4, cnt_5, cnt_6, cnt_7, cnt_8, cnt_9, cnt_10, cnt_11, hr, true_and, nI_leI, Nat.le_refl, if_true]
theorem tX1_has {z d h : Nat} {x : Int32} {M : bM} {τ : Nat → Nat → Nat} {Q : bV → bM → Prop} (hh : h < 2) (H : Ho M h τ) : Run z (d + 1) 5 [vr 1 h, .inl x] M Q = Q (.inl (bi (hsB x (τ 7 0)))) M := by
  obtain ⟨h0, h1, h2, h3, h4, h5, h6, h7, h8, h9, h10⟩ := H
  rw [rX1_has]
  simp only [eX1_has_0, eX1_has_1, eX1_has_4, eX1_has_5, eX1_has_6, eX1_has_9, eX1_has_12, eX1_has_13, eX1_has_16, eX1_has_170, eX1_has_171, eX1_has_17n0, eX1_has_17n1, cnt_0, cnt_1, cnt_2, cnt_3, cnt_4, cnt_5, cnt_6, cnt_7, cnt_8, cnt_9, cnt_10, cnt_11, hh, true_and, h7]
  unfold hsB
  by_cases a : x < 0
  · simp [a, bi]
  · by_cases b : nI (τ 7 0) ≤ x <;> simp [a, b, bi]
theorem Ho_k {M : bM} {h i : Nat} {τ : Nat → Nat → Nat} (hh : h < 2) (H : Ho M h τ) (hi : i < 9) : rowAt M (2 + 7 * h) (nI i) = nI (τ 0 i) := by rw [rowAt_nI (by rw [aln_h0 hh]; exact hi)]; exact H.1 i hi
theorem Ho_s {M : bM} {h i : Nat} {τ : Nat → Nat → Nat} (hh : h < 2) (H : Ho M h τ) (hi : i < 9) : rowAt M (3 + 7 * h) (nI i) = nI (τ 1 i) := by rw [rowAt_nI (by rw [aln_h1 hh]; exact hi)]; exact H.2.1 i hi
theorem Ho_th {M : bM} {h i : Nat} {τ : Nat → Nat → Nat} (hh : h < 2) (H : Ho M h τ) (hi : i < 10) : rowAt M (4 + 7 * h) (nI i) = nI (τ 2 i) := by rw [rowAt_nI (by rw [aln_h2 hh]; exact hi)]; exact H.2.2.1 i hi
theorem Ho_ta {M : bM} {h i : Nat} {τ : Nat → Nat → Nat} (hh : h < 2) (H : Ho M h τ) (hi : i < 10) : rowAt M (5 + 7 * h) (nI i) = nI (τ 3 i) := by rw [rowAt_nI (by rw [aln_h3 hh]; exact hi)]; exact H.2.2.2.1 i hi
theorem Ho_tb {M : bM} {h i : Nat} {τ : Nat → Nat → Nat} (hh : h < 2) (H : Ho M h τ) (hi : i < 10) : rowAt M (6 + 7 * h) (nI i) = nI (τ 4 i) := by rw [rowAt_nI (by rw [aln_h4 hh]; exact hi)]; exact H.2.2.2.2.1 i hi
theorem Ho_wh {M : bM} {h i : Nat} {τ : Nat → Nat → Nat} (hh : h < 2) (H : Ho M h τ) (hi : i < 4) : rowAt M (7 + 7 * h) (nI i) = nI (τ 5 i) := by rw [rowAt_nI (by rw [aln_h5 hh]; exact hi)]; exact H.2.2.2.2.2.1 i hi
theorem Ho_ww {M : bM} {h i : Nat} {τ : Nat → Nat → Nat} (hh : h < 2) (H : Ho M h τ) (hi : i < 4) : rowAt M (8 + 7 * h) (nI i) = nI (τ 6 i) := by rw [rowAt_nI (by rw [aln_h6 hh]; exact hi)]; exact H.2.2.2.2.2.2.1 i hi
theorem Ho_n {M : bM} {h : Nat} {τ : Nat → Nat → Nat} (H : Ho M h τ) : gI M 1 h 7 = nI (τ 7 0) := H.2.2.2.2.2.2.2.1
theorem Ho_t {M : bM} {h : Nat} {τ : Nat → Nat → Nat} (H : Ho M h τ) : gI M 1 h 8 = nI (τ 8 0) := H.2.2.2.2.2.2.2.2.1
theorem Ho_wn {M : bM} {h : Nat} {τ : Nat → Nat → Nat} (H : Ho M h τ) : gI M 1 h 9 = nI (τ 9 0) := H.2.2.2.2.2.2.2.2.2.1
theorem Ho_su {M : bM} {h : Nat} {τ : Nat → Nat → Nat} (H : Ho M h τ) : gI M 1 h 10 = nI (τ 10 0) := H.2.2.2.2.2.2.2.2.2.2
theorem OKh_k {τ : Nat → Nat → Nat} (K : OKh τ) {i : Nat} (hi : i < τ 7 0) : τ 0 i ≤ 5 := K.2.2.2.2.1 i hi
/-- is a number one of the PEOPLE -/
def hpB (x : Int32) (τ : Nat → Nat → Nat) : Bool := hsB x (τ 7 0) && per τ x.toNatClampNeg
theorem hpB_nI {τ : Nat → Nat → Nat} (K : OKh τ) {i : Nat} (hi : i < 2 ^ 31) : hpB (nI i) τ = per τ i := by
  have := K.1
  unfold hpB
  rw [nI_clamp hi]
  by_cases h : i < τ 7 0
  · rw [hsB_nI h (by omega), Bool.true_and]
  · unfold per hsB
    rw [decide_eq_false h, Bool.false_and, Bool.and_false]
theorem tX1_hasPerson {z d h : Nat} {x : Int32} {M : bM} {τ : Nat → Nat → Nat} {Q : bV → bM → Prop} (hh : h < 2) (H : Ho M h τ) (K : OKh τ) : Run z (d + 2) 6 [vr 1 h, .inl x] M Q = Q (.inl (bi (hpB x τ))) M := by
  have hn := K.1
  rw [rX1_hasPerson]
  simp (disch := omega) only [eX1_hasPerson_0, eX1_hasPerson_1, eX1_hasPerson_2, eX1_hasPerson_5, eX1_hasPerson_8, eX1_hasPerson_9, eX1_hasPerson_12, eX1_hasPerson_13, eX1_hasPerson_16, eX1_hasPerson_17, eX1_hasPerson_20, eX1_hasPerson_21, eX1_hasPerson_24, eX1_hasPerson_25, eX1_hasPerson_28, eX1_hasPerson_29, eX1_hasPerson_32, eX1_hasPerson_33, eX1_hasPerson_36, eX1_hasPerson_370, eX1_hasPerson_371, eX1_hasPerson_37n0, eX1_hasPerson_37n1, cnt_0, cnt_1, cnt_2, cnt_3, cnt_4, cnt_5, cnt_6, cnt_7, cnt_8, cnt_9, cnt_10, cnt_11, hh, lt_h0 hh, true_and, tX1_has hh H, psh_i, bi_0, tX4_at]
  rcases hsB_cases x (n := τ 7 0) (by omega) with ⟨j, hj, rfl, e⟩ | e
  · have hk := OKh_k K hj
    rw [hpB_nI K (by omega), e, Ho_k hh H (by omega)]
    simp (disch := omega) only [lit_3, lit_4, nI_eq, Bool.true_eq_false, if_false]
    unfold per
    by_cases a : τ 0 j = 3
    · simp [a, bi]
    · by_cases b : τ 0 j = 4 <;> simp [a, b, hj, bi]
  · unfold hpB
    rw [e, Bool.false_and]
    simp only [if_true, bi_f]
theorem tX1_people {z d h : Nat} {M : bM} {τ : Nat → Nat → Nat} {Q : bV → bM → Prop} (hh : h < 2) (H : Ho M h τ) (K : OKh τ) : Run z (d + 3) 7 [vr 1 h] M Q = Q (.inl (nI (ppl τ (τ 7 0)))) M := by
  have hn := K.1
  rw [rX1_people]
  simp only [eX1_people_0, eX1_people_1, eX1_people_2, eX1_people_3, eX1_people_5, eX1_people_6, eX1_people_9, eX1_people_12, eX1_people_13, eX1_people_14, eX1_people_17, eX1_people_20, eX1_people_23, eX1_people_26, eX1_people_29, eX1_people_30, lit_0]
  refine (eq_up (fun i => ExG z (Run z (d + 2)) 1 1 false none cX1_people Q 4 [vr 1 h, .inl (nI (ppl τ i)), .inl (nI i)] [] M) (Nat.zero_le (τ 7 0)) (fun i _ hi => ?_)).trans ?_
  · rw [eX1_people_4]
    simp (disch := omega) only [eX1_people_0, eX1_people_1, eX1_people_2, eX1_people_3, eX1_people_5, eX1_people_6, eX1_people_9, eX1_people_12, eX1_people_13, eX1_people_14, eX1_people_17, eX1_people_20, eX1_people_23, eX1_people_26, eX1_people_29, eX1_people_30, cnt_0, cnt_1, cnt_2, cnt_3, cnt_4, cnt_5, cnt_6, cnt_7, cnt_8, cnt_9, cnt_10, cnt_11, hh, true_and, Ho_n H, nI_leI, if_neg (Nat.not_le.mpr hi), tX1_hasPerson hh H K, hpB_nI K, psh_i, bi_0, nI_1]
    rw [ppl]
    cases per τ i <;> rfl
  · rw [eX1_people_4]
    simp (disch := omega) only [eX1_people_0, eX1_people_1, eX1_people_2, eX1_people_3, eX1_people_5, eX1_people_6, eX1_people_9, eX1_people_12, eX1_people_13, eX1_people_14, eX1_people_17, eX1_people_20, eX1_people_23, eX1_people_26, eX1_people_29, eX1_people_30, cnt_0, cnt_1, cnt_2, cnt_3, cnt_4, cnt_5, cnt_6, cnt_7, cnt_8, cnt_9, cnt_10, cnt_11, hh, true_and, Ho_n H, nI_leI, Nat.le_refl, if_true]
theorem tX1_lighterByWashing {z d h i : Nat} {M : bM} {τ : Nat → Nat → Nat} {Q : bV → bM → Prop} (hh : h < 2) (H : Ho M h τ) (K : OKh τ) (hi : i < τ 7 0) : Run z (d + 2) 8 [vr 1 h, .inl (nI i)] M Q = Q (.inl (nI (wby τ i))) M := by
  have hn := K.1
  have hk := OKh_k K hi
  rw [rX1_lighterByWashing]
  simp (disch := omega) only [eX1_lighterByWashing_0, eX1_lighterByWashing_1, eX1_lighterByWashing_4, eX1_lighterByWashing_5, eX1_lighterByWashing_8, eX1_lighterByWashing_9, eX1_lighterByWashing_12, eX1_lighterByWashing_13, eX1_lighterByWashing_16, eX1_lighterByWashing_17, cnt_0, cnt_1, cnt_2, cnt_3, cnt_4, cnt_5, cnt_6, cnt_7, cnt_8, cnt_9, cnt_10, cnt_11, hh, lt_h0 hh, true_and, tX4_at, psh_i, Ho_k hh H, lit_2, lit_4, nI_eq]
  unfold wby
  split <;> rfl
