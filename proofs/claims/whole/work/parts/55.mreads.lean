/-! the model reads, 3 -/
section M12
variable {d : Nat} {M : bM} {lt : Nat → Nat} {len n : Nat} {τ : Nat → Nat → Nat} {Q : bV → bM → Prop}
theorem sN {N : bM} {k k' : Nat} {v : Int32} (h : k' ≠ k) : gI (sI N 11 2 k v) 11 2 k' = gI N 11 2 k' := by rw [gI_sI, if_neg (fun q => h q.2.2)]
theorem sE {N : bM} {k k' : Nat} {v : Int32} (h : k' = k) : gI (sI N 11 2 k v) 11 2 k' = v := by rw [gI_sI, if_pos ⟨rfl, rfl, h⟩]
def uI (τ : Nat → Nat → Nat) (a b : Nat) : Nat → Nat → Nat := upT (upT (upT τ 0 (τ 7 0) a) 1 (τ 7 0) b) 7 0 (τ 7 0 + 1)
def uT (τ : Nat → Nat → Nat) (a b e : Nat) : Nat → Nat → Nat := upT (upT (upT (upT τ 2 (τ 8 0) a) 3 (τ 8 0) b) 4 (τ 8 0) e) 8 0 (τ 8 0 + 1)
def uW (τ : Nat → Nat → Nat) (a b : Nat) : Nat → Nat → Nat := upT (upT (upT τ 5 (τ 9 0) a) 6 (τ 9 0) b) 9 0 (τ 9 0 + 1)
theorem tX8_itemOf {a b : Nat} (T : MT M 2 τ) (h1 : τ 7 0 < 9) (h2 : τ 8 0 ≤ 10) (h3 : τ 9 0 ≤ 4) (hQ : ∀ N, Mx (fun a => a = 2) (fun _ => False) M N → MT N 2 (uI τ a b) → Q vu N) : Run 1 (d + 1) 99 [vr 8 0, .inl (nI a), .inl (nI b)] M Q := by
  obtain ⟨q0, q1, q2, q3, q4, q5, q6, q7⟩ := T
  rw [rX8_itemOf]
  have g0 : gI (sI M 11 2 (4 + τ 7 0) (nI a)) 11 2 0 = nI (τ 7 0) := (sN (by omega)).trans q0
  have g1 : gI (sI (sI M 11 2 (4 + τ 7 0) (nI a)) 11 2 (13 + τ 7 0) (nI b)) 11 2 0 = nI (τ 7 0) := (sN (by omega)).trans g0
  simp (disch := omega) only [eX8_itemOf_0, eX8_itemOf_1, eX8_itemOf_4, eX8_itemOf_5, eX8_itemOf_6, eX8_itemOf_9, eX8_itemOf_10, eX8_itemOf_11, eX8_itemOf_12, eX8_itemOf_13, eX8_itemOf_14, eX8_itemOf_15, eX8_itemOf_18, eX8_itemOf_20, eX8_itemOf_21, eX8_itemOf_24, eX8_itemOf_25, eX8_itemOf_26, eX8_itemOf_27, eX8_itemOf_28, eX8_itemOf_29, eX8_itemOf_30, eX8_itemOf_33, eX8_itemOf_34, eX8_itemOf_35, eX8_itemOf_36, eX8_itemOf_37, eX8_itemOf_38, eX8_itemOf_39, c8_, c11_0, c11_1, c11_2, c11_3, c11_4, c11_5, c11_6, c11_7, c11_8, c11_9, alm_0, alm_1, alm_2, alm_3, alm_4, alm_5, alm_6, alm_7, alm_8, alm_9, vT, true_and, lit_4, lit_0, lit_13, nI_clamp, q0, nI_add, g0, g1, nI_1]
  have e7 : uI τ a b 7 0 = τ 7 0 + 1 := upT_eq
  refine hQ _ (Mx_tr (Mx_tr (Mx_a rfl) (Mx_a rfl)) (Mx_a rfl)) ⟨?_, ?_, ?_, ?_, fun i hi => ?_, fun i hi => ?_, fun t ht => ?_, fun t ht => ?_⟩
  · rw [sE rfl, e7]
  · rw [sN (by omega), sN (by omega), sN (by omega)]; exact q1
  · rw [sN (by omega), sN (by omega), sN (by omega)]; exact q2
  · rw [sN (by omega), sN (by omega), sN (by omega)]; exact q3
  · rw [e7] at hi
    by_cases c : i = τ 7 0
    · rw [sN (by omega), sN (by omega), sE (by omega)]
      show nI a = nI (upT (upT (upT τ 0 (τ 7 0) a) 1 (τ 7 0) b) 7 0 (τ 7 0 + 1) 0 i)
      rw [upT_j (by decide), upT_j (by decide), c, upT_eq]
    · rw [sN (by omega), sN (by omega), sN (by omega)]
      show _ = nI (upT (upT (upT τ 0 (τ 7 0) a) 1 (τ 7 0) b) 7 0 (τ 7 0 + 1) 0 i)
      rw [upT_j (by decide), upT_j (by decide), upT_i c]
      exact q4 i (by omega)
  · rw [e7] at hi
    by_cases c : i = τ 7 0
    · rw [sN (by omega), sE (by omega)]
      show nI b = nI (upT (upT (upT τ 0 (τ 7 0) a) 1 (τ 7 0) b) 7 0 (τ 7 0 + 1) 1 i)
      rw [upT_j (by decide), c, upT_eq]
    · rw [sN (by omega), sN (by omega), sN (by omega)]
      show _ = nI (upT (upT (upT τ 0 (τ 7 0) a) 1 (τ 7 0) b) 7 0 (τ 7 0 + 1) 1 i)
      rw [upT_j (by decide), upT_i c, upT_j (by decide)]
      exact q5 i (by omega)
  · rw [sN (by omega), sN (by omega), sN (by omega), sN (by omega), sN (by omega), sN (by omega), sN (by omega), sN (by omega), sN (by omega)]
    exact q6 t ht
  · rw [sN (by omega), sN (by omega), sN (by omega), sN (by omega), sN (by omega), sN (by omega)]
    exact q7 t ht
theorem tX8_touchOf {a b e : Nat} (T : MT M 2 τ) (h1 : τ 7 0 ≤ 9) (h2 : τ 8 0 < 10) (h3 : τ 9 0 ≤ 4) (hQ : ∀ N, Mx (fun a => a = 2) (fun _ => False) M N → MT N 2 (uT τ a b e) → Q vu N) : Run 1 (d + 1) 100 [vr 8 0, .inl (nI a), .inl (nI b), .inl (nI e)] M Q := by
  obtain ⟨q0, q1, q2, q3, q4, q5, q6, q7⟩ := T
  rw [rX8_touchOf]
  have g1 : gI (sI (sI (sI M 11 2 (22 + τ 8 0) (nI a)) 11 2 (32 + τ 8 0) (nI b)) 11 2 (42 + τ 8 0) (nI e)) 11 2 1 = nI (τ 8 0) := (sN (by omega)).trans ((sN (by omega)).trans ((sN (by omega)).trans q1))
  simp (disch := omega) only [eX8_touchOf_0, eX8_touchOf_1, eX8_touchOf_4, eX8_touchOf_5, eX8_touchOf_6, eX8_touchOf_8, eX8_touchOf_9, eX8_touchOf_12, eX8_touchOf_14, eX8_touchOf_16, eX8_touchOf_17, eX8_touchOf_18, eX8_touchOf_19, eX8_touchOf_20, eX8_touchOf_23, eX8_touchOf_25, eX8_touchOf_27, eX8_touchOf_28, eX8_touchOf_29, eX8_touchOf_30, eX8_touchOf_31, eX8_touchOf_34, eX8_touchOf_36, eX8_touchOf_38, eX8_touchOf_39, eX8_touchOf_40, eX8_touchOf_41, eX8_touchOf_42, eX8_touchOf_45, eX8_touchOf_46, eX8_touchOf_47, eX8_touchOf_48, eX8_touchOf_49, eX8_touchOf_50, eX8_touchOf_51, c8_, c11_0, c11_1, c11_2, c11_3, c11_4, c11_5, c11_6, c11_7, c11_8, c11_9, alm_0, alm_1, alm_2, alm_3, alm_4, alm_5, alm_6, alm_7, alm_8, alm_9, vT, true_and, lit_1, lit_22, lit_32, lit_42, nI_clamp, q1, nI_add, g1]
  have e7 : uT τ a b e 8 0 = τ 8 0 + 1 := upT_eq
  refine hQ _ (Mx_tr (Mx_tr (Mx_tr (Mx_a rfl) (Mx_a rfl)) (Mx_a rfl)) (Mx_a rfl)) ⟨?_, ?_, ?_, ?_, fun i hi => ?_, fun i hi => ?_, fun t ht => ?_, fun t ht => ?_⟩
  · rw [sN (by omega), sN (by omega), sN (by omega), sN (by omega)]; exact q0
  · rw [sE rfl, e7]
  · rw [sN (by omega), sN (by omega), sN (by omega), sN (by omega)]; exact q2
  · rw [sN (by omega), sN (by omega), sN (by omega), sN (by omega)]; exact q3
  · have hi' : i < τ 7 0 := hi
    rw [sN (by omega), sN (by omega), sN (by omega), sN (by omega)]; exact q4 i hi'
  · have hi' : i < τ 7 0 := hi
    rw [sN (by omega), sN (by omega), sN (by omega), sN (by omega)]; exact q5 i hi'
  · rw [e7] at ht
    have d2 : uT τ a b e 2 t = upT τ 2 (τ 8 0) a 2 t := by unfold uT; rw [upT_j (by decide), upT_j (by decide), upT_j (by decide)]
    have d3 : uT τ a b e 3 t = upT (upT τ 2 (τ 8 0) a) 3 (τ 8 0) b 3 t := by unfold uT; rw [upT_j (by decide), upT_j (by decide)]
    have d4 : uT τ a b e 4 t = upT (upT (upT τ 2 (τ 8 0) a) 3 (τ 8 0) b) 4 (τ 8 0) e 4 t := by unfold uT; rw [upT_j (by decide)]
    rw [d2, d3, d4]
    by_cases c : t = τ 8 0
    · refine ⟨?_, ?_, ?_⟩
      · rw [sN (by omega), sN (by omega), sN (by omega), sE (by omega), c, upT_eq]
      · rw [sN (by omega), sN (by omega), sE (by omega), c, upT_eq]
      · rw [sN (by omega), sE (by omega), c, upT_eq]
    · refine ⟨?_, ?_, ?_⟩
      · rw [sN (by omega), sN (by omega), sN (by omega), sN (by omega), upT_i c]; exact (q6 t (by omega)).1
      · rw [sN (by omega), sN (by omega), sN (by omega), sN (by omega), upT_i c, upT_j (by decide)]; exact (q6 t (by omega)).2.1
      · rw [sN (by omega), sN (by omega), sN (by omega), sN (by omega), upT_i c, upT_j (by decide), upT_j (by decide)]; exact (q6 t (by omega)).2.2
  · have ht' : t < τ 9 0 := ht
    rw [sN (by omega), sN (by omega), sN (by omega), sN (by omega), sN (by omega), sN (by omega), sN (by omega), sN (by omega)]
    exact q7 t ht'
theorem tX8_washOf {a b : Nat} (T : MT M 2 τ) (h1 : τ 7 0 ≤ 9) (h2 : τ 8 0 ≤ 10) (h3 : τ 9 0 < 4) (hQ : ∀ N, Mx (fun a => a = 2) (fun _ => False) M N → MT N 2 (uW τ a b) → Q vu N) : Run 1 (d + 1) 101 [vr 8 0, .inl (nI a), .inl (nI b)] M Q := by
  obtain ⟨q0, q1, q2, q3, q4, q5, q6, q7⟩ := T
  rw [rX8_washOf]
  have g0 : gI (sI M 11 2 (52 + τ 9 0) (nI a)) 11 2 2 = nI (τ 9 0) := (sN (by omega)).trans q2
  have g1 : gI (sI (sI M 11 2 (52 + τ 9 0) (nI a)) 11 2 (56 + τ 9 0) (nI b)) 11 2 2 = nI (τ 9 0) := (sN (by omega)).trans g0
  simp (disch := omega) only [eX8_washOf_0, eX8_washOf_1, eX8_washOf_4, eX8_washOf_6, eX8_washOf_7, eX8_washOf_10, eX8_washOf_11, eX8_washOf_12, eX8_washOf_13, eX8_washOf_14, eX8_washOf_15, eX8_washOf_16, eX8_washOf_19, eX8_washOf_21, eX8_washOf_22, eX8_washOf_25, eX8_washOf_26, eX8_washOf_27, eX8_washOf_28, eX8_washOf_29, eX8_washOf_30, eX8_washOf_31, eX8_washOf_34, eX8_washOf_35, eX8_washOf_36, eX8_washOf_37, eX8_washOf_38, eX8_washOf_39, eX8_washOf_40, c8_, c11_0, c11_1, c11_2, c11_3, c11_4, c11_5, c11_6, c11_7, c11_8, c11_9, alm_0, alm_1, alm_2, alm_3, alm_4, alm_5, alm_6, alm_7, alm_8, alm_9, vT, true_and, lit_2, lit_52, lit_56, nI_clamp, q2, nI_add, g0, g1, nI_1]
  have e7 : uW τ a b 9 0 = τ 9 0 + 1 := upT_eq
  refine hQ _ (Mx_tr (Mx_tr (Mx_a rfl) (Mx_a rfl)) (Mx_a rfl)) ⟨?_, ?_, ?_, ?_, fun i hi => ?_, fun i hi => ?_, fun t ht => ?_, fun t ht => ?_⟩
  · rw [sN (by omega), sN (by omega), sN (by omega)]; exact q0
  · rw [sN (by omega), sN (by omega), sN (by omega)]; exact q1
  · rw [sE rfl, e7]
  · rw [sN (by omega), sN (by omega), sN (by omega)]; exact q3
  · have hi' : i < τ 7 0 := hi
    rw [sN (by omega), sN (by omega), sN (by omega)]; exact q4 i hi'
  · have hi' : i < τ 7 0 := hi
    rw [sN (by omega), sN (by omega), sN (by omega)]; exact q5 i hi'
  · have ht' : t < τ 8 0 := ht
    rw [sN (by omega), sN (by omega), sN (by omega), sN (by omega), sN (by omega), sN (by omega), sN (by omega), sN (by omega), sN (by omega)]
    exact q6 t ht'
  · rw [e7] at ht
    have d2 : uW τ a b 5 t = upT τ 5 (τ 9 0) a 5 t := by unfold uW; rw [upT_j (by decide), upT_j (by decide)]
    have d3 : uW τ a b 6 t = upT (upT τ 5 (τ 9 0) a) 6 (τ 9 0) b 6 t := by unfold uW; rw [upT_j (by decide)]
    rw [d2, d3]
    by_cases c : t = τ 9 0
    · refine ⟨?_, ?_⟩
      · rw [sN (by omega), sN (by omega), sE (by omega), c, upT_eq]
      · rw [sN (by omega), sE (by omega), c, upT_eq]
    · refine ⟨?_, ?_⟩
      · rw [sN (by omega), sN (by omega), sN (by omega), upT_i c]; exact (q7 t (by omega)).1
      · rw [sN (by omega), sN (by omega), sN (by omega), upT_i c, upT_j (by decide)]; exact (q7 t (by omega)).2
end M12
