/-! plain facts for the abstract machine -/
theorem cnt_0 (z : Nat) : cnt z 0 = 1 := rfl
theorem cnt_1 (z : Nat) : cnt z 1 = 2 := rfl
theorem cnt_2 (z : Nat) : cnt z 2 = 1 := rfl
theorem cnt_3 (z : Nat) : cnt z 3 = 2 := rfl
theorem cnt_4 (z : Nat) : cnt z 4 = 32 := rfl
theorem cnt_5 (z : Nat) : cnt z 5 = 12 := rfl
theorem cnt_6 (z : Nat) : cnt z 6 = 1 := rfl
theorem cnt_7 (z : Nat) : cnt z 7 = 1 := rfl
theorem cnt_8 (z : Nat) : cnt z 8 = z := rfl
theorem cnt_9 (z : Nat) : cnt z 9 = 32 := rfl
theorem cnt_10 (z : Nat) : cnt z 10 = 2 := rfl
theorem cnt_11 (z : Nat) : cnt z 11 = 10 * z := rfl
theorem psh_i (x : Int32) (r : List bV) : psh (.inl x) r = .inl x :: r := rfl
theorem psh_r (q : Nat × Nat) (r : List bV) : psh (.inr (.inl q)) r = .inr (.inl q) :: r := rfl
theorem psh_u (r : List bV) : psh vu r = r := rfl
theorem aln_le (r : Nat) : aln r ≤ 200 := by
  by_cases h : r < 32
  · have : ∀ i : Fin 32, aln i.val ≤ 200 := by decide
    exact this ⟨r, h⟩
  · have : aln r = 0 := by
      unfold aln
      rw [List.getD_eq_getElem?_getD, List.getElem?_eq_none (by simpa using h)]
      rfl
    omega
theorem aln_b (r : Nat) : aln r < 2 ^ 31 := Nat.lt_of_le_of_lt (aln_le r) (by decide)
theorem vin_nI {j n : Nat} (h : j < n) (hn : n < 2 ^ 31) : vp_in (nI j) n := vp_in_nI h hn
theorem vin_neg {x : Int32} {n : Nat} (h : x < 0) : ¬ vp_in x n := fun q => q (Or.inl h)
theorem vin_ge {x : Int32} {n : Nat} (hn : n < 2 ^ 31) (h : nI n ≤ x) : ¬ vp_in x n := by
  intro q
  rw [vp_in_iff] at q
  rw [Int32.le_iff_toInt_le, nI_toInt hn] at h
  omega
/-- what a row says at a place -/
def rowAt (M : bM) (r : Nat) (p : Int32) : Int32 := if p < 0 then 0 else if nI (aln r) ≤ p then 0 else gI M 9 r p.toNatClampNeg
/-- a row with a value put -/
def rowPut (M : bM) (r : Nat) (p v : Int32) : bM := if p < 0 then M else if nI (aln r) ≤ p then M else sI M 9 r p.toNatClampNeg v
theorem vin_of {p : Int32} {n : Nat} (hn : n < 2 ^ 31) (h1 : ¬ p < 0) (h2 : ¬ nI n ≤ p) : vp_in p n := by
  rcases pk_ix p hn with h | h | ⟨j, hj, rfl⟩
  · exact absurd h h1
  · exact absurd h h2
  · exact vin_nI hj hn
theorem and_tr {a b : Prop} (h : a) : (a ∧ b) = b := propext ⟨And.right, And.intro h⟩
theorem rowAt_nI {M : bM} {r j : Nat} (h : j < aln r) : rowAt M r (nI j) = gI M 9 r j := by
  have hb := aln_b r
  unfold rowAt
  rw [if_neg (nI_pos (by omega)), if_neg (nI_ge h hb), nI_clamp (by omega)]
theorem rowPut_nI {M : bM} {r j : Nat} {v : Int32} (h : j < aln r) : rowPut M r (nI j) v = sI M 9 r j v := by
  have hb := aln_b r
  unfold rowPut
  rw [if_neg (nI_pos (by omega)), if_neg (nI_ge h hb), nI_clamp (by omega)]
theorem tX4_at {z d r : Nat} {p : Int32} {M : bM} {Q : bV → bM → Prop} (hr : r < 32) : Run z (d + 1) 29 [vr 4 r, .inl p] M Q = Q (.inl (rowAt M r p)) M := by
  rw [rX4_at]
  simp only [eX4_at_0, eX4_at_1, eX4_at_4, eX4_at_5, eX4_at_6, eX4_at_9, eX4_at_10, eX4_at_13, eX4_at_14, eX4_at_17, eX4_at_18, eX4_at_19, eX4_at_22, eX4_at_23, cnt_0, cnt_1, cnt_2, cnt_3, cnt_4, cnt_5, cnt_6, cnt_7, cnt_8, cnt_9, cnt_10, cnt_11, hr, true_and]
  unfold rowAt
  split
  · rfl
  · split
    · rfl
    · rename_i h1 h2
      exact and_tr (vin_of (aln_b r) h1 h2)
theorem tX4_put {z d r : Nat} {p v : Int32} {M : bM} {Q : bV → bM → Prop} (hr : r < 32) : Run z (d + 1) 30 [vr 4 r, .inl p, .inl v] M Q = Q vu (rowPut M r p v) := by
  rw [rX4_put]
  simp only [eX4_put_0, eX4_put_1, eX4_put_4, eX4_put_5, eX4_put_6, eX4_put_9, eX4_put_10, eX4_put_13, eX4_put_14, eX4_put_17, eX4_put_18, eX4_put_19, eX4_put_20, cnt_0, cnt_1, cnt_2, cnt_3, cnt_4, cnt_5, cnt_6, cnt_7, cnt_8, cnt_9, cnt_10, cnt_11, hr, true_and]
  unfold rowPut
  split
  · rfl
  · split
    · rfl
    · rename_i h1 h2
      exact and_tr (vin_of (aln_b r) h1 h2)
