/-! contracts: stands -/
def bcS (x : Int32) (n : Int32) : Int32 := (x.toUInt32 >>> (n.toUInt32 &&& Int32.toUInt32 31)).toInt32
def bcA (x : Int32) : Int32 := x - (bcS x 1 &&& 1431655765)
def bcB (x : Int32) : Int32 := (x &&& 858993459) + (bcS x 2 &&& 858993459)
def bcC (x : Int32) : Int32 := (x + bcS x 4) &&& 252645135
def bcD (x : Int32) : Int32 := x + bcS x 8
def bcE (x : Int32) : Int32 := x + bcS x 16
theorem bc_key : ∀ p : Fin 512, bcE (bcD (bcC (bcB (bcA (nI p.val))))) &&& 63 = nI (((List.range 9).filter (fun i => p.val.testBit i)).length) := by decide +kernel
theorem tJ6_bitCount {z d p : Nat} {M : bM} {Q : bV → bM → Prop} (hp : p < 512) : Run z (d + 1) 144 [.inl (nI p)] M Q = Q (.inl (nI (((List.range 9).filter (fun i => p.testBit i)).length))) M := by
  rw [rJ6_bitCount_0f7a4]
  simp only [eJ6_bitCount_0f7a4_0, eJ6_bitCount_0f7a4_1, eJ6_bitCount_0f7a4_2, eJ6_bitCount_0f7a4_3, eJ6_bitCount_0f7a4_4, eJ6_bitCount_0f7a4_7, eJ6_bitCount_0f7a4_8, eJ6_bitCount_0f7a4_9, eJ6_bitCount_0f7a4_10, eJ6_bitCount_0f7a4_11, eJ6_bitCount_0f7a4_14, eJ6_bitCount_0f7a4_15, eJ6_bitCount_0f7a4_16, eJ6_bitCount_0f7a4_17, eJ6_bitCount_0f7a4_18, eJ6_bitCount_0f7a4_21, eJ6_bitCount_0f7a4_22, eJ6_bitCount_0f7a4_23, eJ6_bitCount_0f7a4_24, eJ6_bitCount_0f7a4_25, eJ6_bitCount_0f7a4_26, eJ6_bitCount_0f7a4_27, eJ6_bitCount_0f7a4_28, eJ6_bitCount_0f7a4_29, eJ6_bitCount_0f7a4_32, eJ6_bitCount_0f7a4_33, eJ6_bitCount_0f7a4_34, eJ6_bitCount_0f7a4_35, eJ6_bitCount_0f7a4_36, eJ6_bitCount_0f7a4_38, eJ6_bitCount_0f7a4_39, eJ6_bitCount_0f7a4_40, eJ6_bitCount_0f7a4_41, eJ6_bitCount_0f7a4_42, eJ6_bitCount_0f7a4_43, eJ6_bitCount_0f7a4_45, eJ6_bitCount_0f7a4_46, eJ6_bitCount_0f7a4_47, eJ6_bitCount_0f7a4_48, eJ6_bitCount_0f7a4_49, eJ6_bitCount_0f7a4_51, eJ6_bitCount_0f7a4_52]
  congr 2
  exact bc_key ⟨p, hp⟩
theorem wSt_rowAt {M : bM} {k i : Nat} {σ : sT} (hk : k < 12) (hi : i < 9) : rowAt (wSt M k σ) (16 + k) (nI i) = nI (σ.1 i) := by
  rw [rowAt_nI (by rw [aln_st hk]; exact hi), wSt_s hi]
theorem wSt_rowPut {M : bM} {k i v : Nat} {σ : sT} (hk : k < 12) (hi : i < 9) : rowPut (wSt M k σ) (16 + k) (nI i) (nI v) = wSt M k (upN σ.1 i v, σ.2) := by
  rw [rowPut_nI (by rw [aln_st hk]; exact hi), wSt_ps hi]
/-- a stand's row set anew -/
theorem wSt_rset {M : bM} {k : Nat} {σ : sT} {f : Nat → Int32} {g : Nat → Nat} (h : ∀ j, j < 9 → f j = nI (g j)) : rset (wSt M k σ) (16 + k) 9 f = wSt M k (g, σ.2) := by
  refine bM_ext (fun c i j => ?_) (fun c i j => rfl)
  rw [gI_rset, gI_wSt, gI_wSt]
  by_cases q : c = 9 ∧ i = 16 + k ∧ j < 9
  · rw [if_pos q, if_pos q]; exact h j q.2.2
  · rw [if_neg q, if_neg q, if_neg q]
theorem max_nI {a b : Nat} (ha : a < 2 ^ 31) (hb : b < 2 ^ 31) : (if nI a < nI b then nI b else nI a) = nI (max a b) := by
  by_cases h : a < b
  · rw [if_pos ((nI_ltI ha hb).mpr h), Nat.max_eq_right (Nat.le_of_lt h)]
  · rw [if_neg (fun q => h ((nI_ltI ha hb).mp q)), Nat.max_eq_left (by omega)]
theorem max0_sub {a b : Nat} (ha : a < 2 ^ 30) (hb : b < 2 ^ 30) : (if nI 0 < nI a - nI b then nI a - nI b else nI 0) = nI (a - b) := by
  by_cases h : b ≤ a
  · rw [pk_sub h]
    by_cases h0 : 0 < a - b
    · rw [if_pos ((nI_ltI (by omega) (by omega)).mpr h0)]
    · rw [if_neg (fun q => h0 ((nI_ltI (by omega) (by omega)).mp q)), show a - b = 0 by omega]
  · have := pk_sneg hb (Nat.lt_of_not_le h)
    rw [if_neg, show a - b = 0 by omega]
    intro q
    rw [Int32.lt_iff_toInt_lt, pk_sub_toInt ha hb] at q
    have h3 : (nI 0).toInt = 0 := nI_toInt (by decide)
    omega
theorem maxs_sub {a b c : Nat} (ha : a < 2 ^ 30) (hb : b < 2 ^ 30) (hc : c < 2 ^ 30) : (if nI c < nI a - nI b then nI a - nI b else nI c) = nI (max c (a - b)) := by
  by_cases h : b ≤ a
  · rw [pk_sub h, max_nI (by omega) (by omega)]
  · have := pk_sneg hb (Nat.lt_of_not_le h)
    rw [if_neg, show a - b = 0 by omega, Nat.max_zero]
    intro q
    rw [Int32.lt_iff_toInt_lt, pk_sub_toInt ha hb] at q
    have h3 : (nI c).toInt = (c : Int) := nI_toInt (by omega)
    omega
/-- a stand made wholly anew -/
theorem wSt_mk {M : bM} {k : Nat} {f : Nat → Int32} {σ : sT} (h : ∀ j, j < 9 → f j = nI (σ.1 j)) : sI (sI (sI (rset M (16 + k) 9 f) 5 k 1 (nI σ.2.1)) 5 k 2 (nI (σ.2.2 % 12))) 5 k 3 (nI σ.2.2) = wSt M k σ := by
  refine bM_ext (fun c i j => ?_) (fun c i j => rfl)
  rw [gI_sI, gI_sI, gI_sI, gI_rset, gI_wSt]
  by_cases q : c = 9 ∧ i = 16 + k ∧ j < 9
  · rw [if_neg (by omega), if_neg (by omega), if_neg (by omega), if_pos q, if_pos q]; exact h j q.2.2
  · rw [if_neg q, if_neg q]
    by_cases q3 : c = 5 ∧ i = k ∧ j = 3
    · rw [if_pos q3, if_neg (by omega), if_neg (by omega), if_pos q3]
    · rw [if_neg q3]
      by_cases q2 : c = 5 ∧ i = k ∧ j = 2
      · rw [if_pos q2, if_neg (by omega), if_pos q2]
      · rw [if_neg q2]
        by_cases q1 : c = 5 ∧ i = k ∧ j = 1
        · rw [if_pos q1, if_pos q1]
        · rw [if_neg q1, if_neg q1, if_neg q2, if_neg q3]
theorem tX5_copy {z d k o : Nat} {M : bM} {σ : sT} {Q : bV → bM → Prop} (hk : k < 12) (ho : o < 12) (hne : k ≠ o) (H : St M o σ) : Run z (d + 3) 34 [vr 5 k, vr 5 o] M Q = Q vu (wSt M k σ) := by
  obtain ⟨h1, h2, h3, h4⟩ := H
  rw [rX5_copy]
  simp (disch := omega) only [eX5_copy_0, eX5_copy_1, eX5_copy_4, eX5_copy_5, eX5_copy_8, eX5_copy_11, eX5_copy_12, eX5_copy_13, eX5_copy_16, eX5_copy_19, eX5_copy_20, eX5_copy_21, eX5_copy_24, eX5_copy_27, eX5_copy_28, eX5_copy_29, eX5_copy_32, eX5_copy_35, cnt_0, cnt_1, cnt_2, cnt_3, cnt_4, cnt_5, cnt_6, cnt_7, cnt_8, cnt_9, cnt_10, cnt_11, hk, ho, lt_st, true_and, tX4_copy, psh_u, gI_rset, gI_sI, and_false, false_and, if_false, Nat.reduceEqDiff, h2, h3, h4, aln_st hk]
  rw [wSt_mk (σ := σ) (fun j hj => by rw [rowAt_nI (by rw [aln_st ho]; exact hj)]; exact h1 j hj)]
theorem tX5_given {z d κ s : Nat} {M : bM} {Q : bV → bM → Prop} (hκ : κ ≤ 5) (hs : s ≤ 9) : Run z (d + 1) 41 [.inl (nI κ), .inl (nI s)] M Q = Q (.inl (nI (pgv κ s))) M := by
  rw [rX5_given]
  simp (disch := omega) only [eX5_given_0, eX5_given_1, eX5_given_2, eX5_given_5, eX5_given_7, eX5_given_8, eX5_given_9, eX5_given_10, eX5_given_11, eX5_given_14, eX5_given_15, eX5_given_16, eX5_given_17, eX5_given_20, eX5_given_21, eX5_given_22, eX5_given_23, eX5_given_26, lit_0, lit_1, lit_2, lit_5, lit_8, nI_eq, max0_sub]
  unfold pgv
  split
  · rfl
  · split <;> rfl
theorem tX5_isPowdered {z d k i : Nat} {M : bM} {σ : sT} {Q : bV → bM → Prop} (hk : k < 12) (hi : i < 9) (hs : OKs σ) : Run z (d + 1) 36 [vr 5 k, .inl (nI i)] (wSt M k σ) Q = Q (.inl (bi (σ.2.1.testBit i))) (wSt M k σ) := by
  rw [rX5_isPowdered]
  simp only [eX5_isPowdered_0, eX5_isPowdered_1, eX5_isPowdered_4, eX5_isPowdered_5, eX5_isPowdered_6, eX5_isPowdered_7, eX5_isPowdered_8, eX5_isPowdered_11, eX5_isPowdered_12, eX5_isPowdered_15, eX5_isPowdered_160, eX5_isPowdered_161, eX5_isPowdered_16n0, eX5_isPowdered_16n1, cnt_0, cnt_1, cnt_2, cnt_3, cnt_4, cnt_5, cnt_6, cnt_7, cnt_8, cnt_9, cnt_10, cnt_11, hk, true_and, wSt_p, pow_t hs.2 hi]
  cases σ.2.1.testBit i <;> rfl
theorem wSt_pg0 {M : bM} {k : Nat} {σ : sT} : sI (sI (wSt M k σ) 5 k 2 (nI 0)) 5 k 3 (nI 0) = wSt M k (σ.1, σ.2.1, 0) := wSt_pg (g := 0)
theorem tX5_begin {z d k h : Nat} {M : bM} {τ : Nat → Nat → Nat} {Q : bV → bM → Prop} (hk : k < 12) (hh : h < 2) (H : Ho M h τ) : Run z (d + 3) 35 [vr 5 k, vr 1 h] M Q = Q vu (wSt M k (τ 1, 0, 0)) := by
  rw [rX5_begin]
  simp (disch := omega) only [eX5_begin_0, eX5_begin_1, eX5_begin_4, eX5_begin_5, eX5_begin_8, eX5_begin_11, eX5_begin_12, eX5_begin_13, eX5_begin_16, eX5_begin_17, eX5_begin_18, eX5_begin_21, eX5_begin_22, eX5_begin_23, eX5_begin_26, cnt_0, cnt_1, cnt_2, cnt_3, cnt_4, cnt_5, cnt_6, cnt_7, cnt_8, cnt_9, cnt_10, cnt_11, hk, hh, lt_st, lt_h1, true_and, tX4_copy, psh_u, lit_0, aln_st hk]
  exact congrArg _ (wSt_mk (σ := (τ 1, 0, 0)) (fun j hj => Ho_s hh H hj))
def sn (σ : sT) (i : Nat) : Nat := if σ.2.1.testBit i = true then 0 else σ.1 i
theorem tX5_seen {z d k i : Nat} {M : bM} {σ : sT} {Q : bV → bM → Prop} (hk : k < 12) (hi : i < 9) (hs : OKs σ) : Run z (d + 2) 37 [vr 5 k, .inl (nI i)] (wSt M k σ) Q = Q (.inl (nI (sn σ i))) (wSt M k σ) := by
  rw [rX5_seen]
  simp (disch := omega) only [eX5_seen_0, eX5_seen_1, eX5_seen_2, eX5_seen_5, eX5_seen_8, eX5_seen_9, eX5_seen_12, eX5_seen_13, eX5_seen_16, eX5_seen_17, eX5_seen_20, cnt_0, cnt_1, cnt_2, cnt_3, cnt_4, cnt_5, cnt_6, cnt_7, cnt_8, cnt_9, cnt_10, cnt_11, hk, lt_st, true_and, tX5_isPowdered hk hi hs, psh_i, bi_0, tX4_at, wSt_rowAt hk hi, lit_0]
  unfold sn
  cases σ.2.1.testBit i <;> rfl
theorem tX5_shaded {z d k h : Nat} {M : bM} {σ : sT} {τ : Nat → Nat → Nat} {Q : bV → bM → Prop} (hk : k < 12) (hh : h < 2) (H : Ho M h τ) (K : OKh τ) (hs : OKs σ) : Run z (d + 2) 38 [vr 5 k, vr 1 h] (wSt M k σ) Q = Q (.inl (nI (τ 7 0 - cnE σ.1 0 (τ 7 0)))) (wSt M k σ) := by
  have hn := K.1
  have hc := cnE_le σ.1 0 (τ 7 0)
  have gn : gI (wSt M k σ) 1 h 7 = nI (τ 7 0) := Ho_n (Ho_w hh H)
  have ht := tX4_times (z := z) (d := d) (r := 16 + k) (v := 0) (n := τ 7 0) (M := wSt M k σ) (f := σ.1) (Q := fun v M' => ExG z (Run z (d + 1)) 5 1 false none cX5_shaded Q 16 [vr 5 k, vr 1 h] (psh v [.inl (nI (τ 7 0))]) M') (by omega) (fun i hi => ⟨wSt_s (by omega), by have := hs.1 i (by omega); omega⟩) (by rw [aln_st hk]; exact hn) (by decide)
  rw [rX5_shaded]
  simp (disch := omega) only [eX5_shaded_0, eX5_shaded_1, eX5_shaded_4, eX5_shaded_5, eX5_shaded_8, eX5_shaded_9, eX5_shaded_10, eX5_shaded_13, eX5_shaded_16, eX5_shaded_17, cnt_0, cnt_1, cnt_2, cnt_3, cnt_4, cnt_5, cnt_6, cnt_7, cnt_8, cnt_9, cnt_10, cnt_11, hk, hh, lt_st, true_and, gn, lit_0, ht, psh_i, pk_sub]
def dkN (τ : Nat → Nat → Nat) (f : Nat → Nat) : Nat → Nat
  | 0 => 0
  | n + 1 => if per τ n = true then max (dkN τ f n) (f n) else dkN τ f n
theorem dkN_le {τ : Nat → Nat → Nat} {f : Nat → Nat} {n : Nat} (h : ∀ i, i < n → f i ≤ 9) : dkN τ f n ≤ 9 := by
  induction n with
  | zero => exact Nat.zero_le _
  | succ n ih =>
    have := ih (fun i hi => h i (by omega))
    have := h n (by omega)
    unfold dkN
    split <;> omega
theorem tX5_darkestPerson {z d k h : Nat} {M : bM} {σ : sT} {τ : Nat → Nat → Nat} {Q : bV → bM → Prop} (hk : k < 12) (hh : h < 2) (H : Ho M h τ) (K : OKh τ) (hs : OKs σ) : Run z (d + 3) 39 [vr 5 k, vr 1 h] (wSt M k σ) Q = Q (.inl (nI (dkN τ σ.1 (τ 7 0)))) (wSt M k σ) := by
  have hn := K.1
  have gn : gI (wSt M k σ) 1 h 7 = nI (τ 7 0) := Ho_n (Ho_w hh H)
  rw [rX5_darkestPerson]
  simp only [eX5_darkestPerson_0, eX5_darkestPerson_1, eX5_darkestPerson_2, eX5_darkestPerson_3, eX5_darkestPerson_5, eX5_darkestPerson_6, eX5_darkestPerson_9, eX5_darkestPerson_12, eX5_darkestPerson_13, eX5_darkestPerson_14, eX5_darkestPerson_17, eX5_darkestPerson_20, eX5_darkestPerson_21, eX5_darkestPerson_22, eX5_darkestPerson_25, eX5_darkestPerson_26, eX5_darkestPerson_29, eX5_darkestPerson_32, eX5_darkestPerson_33, eX5_darkestPerson_36, eX5_darkestPerson_39, eX5_darkestPerson_40, lit_0]
  refine (eq_up (fun i => ExG z (Run z (d + 2)) 5 1 false none cX5_darkestPerson Q 4 [vr 5 k, vr 1 h, .inl (nI (dkN τ σ.1 i)), .inl (nI i)] [] (wSt M k σ)) (Nat.zero_le (τ 7 0)) (fun i _ hi => ?_)).trans ?_
  · have h1 := dkN_le (τ := τ) (f := σ.1) (n := i) (fun j hj => hs.1 j (by omega))
    have h2 := hs.1 i (by omega)
    rw [eX5_darkestPerson_4]
    simp (disch := omega) only [eX5_darkestPerson_0, eX5_darkestPerson_1, eX5_darkestPerson_2, eX5_darkestPerson_3, eX5_darkestPerson_5, eX5_darkestPerson_6, eX5_darkestPerson_9, eX5_darkestPerson_12, eX5_darkestPerson_13, eX5_darkestPerson_14, eX5_darkestPerson_17, eX5_darkestPerson_20, eX5_darkestPerson_21, eX5_darkestPerson_22, eX5_darkestPerson_25, eX5_darkestPerson_26, eX5_darkestPerson_29, eX5_darkestPerson_32, eX5_darkestPerson_33, eX5_darkestPerson_36, eX5_darkestPerson_39, eX5_darkestPerson_40, cnt_0, cnt_1, cnt_2, cnt_3, cnt_4, cnt_5, cnt_6, cnt_7, cnt_8, cnt_9, cnt_10, cnt_11, hk, hh, lt_st, true_and, gn, nI_leI, if_neg (Nat.not_le.mpr hi), tX1_hasPerson hh (Ho_w hh H) K, hpB_nI K, psh_i, bi_0, tX4_at, wSt_rowAt hk, max_nI, nI_1]
    rw [dkN]
    cases per τ i <;> rfl
  · rw [eX5_darkestPerson_4]
    simp (disch := omega) only [eX5_darkestPerson_0, eX5_darkestPerson_1, eX5_darkestPerson_2, eX5_darkestPerson_3, eX5_darkestPerson_5, eX5_darkestPerson_6, eX5_darkestPerson_9, eX5_darkestPerson_12, eX5_darkestPerson_13, eX5_darkestPerson_14, eX5_darkestPerson_17, eX5_darkestPerson_20, eX5_darkestPerson_21, eX5_darkestPerson_22, eX5_darkestPerson_25, eX5_darkestPerson_26, eX5_darkestPerson_29, eX5_darkestPerson_32, eX5_darkestPerson_33, eX5_darkestPerson_36, eX5_darkestPerson_39, eX5_darkestPerson_40, cnt_0, cnt_1, cnt_2, cnt_3, cnt_4, cnt_5, cnt_6, cnt_7, cnt_8, cnt_9, cnt_10, cnt_11, hh, true_and, gn, nI_leI, Nat.le_refl, if_true]
theorem pgv_le {κ s : Nat} (hs : s ≤ 9) : pgv κ s ≤ 8 := by unfold pgv; split <;> (try split) <;> omega
theorem pgt_ge {κ had x : Nat} : had ≤ pgt κ had x := by unfold pgt; split <;> omega
theorem pgt_le {κ had x : Nat} (h : had ≤ 9) (hx : x ≤ 9) : pgt κ had x ≤ 9 := by unfold pgt; split <;> (try split) <;> omega
theorem upN_self (f : Nat → Nat) (i : Nat) : upN f i (f i) = f := by
  funext j
  unfold upN
  split
  · rename_i q; rw [q]
  · rfl
theorem upN_ne {f : Nat → Nat} {i j v : Nat} (h : j ≠ i) : upN f i v j = f j := by unfold upN; rw [if_neg h]
theorem upN_eq {f : Nat → Nat} {i v : Nat} : upN f i v i = v := by unfold upN; rw [if_pos rfl]
theorem tX5_darken {z d k κ i x : Nat} {M : bM} {σ : sT} {Q : bV → bM → Prop} (hk : k < 12) (hi : i < 9) (hκ : κ ≤ 5) (hx : x ≤ 9) (hs : OKs σ) : Run z (d + 2) 42 [vr 5 k, .inl (nI κ), .inl (nI i), .inl (nI x)] (wSt M k σ) Q = Q (.inl (nI (pgt κ (σ.1 i) x - σ.1 i))) (wSt M k (upN σ.1 i (pgt κ (σ.1 i) x), σ.2)) := by
  have h1 := hs.1 i hi
  rw [rX5_darken]
  simp (disch := omega) only [eX5_darken_0, eX5_darken_1, eX5_darken_2, eX5_darken_5, eX5_darken_6, eX5_darken_7, eX5_darken_8, eX5_darken_11, eX5_darken_12, eX5_darken_15, eX5_darken_17, eX5_darken_19, eX5_darken_20, eX5_darken_21, eX5_darken_24, eX5_darken_25, eX5_darken_26, eX5_darken_27, eX5_darken_30, eX5_darken_31, eX5_darken_34, eX5_darken_36, eX5_darken_37, eX5_darken_40, eX5_darken_41, eX5_darken_43, eX5_darken_46, eX5_darken_48, eX5_darken_50, eX5_darken_51, cnt_0, cnt_1, cnt_2, cnt_3, cnt_4, cnt_5, cnt_6, cnt_7, cnt_8, cnt_9, cnt_10, cnt_11, hk, lt_st, true_and, lit_0, lit_1, lit_5, nI_eq, tX4_at, psh_i, psh_u, wSt_rowAt hk hi, maxs_sub, max_nI, tX4_put, wSt_rowPut hk hi, pk_sub]
  unfold pgt
  by_cases a : κ = 5
  · rw [if_pos a, if_pos a, upN_self, Nat.sub_self]
  · rw [if_neg a, if_neg a]
    by_cases b : κ = 1
    · rw [if_pos b, if_pos b]
    · rw [if_neg b, if_neg b]
theorem tX5_meet {z d k h a b : Nat} {M : bM} {σ : sT} {τ : Nat → Nat → Nat} {Q : bV → bM → Prop} (hk : k < 12) (hh : h < 2) (H : Ho M h τ) (K : OKh τ) (hs : OKs σ) (ha : a < τ 7 0) (hb : b < τ 7 0) (hab : a ≠ b) : Run z (d + 3) 40 [vr 5 k, vr 1 h, .inl (nI a), .inl (nI b)] (wSt M k σ) Q = Q (.inl (nI (pmr (τ 0) σ.1 a b))) (wSt M k (tcS τ a b σ)) := by
  have hn := K.1
  have gk : ∀ σ i, i < 9 → rowAt (wSt M k σ) (2 + 7 * h) (nI i) = nI (τ 0 i) := fun σ i hi => Ho_k hh (Ho_w hh H) hi
  have s1 := hs.1 a (by omega)
  have s2 := hs.1 b (by omega)
  have k1 := OKh_k K ha
  have k2 := OKh_k K hb
  have v1 := pgv_le (κ := τ 0 a) s1
  have v2 := pgv_le (κ := τ 0 b) s2
  have hs1 : OKs (σ.1, σ.2.1 &&& msk a b, σ.2.2) := ⟨hs.1, and_lt hs.2⟩
  have hs2 : OKs (upN σ.1 a (pgt (τ 0 a) (σ.1 a) (pgv (τ 0 b) (σ.1 b))), σ.2.1 &&& msk a b, σ.2.2) := ⟨fun i hi => by
    show upN _ _ _ i ≤ 9
    unfold upN
    split
    · exact pgt_le s1 (by omega)
    · exact hs.1 i hi, and_lt hs.2⟩
  have d1 : ∀ Q, Run z (d + 2) 42 [vr 5 k, .inl (nI (τ 0 a)), .inl (nI a), .inl (nI (pgv (τ 0 b) (σ.1 b)))] (wSt M k (σ.1, σ.2.1 &&& msk a b, σ.2.2)) Q = Q (.inl (nI (pgt (τ 0 a) (σ.1 a) (pgv (τ 0 b) (σ.1 b)) - σ.1 a))) (wSt M k (upN σ.1 a (pgt (τ 0 a) (σ.1 a) (pgv (τ 0 b) (σ.1 b))), σ.2.1 &&& msk a b, σ.2.2)) := fun Q => tX5_darken hk (by omega) k1 (by omega) hs1
  have d2 : ∀ Q, Run z (d + 2) 42 [vr 5 k, .inl (nI (τ 0 b)), .inl (nI b), .inl (nI (pgv (τ 0 a) (σ.1 a)))] (wSt M k (upN σ.1 a (pgt (τ 0 a) (σ.1 a) (pgv (τ 0 b) (σ.1 b))), σ.2.1 &&& msk a b, σ.2.2)) Q = Q (.inl (nI (pgt (τ 0 b) (σ.1 b) (pgv (τ 0 a) (σ.1 a)) - σ.1 b))) (wSt M k (tcS τ a b σ)) := fun Q => by
    rw [tX5_darken hk (by omega) k2 (by omega) hs2]
    dsimp only
    rw [upN_ne (Ne.symm hab)]
    rfl
  rw [rX5_meet]
  simp (disch := omega) only [eX5_meet_0, eX5_meet_1, eX5_meet_4, eX5_meet_5, eX5_meet_8, eX5_meet_9, eX5_meet_12, eX5_meet_13, eX5_meet_16, eX5_meet_19, eX5_meet_21, eX5_meet_22, eX5_meet_25, eX5_meet_26, eX5_meet_29, eX5_meet_30, eX5_meet_33, eX5_meet_34, eX5_meet_37, eX5_meet_40, eX5_meet_42, eX5_meet_43, eX5_meet_43r, eX5_meet_44, eX5_meet_47, eX5_meet_48, eX5_meet_49, eX5_meet_50, eX5_meet_51, eX5_meet_52, eX5_meet_53, eX5_meet_54, eX5_meet_55, eX5_meet_56, eX5_meet_57, eX5_meet_60, eX5_meet_61, eX5_meet_62, eX5_meet_65, eX5_meet_66, eX5_meet_69, eX5_meet_70, eX5_meet_72, eX5_meet_75, eX5_meet_76, eX5_meet_77, eX5_meet_80, eX5_meet_81, eX5_meet_84, eX5_meet_85, eX5_meet_87, eX5_meet_90, eX5_meet_91, cnt_0, cnt_1, cnt_2, cnt_3, cnt_4, cnt_5, cnt_6, cnt_7, cnt_8, cnt_9, cnt_10, cnt_11, hk, hh, lt_st, lt_h0, true_and, tX4_at, psh_i, gk, wSt_rowAt hk, tX5_given, wSt_p, and_msk hs.2, wSt_pp, d1, d2, nI_add]
  rfl
theorem tX5_lighten {z d k i by_ : Nat} {M : bM} {σ : sT} {Q : bV → bM → Prop} (hk : k < 12) (hi : i < 9) (hb : by_ ≤ 9) (hs : OKs σ) : Run z (d + 2) 44 [vr 5 k, .inl (nI i), .inl (nI by_)] (wSt M k σ) Q = Q vu (wSt M k (liS i by_ σ)) := by
  have h1 := hs.1 i hi
  rw [rX5_lighten]
  simp (disch := omega) only [eX5_lighten_0, eX5_lighten_1, eX5_lighten_4, eX5_lighten_5, eX5_lighten_6, eX5_lighten_7, eX5_lighten_10, eX5_lighten_11, eX5_lighten_14, eX5_lighten_15, eX5_lighten_16, eX5_lighten_19, eX5_lighten_22, cnt_0, cnt_1, cnt_2, cnt_3, cnt_4, cnt_5, cnt_6, cnt_7, cnt_8, cnt_9, cnt_10, cnt_11, hk, lt_st, true_and, lit_0, tX4_at, psh_i, psh_u, wSt_rowAt hk hi, max0_sub, tX4_put, wSt_rowPut hk hi]
  rfl
theorem wby_le (τ : Nat → Nat → Nat) (i : Nat) : wby τ i ≤ 4 := by unfold wby; split <;> omega
theorem tX5_rinse {z d k h i : Nat} {M : bM} {σ : sT} {τ : Nat → Nat → Nat} {Q : bV → bM → Prop} (hk : k < 12) (hh : h < 2) (H : Ho M h τ) (K : OKh τ) (hs : OKs σ) (hi : i < τ 7 0) : Run z (d + 3) 43 [vr 5 k, vr 1 h, .inl (nI i)] (wSt M k σ) Q = Q vu (wSt M k (liS i (wby τ i) σ)) := by
  have hn := K.1
  have hw := wby_le τ i
  rw [rX5_rinse]
  simp (disch := omega) only [eX5_rinse_0, eX5_rinse_1, eX5_rinse_2, eX5_rinse_3, eX5_rinse_4, eX5_rinse_7, eX5_rinse_10, cnt_0, cnt_1, cnt_2, cnt_3, cnt_4, cnt_5, cnt_6, cnt_7, cnt_8, cnt_9, cnt_10, cnt_11, hk, hh, true_and, tX1_lighterByWashing hh (Ho_w hh H) K hi, psh_i, psh_u, tX5_lighten hk (show i < 9 by omega) (show wby τ i ≤ 9 by omega) hs]
theorem OKs_tc {τ : Nat → Nat → Nat} {σ : sT} {a b : Nat} (ha : a < 9) (hb : b < 9) (hs : OKs σ) : OKs (tcS τ a b σ) := by
  refine ⟨fun i hi => ?_, and_lt hs.2⟩
  have v1 := pgv_le (κ := τ 0 a) (hs.1 a ha)
  have v2 := pgv_le (κ := τ 0 b) (hs.1 b hb)
  show upN (upN σ.1 a _) b _ i ≤ 9
  unfold upN
  split
  · exact pgt_le (hs.1 b hb) (by omega)
  · split
    · exact pgt_le (hs.1 a ha) (by omega)
    · exact hs.1 i hi
theorem OKs_li {σ : sT} {i b : Nat} (hs : OKs σ) (hi : i < 9) : OKs (liS i b σ) := by
  refine ⟨fun j hj => ?_, hs.2⟩
  show upN σ.1 i _ j ≤ 9
  unfold upN
  have := hs.1 i hi
  split
  · omega
  · exact hs.1 j hj
theorem OKs_tcN {τ : Nat → Nat → Nat} {σ : sT} {hr n : Nat} (K : OKh τ) (hs : OKs σ) (hn : n ≤ τ 8 0) : OKs (tcN τ hr n σ) := by
  have h9 := K.1
  induction n with
  | zero => exact hs
  | succ n ih =>
    obtain ⟨q1, q2, q3, q4⟩ := K.2.2.2.2.2.2.1 n (by omega)
    unfold tcN
    split
    · exact OKs_tc (by omega) (by omega) (ih (by omega))
    · exact ih (by omega)
theorem OKs_wsN {τ : Nat → Nat → Nat} {σ : sT} {hr n : Nat} (K : OKh τ) (hs : OKs σ) (hn : n ≤ τ 9 0) : OKs (wsN τ hr n σ) := by
  have h9 := K.1
  induction n with
  | zero => exact hs
  | succ n ih =>
    obtain ⟨q1, q2, q3, q4⟩ := K.2.2.2.2.2.2.2 n (by omega)
    unfold wsN
    split
    · exact OKs_li (ih (by omega)) (by omega)
    · exact ih (by omega)
theorem OKs_fdN {τ : Nat → Nat → Nat} {σ : sT} {hr n : Nat} (hs : OKs σ) (hn : n ≤ 9) : OKs (fdN τ hr n σ) := by
  induction n with
  | zero => exact hs
  | succ n ih =>
    unfold fdN
    split
    · exact OKs_li (ih (by omega)) (by omega)
    · exact ih (by omega)
theorem tcN_g {τ : Nat → Nat → Nat} {σ : sT} {hr n : Nat} : (tcN τ hr n σ).2.2 = σ.2.2 := by
  induction n with
  | zero => rfl
  | succ n ih => unfold tcN; split <;> exact ih
theorem wsN_g {τ : Nat → Nat → Nat} {σ : sT} {hr n : Nat} : (wsN τ hr n σ).2.2 = σ.2.2 := by
  induction n with
  | zero => rfl
  | succ n ih => unfold wsN; split <;> exact ih
theorem fdN_g {τ : Nat → Nat → Nat} {σ : sT} {hr n : Nat} : (fdN τ hr n σ).2.2 = σ.2.2 := by
  induction n with
  | zero => rfl
  | succ n ih => unfold fdN; split <;> exact ih
theorem OKs_hr {τ : Nat → Nat → Nat} {σ : sT} (K : OKh τ) (hs : OKs σ) : OKs (hrS τ σ) := by
  have h := OKs_fdN (τ := τ) (hr := σ.2.2 % 12) (OKs_wsN (hr := σ.2.2 % 12) K (OKs_tcN (hr := σ.2.2 % 12) K hs (Nat.le_refl _)) (Nat.le_refl _)) K.1
  refine ⟨h.1, ?_⟩
  show (if _ then 0 else _) < 512
  split
  · decide
  · exact h.2
theorem OKs_hrN {τ : Nat → Nat → Nat} {σ : sT} {n : Nat} (K : OKh τ) (hs : OKs σ) : OKs (hrN τ n σ) := by
  induction n with
  | zero => exact hs
  | succ n ih => exact OKs_hr K ih
theorem hrN_g {τ : Nat → Nat → Nat} {σ : sT} {n : Nat} : (hrN τ n σ).2.2 = σ.2.2 + n := by
  induction n with
  | zero => rfl
  | succ n ih => show (hrN τ n σ).2.2 + 1 = _; rw [ih]; omega
