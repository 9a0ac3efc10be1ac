/-! the class's state in numbers, and plain facts -/
def bi (b : Bool) : Int32 := match b with | true => 1 | false => 0
theorem bi_t : bi true = 1 := rfl
theorem bi_f : bi false = 0 := rfl
theorem bi_t1 : bi true = nI 1 := rfl
theorem bi_f1 : bi false = nI 0 := rfl
theorem bi_0 (b : Bool) : (bi b = 0) = (b = false) := by cases b <;> simp [bi]
theorem bi_0n (b : Bool) : (bi b = nI 0) = (b = false) := bi_0 b
theorem bi_ite (p : Prop) [h : Decidable p] : (if p then (1 : Int32) else 0) = bi (decide p) := by by_cases q : p <;> simp [q, bi]
theorem eq_up {α : Sort _} (E : Nat → α) {a N : Nat} (ha : a ≤ N) (h : ∀ i, a ≤ i → i < N → E i = E (i + 1)) : E a = E N := by
  induction N with
  | zero => rw [Nat.le_zero.mp ha]
  | succ N ih =>
    by_cases q : a = N + 1
    · rw [q]
    · have : a ≤ N := by omega
      rw [ih this (fun i h1 h2 => h i h1 (by omega)), h N this (by omega)]
theorem bM_ext {M M' : bM} (h1 : ∀ c i j, gI M c i j = gI M' c i j) (h2 : ∀ c i j, gR M c i j = gR M' c i j) : M = M' :=
  Prod.ext (funext fun c => funext fun i => funext fun j => h1 c i j) (funext fun c => funext fun i => funext fun j => h2 c i j)
theorem lit_0 : (0 : Int32) = nI 0 := rfl
theorem lit_1 : (1 : Int32) = nI 1 := rfl
theorem lit_2 : (2 : Int32) = nI 2 := rfl
theorem lit_3 : (3 : Int32) = nI 3 := rfl
theorem lit_4 : (4 : Int32) = nI 4 := rfl
theorem lit_5 : (5 : Int32) = nI 5 := rfl
theorem lit_6 : (6 : Int32) = nI 6 := rfl
theorem lit_7 : (7 : Int32) = nI 7 := rfl
theorem lit_8 : (8 : Int32) = nI 8 := rfl
theorem lit_9 : (9 : Int32) = nI 9 := rfl
theorem lit_10 : (10 : Int32) = nI 10 := rfl
theorem lit_11 : (11 : Int32) = nI 11 := rfl
theorem lit_12 : (12 : Int32) = nI 12 := rfl
def upN (f : Nat → Nat) (k v : Nat) : Nat → Nat := fun j => if j = k then v else f j
/-- the first n places of a row set anew -/
def rset (M : bM) (r n : Nat) (f : Nat → Int32) : bM := (fun c i j => if c = 9 ∧ i = r ∧ j < n then f j else M.1 c i j, M.2)
theorem gI_rset (M : bM) (r n : Nat) (f : Nat → Int32) (c i j : Nat) : gI (rset M r n f) c i j = if c = 9 ∧ i = r ∧ j < n then f j else gI M c i j := rfl
theorem gR_rset (M : bM) (r n : Nat) (f : Nat → Int32) (c i j : Nat) : gR (rset M r n f) c i j = gR M c i j := rfl
theorem rset_0 (M : bM) (r : Nat) (f : Nat → Int32) : rset M r 0 f = M := by
  refine bM_ext (fun c i j => ?_) (fun c i j => rfl)
  rw [gI_rset, if_neg (by omega)]
theorem rset_s (M : bM) (r n : Nat) (f : Nat → Int32) {v : Int32} (hv : v = f n) : sI (rset M r n f) 9 r n v = rset M r (n + 1) f := by
  subst hv
  refine bM_ext (fun c i j => ?_) (fun c i j => rfl)
  rw [gI_sI, gI_rset, gI_rset]
  by_cases h : c = 9 ∧ i = r ∧ j = n
  · obtain ⟨rfl, rfl, rfl⟩ := h
    rw [if_pos ⟨rfl, rfl, rfl⟩, if_pos ⟨rfl, rfl, by omega⟩]
  · rw [if_neg h]
    by_cases h2 : c = 9 ∧ i = r ∧ j < n
    · rw [if_pos h2, if_pos ⟨h2.1, h2.2.1, by omega⟩]
    · rw [if_neg h2, if_neg (fun q => h2 ⟨q.1, q.2.1, by have := fun e => h ⟨q.1, q.2.1, e⟩; omega⟩)]
theorem rowAt_rset_ne {M : bM} {r n o : Nat} {f : Nat → Int32} {p : Int32} (h : o ≠ r) : rowAt (rset M r n f) o p = rowAt M o p := by
  unfold rowAt
  rw [gI_rset, if_neg (show ¬ (9 = 9 ∧ o = r ∧ p.toNatClampNeg < n) from fun q => h q.2.1)]
/-- how often v stands among the first n -/
def cnE (f : Nat → Nat) (v : Nat) : Nat → Nat
  | 0 => 0
  | n + 1 => cnE f v n + if f n = v then 1 else 0
theorem cnE_le (f : Nat → Nat) (v n : Nat) : cnE f v n ≤ n := by
  induction n with
  | zero => exact Nat.le_refl _
  | succ n ih => unfold cnE; split <;> omega
theorem aln_h0 {h : Nat} (hh : h < 2) : aln (2 + 7 * h) = 9 := by
  match h, hh with
  | 0, _ => rfl
  | 1, _ => rfl
theorem aln_h1 {h : Nat} (hh : h < 2) : aln (3 + 7 * h) = 9 := by
  match h, hh with
  | 0, _ => rfl
  | 1, _ => rfl
theorem aln_h2 {h : Nat} (hh : h < 2) : aln (4 + 7 * h) = 10 := by
  match h, hh with
  | 0, _ => rfl
  | 1, _ => rfl
theorem aln_h3 {h : Nat} (hh : h < 2) : aln (5 + 7 * h) = 10 := by
  match h, hh with
  | 0, _ => rfl
  | 1, _ => rfl
theorem aln_h4 {h : Nat} (hh : h < 2) : aln (6 + 7 * h) = 10 := by
  match h, hh with
  | 0, _ => rfl
  | 1, _ => rfl
theorem aln_h5 {h : Nat} (hh : h < 2) : aln (7 + 7 * h) = 4 := by
  match h, hh with
  | 0, _ => rfl
  | 1, _ => rfl
theorem aln_h6 {h : Nat} (hh : h < 2) : aln (8 + 7 * h) = 4 := by
  match h, hh with
  | 0, _ => rfl
  | 1, _ => rfl
theorem lt_h0 {h : Nat} (hh : h < 2) : (2 + 7 * h < 32) = True := eq_true (by omega)
theorem lt_h1 {h : Nat} (hh : h < 2) : (3 + 7 * h < 32) = True := eq_true (by omega)
theorem lt_h2 {h : Nat} (hh : h < 2) : (4 + 7 * h < 32) = True := eq_true (by omega)
theorem lt_h3 {h : Nat} (hh : h < 2) : (5 + 7 * h < 32) = True := eq_true (by omega)
theorem lt_h4 {h : Nat} (hh : h < 2) : (6 + 7 * h < 32) = True := eq_true (by omega)
theorem lt_h5 {h : Nat} (hh : h < 2) : (7 + 7 * h < 32) = True := eq_true (by omega)
theorem lt_h6 {h : Nat} (hh : h < 2) : (8 + 7 * h < 32) = True := eq_true (by omega)
theorem lt_st {k : Nat} (hk : k < 12) : (16 + k < 32) = True := eq_true (by omega)
theorem aln_st {k : Nat} (hk : k < 12) : aln (16 + k) = 9 := by
  have : ∀ i : Fin 12, aln (16 + i.val) = 9 := by decide
  exact this ⟨k, hk⟩
/-- a house: rows 0 to 6 (kinds, shades, touches' hours, first, second, washings' hours, who), 7 to 10: how many items, touches, washings; the hour of supper -/
def Ho (M : bM) (h : Nat) (τ : Nat → Nat → Nat) : Prop :=
  (∀ i, i < 9 → gI M 9 (2 + 7 * h) i = nI (τ 0 i)) ∧ (∀ i, i < 9 → gI M 9 (3 + 7 * h) i = nI (τ 1 i)) ∧ (∀ i, i < 10 → gI M 9 (4 + 7 * h) i = nI (τ 2 i)) ∧ (∀ i, i < 10 → gI M 9 (5 + 7 * h) i = nI (τ 3 i)) ∧ (∀ i, i < 10 → gI M 9 (6 + 7 * h) i = nI (τ 4 i)) ∧ (∀ i, i < 4 → gI M 9 (7 + 7 * h) i = nI (τ 5 i)) ∧ (∀ i, i < 4 → gI M 9 (8 + 7 * h) i = nI (τ 6 i)) ∧
  gI M 1 h 7 = nI (τ 7 0) ∧ gI M 1 h 8 = nI (τ 8 0) ∧ gI M 1 h 9 = nI (τ 9 0) ∧ gI M 1 h 10 = nI (τ 10 0)
/-- what a TEXT without fault tells -/
def OKh (τ : Nat → Nat → Nat) : Prop := τ 7 0 ≤ 9 ∧ τ 8 0 ≤ 10 ∧ τ 9 0 ≤ 4 ∧ τ 10 0 < 12 ∧ (∀ i, i < τ 7 0 → τ 0 i ≤ 5) ∧ (∀ i, i < τ 7 0 → τ 1 i ≤ 9) ∧
  (∀ k, k < τ 8 0 → τ 2 k < 12 ∧ τ 3 k < τ 7 0 ∧ τ 4 k < τ 7 0 ∧ τ 3 k ≠ τ 4 k) ∧ (∀ k, k < τ 9 0 → τ 5 k < 12 ∧ τ 6 k < τ 7 0 ∧ ¬ τ 0 (τ 6 k) = 3 ∧ ¬ τ 0 (τ 6 k) = 4)
def per (τ : Nat → Nat → Nat) (i : Nat) : Bool := decide (i < τ 7 0) && (decide (¬ τ 0 i = 3) && decide (¬ τ 0 i = 4))
def ppl (τ : Nat → Nat → Nat) : Nat → Nat
  | 0 => 0
  | n + 1 => ppl τ n + if per τ n = true then 1 else 0
theorem ppl_le (τ : Nat → Nat → Nat) (n : Nat) : ppl τ n ≤ n := by
  induction n with
  | zero => exact Nat.le_refl _
  | succ n ih => unfold ppl; split <;> omega
def wby (τ : Nat → Nat → Nat) (i : Nat) : Nat := if τ 0 i = 2 then 4 else 2
/-- is it a number below n -/
def hsB (x : Int32) (n : Nat) : Bool := decide (¬ x < 0) && decide (¬ nI n ≤ x)
theorem hsB_nI {j n : Nat} (h : j < n) (hn : n < 2 ^ 31) : hsB (nI j) n = true := by
  unfold hsB
  rw [Bool.and_eq_true, decide_eq_true_eq, decide_eq_true_eq]
  exact ⟨nI_pos (by omega), nI_ge h hn⟩
theorem hsB_cases (x : Int32) {n : Nat} (hn : n < 2 ^ 31) : (∃ j, j < n ∧ x = nI j ∧ hsB x n = true) ∨ hsB x n = false := by
  rcases pk_ix x hn with h | h | ⟨j, hj, rfl⟩
  · right; unfold hsB; simp [h]
  · right; unfold hsB; simp [h]
  · exact Or.inl ⟨j, hj, rfl, hsB_nI hj hn⟩
/-- how all stands at one time: shades, powder (bits), hours gone by -/
abbrev sT : Type := (Nat → Nat) × Nat × Nat
def wSt (M : bM) (k : Nat) (σ : sT) : bM := (fun c i j => if c = 9 ∧ i = 16 + k ∧ j < 9 then nI (σ.1 j) else if c = 5 ∧ i = k ∧ j = 1 then nI σ.2.1 else if c = 5 ∧ i = k ∧ j = 2 then nI (σ.2.2 % 12) else if c = 5 ∧ i = k ∧ j = 3 then nI σ.2.2 else M.1 c i j, M.2)
def St (M : bM) (k : Nat) (σ : sT) : Prop := (∀ i, i < 9 → gI M 9 (16 + k) i = nI (σ.1 i)) ∧ gI M 5 k 1 = nI σ.2.1 ∧ gI M 5 k 2 = nI (σ.2.2 % 12) ∧ gI M 5 k 3 = nI σ.2.2
theorem gI_wSt (M : bM) (k : Nat) (σ : sT) (c i j : Nat) : gI (wSt M k σ) c i j = if c = 9 ∧ i = 16 + k ∧ j < 9 then nI (σ.1 j) else if c = 5 ∧ i = k ∧ j = 1 then nI σ.2.1 else if c = 5 ∧ i = k ∧ j = 2 then nI (σ.2.2 % 12) else if c = 5 ∧ i = k ∧ j = 3 then nI σ.2.2 else gI M c i j := rfl
theorem gR_wSt (M : bM) (k : Nat) (σ : sT) (c i j : Nat) : gR (wSt M k σ) c i j = gR M c i j := rfl
theorem wSt_s {M : bM} {k : Nat} {σ : sT} {j : Nat} (hj : j < 9) : gI (wSt M k σ) 9 (16 + k) j = nI (σ.1 j) := by rw [gI_wSt, if_pos ⟨rfl, rfl, hj⟩]
theorem wSt_p {M : bM} {k : Nat} {σ : sT} : gI (wSt M k σ) 5 k 1 = nI σ.2.1 := by rw [gI_wSt, if_neg (by omega), if_pos ⟨rfl, rfl, rfl⟩]
theorem wSt_h {M : bM} {k : Nat} {σ : sT} : gI (wSt M k σ) 5 k 2 = nI (σ.2.2 % 12) := by rw [gI_wSt, if_neg (by omega), if_neg (by omega), if_pos ⟨rfl, rfl, rfl⟩]
theorem wSt_g {M : bM} {k : Nat} {σ : sT} : gI (wSt M k σ) 5 k 3 = nI σ.2.2 := by rw [gI_wSt, if_neg (by omega), if_neg (by omega), if_neg (by omega), if_pos ⟨rfl, rfl, rfl⟩]
theorem wSt_o {M : bM} {k : Nat} {σ : sT} {c i j : Nat} (h : ¬ (c = 9 ∧ i = 16 + k)) (h2 : ¬ (c = 5 ∧ i = k)) : gI (wSt M k σ) c i j = gI M c i j := by
  rw [gI_wSt, if_neg (fun q => h ⟨q.1, q.2.1⟩), if_neg (fun q => h2 ⟨q.1, q.2.1⟩), if_neg (fun q => h2 ⟨q.1, q.2.1⟩), if_neg (fun q => h2 ⟨q.1, q.2.1⟩)]
theorem St_wSt (M : bM) (k : Nat) (σ : sT) : St (wSt M k σ) k σ := ⟨fun i hi => wSt_s hi, wSt_p, wSt_h, wSt_g⟩
theorem wSt_id {M : bM} {k : Nat} {σ : sT} (h : St M k σ) : wSt M k σ = M := by
  obtain ⟨h1, h2, h3, h4⟩ := h
  refine bM_ext (fun c i j => ?_) (fun c i j => rfl)
  rw [gI_wSt]
  split
  · rename_i q; obtain ⟨rfl, rfl, q⟩ := q; exact (h1 j q).symm
  · split
    · rename_i q; obtain ⟨rfl, rfl, rfl⟩ := q; exact h2.symm
    · split
      · rename_i q; obtain ⟨rfl, rfl, rfl⟩ := q; exact h3.symm
      · split
        · rename_i q; obtain ⟨rfl, rfl, rfl⟩ := q; exact h4.symm
        · rfl
theorem wSt_wSt (M : bM) (k : Nat) (σ σ' : sT) : wSt (wSt M k σ) k σ' = wSt M k σ' := by
  refine bM_ext (fun c i j => ?_) (fun c i j => rfl)
  rw [gI_wSt, gI_wSt, gI_wSt]
  split
  · rfl
  · split
    · rfl
    · split
      · rfl
      · split <;> rfl
theorem wSt_ps {M : bM} {k : Nat} {σ : sT} {j v : Nat} (hj : j < 9) : sI (wSt M k σ) 9 (16 + k) j (nI v) = wSt M k (upN σ.1 j v, σ.2) := by
  refine bM_ext (fun c i j' => ?_) (fun c i j => rfl)
  rw [gI_sI, gI_wSt, gI_wSt]
  by_cases h : c = 9 ∧ i = 16 + k ∧ j' = j
  · rw [if_pos h, if_pos ⟨h.1, h.2.1, by omega⟩]
    show _ = nI (if j' = j then v else σ.1 j')
    rw [if_pos h.2.2]
  · rw [if_neg h]
    by_cases h2 : c = 9 ∧ i = 16 + k ∧ j' < 9
    · rw [if_pos h2, if_pos h2]
      show _ = nI (if j' = j then v else σ.1 j')
      rw [if_neg (fun q => h ⟨h2.1, h2.2.1, q⟩)]
    · rw [if_neg h2, if_neg h2]
theorem wSt_pp {M : bM} {k : Nat} {σ : sT} {p : Nat} : sI (wSt M k σ) 5 k 1 (nI p) = wSt M k (σ.1, p, σ.2.2) := by
  refine bM_ext (fun c i j => ?_) (fun c i j => rfl)
  rw [gI_sI, gI_wSt, gI_wSt]
  by_cases h : c = 5 ∧ i = k ∧ j = 1
  · rw [if_pos h, if_neg (by omega), if_pos h]
  · rw [if_neg h, if_neg h, if_neg h]
theorem wSt_pg {M : bM} {k : Nat} {σ : sT} {g : Nat} : sI (sI (wSt M k σ) 5 k 2 (nI (g % 12))) 5 k 3 (nI g) = wSt M k (σ.1, σ.2.1, g) := by
  refine bM_ext (fun c i j => ?_) (fun c i j => rfl)
  rw [gI_sI, gI_sI, gI_wSt, gI_wSt]
  by_cases h : c = 5 ∧ i = k ∧ j = 3
  · rw [if_pos h, if_neg (by omega), if_neg (by omega), if_neg (by omega), if_pos h]
  · rw [if_neg h, if_neg h, if_neg h]
    by_cases h2 : c = 5 ∧ i = k ∧ j = 2
    · rw [if_pos h2, if_neg (by omega), if_neg (by omega), if_pos h2]
    · rw [if_neg h2, if_neg h2, if_neg h2]
theorem Ho_w {M : bM} {k h : Nat} {σ : sT} {τ : Nat → Nat → Nat} (hh : h < 2) (H : Ho M h τ) : Ho (wSt M k σ) h τ := by
  obtain ⟨h0, h1, h2, h3, h4, h5, h6, h7, h8, h9, h10⟩ := H
  refine ⟨fun i hi => ?_, fun i hi => ?_, fun i hi => ?_, fun i hi => ?_, fun i hi => ?_, fun i hi => ?_, fun i hi => ?_, ?_, ?_, ?_, ?_⟩
  · rw [wSt_o (by omega) (by omega)]; exact h0 i hi
  · rw [wSt_o (by omega) (by omega)]; exact h1 i hi
  · rw [wSt_o (by omega) (by omega)]; exact h2 i hi
  · rw [wSt_o (by omega) (by omega)]; exact h3 i hi
  · rw [wSt_o (by omega) (by omega)]; exact h4 i hi
  · rw [wSt_o (by omega) (by omega)]; exact h5 i hi
  · rw [wSt_o (by omega) (by omega)]; exact h6 i hi
  · rw [wSt_o (by omega) (by omega)]; exact h7
  · rw [wSt_o (by omega) (by omega)]; exact h8
  · rw [wSt_o (by omega) (by omega)]; exact h9
  · rw [wSt_o (by omega) (by omega)]; exact h10
theorem St_o {M : bM} {k k' : Nat} {σ σ' : sT} (hk : k ≠ k') (H : St M k' σ') : St (wSt M k σ) k' σ' := by
  obtain ⟨h1, h2, h3, h4⟩ := H
  refine ⟨fun i hi => ?_, ?_, ?_, ?_⟩
  · rw [wSt_o (by omega) (by omega)]; exact h1 i hi
  · rw [wSt_o (by omega) (by omega)]; exact h2
  · rw [wSt_o (by omega) (by omega)]; exact h3
  · rw [wSt_o (by omega) (by omega)]; exact h4
/-! bits of the powder -/
theorem nI_and (p : Nat) (hp : p < 2 ^ 31) (y : Int32) : nI p &&& y = nI (p &&& y.toBitVec.toNat) := by
  apply Int32.toBitVec_inj.mp
  apply BitVec.eq_of_toNat_eq
  have h1 : (nI p &&& y).toBitVec = (nI p).toBitVec &&& y.toBitVec := rfl
  rw [h1, BitVec.toNat_and, pk_tn (by omega), pk_tn (by have := Nat.and_le_left (n := p) (m := y.toBitVec.toNat); omega)]
def msk (a b : Nat) : Nat := (((1 : Int32) <<< (nI a &&& 31) ||| (1 : Int32) <<< (nI b &&& 31)) ^^^ (-1)).toBitVec.toNat
theorem and_msk {p a b : Nat} (hp : p < 512) : nI p &&& (((1 : Int32) <<< (nI a &&& 31) ||| (1 : Int32) <<< (nI b &&& 31)) ^^^ (-1)) = nI (p &&& msk a b) := nI_and p (by omega) _
theorem and_lt {p m : Nat} (hp : p < 512) : p &&& m < 512 := Nat.lt_of_le_of_lt Nat.and_le_left hp
set_option maxRecDepth 100000 in
theorem pow_t0 : ∀ p : Fin 512, ∀ i : Fin 9, (nI p.val &&& ((1 : Int32) <<< (nI i.val &&& 31)) = 0) = (p.val.testBit i.val = false) ∧ (nI p.val ||| ((1 : Int32) <<< (nI i.val &&& 31))) = nI (p.val ||| 2 ^ i.val) ∧ (p.val ||| 2 ^ i.val) < 512 ∧ ((nI p.val >>> (nI i.val &&& 31)) &&& 1) = bi (p.val.testBit i.val) := by
  have h : ∀ p : Fin 512, ∀ i : Fin 9, decide (nI p.val &&& ((1 : Int32) <<< (nI i.val &&& 31)) = 0) = decide (p.val.testBit i.val = false) ∧ (nI p.val ||| ((1 : Int32) <<< (nI i.val &&& 31))) = nI (p.val ||| 2 ^ i.val) ∧ (p.val ||| 2 ^ i.val) < 512 ∧ ((nI p.val >>> (nI i.val &&& 31)) &&& 1) = bi (p.val.testBit i.val) := by decide +kernel
  intro p i
  obtain ⟨h1, h2⟩ := h p i
  exact ⟨propext (decide_eq_decide.mp h1), h2⟩
theorem pow_t {p i : Nat} (hp : p < 512) (hi : i < 9) : (nI p &&& ((1 : Int32) <<< (nI i &&& 31)) = 0) = (p.testBit i = false) := (pow_t0 ⟨p, hp⟩ ⟨i, hi⟩).1
theorem pow_o {p i : Nat} (hp : p < 512) (hi : i < 9) : (nI p ||| ((1 : Int32) <<< (nI i &&& 31))) = nI (p ||| 2 ^ i) := (pow_t0 ⟨p, hp⟩ ⟨i, hi⟩).2.1
theorem pow_l {p i : Nat} (hp : p < 512) (hi : i < 9) : (p ||| 2 ^ i) < 512 := (pow_t0 ⟨p, hp⟩ ⟨i, hi⟩).2.2.1
theorem pow_s {p i : Nat} (hp : p < 512) (hi : i < 9) : ((nI p >>> (nI i &&& 31)) &&& 1) = bi (p.testBit i) := (pow_t0 ⟨p, hp⟩ ⟨i, hi⟩).2.2.2
/-! how all goes on, in numbers -/
def pgv (κ s : Nat) : Nat := if κ = 5 then 8 else if κ = 1 then s - 2 else s - 1
def pgt (κ had x : Nat) : Nat := if κ = 5 then had else max had (if κ = 1 then x - 1 else x)
def pmt (κ f : Nat → Nat) (a b : Nat) : Nat → Nat := upN (upN f a (pgt (κ a) (f a) (pgv (κ b) (f b)))) b (pgt (κ b) (f b) (pgv (κ a) (f a)))
def pmr (κ f : Nat → Nat) (a b : Nat) : Nat := (pgt (κ a) (f a) (pgv (κ b) (f b)) - f a) + (pgt (κ b) (f b) (pgv (κ a) (f a)) - f b)
/-- a touch -/
def tcS (τ : Nat → Nat → Nat) (a b : Nat) (σ : sT) : sT := (pmt (τ 0) σ.1 a b, σ.2.1 &&& msk a b, σ.2.2)
/-- lighter by -/
def liS (i by_ : Nat) (σ : sT) : sT := (upN σ.1 i (σ.1 i - by_), σ.2)
def tcN (τ : Nat → Nat → Nat) (hr : Nat) : Nat → sT → sT
  | 0, σ => σ
  | n + 1, σ => if τ 2 n = hr then tcS τ (τ 3 n) (τ 4 n) (tcN τ hr n σ) else tcN τ hr n σ
def wsN (τ : Nat → Nat → Nat) (hr : Nat) : Nat → sT → sT
  | 0, σ => σ
  | n + 1, σ => if τ 5 n = hr then liS (τ 6 n) (wby τ (τ 6 n)) (wsN τ hr n σ) else wsN τ hr n σ
def fdB (τ : Nat → Nat → Nat) (hr i : Nat) : Bool := if per τ i = true then decide (hr % 3 = 2) else decide (hr % 6 = 5) && decide (τ 0 i = 3)
def fdN (τ : Nat → Nat → Nat) (hr : Nat) : Nat → sT → sT
  | 0, σ => σ
  | n + 1, σ => if fdB τ hr n = true then liS n 1 (fdN τ hr n σ) else fdN τ hr n σ
/-- an hour -/
def hrS (τ : Nat → Nat → Nat) (σ : sT) : sT :=
  ((fdN τ (σ.2.2 % 12) (τ 7 0) (wsN τ (σ.2.2 % 12) (τ 9 0) (tcN τ (σ.2.2 % 12) (τ 8 0) σ))).1, (if σ.2.2 % 12 = τ 10 0 then 0 else (fdN τ (σ.2.2 % 12) (τ 7 0) (wsN τ (σ.2.2 % 12) (τ 9 0) (tcN τ (σ.2.2 % 12) (τ 8 0) σ))).2.1), σ.2.2 + 1)
def hrN (τ : Nat → Nat → Nat) : Nat → sT → sT
  | 0, σ => σ
  | n + 1, σ => hrS τ (hrN τ n σ)
def OKs (σ : sT) : Prop := (∀ i, i < 9 → σ.1 i ≤ 9) ∧ σ.2.1 < 512
