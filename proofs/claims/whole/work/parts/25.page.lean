/-! contracts: the TEXT read -/
def upT (τ : Nat → Nat → Nat) (j i v : Nat) : Nat → Nat → Nat := fun j' i' => if j' = j ∧ i' = i then v else τ j' i'
theorem upT_eq {τ : Nat → Nat → Nat} {j i v : Nat} : upT τ j i v j i = v := by unfold upT; rw [if_pos ⟨rfl, rfl⟩]
theorem upT_j {τ : Nat → Nat → Nat} {j i v j' i' : Nat} (h : j' ≠ j) : upT τ j i v j' i' = τ j' i' := by unfold upT; rw [if_neg (fun q => h q.1)]
theorem upT_i {τ : Nat → Nat → Nat} {j i v j' i' : Nat} (h : i' ≠ i) : upT τ j i v j' i' = τ j' i' := by unfold upT; rw [if_neg (fun q => h q.2)]
theorem if_cg {α : Type} {p q : Prop} [hp : Decidable p] [hq : Decidable q] {a b : α} (h : p ↔ q) : (if p then a else b) = (if q then a else b) := by
  by_cases w : p
  · rw [if_pos w, if_pos (h.mp w)]
  · rw [if_neg w, if_neg (fun v => w (h.mpr v))]
theorem hrow {M : bM} {r i0 v : Nat} {c' r' i b : Nat} (hb : gI M c' r' i = nI b) : gI (sI M 9 r i0 (nI v)) c' r' i = nI (if c' = 9 ∧ r' = r ∧ i = i0 then v else b) := by
  rw [gI_sI]
  split <;> first | rfl | exact hb
theorem Ho_row {M : bM} {h j i0 v : Nat} {τ : Nat → Nat → Nat} (hj : j < 7) (H : Ho M h τ) : Ho (sI M 9 (2 + j + 7 * h) i0 (nI v)) h (upT τ j i0 v) := by
  obtain ⟨q0, q1, q2, q3, q4, q5, q6, q7, q8, q9, q10⟩ := H
  refine ⟨fun i hi => ?_, fun i hi => ?_, fun i hi => ?_, fun i hi => ?_, fun i hi => ?_, fun i hi => ?_, fun i hi => ?_, ?_, ?_, ?_, ?_⟩
  · rw [hrow (q0 i hi)]; unfold upT; exact congrArg nI (if_cg (by omega))
  · rw [hrow (q1 i hi)]; unfold upT; exact congrArg nI (if_cg (by omega))
  · rw [hrow (q2 i hi)]; unfold upT; exact congrArg nI (if_cg (by omega))
  · rw [hrow (q3 i hi)]; unfold upT; exact congrArg nI (if_cg (by omega))
  · rw [hrow (q4 i hi)]; unfold upT; exact congrArg nI (if_cg (by omega))
  · rw [hrow (q5 i hi)]; unfold upT; exact congrArg nI (if_cg (by omega))
  · rw [hrow (q6 i hi)]; unfold upT; exact congrArg nI (if_cg (by omega))
  · rw [hrow q7, if_neg (by omega), upT_j (by omega)]
  · rw [hrow q8, if_neg (by omega), upT_j (by omega)]
  · rw [hrow q9, if_neg (by omega), upT_j (by omega)]
  · rw [hrow q10, if_neg (by omega), upT_j (by omega)]
theorem hint {M : bM} {h j v : Nat} {c' r' i b : Nat} (hb : gI M c' r' i = nI b) : gI (sI M 1 h j (nI v)) c' r' i = nI (if c' = 1 ∧ r' = h ∧ i = j then v else b) := by
  rw [gI_sI]
  split <;> first | rfl | exact hb
theorem Ho_int {M : bM} {h j v : Nat} {τ : Nat → Nat → Nat} (hj : 7 ≤ j) (H : Ho M h τ) : Ho (sI M 1 h j (nI v)) h (upT τ j 0 v) := by
  obtain ⟨q0, q1, q2, q3, q4, q5, q6, q7, q8, q9, q10⟩ := H
  refine ⟨fun i hi => ?_, fun i hi => ?_, fun i hi => ?_, fun i hi => ?_, fun i hi => ?_, fun i hi => ?_, fun i hi => ?_, ?_, ?_, ?_, ?_⟩
  · rw [hint (q0 i hi), if_neg (by omega), upT_j (by omega)]
  · rw [hint (q1 i hi), if_neg (by omega), upT_j (by omega)]
  · rw [hint (q2 i hi), if_neg (by omega), upT_j (by omega)]
  · rw [hint (q3 i hi), if_neg (by omega), upT_j (by omega)]
  · rw [hint (q4 i hi), if_neg (by omega), upT_j (by omega)]
  · rw [hint (q5 i hi), if_neg (by omega), upT_j (by omega)]
  · rw [hint (q6 i hi), if_neg (by omega), upT_j (by omega)]
  · rw [hint q7]; unfold upT; exact congrArg nI (if_cg (by omega))
  · rw [hint q8]; unfold upT; exact congrArg nI (if_cg (by omega))
  · rw [hint q9]; unfold upT; exact congrArg nI (if_cg (by omega))
  · rw [hint q10]; unfold upT; exact congrArg nI (if_cg (by omega))
/-- the cells of a house -/
def hS (h c i : Nat) : Prop := (c = 1 ∧ i = h) ∨ (c = 9 ∧ 2 + 7 * h ≤ i ∧ i ≤ 8 + 7 * h)
/-- no house yet -/
def nil0 (τ : Nat → Nat → Nat) : Nat → Nat → Nat := upT (upT (upT (upT τ 7 0 0) 8 0 0) 9 0 0) 10 0 7
theorem tX1_clear {z d h : Nat} {M : bM} {τ : Nat → Nat → Nat} {Q : bV → bM → Prop} (hh : h < 2) (H : Ho M h τ) (hQ : ∀ M', Ho M' h (nil0 τ) → Eqx (hS h) M M' → Q vu M') : Run z (d + 1) 4 [vr 1 h] M Q := by
  rw [rX1_clear]
  simp only [eX1_clear_0, eX1_clear_1, eX1_clear_2, eX1_clear_5, eX1_clear_6, eX1_clear_7, eX1_clear_10, eX1_clear_11, eX1_clear_12, eX1_clear_15, eX1_clear_16, eX1_clear_18, eX1_clear_21, cnt_0, cnt_1, cnt_2, cnt_3, cnt_4, cnt_5, cnt_6, cnt_7, cnt_8, cnt_9, cnt_10, cnt_11, hh, true_and, lit_0, lit_7]
  have e : ∀ (M : bM) j v, Eqx (hS h) M (sI M 1 h j v) := fun M j v => Eqx_sI (Or.inl ⟨rfl, rfl⟩)
  have t : ∀ {M1 M2 M3 : bM}, Eqx (hS h) M1 M2 → Eqx (hS h) M2 M3 → Eqx (hS h) M1 M3 := fun a b => Eqx_tr a b (fun _ _ q => q) (fun _ _ q => q)
  exact hQ _ (Ho_int (by decide) (Ho_int (by decide) (Ho_int (by decide) (Ho_int (by decide) H)))) (t (t (t (e _ _ _) (e _ _ _)) (e _ _ _)) (e _ _ _))
theorem tX7_isShade {z d : Nat} {x : Int32} {M : bM} {Q : bV → bM → Prop} : Run z (d + 1) 79 [.inl x] M Q = Q (.inl (bi (hsB x 10))) M := by
  rw [rX7_isShade]
  simp only [eX7_isShade_0, eX7_isShade_1, eX7_isShade_4, eX7_isShade_5, eX7_isShade_7, eX7_isShade_10, eX7_isShade_11, eX7_isShade_14, eX7_isShade_150, eX7_isShade_151, eX7_isShade_15n0, eX7_isShade_15n1, lit_9]
  rcases hsB_cases x (n := 10) (by decide) with ⟨j, hj, rfl, e⟩ | e
  · rw [e]
    simp (disch := omega) only [lit_0, nI_ltI, Nat.not_lt_zero, if_false, if_neg (show ¬ 9 < j by omega), bi_t1, lit_1]
  · rw [e]
    unfold hsB at e
    by_cases a : x < 0
    · rw [if_pos a]; rfl
    · rw [if_neg a]
      by_cases b : nI 9 < x
      · rw [if_pos b]; rfl
      · exfalso
        rcases pk_ix x (n := 10) (by decide) with h | h | ⟨j, hj, rfl⟩
        · exact a h
        · rw [Int32.le_iff_toInt_le, nI_toInt (by decide)] at h
          rw [Int32.lt_iff_toInt_lt, nI_toInt (by decide)] at b
          omega
        · simp [nI_ge hj (show 10 < 2 ^ 31 by decide), a] at e
theorem tX7_isHour {z d : Nat} {x : Int32} {M : bM} {Q : bV → bM → Prop} : Run z (d + 1) 78 [.inl x] M Q = Q (.inl (bi (hsB x 12))) M := by
  rw [rX7_isHour]
  simp only [eX7_isHour_0, eX7_isHour_1, eX7_isHour_4, eX7_isHour_5, eX7_isHour_7, eX7_isHour_10, eX7_isHour_11, eX7_isHour_14, eX7_isHour_150, eX7_isHour_151, eX7_isHour_15n0, eX7_isHour_15n1, lit_12]
  unfold hsB
  by_cases a : x < 0
  · rw [if_pos a]; simp [a, bi]
  · rw [if_neg a]
    by_cases b : nI 12 ≤ x
    · rw [if_pos b]; simp [b, bi]
    · rw [if_neg b]; simp [a, b, bi]
/-- 0 or 1 -/
def eiB (x : Int32) : Bool := decide (x = 0) || decide (x = 1)
theorem tX7_isEither {z d : Nat} {x : Int32} {M : bM} {Q : bV → bM → Prop} : Run z (d + 1) 77 [.inl x] M Q = Q (.inl (bi (eiB x))) M := by
  rw [rX7_isEither]
  simp only [eX7_isEither_0, eX7_isEither_1, eX7_isEither_4, eX7_isEither_5, eX7_isEither_6, eX7_isEither_9, eX7_isEither_10, eX7_isEither_13, eX7_isEither_140, eX7_isEither_141, eX7_isEither_14n0, eX7_isEither_14n1]
  unfold eiB
  by_cases a : x = 0
  · rw [if_pos a]; simp [a, bi]
  · rw [if_neg a]
    by_cases b : x = 1
    · rw [if_pos b]; simp [b, bi]
    · rw [if_neg b]; simp [a, b, bi]
/-- an ITEM of the TEXT taken in -/
def adI (τ : Nat → Nat → Nat) (c : Nat) (ns : List Nat) : Option (Nat → Nat → Nat) := match ns with
  | [a, b] => if c = 105 then (if τ 7 0 < 9 ∧ a ≤ 5 ∧ b ≤ 9 then some (upT (upT (upT τ 0 (τ 7 0) a) 1 (τ 7 0) b) 7 0 (τ 7 0 + 1)) else none)
      else if c = 119 then (if τ 9 0 < 4 ∧ a < 12 ∧ per τ b = true then some (upT (upT (upT τ 5 (τ 9 0) a) 6 (τ 9 0) b) 9 0 (τ 9 0 + 1)) else none)
      else none
  | [a, b, e] => if c = 116 then (if τ 8 0 < 10 ∧ a < 12 ∧ b < τ 7 0 ∧ e < τ 7 0 ∧ b ≠ e then some (upT (upT (upT (upT τ 2 (τ 8 0) a) 3 (τ 8 0) b) 4 (τ 8 0) e) 8 0 (τ 8 0 + 1)) else none) else none
  | [a] => if c = 115 then (if a < 12 then some (upT τ 10 0 a) else none) else none
  | _ => none
theorem hsB_n {a n : Nat} (ha : a < 2 ^ 31) (hn : n < 2 ^ 31) : hsB (nI a) n = decide (a < n) := by
  unfold hsB
  by_cases h : a < n
  · rw [decide_eq_true h, decide_eq_true (nI_pos ha), decide_eq_true (nI_ge h hn)]; rfl
  · rw [decide_eq_false h, decide_eq_false (p := ¬ nI n ≤ nI a) (fun q => q ((nI_leI hn ha).mpr (by omega))), Bool.and_false]
theorem tX1_addItem {z d h a b : Nat} {M : bM} {τ : Nat → Nat → Nat} {Q : bV → bM → Prop} (hh : h < 2) (H : Ho M h τ) (K : OKh τ) (ha : a < 100) (hb : b < 100)
    (hQ : (¬ (τ 7 0 < 9 ∧ a ≤ 5 ∧ b ≤ 9) → Q (.inl (bi false)) M) ∧ ((τ 7 0 < 9 ∧ a ≤ 5 ∧ b ≤ 9) → ∀ M', Ho M' h (upT (upT (upT τ 0 (τ 7 0) a) 1 (τ 7 0) b) 7 0 (τ 7 0 + 1)) → Eqx (hS h) M M' → Q (.inl (bi true)) M')) : Run z (d + 2) 10 [vr 1 h, .inl (nI a), .inl (nI b)] M Q := by
  have hn := K.1
  rw [rX1_addItem]
  by_cases q : τ 7 0 < 9 ∧ a ≤ 5 ∧ b ≤ 9
  · obtain ⟨q1, q2, q3⟩ := q
    have hQ := hQ.2 ⟨q1, q2, q3⟩
    have r1 : rowPut M (2 + 7 * h) (nI (τ 7 0)) (nI a) = sI M 9 (2 + 7 * h) (τ 7 0) (nI a) := rowPut_nI (by rw [aln_h0 hh]; exact q1)
    have r2 : rowPut (sI M 9 (2 + 7 * h) (τ 7 0) (nI a)) (3 + 7 * h) (nI (τ 7 0)) (nI b) = sI (sI M 9 (2 + 7 * h) (τ 7 0) (nI a)) 9 (3 + 7 * h) (τ 7 0) (nI b) := rowPut_nI (by rw [aln_h1 hh]; exact q1)
    simp (disch := omega) only [eX1_addItem_0, eX1_addItem_1, eX1_addItem_4, eX1_addItem_6, eX1_addItem_9, eX1_addItem_10, eX1_addItem_13, eX1_addItem_14, eX1_addItem_15, eX1_addItem_18, eX1_addItem_19, eX1_addItem_22, eX1_addItem_25, eX1_addItem_260, eX1_addItem_261, eX1_addItem_27, eX1_addItem_28, eX1_addItem_31, eX1_addItem_32, eX1_addItem_35, eX1_addItem_36, eX1_addItem_39, eX1_addItem_40, eX1_addItem_43, eX1_addItem_44, eX1_addItem_47, eX1_addItem_48, eX1_addItem_51, eX1_addItem_52, eX1_addItem_52r, eX1_addItem_53, eX1_addItem_56, eX1_addItem_57, eX1_addItem_58, eX1_addItem_61, eX1_addItem_620, eX1_addItem_621, eX1_addItem_26n0, eX1_addItem_26n1, eX1_addItem_62n0, eX1_addItem_62n1, cnt_0, cnt_1, cnt_2, cnt_3, cnt_4, cnt_5, cnt_6, cnt_7, cnt_8, cnt_9, cnt_10, cnt_11, hh, lt_h0, lt_h1, true_and, Ho_n H, lit_9, lit_0, lit_5, lit_1, nI_leI, nI_ltI, if_neg (show ¬ 9 ≤ τ 7 0 by omega), Nat.not_lt_zero, if_false, if_neg (show ¬ 5 < a by omega), tX7_isShade, psh_i, psh_u, hsB_n, bi_0, bi_0n, decide_eq_true (show b < 10 by omega), Bool.true_eq_false, tX4_put, r1, r2, gI_sI, false_and, Nat.reduceEqDiff, nI_add]
    refine hQ _ ?_ ?_
    · exact Ho_int (by decide) (Ho_row (j := 1) (by decide) (Ho_row (j := 0) (by decide) H))
    · exact Eqx_tr (Eqx_tr (Eqx_sI (Or.inr ⟨rfl, by omega, by omega⟩)) (Eqx_sI (S := hS h) (Or.inr ⟨rfl, by omega, by omega⟩)) (fun _ _ w => w) (fun _ _ w => w)) (Eqx_sI (S := hS h) (Or.inl ⟨rfl, rfl⟩)) (fun _ _ w => w) (fun _ _ w => w)
  · have hQ := hQ.1 q
    simp (disch := omega) only [eX1_addItem_0, eX1_addItem_1, eX1_addItem_4, eX1_addItem_6, eX1_addItem_9, eX1_addItem_10, eX1_addItem_13, eX1_addItem_14, eX1_addItem_15, eX1_addItem_18, eX1_addItem_19, eX1_addItem_22, eX1_addItem_25, eX1_addItem_260, eX1_addItem_261, eX1_addItem_27, eX1_addItem_28, eX1_addItem_31, eX1_addItem_32, eX1_addItem_35, eX1_addItem_36, eX1_addItem_39, eX1_addItem_40, eX1_addItem_43, eX1_addItem_44, eX1_addItem_47, eX1_addItem_48, eX1_addItem_51, eX1_addItem_52, eX1_addItem_52r, eX1_addItem_53, eX1_addItem_56, eX1_addItem_57, eX1_addItem_58, eX1_addItem_61, eX1_addItem_620, eX1_addItem_621, eX1_addItem_26n0, eX1_addItem_26n1, eX1_addItem_62n0, eX1_addItem_62n1, cnt_0, cnt_1, cnt_2, cnt_3, cnt_4, cnt_5, cnt_6, cnt_7, cnt_8, cnt_9, cnt_10, cnt_11, hh, lt_h0, lt_h1, true_and, Ho_n H, lit_9, lit_0, lit_5, nI_leI, nI_ltI, Nat.not_lt_zero, if_false, tX7_isShade, psh_i, hsB_n, bi_0, bi_0n]
    by_cases a1 : 9 ≤ τ 7 0
    · rw [if_pos a1]; exact hQ
    · rw [if_neg a1]
      by_cases a2 : 5 < a
      · rw [if_pos a2]; exact hQ
      · rw [if_neg a2, if_pos (decide_eq_false (by omega))]; exact hQ
theorem tX1_addTouch {z d h a b e : Nat} {M : bM} {τ : Nat → Nat → Nat} {Q : bV → bM → Prop} (hh : h < 2) (H : Ho M h τ) (K : OKh τ) (ha : a < 100) (hb : b < 100) (he : e < 100)
    (hQ : (¬ (τ 8 0 < 10 ∧ a < 12 ∧ b < τ 7 0 ∧ e < τ 7 0 ∧ b ≠ e) → Q (.inl (bi false)) M) ∧ ((τ 8 0 < 10 ∧ a < 12 ∧ b < τ 7 0 ∧ e < τ 7 0 ∧ b ≠ e) → ∀ M', Ho M' h (upT (upT (upT (upT τ 2 (τ 8 0) a) 3 (τ 8 0) b) 4 (τ 8 0) e) 8 0 (τ 8 0 + 1)) → Eqx (hS h) M M' → Q (.inl (bi true)) M')) : Run z (d + 2) 11 [vr 1 h, .inl (nI a), .inl (nI b), .inl (nI e)] M Q := by
  have hn := K.1
  have ht := K.2.1
  rw [rX1_addTouch]
  by_cases q : τ 8 0 < 10 ∧ a < 12 ∧ b < τ 7 0 ∧ e < τ 7 0 ∧ b ≠ e
  · have hQ := hQ.2 q
    obtain ⟨q1, q2, q3, q4, q5⟩ := q
    have r1 : rowPut M (4 + 7 * h) (nI (τ 8 0)) (nI a) = sI M 9 (4 + 7 * h) (τ 8 0) (nI a) := rowPut_nI (by rw [aln_h2 hh]; exact q1)
    have r2 : rowPut (sI M 9 (4 + 7 * h) (τ 8 0) (nI a)) (5 + 7 * h) (nI (τ 8 0)) (nI b) = sI (sI M 9 (4 + 7 * h) (τ 8 0) (nI a)) 9 (5 + 7 * h) (τ 8 0) (nI b) := rowPut_nI (by rw [aln_h3 hh]; exact q1)
    have r3 : rowPut (sI (sI M 9 (4 + 7 * h) (τ 8 0) (nI a)) 9 (5 + 7 * h) (τ 8 0) (nI b)) (6 + 7 * h) (nI (τ 8 0)) (nI e) = sI (sI (sI M 9 (4 + 7 * h) (τ 8 0) (nI a)) 9 (5 + 7 * h) (τ 8 0) (nI b)) 9 (6 + 7 * h) (τ 8 0) (nI e) := rowPut_nI (by rw [aln_h4 hh]; exact q1)
    simp (disch := omega) only [eX1_addTouch_0, eX1_addTouch_1, eX1_addTouch_4, eX1_addTouch_6, eX1_addTouch_9, eX1_addTouch_10, eX1_addTouch_13, eX1_addTouch_16, eX1_addTouch_17, eX1_addTouch_18, eX1_addTouch_21, eX1_addTouch_24, eX1_addTouch_25, eX1_addTouch_26, eX1_addTouch_29, eX1_addTouch_32, eX1_addTouch_33, eX1_addTouch_34, eX1_addTouch_37, eX1_addTouch_380, eX1_addTouch_381, eX1_addTouch_39, eX1_addTouch_40, eX1_addTouch_43, eX1_addTouch_44, eX1_addTouch_47, eX1_addTouch_48, eX1_addTouch_51, eX1_addTouch_52, eX1_addTouch_55, eX1_addTouch_56, eX1_addTouch_59, eX1_addTouch_60, eX1_addTouch_63, eX1_addTouch_64, eX1_addTouch_67, eX1_addTouch_68, eX1_addTouch_71, eX1_addTouch_72, eX1_addTouch_75, eX1_addTouch_76, eX1_addTouch_76r, eX1_addTouch_77, eX1_addTouch_80, eX1_addTouch_81, eX1_addTouch_82, eX1_addTouch_85, eX1_addTouch_860, eX1_addTouch_861, eX1_addTouch_38n0, eX1_addTouch_38n1, eX1_addTouch_86n0, eX1_addTouch_86n1, cnt_0, cnt_1, cnt_2, cnt_3, cnt_4, cnt_5, cnt_6, cnt_7, cnt_8, cnt_9, cnt_10, cnt_11, hh, lt_h2, lt_h3, lt_h4, true_and, Ho_t H, lit_10, lit_0, lit_1, nI_leI, if_neg (show ¬ 10 ≤ τ 8 0 by omega), tX7_isHour, tX1_has hh H, psh_i, psh_u, hsB_n, bi_0, bi_0n, decide_eq_true q2, decide_eq_true q3, decide_eq_true q4, Bool.true_eq_false, if_false, nI_eq, if_neg q5, tX4_put, r1, r2, r3, gI_sI, false_and, Nat.reduceEqDiff, nI_add]
    refine hQ _ ?_ ?_
    · exact Ho_int (by decide) (Ho_row (j := 4) (by decide) (Ho_row (j := 3) (by decide) (Ho_row (j := 2) (by decide) H)))
    · exact Eqx_tr (Eqx_tr (Eqx_tr (Eqx_sI (Or.inr ⟨rfl, by omega, by omega⟩)) (Eqx_sI (S := hS h) (Or.inr ⟨rfl, by omega, by omega⟩)) (fun _ _ w => w) (fun _ _ w => w)) (Eqx_sI (S := hS h) (Or.inr ⟨rfl, by omega, by omega⟩)) (fun _ _ w => w) (fun _ _ w => w)) (Eqx_sI (S := hS h) (Or.inl ⟨rfl, rfl⟩)) (fun _ _ w => w) (fun _ _ w => w)
  · have hQ := hQ.1 q
    simp (disch := omega) only [eX1_addTouch_0, eX1_addTouch_1, eX1_addTouch_4, eX1_addTouch_6, eX1_addTouch_9, eX1_addTouch_10, eX1_addTouch_13, eX1_addTouch_16, eX1_addTouch_17, eX1_addTouch_18, eX1_addTouch_21, eX1_addTouch_24, eX1_addTouch_25, eX1_addTouch_26, eX1_addTouch_29, eX1_addTouch_32, eX1_addTouch_33, eX1_addTouch_34, eX1_addTouch_37, eX1_addTouch_380, eX1_addTouch_381, eX1_addTouch_39, eX1_addTouch_40, eX1_addTouch_43, eX1_addTouch_44, eX1_addTouch_47, eX1_addTouch_48, eX1_addTouch_51, eX1_addTouch_52, eX1_addTouch_55, eX1_addTouch_56, eX1_addTouch_59, eX1_addTouch_60, eX1_addTouch_63, eX1_addTouch_64, eX1_addTouch_67, eX1_addTouch_68, eX1_addTouch_71, eX1_addTouch_72, eX1_addTouch_75, eX1_addTouch_76, eX1_addTouch_76r, eX1_addTouch_77, eX1_addTouch_80, eX1_addTouch_81, eX1_addTouch_82, eX1_addTouch_85, eX1_addTouch_860, eX1_addTouch_861, eX1_addTouch_38n0, eX1_addTouch_38n1, eX1_addTouch_86n0, eX1_addTouch_86n1, cnt_0, cnt_1, cnt_2, cnt_3, cnt_4, cnt_5, cnt_6, cnt_7, cnt_8, cnt_9, cnt_10, cnt_11, hh, lt_h2, lt_h3, lt_h4, true_and, Ho_t H, lit_10, lit_0, nI_leI, tX7_isHour, tX1_has hh H, psh_i, hsB_n, bi_0, bi_0n, nI_eq]
    by_cases a1 : 10 ≤ τ 8 0
    · rw [if_pos a1]; exact hQ
    · rw [if_neg a1]
      by_cases a2 : a < 12
      · rw [if_neg (by rw [decide_eq_true a2]; decide)]
        by_cases a3 : b < τ 7 0
        · rw [if_neg (by rw [decide_eq_true a3]; decide)]
          by_cases a4 : e < τ 7 0
          · rw [if_neg (by rw [decide_eq_true a4]; decide), if_pos (by omega)]; exact hQ
          · rw [if_pos (decide_eq_false a4)]; exact hQ
        · rw [if_pos (decide_eq_false a3)]; exact hQ
      · rw [if_pos (decide_eq_false a2)]; exact hQ
theorem tX1_addWashing {z d h a b : Nat} {M : bM} {τ : Nat → Nat → Nat} {Q : bV → bM → Prop} (hh : h < 2) (H : Ho M h τ) (K : OKh τ) (ha : a < 100) (hb : b < 100)
    (hQ : (¬ (τ 9 0 < 4 ∧ a < 12 ∧ per τ b = true) → Q (.inl (bi false)) M) ∧ ((τ 9 0 < 4 ∧ a < 12 ∧ per τ b = true) → ∀ M', Ho M' h (upT (upT (upT τ 5 (τ 9 0) a) 6 (τ 9 0) b) 9 0 (τ 9 0 + 1)) → Eqx (hS h) M M' → Q (.inl (bi true)) M')) : Run z (d + 3) 12 [vr 1 h, .inl (nI a), .inl (nI b)] M Q := by
  have hn := K.1
  have hw := K.2.2.1
  rw [rX1_addWashing]
  by_cases q : τ 9 0 < 4 ∧ a < 12 ∧ per τ b = true
  · have hQ := hQ.2 q
    obtain ⟨q1, q2, q3⟩ := q
    have r1 : rowPut M (7 + 7 * h) (nI (τ 9 0)) (nI a) = sI M 9 (7 + 7 * h) (τ 9 0) (nI a) := rowPut_nI (by rw [aln_h5 hh]; exact q1)
    have r2 : rowPut (sI M 9 (7 + 7 * h) (τ 9 0) (nI a)) (8 + 7 * h) (nI (τ 9 0)) (nI b) = sI (sI M 9 (7 + 7 * h) (τ 9 0) (nI a)) 9 (8 + 7 * h) (τ 9 0) (nI b) := rowPut_nI (by rw [aln_h6 hh]; exact q1)
    simp (disch := omega) only [eX1_addWashing_0, eX1_addWashing_1, eX1_addWashing_4, eX1_addWashing_5, eX1_addWashing_8, eX1_addWashing_9, eX1_addWashing_12, eX1_addWashing_15, eX1_addWashing_16, eX1_addWashing_17, eX1_addWashing_20, eX1_addWashing_23, eX1_addWashing_240, eX1_addWashing_241, eX1_addWashing_25, eX1_addWashing_26, eX1_addWashing_29, eX1_addWashing_30, eX1_addWashing_33, eX1_addWashing_34, eX1_addWashing_37, eX1_addWashing_38, eX1_addWashing_41, eX1_addWashing_42, eX1_addWashing_45, eX1_addWashing_46, eX1_addWashing_49, eX1_addWashing_50, eX1_addWashing_50r, eX1_addWashing_51, eX1_addWashing_54, eX1_addWashing_55, eX1_addWashing_56, eX1_addWashing_59, eX1_addWashing_600, eX1_addWashing_601, eX1_addWashing_24n0, eX1_addWashing_24n1, eX1_addWashing_60n0, eX1_addWashing_60n1, cnt_0, cnt_1, cnt_2, cnt_3, cnt_4, cnt_5, cnt_6, cnt_7, cnt_8, cnt_9, cnt_10, cnt_11, hh, lt_h5, lt_h6, true_and, Ho_wn H, lit_4, lit_0, lit_1, nI_leI, if_neg (show ¬ 4 ≤ τ 9 0 by omega), tX7_isHour, tX1_hasPerson hh H K, hpB_nI K, psh_i, psh_u, hsB_n, bi_0, bi_0n, decide_eq_true q2, q3, Bool.true_eq_false, if_false, tX4_put, r1, r2, gI_sI, false_and, Nat.reduceEqDiff, nI_add]
    refine hQ _ ?_ ?_
    · exact Ho_int (by decide) (Ho_row (j := 6) (by decide) (Ho_row (j := 5) (by decide) H))
    · exact Eqx_tr (Eqx_tr (Eqx_sI (Or.inr ⟨rfl, by omega, by omega⟩)) (Eqx_sI (S := hS h) (Or.inr ⟨rfl, by omega, by omega⟩)) (fun _ _ w => w) (fun _ _ w => w)) (Eqx_sI (S := hS h) (Or.inl ⟨rfl, rfl⟩)) (fun _ _ w => w) (fun _ _ w => w)
  · have hQ := hQ.1 q
    simp (disch := omega) only [eX1_addWashing_0, eX1_addWashing_1, eX1_addWashing_4, eX1_addWashing_5, eX1_addWashing_8, eX1_addWashing_9, eX1_addWashing_12, eX1_addWashing_15, eX1_addWashing_16, eX1_addWashing_17, eX1_addWashing_20, eX1_addWashing_23, eX1_addWashing_240, eX1_addWashing_241, eX1_addWashing_25, eX1_addWashing_26, eX1_addWashing_29, eX1_addWashing_30, eX1_addWashing_33, eX1_addWashing_34, eX1_addWashing_37, eX1_addWashing_38, eX1_addWashing_41, eX1_addWashing_42, eX1_addWashing_45, eX1_addWashing_46, eX1_addWashing_49, eX1_addWashing_50, eX1_addWashing_50r, eX1_addWashing_51, eX1_addWashing_54, eX1_addWashing_55, eX1_addWashing_56, eX1_addWashing_59, eX1_addWashing_600, eX1_addWashing_601, eX1_addWashing_24n0, eX1_addWashing_24n1, eX1_addWashing_60n0, eX1_addWashing_60n1, cnt_0, cnt_1, cnt_2, cnt_3, cnt_4, cnt_5, cnt_6, cnt_7, cnt_8, cnt_9, cnt_10, cnt_11, hh, lt_h5, lt_h6, true_and, Ho_wn H, lit_4, lit_0, nI_leI, tX7_isHour, tX1_hasPerson hh H K, hpB_nI K, psh_i, hsB_n, bi_0, bi_0n]
    by_cases a1 : 4 ≤ τ 9 0
    · rw [if_pos a1]; exact hQ
    · rw [if_neg a1]
      by_cases a2 : a < 12
      · rw [if_neg (by rw [decide_eq_true a2]; decide), if_pos (by
          cases hp : per τ b
          · rfl
          · exact absurd ⟨by omega, a2, hp⟩ q)]
        exact hQ
      · rw [if_pos (decide_eq_false a2)]; exact hQ
theorem tX1_setSupper {z d h a : Nat} {M : bM} {τ : Nat → Nat → Nat} {Q : bV → bM → Prop} (hh : h < 2) (H : Ho M h τ) (ha : a < 100)
    (hQ : (¬ a < 12 → Q (.inl (bi false)) M) ∧ (a < 12 → ∀ M', Ho M' h (upT τ 10 0 a) → Eqx (hS h) M M' → Q (.inl (bi true)) M')) : Run z (d + 2) 13 [vr 1 h, .inl (nI a)] M Q := by
  rw [rX1_setSupper]
  by_cases q : a < 12
  · have hQ := hQ.2 q
    simp (disch := omega) only [eX1_setSupper_0, eX1_setSupper_1, eX1_setSupper_4, eX1_setSupper_7, eX1_setSupper_80, eX1_setSupper_81, eX1_setSupper_9, eX1_setSupper_10, eX1_setSupper_11, eX1_setSupper_14, eX1_setSupper_150, eX1_setSupper_151, eX1_setSupper_8n0, eX1_setSupper_8n1, eX1_setSupper_15n0, eX1_setSupper_15n1, cnt_0, cnt_1, cnt_2, cnt_3, cnt_4, cnt_5, cnt_6, cnt_7, cnt_8, cnt_9, cnt_10, cnt_11, hh, true_and, tX7_isHour, psh_i, hsB_n, bi_0, decide_eq_true q, Bool.true_eq_false, if_false]
    exact hQ _ (Ho_int (by decide) H) (Eqx_sI (Or.inl ⟨rfl, rfl⟩))
  · have hQ := hQ.1 q
    simp (disch := omega) only [eX1_setSupper_0, eX1_setSupper_1, eX1_setSupper_4, eX1_setSupper_7, eX1_setSupper_80, eX1_setSupper_81, eX1_setSupper_9, eX1_setSupper_10, eX1_setSupper_11, eX1_setSupper_14, eX1_setSupper_150, eX1_setSupper_151, eX1_setSupper_8n0, eX1_setSupper_8n1, eX1_setSupper_15n0, eX1_setSupper_15n1, cnt_0, cnt_1, cnt_2, cnt_3, cnt_4, cnt_5, cnt_6, cnt_7, cnt_8, cnt_9, cnt_10, cnt_11, hh, true_and, tX7_isHour, psh_i, hsB_n, bi_0, decide_eq_false q, if_true]
    exact hQ
/-- the numbers read: as many as found says -/
def Nu (M : bM) (ns : List Nat) : Prop := gI M 2 0 3 = nI ns.length ∧ ∀ j v, ns[j]? = some v → gI M 9 1 j = nI v ∧ v < 100
theorem tie_n {a n : Nat} (ha : a < 2 ^ 31) : ((nI a).toInt = (n : Int)) = (a = n) := by
  rw [nI_toInt ha]
  exact propext ⟨fun h => by omega, fun h => by omega⟩
theorem adI_1 {τ : Nat → Nat → Nat} {c a : Nat} : adI τ c [a] = if c = 115 then (if a < 12 then some (upT τ 10 0 a) else none) else none := rfl
theorem adI_2 {τ : Nat → Nat → Nat} {c a b : Nat} : adI τ c [a, b] = if c = 105 then (if τ 7 0 < 9 ∧ a ≤ 5 ∧ b ≤ 9 then some (upT (upT (upT τ 0 (τ 7 0) a) 1 (τ 7 0) b) 7 0 (τ 7 0 + 1)) else none)
      else if c = 119 then (if τ 9 0 < 4 ∧ a < 12 ∧ per τ b = true then some (upT (upT (upT τ 5 (τ 9 0) a) 6 (τ 9 0) b) 9 0 (τ 9 0 + 1)) else none)
      else none := rfl
theorem adI_3 {τ : Nat → Nat → Nat} {c a b e : Nat} : adI τ c [a, b, e] = if c = 116 then (if τ 8 0 < 10 ∧ a < 12 ∧ b < τ 7 0 ∧ e < τ 7 0 ∧ b ≠ e then some (upT (upT (upT (upT τ 2 (τ 8 0) a) 3 (τ 8 0) b) 4 (τ 8 0) e) 8 0 (τ 8 0 + 1)) else none) else none := rfl
set_option maxHeartbeats 4000000 in
theorem tX1_add {z d h c : Nat} {ns : List Nat} {M : bM} {τ : Nat → Nat → Nat} {Q : bV → bM → Prop} (hh : h < 2) (H : Ho M h τ) (K : OKh τ) (hc : c < 128) (hN : Nu M ns) (hl : ns.length ≤ 3)
    (hQ : (adI τ c ns = none → Q (.inl (bi false)) M) ∧ (∀ τ', adI τ c ns = some τ' → ∀ M', Ho M' h τ' → Eqx (hS h) M M' → Q (.inl (bi true)) M')) : Run z (d + 4) 9 [vr 1 h, .inl (nI c), .inl (nI ns.length), vr 4 1] M Q := by
  have b1 : aln 1 = 3 := rfl
  have t1 : ((nI c).toInt = 105) = (c = 105) := tie_n (by omega)
  have t2 : ((nI c).toInt = 115) = (c = 115) := tie_n (by omega)
  have t3 : ((nI c).toInt = 116) = (c = 116) := tie_n (by omega)
  have t4 : ((nI c).toInt = 119) = (c = 119) := tie_n (by omega)
  have g : ∀ j v, ns[j]? = some v → j < 3 → rowAt M 1 (nI j) = nI v := fun j v hj h3 => by rw [rowAt_nI (by omega)]; exact (hN.2 j v hj).1
  rw [rX1_add]
  match ns, hl, hN, g, hQ with
  | [], _, hN, g, hQ =>
    have hQ := hQ.1 rfl
    simp (disch := omega) only [eX1_add_0, eX1_add_1, eX1_add_2, eX1_add_5, eX1_add_7, eX1_add_8, eX1_add_9, eX1_add_12, eX1_add_14, eX1_add_15, eX1_add_56, eX1_add_57, eX1_add_58, eX1_add_61, eX1_add_62, eX1_add_64, eX1_add_66, eX1_add_69, eX1_add_72, eX1_add_73, eX1_add_76, eX1_add_770, eX1_add_771, eX1_add_78, eX1_add_79, eX1_add_80, eX1_add_83, eX1_add_84, eX1_add_86, eX1_add_88, eX1_add_89, eX1_add_90, eX1_add_93, eX1_add_96, eX1_add_99, eX1_add_100, eX1_add_103, eX1_add_1040, eX1_add_1041, eX1_add_105, eX1_add_106, eX1_add_107, eX1_add_110, eX1_add_111, eX1_add_113, eX1_add_115, eX1_add_118, eX1_add_121, eX1_add_122, eX1_add_125, eX1_add_1260, eX1_add_1261, eX1_add_127, eX1_add_128, eX1_add_129, eX1_add_132, eX1_add_133, eX1_add_135, eX1_add_138, eX1_add_141, eX1_add_142, eX1_add_145, eX1_add_1460, eX1_add_1461, eX1_add_147, eX1_add_1480, eX1_add_1481, eX1_add_77n0, eX1_add_77n1, eX1_add_104n0, eX1_add_104n1, eX1_add_126n0, eX1_add_126n1, eX1_add_146n0, eX1_add_146n1, eX1_add_148n0, eX1_add_148n1, cnt_0, cnt_1, cnt_2, cnt_3, cnt_4, cnt_5, cnt_6, cnt_7, cnt_8, cnt_9, cnt_10, cnt_11, hh, true_and, tX4_at, psh_i, lit_0, lit_1, lit_2, lit_3, t1, t2, t3, t4, nI_eq, Nat.reduceLT, List.length_nil, Nat.reduceEqDiff, if_false]
    rw [bi_f1] at hQ
    simp only [hQ, ite_self]
  | [a], _, hN, g, hQ =>
    have ha := (hN.2 0 a rfl).2
    have e0 := g 0 a rfl (by decide)
    simp (disch := omega) only [eX1_add_0, eX1_add_1, eX1_add_2, eX1_add_5, eX1_add_7, eX1_add_8, eX1_add_9, eX1_add_12, eX1_add_14, eX1_add_15, eX1_add_56, eX1_add_57, eX1_add_58, eX1_add_61, eX1_add_62, eX1_add_64, eX1_add_66, eX1_add_69, eX1_add_72, eX1_add_73, eX1_add_76, eX1_add_770, eX1_add_771, eX1_add_78, eX1_add_79, eX1_add_80, eX1_add_83, eX1_add_84, eX1_add_86, eX1_add_88, eX1_add_89, eX1_add_90, eX1_add_93, eX1_add_96, eX1_add_99, eX1_add_100, eX1_add_103, eX1_add_1040, eX1_add_1041, eX1_add_105, eX1_add_106, eX1_add_107, eX1_add_110, eX1_add_111, eX1_add_113, eX1_add_115, eX1_add_118, eX1_add_121, eX1_add_122, eX1_add_125, eX1_add_1260, eX1_add_1261, eX1_add_127, eX1_add_128, eX1_add_129, eX1_add_132, eX1_add_133, eX1_add_135, eX1_add_138, eX1_add_141, eX1_add_142, eX1_add_145, eX1_add_1460, eX1_add_1461, eX1_add_147, eX1_add_1480, eX1_add_1481, eX1_add_77n0, eX1_add_77n1, eX1_add_104n0, eX1_add_104n1, eX1_add_126n0, eX1_add_126n1, eX1_add_146n0, eX1_add_146n1, eX1_add_148n0, eX1_add_148n1, cnt_0, cnt_1, cnt_2, cnt_3, cnt_4, cnt_5, cnt_6, cnt_7, cnt_8, cnt_9, cnt_10, cnt_11, hh, true_and, tX4_at, psh_i, lit_0, lit_1, lit_2, lit_3, t1, t2, t3, t4, nI_eq, Nat.reduceLT, List.length_cons, List.length_nil, Nat.reduceAdd, Nat.reduceEqDiff, if_false, if_true, e0]
    by_cases c2 : c = 115
    · rw [if_neg (by omega), if_pos c2]
      refine tX1_setSupper (d := d + 1) hh H ha ⟨fun q => ?_, fun q M' H' E => ?_⟩
      · have := hQ.1 (by rw [adI_1, if_pos c2, if_neg q])
        simp only [psh_i, bi_f1, eX1_add_0, eX1_add_1, eX1_add_2, eX1_add_5, eX1_add_7, eX1_add_8, eX1_add_9, eX1_add_12, eX1_add_14, eX1_add_15, eX1_add_56, eX1_add_57, eX1_add_58, eX1_add_61, eX1_add_62, eX1_add_64, eX1_add_66, eX1_add_69, eX1_add_72, eX1_add_73, eX1_add_76, eX1_add_770, eX1_add_771, eX1_add_78, eX1_add_79, eX1_add_80, eX1_add_83, eX1_add_84, eX1_add_86, eX1_add_88, eX1_add_89, eX1_add_90, eX1_add_93, eX1_add_96, eX1_add_99, eX1_add_100, eX1_add_103, eX1_add_1040, eX1_add_1041, eX1_add_105, eX1_add_106, eX1_add_107, eX1_add_110, eX1_add_111, eX1_add_113, eX1_add_115, eX1_add_118, eX1_add_121, eX1_add_122, eX1_add_125, eX1_add_1260, eX1_add_1261, eX1_add_127, eX1_add_128, eX1_add_129, eX1_add_132, eX1_add_133, eX1_add_135, eX1_add_138, eX1_add_141, eX1_add_142, eX1_add_145, eX1_add_1460, eX1_add_1461, eX1_add_147, eX1_add_1480, eX1_add_1481, eX1_add_77n0, eX1_add_77n1, eX1_add_104n0, eX1_add_104n1, eX1_add_126n0, eX1_add_126n1, eX1_add_146n0, eX1_add_146n1, eX1_add_148n0, eX1_add_148n1, lit_0, if_true]
        exact this
      · have := hQ.2 _ (by rw [adI_1, if_pos c2, if_pos q]) M' H' E
        simp only [psh_i, bi_t1, eX1_add_0, eX1_add_1, eX1_add_2, eX1_add_5, eX1_add_7, eX1_add_8, eX1_add_9, eX1_add_12, eX1_add_14, eX1_add_15, eX1_add_56, eX1_add_57, eX1_add_58, eX1_add_61, eX1_add_62, eX1_add_64, eX1_add_66, eX1_add_69, eX1_add_72, eX1_add_73, eX1_add_76, eX1_add_770, eX1_add_771, eX1_add_78, eX1_add_79, eX1_add_80, eX1_add_83, eX1_add_84, eX1_add_86, eX1_add_88, eX1_add_89, eX1_add_90, eX1_add_93, eX1_add_96, eX1_add_99, eX1_add_100, eX1_add_103, eX1_add_1040, eX1_add_1041, eX1_add_105, eX1_add_106, eX1_add_107, eX1_add_110, eX1_add_111, eX1_add_113, eX1_add_115, eX1_add_118, eX1_add_121, eX1_add_122, eX1_add_125, eX1_add_1260, eX1_add_1261, eX1_add_127, eX1_add_128, eX1_add_129, eX1_add_132, eX1_add_133, eX1_add_135, eX1_add_138, eX1_add_141, eX1_add_142, eX1_add_145, eX1_add_1460, eX1_add_1461, eX1_add_147, eX1_add_1480, eX1_add_1481, eX1_add_77n0, eX1_add_77n1, eX1_add_104n0, eX1_add_104n1, eX1_add_126n0, eX1_add_126n1, eX1_add_146n0, eX1_add_146n1, eX1_add_148n0, eX1_add_148n1, lit_0, lit_1, show (nI 1 = nI 0) = False from eq_false (by decide), if_false]
        exact this
    · have hQ := hQ.1 (by rw [adI_1, if_neg c2])
      rw [bi_f1] at hQ
      simp only [if_neg c2, hQ, ite_self]
  | [a, b], _, hN, g, hQ =>
    have ha := (hN.2 0 a rfl).2
    have e0 := g 0 a rfl (by decide)
    have hb := (hN.2 1 b rfl).2
    have e1 := g 1 b rfl (by decide)
    simp (disch := omega) only [eX1_add_0, eX1_add_1, eX1_add_2, eX1_add_5, eX1_add_7, eX1_add_8, eX1_add_9, eX1_add_12, eX1_add_14, eX1_add_15, eX1_add_56, eX1_add_57, eX1_add_58, eX1_add_61, eX1_add_62, eX1_add_64, eX1_add_66, eX1_add_69, eX1_add_72, eX1_add_73, eX1_add_76, eX1_add_770, eX1_add_771, eX1_add_78, eX1_add_79, eX1_add_80, eX1_add_83, eX1_add_84, eX1_add_86, eX1_add_88, eX1_add_89, eX1_add_90, eX1_add_93, eX1_add_96, eX1_add_99, eX1_add_100, eX1_add_103, eX1_add_1040, eX1_add_1041, eX1_add_105, eX1_add_106, eX1_add_107, eX1_add_110, eX1_add_111, eX1_add_113, eX1_add_115, eX1_add_118, eX1_add_121, eX1_add_122, eX1_add_125, eX1_add_1260, eX1_add_1261, eX1_add_127, eX1_add_128, eX1_add_129, eX1_add_132, eX1_add_133, eX1_add_135, eX1_add_138, eX1_add_141, eX1_add_142, eX1_add_145, eX1_add_1460, eX1_add_1461, eX1_add_147, eX1_add_1480, eX1_add_1481, eX1_add_77n0, eX1_add_77n1, eX1_add_104n0, eX1_add_104n1, eX1_add_126n0, eX1_add_126n1, eX1_add_146n0, eX1_add_146n1, eX1_add_148n0, eX1_add_148n1, cnt_0, cnt_1, cnt_2, cnt_3, cnt_4, cnt_5, cnt_6, cnt_7, cnt_8, cnt_9, cnt_10, cnt_11, hh, true_and, tX4_at, psh_i, lit_0, lit_1, lit_2, lit_3, t1, t2, t3, t4, nI_eq, Nat.reduceLT, List.length_cons, List.length_nil, Nat.reduceAdd, Nat.reduceEqDiff, if_false, if_true, e0, e1]
    by_cases c1 : c = 105
    · rw [if_pos c1]
      refine tX1_addItem (d := d + 1) hh H K ha hb ⟨fun q => ?_, fun q M' H' E => ?_⟩
      · have := hQ.1 (by rw [adI_2, if_pos c1, if_neg q])
        simp only [psh_i, bi_f1, eX1_add_0, eX1_add_1, eX1_add_2, eX1_add_5, eX1_add_7, eX1_add_8, eX1_add_9, eX1_add_12, eX1_add_14, eX1_add_15, eX1_add_56, eX1_add_57, eX1_add_58, eX1_add_61, eX1_add_62, eX1_add_64, eX1_add_66, eX1_add_69, eX1_add_72, eX1_add_73, eX1_add_76, eX1_add_770, eX1_add_771, eX1_add_78, eX1_add_79, eX1_add_80, eX1_add_83, eX1_add_84, eX1_add_86, eX1_add_88, eX1_add_89, eX1_add_90, eX1_add_93, eX1_add_96, eX1_add_99, eX1_add_100, eX1_add_103, eX1_add_1040, eX1_add_1041, eX1_add_105, eX1_add_106, eX1_add_107, eX1_add_110, eX1_add_111, eX1_add_113, eX1_add_115, eX1_add_118, eX1_add_121, eX1_add_122, eX1_add_125, eX1_add_1260, eX1_add_1261, eX1_add_127, eX1_add_128, eX1_add_129, eX1_add_132, eX1_add_133, eX1_add_135, eX1_add_138, eX1_add_141, eX1_add_142, eX1_add_145, eX1_add_1460, eX1_add_1461, eX1_add_147, eX1_add_1480, eX1_add_1481, eX1_add_77n0, eX1_add_77n1, eX1_add_104n0, eX1_add_104n1, eX1_add_126n0, eX1_add_126n1, eX1_add_146n0, eX1_add_146n1, eX1_add_148n0, eX1_add_148n1, lit_0, if_true]
        exact this
      · have := hQ.2 _ (by rw [adI_2, if_pos c1, if_pos q]) M' H' E
        simp only [psh_i, bi_t1, eX1_add_0, eX1_add_1, eX1_add_2, eX1_add_5, eX1_add_7, eX1_add_8, eX1_add_9, eX1_add_12, eX1_add_14, eX1_add_15, eX1_add_56, eX1_add_57, eX1_add_58, eX1_add_61, eX1_add_62, eX1_add_64, eX1_add_66, eX1_add_69, eX1_add_72, eX1_add_73, eX1_add_76, eX1_add_770, eX1_add_771, eX1_add_78, eX1_add_79, eX1_add_80, eX1_add_83, eX1_add_84, eX1_add_86, eX1_add_88, eX1_add_89, eX1_add_90, eX1_add_93, eX1_add_96, eX1_add_99, eX1_add_100, eX1_add_103, eX1_add_1040, eX1_add_1041, eX1_add_105, eX1_add_106, eX1_add_107, eX1_add_110, eX1_add_111, eX1_add_113, eX1_add_115, eX1_add_118, eX1_add_121, eX1_add_122, eX1_add_125, eX1_add_1260, eX1_add_1261, eX1_add_127, eX1_add_128, eX1_add_129, eX1_add_132, eX1_add_133, eX1_add_135, eX1_add_138, eX1_add_141, eX1_add_142, eX1_add_145, eX1_add_1460, eX1_add_1461, eX1_add_147, eX1_add_1480, eX1_add_1481, eX1_add_77n0, eX1_add_77n1, eX1_add_104n0, eX1_add_104n1, eX1_add_126n0, eX1_add_126n1, eX1_add_146n0, eX1_add_146n1, eX1_add_148n0, eX1_add_148n1, lit_0, lit_1, show (nI 1 = nI 0) = False from eq_false (by decide), if_false]
        exact this
    · by_cases c4 : c = 119
      · rw [if_neg c1, if_neg (by omega), if_neg (by omega), if_pos c4]
        refine tX1_addWashing (d := d) hh H K ha hb ⟨fun q => ?_, fun q M' H' E => ?_⟩
        · have := hQ.1 (by rw [adI_2, if_neg c1, if_pos c4, if_neg q])
          simp only [psh_i, bi_f1, eX1_add_0, eX1_add_1, eX1_add_2, eX1_add_5, eX1_add_7, eX1_add_8, eX1_add_9, eX1_add_12, eX1_add_14, eX1_add_15, eX1_add_56, eX1_add_57, eX1_add_58, eX1_add_61, eX1_add_62, eX1_add_64, eX1_add_66, eX1_add_69, eX1_add_72, eX1_add_73, eX1_add_76, eX1_add_770, eX1_add_771, eX1_add_78, eX1_add_79, eX1_add_80, eX1_add_83, eX1_add_84, eX1_add_86, eX1_add_88, eX1_add_89, eX1_add_90, eX1_add_93, eX1_add_96, eX1_add_99, eX1_add_100, eX1_add_103, eX1_add_1040, eX1_add_1041, eX1_add_105, eX1_add_106, eX1_add_107, eX1_add_110, eX1_add_111, eX1_add_113, eX1_add_115, eX1_add_118, eX1_add_121, eX1_add_122, eX1_add_125, eX1_add_1260, eX1_add_1261, eX1_add_127, eX1_add_128, eX1_add_129, eX1_add_132, eX1_add_133, eX1_add_135, eX1_add_138, eX1_add_141, eX1_add_142, eX1_add_145, eX1_add_1460, eX1_add_1461, eX1_add_147, eX1_add_1480, eX1_add_1481, eX1_add_77n0, eX1_add_77n1, eX1_add_104n0, eX1_add_104n1, eX1_add_126n0, eX1_add_126n1, eX1_add_146n0, eX1_add_146n1, eX1_add_148n0, eX1_add_148n1, lit_0, if_true]
          exact this
        · have := hQ.2 _ (by rw [adI_2, if_neg c1, if_pos c4, if_pos q]) M' H' E
          simp only [psh_i, bi_t1, eX1_add_0, eX1_add_1, eX1_add_2, eX1_add_5, eX1_add_7, eX1_add_8, eX1_add_9, eX1_add_12, eX1_add_14, eX1_add_15, eX1_add_56, eX1_add_57, eX1_add_58, eX1_add_61, eX1_add_62, eX1_add_64, eX1_add_66, eX1_add_69, eX1_add_72, eX1_add_73, eX1_add_76, eX1_add_770, eX1_add_771, eX1_add_78, eX1_add_79, eX1_add_80, eX1_add_83, eX1_add_84, eX1_add_86, eX1_add_88, eX1_add_89, eX1_add_90, eX1_add_93, eX1_add_96, eX1_add_99, eX1_add_100, eX1_add_103, eX1_add_1040, eX1_add_1041, eX1_add_105, eX1_add_106, eX1_add_107, eX1_add_110, eX1_add_111, eX1_add_113, eX1_add_115, eX1_add_118, eX1_add_121, eX1_add_122, eX1_add_125, eX1_add_1260, eX1_add_1261, eX1_add_127, eX1_add_128, eX1_add_129, eX1_add_132, eX1_add_133, eX1_add_135, eX1_add_138, eX1_add_141, eX1_add_142, eX1_add_145, eX1_add_1460, eX1_add_1461, eX1_add_147, eX1_add_1480, eX1_add_1481, eX1_add_77n0, eX1_add_77n1, eX1_add_104n0, eX1_add_104n1, eX1_add_126n0, eX1_add_126n1, eX1_add_146n0, eX1_add_146n1, eX1_add_148n0, eX1_add_148n1, lit_0, lit_1, show (nI 1 = nI 0) = False from eq_false (by decide), if_false]
          exact this
      · have hQ := hQ.1 (by rw [adI_2, if_neg c1, if_neg c4])
        rw [bi_f1] at hQ
        simp only [if_neg c1, if_neg c4, hQ, ite_self]
  | [a, b, e], _, hN, g, hQ =>
    have ha := (hN.2 0 a rfl).2
    have e0 := g 0 a rfl (by decide)
    have hb := (hN.2 1 b rfl).2
    have e1 := g 1 b rfl (by decide)
    have he := (hN.2 2 e rfl).2
    have e2 := g 2 e rfl (by decide)
    simp (disch := omega) only [eX1_add_0, eX1_add_1, eX1_add_2, eX1_add_5, eX1_add_7, eX1_add_8, eX1_add_9, eX1_add_12, eX1_add_14, eX1_add_15, eX1_add_56, eX1_add_57, eX1_add_58, eX1_add_61, eX1_add_62, eX1_add_64, eX1_add_66, eX1_add_69, eX1_add_72, eX1_add_73, eX1_add_76, eX1_add_770, eX1_add_771, eX1_add_78, eX1_add_79, eX1_add_80, eX1_add_83, eX1_add_84, eX1_add_86, eX1_add_88, eX1_add_89, eX1_add_90, eX1_add_93, eX1_add_96, eX1_add_99, eX1_add_100, eX1_add_103, eX1_add_1040, eX1_add_1041, eX1_add_105, eX1_add_106, eX1_add_107, eX1_add_110, eX1_add_111, eX1_add_113, eX1_add_115, eX1_add_118, eX1_add_121, eX1_add_122, eX1_add_125, eX1_add_1260, eX1_add_1261, eX1_add_127, eX1_add_128, eX1_add_129, eX1_add_132, eX1_add_133, eX1_add_135, eX1_add_138, eX1_add_141, eX1_add_142, eX1_add_145, eX1_add_1460, eX1_add_1461, eX1_add_147, eX1_add_1480, eX1_add_1481, eX1_add_77n0, eX1_add_77n1, eX1_add_104n0, eX1_add_104n1, eX1_add_126n0, eX1_add_126n1, eX1_add_146n0, eX1_add_146n1, eX1_add_148n0, eX1_add_148n1, cnt_0, cnt_1, cnt_2, cnt_3, cnt_4, cnt_5, cnt_6, cnt_7, cnt_8, cnt_9, cnt_10, cnt_11, hh, true_and, tX4_at, psh_i, lit_0, lit_1, lit_2, lit_3, t1, t2, t3, t4, nI_eq, Nat.reduceLT, List.length_cons, List.length_nil, Nat.reduceAdd, Nat.reduceEqDiff, if_false, if_true, e0, e1, e2]
    by_cases c3 : c = 116
    · rw [if_neg (by omega), if_neg (by omega), if_pos c3]
      refine tX1_addTouch (d := d + 1) hh H K ha hb he ⟨fun q => ?_, fun q M' H' E => ?_⟩
      · have := hQ.1 (by rw [adI_3, if_pos c3, if_neg q])
        simp only [psh_i, bi_f1, eX1_add_0, eX1_add_1, eX1_add_2, eX1_add_5, eX1_add_7, eX1_add_8, eX1_add_9, eX1_add_12, eX1_add_14, eX1_add_15, eX1_add_56, eX1_add_57, eX1_add_58, eX1_add_61, eX1_add_62, eX1_add_64, eX1_add_66, eX1_add_69, eX1_add_72, eX1_add_73, eX1_add_76, eX1_add_770, eX1_add_771, eX1_add_78, eX1_add_79, eX1_add_80, eX1_add_83, eX1_add_84, eX1_add_86, eX1_add_88, eX1_add_89, eX1_add_90, eX1_add_93, eX1_add_96, eX1_add_99, eX1_add_100, eX1_add_103, eX1_add_1040, eX1_add_1041, eX1_add_105, eX1_add_106, eX1_add_107, eX1_add_110, eX1_add_111, eX1_add_113, eX1_add_115, eX1_add_118, eX1_add_121, eX1_add_122, eX1_add_125, eX1_add_1260, eX1_add_1261, eX1_add_127, eX1_add_128, eX1_add_129, eX1_add_132, eX1_add_133, eX1_add_135, eX1_add_138, eX1_add_141, eX1_add_142, eX1_add_145, eX1_add_1460, eX1_add_1461, eX1_add_147, eX1_add_1480, eX1_add_1481, eX1_add_77n0, eX1_add_77n1, eX1_add_104n0, eX1_add_104n1, eX1_add_126n0, eX1_add_126n1, eX1_add_146n0, eX1_add_146n1, eX1_add_148n0, eX1_add_148n1, lit_0, if_true]
        exact this
      · have := hQ.2 _ (by rw [adI_3, if_pos c3, if_pos q]) M' H' E
        simp only [psh_i, bi_t1, eX1_add_0, eX1_add_1, eX1_add_2, eX1_add_5, eX1_add_7, eX1_add_8, eX1_add_9, eX1_add_12, eX1_add_14, eX1_add_15, eX1_add_56, eX1_add_57, eX1_add_58, eX1_add_61, eX1_add_62, eX1_add_64, eX1_add_66, eX1_add_69, eX1_add_72, eX1_add_73, eX1_add_76, eX1_add_770, eX1_add_771, eX1_add_78, eX1_add_79, eX1_add_80, eX1_add_83, eX1_add_84, eX1_add_86, eX1_add_88, eX1_add_89, eX1_add_90, eX1_add_93, eX1_add_96, eX1_add_99, eX1_add_100, eX1_add_103, eX1_add_1040, eX1_add_1041, eX1_add_105, eX1_add_106, eX1_add_107, eX1_add_110, eX1_add_111, eX1_add_113, eX1_add_115, eX1_add_118, eX1_add_121, eX1_add_122, eX1_add_125, eX1_add_1260, eX1_add_1261, eX1_add_127, eX1_add_128, eX1_add_129, eX1_add_132, eX1_add_133, eX1_add_135, eX1_add_138, eX1_add_141, eX1_add_142, eX1_add_145, eX1_add_1460, eX1_add_1461, eX1_add_147, eX1_add_1480, eX1_add_1481, eX1_add_77n0, eX1_add_77n1, eX1_add_104n0, eX1_add_104n1, eX1_add_126n0, eX1_add_126n1, eX1_add_146n0, eX1_add_146n1, eX1_add_148n0, eX1_add_148n1, lit_0, lit_1, show (nI 1 = nI 0) = False from eq_false (by decide), if_false]
        exact this
    · have hQ := hQ.1 (by rw [adI_3, if_neg c3])
      rw [bi_f1] at hQ
      simp only [if_neg c3, hQ, ite_self]
theorem OKh_ad {τ τ' : Nat → Nat → Nat} {c : Nat} {ns : List Nat} (K : OKh τ) (h : adI τ c ns = some τ') : OKh τ' := by
  obtain ⟨k1, k2, k3, k4, k5, k6, k7, k8⟩ := K
  match ns, h with
  | [], h => cases h
  | [a], h =>
    rw [adI_1] at h
    split at h
    · split at h
      · cases h
        exact ⟨k1, k2, k3, by rw [upT_eq]; assumption, k5, k6, k7, k8⟩
      · cases h
    · cases h
  | [a, b], h =>
    rw [adI_2] at h
    split at h
    · split at h
      · rename_i q
        obtain ⟨q1, q2, q3⟩ := q
        cases h
        have e7 : upT (upT (upT τ 0 (τ 7 0) a) 1 (τ 7 0) b) 7 0 (τ 7 0 + 1) 7 0 = τ 7 0 + 1 := upT_eq
        have e0 : ∀ i, upT (upT (upT τ 0 (τ 7 0) a) 1 (τ 7 0) b) 7 0 (τ 7 0 + 1) 0 i = if i = τ 7 0 then a else τ 0 i := fun i => by
          rw [upT_j (by decide), upT_j (by decide)]
          by_cases w : i = τ 7 0
          · rw [if_pos w, w, upT_eq]
          · rw [if_neg w, upT_i w]
        have e1 : ∀ i, upT (upT (upT τ 0 (τ 7 0) a) 1 (τ 7 0) b) 7 0 (τ 7 0 + 1) 1 i = if i = τ 7 0 then b else τ 1 i := fun i => by
          rw [upT_j (by decide)]
          by_cases w : i = τ 7 0
          · rw [if_pos w, w, upT_eq]
          · rw [if_neg w, upT_i w, upT_j (by decide)]
        refine ⟨by rw [e7]; omega, k2, k3, k4, fun i hi => ?_, fun i hi => ?_, fun k hk => ?_, fun k hk => ?_⟩
        · rw [e0]; rw [e7] at hi
          split
          · exact q2
          · exact k5 i (by omega)
        · rw [e1]; rw [e7] at hi
          split
          · exact q3
          · exact k6 i (by omega)
        · obtain ⟨w1, w2, w3, w4⟩ := k7 k hk
          rw [e7]
          exact ⟨w1, Nat.lt_succ_of_lt w2, Nat.lt_succ_of_lt w3, w4⟩
        · obtain ⟨w1, w2, w3, w4⟩ := k8 k hk
          rw [e7, e0]
          refine ⟨w1, Nat.lt_succ_of_lt w2, ?_, ?_⟩
          · show ¬ (if τ 6 k = τ 7 0 then a else τ 0 (τ 6 k)) = 3
            rw [if_neg (by omega)]; exact w3
          · show ¬ (if τ 6 k = τ 7 0 then a else τ 0 (τ 6 k)) = 4
            rw [if_neg (by omega)]; exact w4
      · cases h
    · split at h
      · split at h
        · rename_i q
          obtain ⟨q1, q2, q3⟩ := q
          cases h
          have e9 : upT (upT (upT τ 5 (τ 9 0) a) 6 (τ 9 0) b) 9 0 (τ 9 0 + 1) 9 0 = τ 9 0 + 1 := upT_eq
          refine ⟨k1, k2, by rw [e9]; omega, k4, k5, k6, k7, fun k hk => ?_⟩
          rw [e9] at hk
          show upT (upT (upT τ 5 (τ 9 0) a) 6 (τ 9 0) b) 9 0 (τ 9 0 + 1) 5 k < 12 ∧ upT (upT (upT τ 5 (τ 9 0) a) 6 (τ 9 0) b) 9 0 (τ 9 0 + 1) 6 k < τ 7 0 ∧ ¬ τ 0 (upT (upT (upT τ 5 (τ 9 0) a) 6 (τ 9 0) b) 9 0 (τ 9 0 + 1) 6 k) = 3 ∧ ¬ τ 0 (upT (upT (upT τ 5 (τ 9 0) a) 6 (τ 9 0) b) 9 0 (τ 9 0 + 1) 6 k) = 4
          rw [upT_j (show 5 ≠ 9 by decide), upT_j (show 5 ≠ 6 by decide), upT_j (show 6 ≠ 9 by decide)]
          by_cases w : k = τ 9 0
          · subst w
            rw [upT_eq, upT_eq]
            unfold per at q3
            simp only [Bool.and_eq_true, decide_eq_true_eq] at q3
            exact ⟨q2, q3.1, q3.2.1, q3.2.2⟩
          · rw [upT_i w, upT_i w, upT_j (show 6 ≠ 5 by decide)]
            exact k8 k (by omega)
        · cases h
      · cases h
  | [a, b, e], h =>
    rw [adI_3] at h
    split at h
    · split at h
      · rename_i q
        obtain ⟨q1, q2, q3, q4, q5⟩ := q
        cases h
        have e8 : upT (upT (upT (upT τ 2 (τ 8 0) a) 3 (τ 8 0) b) 4 (τ 8 0) e) 8 0 (τ 8 0 + 1) 8 0 = τ 8 0 + 1 := upT_eq
        refine ⟨k1, by rw [e8]; omega, k3, k4, k5, k6, fun k hk => ?_, k8⟩
        rw [e8] at hk
        show upT (upT (upT (upT τ 2 (τ 8 0) a) 3 (τ 8 0) b) 4 (τ 8 0) e) 8 0 (τ 8 0 + 1) 2 k < 12 ∧ upT (upT (upT (upT τ 2 (τ 8 0) a) 3 (τ 8 0) b) 4 (τ 8 0) e) 8 0 (τ 8 0 + 1) 3 k < τ 7 0 ∧ upT (upT (upT (upT τ 2 (τ 8 0) a) 3 (τ 8 0) b) 4 (τ 8 0) e) 8 0 (τ 8 0 + 1) 4 k < τ 7 0 ∧ upT (upT (upT (upT τ 2 (τ 8 0) a) 3 (τ 8 0) b) 4 (τ 8 0) e) 8 0 (τ 8 0 + 1) 3 k ≠ upT (upT (upT (upT τ 2 (τ 8 0) a) 3 (τ 8 0) b) 4 (τ 8 0) e) 8 0 (τ 8 0 + 1) 4 k
        by_cases w : k = τ 8 0
        · subst w
          simp [upT, q2, q3, q4, q5]
        · have := k7 k (by omega)
          simpa [upT, w] using this
      · cases h
    · cases h
  | a :: b :: e :: f :: r, h => cases h
/-! the letters -/
/-- a TEXT: its letters, how many -/
def Pg (M : bM) (lt : Nat → Nat) (len : Nat) : Prop := gI M 2 0 2 = nI len ∧ len ≤ 200 ∧ ∀ j, j < len → gI M 9 0 j = nI (lt j) ∧ lt j < 128
def gS (c i : Nat) : Prop := (c = 2 ∧ i = 0) ∨ (c = 9 ∧ i = 0)
theorem Pg_sI {M : bM} {lt : Nat → Nat} {len c i j : Nat} {v : Int32} (H : Pg M lt len) (h1 : ¬ (c = 2 ∧ j = 2)) (h2 : ¬ (c = 9 ∧ i = 0)) : Pg (sI M c i j v) lt len := by
  refine ⟨?_, H.2.1, fun j' hj' => ⟨?_, (H.2.2 j' hj').2⟩⟩
  · rw [gI_sI, if_neg (by omega)]; exact H.1
  · rw [gI_sI, if_neg (by omega)]; exact (H.2.2 j' hj').1
theorem Pg_e {S : Nat → Nat → Prop} {M M' : bM} {lt : Nat → Nat} {len : Nat} (e : Eqx S M M') (h1 : ¬ S 2 0) (h2 : ¬ S 9 0) (H : Pg M lt len) : Pg M' lt len :=
  ⟨(e _ _ _ h1).1.trans H.1, H.2.1, fun j hj => ⟨(e _ _ _ h2).1.trans (H.2.2 j hj).1, (H.2.2 j hj).2⟩⟩
def tl (lt : Nat → Nat) (len p : Nat) : Nat := if p < len then lt p else 0
theorem tX2_length {z d len : Nat} {M : bM} {lt : Nat → Nat} {Q : bV → bM → Prop} (H : Pg M lt len) : Run z (d + 1) 14 [vr 2 0] M Q = Q (.inl (nI len)) M := by
  rw [rX2_length]
  simp only [eX2_length_0, eX2_length_1, eX2_length_4, cnt_0, cnt_1, cnt_2, cnt_3, cnt_4, cnt_5, cnt_6, cnt_7, cnt_8, cnt_9, cnt_10, cnt_11, true_and, H.1, Nat.lt_add_one]
theorem tX2_clear {z d : Nat} {M : bM} {Q : bV → bM → Prop} : Run z (d + 1) 16 [vr 2 0] M Q = Q vu (sI M 2 0 2 (nI 0)) := by
  rw [rX2_clear]
  simp only [eX2_clear_0, eX2_clear_1, eX2_clear_2, eX2_clear_5, cnt_0, cnt_1, cnt_2, cnt_3, cnt_4, cnt_5, cnt_6, cnt_7, cnt_8, cnt_9, cnt_10, cnt_11, true_and, lit_0, Nat.lt_add_one]
theorem tX2_add {z d len v : Nat} {M : bM} {lt : Nat → Nat} {Q : bV → bM → Prop} (H : Pg M lt len) : Run z (d + 2) 15 [vr 2 0, .inl (nI v)] M Q = if len = 200 then Q (.inl (bi false)) M else Q (.inl (bi true)) (sI (sI M 9 0 len (nI v)) 2 0 2 (nI (len + 1))) := by
  have h2 := H.2.1
  have b0 : aln 0 = 200 := rfl
  have l200 : (200 : Int32) = nI 200 := rfl
  rw [rX2_add]
  by_cases q : len = 200
  · simp (disch := omega) only [eX2_add_0, eX2_add_1, eX2_add_4, eX2_add_7, eX2_add_10, eX2_add_110, eX2_add_111, eX2_add_12, eX2_add_13, eX2_add_16, eX2_add_17, eX2_add_20, eX2_add_21, eX2_add_24, eX2_add_25, eX2_add_25r, eX2_add_26, eX2_add_29, eX2_add_30, eX2_add_31, eX2_add_34, eX2_add_350, eX2_add_351, eX2_add_11n0, eX2_add_11n1, eX2_add_35n0, eX2_add_35n1, cnt_0, cnt_1, cnt_2, cnt_3, cnt_4, cnt_5, cnt_6, cnt_7, cnt_8, cnt_9, cnt_10, cnt_11, true_and, Nat.lt_add_one, H.1, l200, nI_ltI, q, Nat.lt_irrefl, if_true, if_false, bi_f1]
    rfl
  · have r1 : rowPut M 0 (nI len) (nI v) = sI M 9 0 len (nI v) := rowPut_nI (by omega)
    simp (disch := omega) only [eX2_add_0, eX2_add_1, eX2_add_4, eX2_add_7, eX2_add_10, eX2_add_110, eX2_add_111, eX2_add_12, eX2_add_13, eX2_add_16, eX2_add_17, eX2_add_20, eX2_add_21, eX2_add_24, eX2_add_25, eX2_add_25r, eX2_add_26, eX2_add_29, eX2_add_30, eX2_add_31, eX2_add_34, eX2_add_350, eX2_add_351, eX2_add_11n0, eX2_add_11n1, eX2_add_35n0, eX2_add_35n1, cnt_0, cnt_1, cnt_2, cnt_3, cnt_4, cnt_5, cnt_6, cnt_7, cnt_8, cnt_9, cnt_10, cnt_11, true_and, Nat.lt_add_one, H.1, l200, lit_1, nI_ltI, if_pos (show len < 200 by omega), if_neg q, tX4_put, psh_u, r1, gI_sI, false_and, if_false, Nat.reduceEqDiff, nI_add, bi_t1, Nat.reduceLT]
theorem tX2_letterAt {z d len p : Nat} {M : bM} {lt : Nat → Nat} {Q : bV → bM → Prop} (H : Pg M lt len) (hp : p < 2 ^ 30) : Run z (d + 2) 22 [vr 2 0, .inl (nI p)] M Q = Q (.inl (nI (tl lt len p))) M := by
  have h2 := H.2.1
  have b0 : aln 0 = 200 := rfl
  rw [rX2_letterAt]
  simp (disch := omega) only [eX2_letterAt_0, eX2_letterAt_1, eX2_letterAt_2, eX2_letterAt_5, eX2_letterAt_8, eX2_letterAt_9, eX2_letterAt_12, eX2_letterAt_13, eX2_letterAt_16, eX2_letterAt_19, eX2_letterAt_20, cnt_0, cnt_1, cnt_2, cnt_3, cnt_4, cnt_5, cnt_6, cnt_7, cnt_8, cnt_9, cnt_10, cnt_11, true_and, Nat.lt_add_one, H.1, nI_leI, tX4_at, psh_i, lit_0, Nat.reduceLT]
  unfold tl
  by_cases q : p < len
  · rw [if_neg (by omega), if_pos q, rowAt_nI (by omega), (H.2.2 p q).1]
  · rw [if_pos (by omega), if_neg q]
def isF (c : Nat) : Bool := decide (48 ≤ c) && decide (c ≤ 57)
theorem tl_lt {lt : Nat → Nat} {len p : Nat} {M : bM} (H : Pg M lt len) : tl lt len p < 128 := by
  unfold tl
  split
  · rename_i q; exact (H.2.2 p q).2
  · decide
theorem tX2_isFigure {z d c : Nat} {M : bM} {Q : bV → bM → Prop} (hc : c < 128) : Run z (d + 1) 21 [.inl (nI c)] M Q = Q (.inl (bi (isF c))) M := by
  have l48 : (48 : Int32) = nI 48 := rfl
  have l57 : (57 : Int32) = nI 57 := rfl
  rw [rX2_isFigure]
  simp (disch := omega) only [eX2_isFigure_0, eX2_isFigure_1, eX2_isFigure_3, eX2_isFigure_6, eX2_isFigure_7, eX2_isFigure_9, eX2_isFigure_12, eX2_isFigure_13, eX2_isFigure_16, eX2_isFigure_170, eX2_isFigure_171, eX2_isFigure_17n0, eX2_isFigure_17n1, l48, l57, nI_ltI]
  unfold isF
  by_cases a : c < 48
  · rw [if_pos a, decide_eq_false (by omega)]; rfl
  · rw [if_neg a, decide_eq_true (by omega)]
    by_cases b : 57 < c
    · rw [if_pos b, decide_eq_false (by omega)]; rfl
    · rw [if_neg b, decide_eq_true (by omega)]; rfl
/-- how many figures there are, two at most -/
def fg (lt : Nat → Nat) (len p : Nat) : Nat := if isF (tl lt len p) = true then (if isF (tl lt len (p + 1)) = true then 2 else 1) else 0
theorem tX2_figuresAt {z d len p : Nat} {M : bM} {lt : Nat → Nat} {Q : bV → bM → Prop} (H : Pg M lt len) (hp : p < 2 ^ 29) : Run z (d + 3) 19 [vr 2 0, .inl (nI p)] M Q = Q (.inl (nI (fg lt len p))) M := by
  have t0 : tl lt len p < 128 := tl_lt H
  have t1 : tl lt len (p + 1) < 128 := tl_lt H
  rw [rX2_figuresAt]
  simp only [eX2_figuresAt_0, eX2_figuresAt_1, eX2_figuresAt_3, eX2_figuresAt_4, eX2_figuresAt_7, eX2_figuresAt_8, eX2_figuresAt_9, eX2_figuresAt_10, eX2_figuresAt_11, eX2_figuresAt_14, eX2_figuresAt_17, eX2_figuresAt_20, eX2_figuresAt_23, eX2_figuresAt_26, eX2_figuresAt_27, lit_0]
  rw [eX2_figuresAt_2]
  simp (disch := omega) only [eX2_figuresAt_0, eX2_figuresAt_1, eX2_figuresAt_3, eX2_figuresAt_4, eX2_figuresAt_7, eX2_figuresAt_8, eX2_figuresAt_9, eX2_figuresAt_10, eX2_figuresAt_11, eX2_figuresAt_14, eX2_figuresAt_17, eX2_figuresAt_20, eX2_figuresAt_23, eX2_figuresAt_26, eX2_figuresAt_27, cnt_0, cnt_1, cnt_2, cnt_3, cnt_4, cnt_5, cnt_6, cnt_7, cnt_8, cnt_9, cnt_10, cnt_11, true_and, Nat.lt_add_one, lit_2, nI_leI, Nat.reduceLeDiff, if_false, nI_add, Nat.add_zero, tX2_letterAt H, psh_i, tX2_isFigure, bi_0, nI_1, Nat.zero_add]
  rw [eX2_figuresAt_2]
  simp (disch := omega) only [eX2_figuresAt_0, eX2_figuresAt_1, eX2_figuresAt_3, eX2_figuresAt_4, eX2_figuresAt_7, eX2_figuresAt_8, eX2_figuresAt_9, eX2_figuresAt_10, eX2_figuresAt_11, eX2_figuresAt_14, eX2_figuresAt_17, eX2_figuresAt_20, eX2_figuresAt_23, eX2_figuresAt_26, eX2_figuresAt_27, cnt_0, cnt_1, cnt_2, cnt_3, cnt_4, cnt_5, cnt_6, cnt_7, cnt_8, cnt_9, cnt_10, cnt_11, true_and, Nat.lt_add_one, lit_2, nI_leI, Nat.reduceLeDiff, if_false, nI_add, tX2_letterAt H, psh_i, tX2_isFigure, bi_0, nI_1, Nat.reduceAdd]
  rw [eX2_figuresAt_2]
  simp (disch := omega) only [eX2_figuresAt_0, eX2_figuresAt_1, eX2_figuresAt_3, eX2_figuresAt_4, eX2_figuresAt_7, eX2_figuresAt_8, eX2_figuresAt_9, eX2_figuresAt_10, eX2_figuresAt_11, eX2_figuresAt_14, eX2_figuresAt_17, eX2_figuresAt_20, eX2_figuresAt_23, eX2_figuresAt_26, eX2_figuresAt_27, lit_2, nI_leI, Nat.le_refl, if_true]
  unfold fg
  cases isF (tl lt len p)
  · rfl
  · cases isF (tl lt len (p + 1)) <;> rfl
/-- the number of k figures -/
def fv (lt : Nat → Nat) (len p : Nat) : Nat → Nat
  | 0 => 0
  | k + 1 => 10 * fv lt len p k + tl lt len (p + k) - 48
theorem fv_b {lt : Nat → Nat} {len p : Nat} : ∀ k, k ≤ fg lt len p → fv lt len p k < 10 ^ k ∧ ∀ j, j < k → 48 ≤ tl lt len (p + j) := by
  have hF : ∀ c, isF c = true → 48 ≤ c ∧ c ≤ 57 := fun c h => by unfold isF at h; simpa using h
  intro k hk
  unfold fg at hk
  match k, hk with
  | 0, _ => exact ⟨by show 0 < 1; decide, fun j h => by omega⟩
  | 1, hk =>
    split at hk
    · rename_i a
      have := hF _ a
      refine ⟨by show 10 * 0 + tl lt len (p + 0) - 48 < 10; rw [Nat.add_zero]; omega, fun j h => by rw [show j = 0 by omega]; exact this.1⟩
    · omega
  | 2, hk =>
    split at hk
    · rename_i a
      split at hk
      · rename_i b
        have h1 := hF _ a
        have h2 := hF _ b
        refine ⟨by show 10 * (10 * 0 + tl lt len (p + 0) - 48) + tl lt len (p + 1) - 48 < 100; rw [Nat.add_zero]; omega, fun j h => ?_⟩
        have : j = 0 ∨ j = 1 := by omega
        rcases this with rfl | rfl
        · exact h1.1
        · exact h2.1
      · omega
    · omega
  | k + 3, hk =>
    split at hk
    · split at hk <;> omega
    · omega
theorem tX2_valueOf {z d len p k : Nat} {M : bM} {lt : Nat → Nat} {Q : bV → bM → Prop} (H : Pg M lt len) (hp : p < 2 ^ 29) (hk : k = fg lt len p) : Run z (d + 3) 20 [vr 2 0, .inl (nI p), .inl (nI k)] M Q = Q (.inl (nI (fv lt len p k))) M := by
  have hk2 : k ≤ 2 := by rw [hk]; unfold fg; split <;> (try split) <;> omega
  have l10 : (10 : Int32) = nI 10 := rfl
  have l48 : (48 : Int32) = nI 48 := rfl
  rw [rX2_valueOf]
  simp only [eX2_valueOf_0, eX2_valueOf_1, eX2_valueOf_2, eX2_valueOf_3, eX2_valueOf_7, eX2_valueOf_8, eX2_valueOf_11, eX2_valueOf_13, eX2_valueOf_14, eX2_valueOf_15, eX2_valueOf_16, eX2_valueOf_17, eX2_valueOf_19, eX2_valueOf_20, eX2_valueOf_23, eX2_valueOf_24, eX2_valueOf_26, eX2_valueOf_27, eX2_valueOf_28, eX2_valueOf_31, eX2_valueOf_34, eX2_valueOf_35, lit_0]
  refine (eq_up (fun i => ExG z (Run z (d + 2)) 2 1 false none cX2_valueOf Q 5 [vr 2 0, .inl (nI p), .inl (nI k), .inl (nI (fv lt len p i)), .inl (nI i)] [] M) (Nat.zero_le k) (fun i _ hi => ?_)).trans ?_
  · have b1 := fv_b (lt := lt) (len := len) (p := p) i (by omega)
    have b2 := (fv_b (lt := lt) (len := len) (p := p) (i + 1) (by omega)).2 i (by omega)
    have b3 : fv lt len p i < 100 := Nat.lt_of_lt_of_le b1.1 (by
      have : i = 0 ∨ i = 1 := by omega
      rcases this with rfl | rfl <;> decide)
    rw [eX2_valueOf_5]
    simp (disch := omega) only [eX2_valueOf_0, eX2_valueOf_1, eX2_valueOf_2, eX2_valueOf_3, eX2_valueOf_7, eX2_valueOf_8, eX2_valueOf_11, eX2_valueOf_13, eX2_valueOf_14, eX2_valueOf_15, eX2_valueOf_16, eX2_valueOf_17, eX2_valueOf_19, eX2_valueOf_20, eX2_valueOf_23, eX2_valueOf_24, eX2_valueOf_26, eX2_valueOf_27, eX2_valueOf_28, eX2_valueOf_31, eX2_valueOf_34, eX2_valueOf_35, cnt_0, cnt_1, cnt_2, cnt_3, cnt_4, cnt_5, cnt_6, cnt_7, cnt_8, cnt_9, cnt_10, cnt_11, true_and, Nat.lt_add_one, l10, l48, nI_leI, if_neg (Nat.not_le.mpr hi), pk_mul, nI_add, tX2_letterAt H, psh_i, pk_sub, nI_1]
    rfl
  · rw [eX2_valueOf_5]
    simp (disch := omega) only [eX2_valueOf_0, eX2_valueOf_1, eX2_valueOf_2, eX2_valueOf_3, eX2_valueOf_7, eX2_valueOf_8, eX2_valueOf_11, eX2_valueOf_13, eX2_valueOf_14, eX2_valueOf_15, eX2_valueOf_16, eX2_valueOf_17, eX2_valueOf_19, eX2_valueOf_20, eX2_valueOf_23, eX2_valueOf_24, eX2_valueOf_26, eX2_valueOf_27, eX2_valueOf_28, eX2_valueOf_31, eX2_valueOf_34, eX2_valueOf_35, nI_leI, Nat.le_refl, if_true]
