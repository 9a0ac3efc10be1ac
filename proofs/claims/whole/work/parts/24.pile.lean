/-! contracts: piles, clues, twos -/
/-- the memories are the same but for some cells -/
def Eqx (S : Nat → Nat → Prop) (M M' : bM) : Prop := ∀ c i j, ¬ S c i → gI M' c i j = gI M c i j ∧ gR M' c i j = gR M c i j
theorem Eqx_rf {S : Nat → Nat → Prop} {M : bM} : Eqx S M M := fun _ _ _ _ => ⟨rfl, rfl⟩
theorem Eqx_tr {S S1 S2 : Nat → Nat → Prop} {M M1 M2 : bM} (h1 : Eqx S1 M M1) (h2 : Eqx S2 M1 M2) (a : ∀ c i, S1 c i → S c i) (b : ∀ c i, S2 c i → S c i) : Eqx S M M2 := fun c i j h =>
  ⟨(h2 c i j (fun q => h (b c i q))).1.trans (h1 c i j (fun q => h (a c i q))).1, (h2 c i j (fun q => h (b c i q))).2.trans (h1 c i j (fun q => h (a c i q))).2⟩
theorem Eqx_mo {S S1 : Nat → Nat → Prop} {M M1 : bM} (h1 : Eqx S1 M M1) (a : ∀ c i, S1 c i → S c i) : Eqx S M M1 := fun c i j h => h1 c i j (fun q => h (a c i q))
theorem Eqx_sI {S : Nat → Nat → Prop} {M : bM} {c i j : Nat} {v : Int32} (h : S c i) : Eqx S M (sI M c i j v) := fun c' i' j' q => ⟨by
  rw [gI_sI, if_neg]
  rintro ⟨rfl, rfl, -⟩
  exact q h, rfl⟩
theorem Eqx_sR {S : Nat → Nat → Prop} {M : bM} {c i j v : Nat} (h : S c i) : Eqx S M (sR M c i j v) := fun c' i' j' q => ⟨rfl, by
  rw [gR_sR, if_neg]
  rintro ⟨rfl, rfl, -⟩
  exact q h⟩
theorem Eqx_w {S : Nat → Nat → Prop} {M : bM} {k : Nat} {σ : sT} (h9 : S 9 (16 + k)) (h5 : S 5 k) : Eqx S M (wSt M k σ) := fun c i j q => ⟨wSt_o (by rintro ⟨rfl, rfl⟩; exact q h9) (by rintro ⟨rfl, rfl⟩; exact q h5), rfl⟩
theorem St_e {S : Nat → Nat → Prop} {M M' : bM} {k : Nat} {σ : sT} (h : Eqx S M M') (h9 : ¬ S 9 (16 + k)) (h5 : ¬ S 5 k) (H : St M k σ) : St M' k σ :=
  ⟨fun i hi => (h _ _ _ h9).1.trans (H.1 i hi), (h _ _ _ h5).1.trans H.2.1, (h _ _ _ h5).1.trans H.2.2.1, (h _ _ _ h5).1.trans H.2.2.2⟩
theorem Ho_e {S : Nat → Nat → Prop} {M M' : bM} {h : Nat} {τ : Nat → Nat → Nat} (e : Eqx S M M') (h9 : ∀ r, 2 + 7 * h ≤ r → r ≤ 8 + 7 * h → ¬ S 9 r) (h1 : ¬ S 1 h) (H : Ho M h τ) : Ho M' h τ := by
  obtain ⟨q0, q1, q2, q3, q4, q5, q6, q7, q8, q9, q10⟩ := H
  refine ⟨fun i hi => ?_, fun i hi => ?_, fun i hi => ?_, fun i hi => ?_, fun i hi => ?_, fun i hi => ?_, fun i hi => ?_, ?_, ?_, ?_, ?_⟩
  · exact (e _ _ _ (h9 _ (by omega) (by omega))).1.trans (q0 i hi)
  · exact (e _ _ _ (h9 _ (by omega) (by omega))).1.trans (q1 i hi)
  · exact (e _ _ _ (h9 _ (by omega) (by omega))).1.trans (q2 i hi)
  · exact (e _ _ _ (h9 _ (by omega) (by omega))).1.trans (q3 i hi)
  · exact (e _ _ _ (h9 _ (by omega) (by omega))).1.trans (q4 i hi)
  · exact (e _ _ _ (h9 _ (by omega) (by omega))).1.trans (q5 i hi)
  · exact (e _ _ _ (h9 _ (by omega) (by omega))).1.trans (q6 i hi)
  · exact (e _ _ _ h1).1.trans q7
  · exact (e _ _ _ h1).1.trans q8
  · exact (e _ _ _ h1).1.trans q9
  · exact (e _ _ _ h1).1.trans q10
/-! piles -/
def alqc (p : Nat) : Nat := if p = 0 then 8 else 2
theorem alq_c {p : Nat} (hp : p < 2) : alq p = alqc p := by
  match p, hp with
  | 0, _ => rfl
  | 1, _ => rfl
/-- where the stands of a pile lie -/
def plo (p : Nat) : Nat := if p = 0 then 2 else 10
/-- the places of a pile -/
def Pq (M : bM) (p : Nat) (ord : Nat → Nat) : Prop := (∀ j, j < alqc p → gR M 10 p j = ord j ∧ plo p ≤ ord j ∧ ord j < plo p + alqc p) ∧ ∀ i j, i < alqc p → j < alqc p → ord i = ord j → i = j
def Pi (M : bM) (p : Nat) (img : Nat → sT) (h : Nat) : Prop := ∃ ord, Pq M p ord ∧ gI M 3 p 1 = nI h ∧ h ≤ alqc p ∧ ∀ j, j < h → St M (ord j) (img j)
/-- the cells of a pile -/
def pS (p : Nat) (c i : Nat) : Prop := (c = 3 ∧ i = p) ∨ (c = 10 ∧ i = p) ∨ (c = 5 ∧ plo p ≤ i ∧ i < plo p + alqc p) ∨ (c = 9 ∧ 16 + plo p ≤ i ∧ i < 16 + plo p + alqc p)
theorem plo_lt {p : Nat} (hp : p < 2) : plo p + alqc p ≤ 12 := by
  unfold plo alqc
  split <;> omega
theorem plo_ge {p : Nat} : 2 ≤ plo p := by
  unfold plo
  split <;> omega
theorem Pi_e {S : Nat → Nat → Prop} {M M' : bM} {p h : Nat} {img : Nat → sT} (e : Eqx S M M') (hS : ∀ c i, pS p c i → ¬ S c i) (H : Pi M p img h) : Pi M' p img h := by
  obtain ⟨ord, ⟨h1, h2⟩, h3, h4, h5⟩ := H
  refine ⟨ord, ⟨fun j hj => ?_, h2⟩, ?_, h4, fun j hj => ?_⟩
  · obtain ⟨a, b⟩ := h1 j hj
    exact ⟨(e _ _ _ (hS _ _ (Or.inr (Or.inl ⟨rfl, rfl⟩)))).2.trans a, b⟩
  · exact (e _ _ _ (hS _ _ (Or.inl ⟨rfl, rfl⟩))).1.trans h3
  · obtain ⟨a, b, b2⟩ := h1 j (by omega)
    exact St_e e (hS _ _ (Or.inr (Or.inr (Or.inr ⟨rfl, by omega, by omega⟩)))) (hS _ _ (Or.inr (Or.inr (Or.inl ⟨rfl, b, b2⟩)))) (h5 j hj)
theorem tX3_height {z d p h : Nat} {M : bM} {Q : bV → bM → Prop} (hp : p < 2) (H : gI M 3 p 1 = nI h) : Run z (d + 1) 23 [vr 3 p] M Q = Q (.inl (nI h)) M := by
  rw [rX3_height]
  simp only [eX3_height_0, eX3_height_1, eX3_height_4, cnt_0, cnt_1, cnt_2, cnt_3, cnt_4, cnt_5, cnt_6, cnt_7, cnt_8, cnt_9, cnt_10, cnt_11, hp, true_and, H]
theorem tX3_isFull {z d p h : Nat} {M : bM} {Q : bV → bM → Prop} (hp : p < 2) (H : gI M 3 p 1 = nI h) (hh : h < 2 ^ 31) : Run z (d + 1) 24 [vr 3 p] M Q = Q (.inl (bi (decide (alqc p ≤ h)))) M := by
  have hc : alqc p ≤ 8 := by unfold alqc; split <;> omega
  rw [rX3_isFull]
  simp (disch := omega) only [eX3_isFull_0, eX3_isFull_1, eX3_isFull_4, eX3_isFull_5, eX3_isFull_8, eX3_isFull_9, eX3_isFull_12, eX3_isFull_13, eX3_isFull_16, eX3_isFull_170, eX3_isFull_171, eX3_isFull_17n0, eX3_isFull_17n1, cnt_0, cnt_1, cnt_2, cnt_3, cnt_4, cnt_5, cnt_6, cnt_7, cnt_8, cnt_9, cnt_10, cnt_11, hp, true_and, H, alq_c hp, nI_ltI]
  by_cases a : h < alqc p
  · rw [if_pos a, decide_eq_false (by omega), bi_f]
  · rw [if_neg a, decide_eq_true (by omega), bi_t]
theorem tX3_clear {z d p : Nat} {M : bM} {Q : bV → bM → Prop} (hp : p < 2) : Run z (d + 1) 25 [vr 3 p] M Q = Q vu (sI M 3 p 1 (nI 0)) := by
  rw [rX3_clear]
  simp only [eX3_clear_0, eX3_clear_1, eX3_clear_2, eX3_clear_5, cnt_0, cnt_1, cnt_2, cnt_3, cnt_4, cnt_5, cnt_6, cnt_7, cnt_8, cnt_9, cnt_10, cnt_11, hp, true_and, lit_0]
/-- the first n places of a row of stands set anew -/
def qset (M : bM) (p n : Nat) (f : Nat → Nat) : bM := (M.1, fun c i j => if c = 10 ∧ i = p ∧ j < n then f j else M.2 c i j)
theorem gR_qset (M : bM) (p n : Nat) (f : Nat → Nat) (c i j : Nat) : gR (qset M p n f) c i j = if c = 10 ∧ i = p ∧ j < n then f j else gR M c i j := rfl
theorem gI_qset (M : bM) (p n : Nat) (f : Nat → Nat) (c i j : Nat) : gI (qset M p n f) c i j = gI M c i j := rfl
theorem qset_0 (M : bM) (p : Nat) (f : Nat → Nat) : qset M p 0 f = M := by
  refine bM_ext (fun c i j => rfl) (fun c i j => ?_)
  rw [gR_qset, if_neg (by omega)]
theorem qset_s (M : bM) (p n : Nat) (f : Nat → Nat) {v : Nat} (hv : v = f n) : sR (qset M p n f) 10 p n v = qset M p (n + 1) f := by
  subst hv
  refine bM_ext (fun c i j => rfl) (fun c i j => ?_)
  rw [gR_sR, gR_qset, gR_qset]
  by_cases h : c = 10 ∧ i = p ∧ j = n
  · obtain ⟨rfl, rfl, rfl⟩ := h
    rw [if_pos ⟨rfl, rfl, rfl⟩, if_pos ⟨rfl, rfl, by omega⟩]
  · rw [if_neg h]
    by_cases h2 : c = 10 ∧ i = p ∧ j < n
    · rw [if_pos h2, if_pos ⟨h2.1, h2.2.1, by omega⟩]
    · rw [if_neg h2, if_neg (fun q => h2 ⟨q.1, q.2.1, by have := fun e => h ⟨q.1, q.2.1, e⟩; omega⟩)]
def drp (M : bM) (p : Nat) : bM := sI (qset M p (alqc p) (fun j => if j = alqc p - 1 then gR M 10 p 0 else gR M 10 p (j + 1))) 3 p 1 (nI (alqc p - 1))
theorem qset_c (M : bM) (p n : Nat) {f g : Nat → Nat} (h : ∀ j, j < n → f j = g j) : qset M p n f = qset M p n g := by
  refine bM_ext (fun c i j => rfl) (fun c i j => ?_)
  rw [gR_qset, gR_qset]
  split
  · rename_i q; exact h j q.2.2
  · rfl
theorem tX3_dropLowest {z d p : Nat} {M : bM} {ord : Nat → Nat} {Q : bV → bM → Prop} (hp : p < 2) (H : Pq M p ord) : Run z (d + 1) 28 [vr 3 p] M Q = Q vu (drp M p) := by
  have hc : alqc p ≤ 8 := by unfold alqc; split <;> omega
  have hc2 : 2 ≤ alqc p := by unfold alqc; split <;> omega
  have hl := plo_lt hp
  have ha := alq_c hp
  have g0 : gR M 10 p 0 < 12 := by obtain ⟨q1, q2, q3⟩ := H.1 0 (by omega); omega
  rw [rX3_dropLowest]
  simp (disch := omega) only [eX3_dropLowest_0, eX3_dropLowest_1, eX3_dropLowest_4, eX3_dropLowest_5, eX3_dropLowest_8, eX3_dropLowest_9, eX3_dropLowest_10, eX3_dropLowest_13, eX3_dropLowest_14, eX3_dropLowest_15, eX3_dropLowest_16, eX3_dropLowest_17, eX3_dropLowest_19, eX3_dropLowest_20, eX3_dropLowest_23, eX3_dropLowest_24, eX3_dropLowest_27, eX3_dropLowest_28, eX3_dropLowest_31, eX3_dropLowest_32, eX3_dropLowest_33, eX3_dropLowest_34, eX3_dropLowest_35, eX3_dropLowest_38, eX3_dropLowest_39, eX3_dropLowest_40, eX3_dropLowest_41, eX3_dropLowest_44, eX3_dropLowest_47, eX3_dropLowest_48, eX3_dropLowest_51, eX3_dropLowest_52, eX3_dropLowest_55, eX3_dropLowest_56, eX3_dropLowest_57, eX3_dropLowest_58, eX3_dropLowest_59, eX3_dropLowest_60, eX3_dropLowest_61, eX3_dropLowest_62, eX3_dropLowest_65, eX3_dropLowest_66, eX3_dropLowest_67, eX3_dropLowest_68, eX3_dropLowest_71, cnt_0, cnt_1, cnt_2, cnt_3, cnt_4, cnt_5, cnt_6, cnt_7, cnt_8, cnt_9, cnt_10, cnt_11, hp, true_and, ha, lit_0, lit_1, nI_eq, if_neg (show ¬ alqc p = 0 by omega), vin_nI, nI_clamp]
  refine ((congrArg _ (qset_0 M p (fun j => gR M 10 p (j + 1))).symm).trans (eq_up (fun i => ExG z (Run z d) 3 0 false none cX3_dropLowest Q 18 [vr 3 p, vr 5 (gR M 10 p 0), .inl (nI i)] [] (qset M p (i - 1) (fun j => gR M 10 p (j + 1)))) (a := 1) (N := alqc p) (by omega) (fun i h1 hi => ?_))).trans ?_
  · have gi : gR M 10 p i < 12 := by obtain ⟨q1, q2, q3⟩ := H.1 i (by omega); omega
    have gq : gR (qset M p (i - 1) (fun j => gR M 10 p (j + 1))) 10 p i = gR M 10 p i := by rw [gR_qset, if_neg (by omega)]
    have e1 : nI i - nI 1 = nI (i - 1) := pk_sub h1
    rw [eX3_dropLowest_18]
    simp (disch := omega) only [eX3_dropLowest_0, eX3_dropLowest_1, eX3_dropLowest_4, eX3_dropLowest_5, eX3_dropLowest_8, eX3_dropLowest_9, eX3_dropLowest_10, eX3_dropLowest_13, eX3_dropLowest_14, eX3_dropLowest_15, eX3_dropLowest_16, eX3_dropLowest_17, eX3_dropLowest_19, eX3_dropLowest_20, eX3_dropLowest_23, eX3_dropLowest_24, eX3_dropLowest_27, eX3_dropLowest_28, eX3_dropLowest_31, eX3_dropLowest_32, eX3_dropLowest_33, eX3_dropLowest_34, eX3_dropLowest_35, eX3_dropLowest_38, eX3_dropLowest_39, eX3_dropLowest_40, eX3_dropLowest_41, eX3_dropLowest_44, eX3_dropLowest_47, eX3_dropLowest_48, eX3_dropLowest_51, eX3_dropLowest_52, eX3_dropLowest_55, eX3_dropLowest_56, eX3_dropLowest_57, eX3_dropLowest_58, eX3_dropLowest_59, eX3_dropLowest_60, eX3_dropLowest_61, eX3_dropLowest_62, eX3_dropLowest_65, eX3_dropLowest_66, eX3_dropLowest_67, eX3_dropLowest_68, eX3_dropLowest_71, cnt_0, cnt_1, cnt_2, cnt_3, cnt_4, cnt_5, cnt_6, cnt_7, cnt_8, cnt_9, cnt_10, cnt_11, hp, true_and, ha, lit_1, nI_leI, if_neg (Nat.not_le.mpr hi), vin_nI, nI_clamp, e1, nI_add, gq, gi]
    rw [qset_s M p (i - 1) _ (show gR M 10 p i = gR M 10 p (i - 1 + 1) by rw [Nat.sub_add_cancel h1])]
    rw [show i - 1 + 1 = i + 1 - 1 by omega]
  · have e1 : nI (alqc p) - nI 1 = nI (alqc p - 1) := pk_sub (by omega)
    rw [eX3_dropLowest_18]
    simp (disch := omega) only [eX3_dropLowest_0, eX3_dropLowest_1, eX3_dropLowest_4, eX3_dropLowest_5, eX3_dropLowest_8, eX3_dropLowest_9, eX3_dropLowest_10, eX3_dropLowest_13, eX3_dropLowest_14, eX3_dropLowest_15, eX3_dropLowest_16, eX3_dropLowest_17, eX3_dropLowest_19, eX3_dropLowest_20, eX3_dropLowest_23, eX3_dropLowest_24, eX3_dropLowest_27, eX3_dropLowest_28, eX3_dropLowest_31, eX3_dropLowest_32, eX3_dropLowest_33, eX3_dropLowest_34, eX3_dropLowest_35, eX3_dropLowest_38, eX3_dropLowest_39, eX3_dropLowest_40, eX3_dropLowest_41, eX3_dropLowest_44, eX3_dropLowest_47, eX3_dropLowest_48, eX3_dropLowest_51, eX3_dropLowest_52, eX3_dropLowest_55, eX3_dropLowest_56, eX3_dropLowest_57, eX3_dropLowest_58, eX3_dropLowest_59, eX3_dropLowest_60, eX3_dropLowest_61, eX3_dropLowest_62, eX3_dropLowest_65, eX3_dropLowest_66, eX3_dropLowest_67, eX3_dropLowest_68, eX3_dropLowest_71, cnt_0, cnt_1, cnt_2, cnt_3, cnt_4, cnt_5, cnt_6, cnt_7, cnt_8, cnt_9, cnt_10, cnt_11, hp, true_and, ha, lit_1, nI_leI, Nat.le_refl, if_true, vin_nI, nI_clamp, e1, g0]
    unfold drp
    rw [qset_c M p (alqc p - 1) (g := fun j => if j = alqc p - 1 then gR M 10 p 0 else gR M 10 p (j + 1)) (fun j hj => by rw [if_neg (by omega)]), qset_s M p (alqc p - 1) _ (by rw [if_pos rfl]), Nat.sub_add_cancel (by omega)]
/-- a pile that gets one more -/
def pushP (cap : Nat) (img : Nat → sT) (h : Nat) (σ : sT) : Nat → sT := if h = cap then (fun j => if j = cap - 1 then σ else img (j + 1)) else (fun j => if j = h then σ else img j)
def pushH (cap h : Nat) : Nat := if h = cap then cap else h + 1
theorem gH_w {M : bM} {k : Nat} {σ : sT} {p : Nat} : gI (wSt M k σ) 3 p 1 = gI M 3 p 1 := wSt_o (by omega) (by omega)
theorem tX3_push0 {z d p h s : Nat} {M : bM} {img : Nat → sT} {ord : Nat → Nat} {σ : sT} {Q : bV → bM → Prop} (hp : p < 2) (H : Pq M p ord) (h3 : gI M 3 p 1 = nI h) (h4 : h < alqc p) (h5 : ∀ j, j < h → St M (ord j) (img j)) (hs : s < 2) (Hs : St M s σ)
    (hQ : ∀ M', Pi M' p (fun j => if j = h then σ else img j) (h + 1) → Eqx (pS p) M M' → Q vu M') : ExG z (Run z (d + 3)) 3 0 false none cX3_push Q 11 [vr 3 p, vr 5 s] [] M := by
  have hl := plo_lt hp
  have hg := plo_ge (p := p)
  have ha := alq_c hp
  have hc : alqc p ≤ 8 := by unfold alqc; split <;> omega
  obtain ⟨o1, o2, o3⟩ := H.1 h h4
  rw [eX3_push_11]
  simp (disch := omega) only [eX3_push_0, eX3_push_1, eX3_push_4, eX3_push_7, eX3_push_8, eX3_push_12, eX3_push_15, eX3_push_18, eX3_push_19, eX3_push_22, eX3_push_23, eX3_push_26, eX3_push_27, eX3_push_30, eX3_push_31, eX3_push_34, eX3_push_35, eX3_push_38, eX3_push_39, eX3_push_42, eX3_push_43, eX3_push_46, eX3_push_47, eX3_push_50, eX3_push_51, eX3_push_52, eX3_push_55, eX3_push_56, eX3_push_56r, eX3_push_57, eX3_push_60, eX3_push_61, eX3_push_62, eX3_push_65, cnt_0, cnt_1, cnt_2, cnt_3, cnt_4, cnt_5, cnt_6, cnt_7, cnt_8, cnt_9, cnt_10, cnt_11, hp, true_and, ha, h3, lit_0, lit_1, nI_leI, nI_ltI, Nat.not_lt_zero, if_false, if_neg (Nat.not_le.mpr h4), vin_nI, nI_clamp, o1, tX5_copy (show ord h < 12 by omega) (show s < 12 by omega) (show ord h ≠ s by omega) Hs, psh_u, gH_w, nI_add, show ord h < 12 from by omega]
  have e1 : Eqx (pS p) M (wSt M (ord h) σ) := Eqx_w (Or.inr (Or.inr (Or.inr ⟨rfl, by omega, by omega⟩))) (Or.inr (Or.inr (Or.inl ⟨rfl, o2, o3⟩)))
  have e2 : Eqx (pS p) (wSt M (ord h) σ) (sI (wSt M (ord h) σ) 3 p 1 (nI (h + 1))) := Eqx_sI (Or.inl ⟨rfl, rfl⟩)
  have e3 : Eqx (fun c i => c = 3) (wSt M (ord h) σ) (sI (wSt M (ord h) σ) 3 p 1 (nI (h + 1))) := Eqx_sI rfl
  refine hQ _ ⟨ord, ⟨fun j hj => H.1 j hj, H.2⟩, ?_, by omega, fun j hj => ?_⟩ (Eqx_tr e1 e2 (fun _ _ q => q) (fun _ _ q => q))
  · rw [gI_sI, if_pos ⟨rfl, rfl, rfl⟩]
  · refine St_e e3 (by decide) (by decide) ?_
    by_cases q : j = h
    · subst q
      dsimp only
      rw [if_pos rfl]
      exact St_wSt _ _ _
    · dsimp only
      rw [if_neg q]
      exact St_o (fun e => q (H.2 h j h4 (by omega) e).symm) (h5 j (by omega))
theorem tX3_push {z d p h s : Nat} {M : bM} {img : Nat → sT} {σ : sT} {Q : bV → bM → Prop} (hp : p < 2) (H : Pi M p img h) (hs : s < 2) (Hs : St M s σ)
    (hQ : ∀ M', Pi M' p (pushP (alqc p) img h σ) (pushH (alqc p) h) → Eqx (pS p) M M' → Q vu M') : Run z (d + 4) 26 [vr 3 p, vr 5 s] M Q := by
  obtain ⟨ord, H, h3, h4, h5⟩ := H
  have hl := plo_lt hp
  have hg := plo_ge (p := p)
  have hc : alqc p ≤ 8 := by unfold alqc; split <;> omega
  have hc2 : 2 ≤ alqc p := by unfold alqc; split <;> omega
  rw [rX3_push]
  simp (disch := omega) only [eX3_push_0, eX3_push_1, eX3_push_4, eX3_push_7, eX3_push_8, eX3_push_12, eX3_push_15, eX3_push_18, eX3_push_19, eX3_push_22, eX3_push_23, eX3_push_26, eX3_push_27, eX3_push_30, eX3_push_31, eX3_push_34, eX3_push_35, eX3_push_38, eX3_push_39, eX3_push_42, eX3_push_43, eX3_push_46, eX3_push_47, eX3_push_50, eX3_push_51, eX3_push_52, eX3_push_55, eX3_push_56, eX3_push_56r, eX3_push_57, eX3_push_60, eX3_push_61, eX3_push_62, eX3_push_65, cnt_0, cnt_1, cnt_2, cnt_3, cnt_4, cnt_5, cnt_6, cnt_7, cnt_8, cnt_9, cnt_10, cnt_11, hp, true_and, tX3_isFull hp h3 (by omega), psh_i, bi_0, tX3_dropLowest hp H, psh_u]
  by_cases q : h = alqc p
  · rw [decide_eq_true (by omega), if_neg (by decide)]
    unfold pushP pushH at hQ
    rw [if_pos q, if_pos q] at hQ
    have ed : Eqx (pS p) M (drp M p) := by
      intro c i j hn
      unfold drp
      refine ⟨?_, ?_⟩
      · rw [gI_sI, if_neg (fun w => hn (Or.inl ⟨w.1, w.2.1⟩)), gI_qset]
      · rw [gR_sI, gR_qset, if_neg (fun w => hn (Or.inr (Or.inl ⟨w.1, w.2.1⟩)))]
    have ei : ∀ c i j, ¬ c = 3 → gI (drp M p) c i j = gI M c i j := by
      intro c i j hn
      unfold drp
      rw [gI_sI, if_neg (fun w => hn w.1), gI_qset]
    have hst : ∀ k σ, St M k σ → St (drp M p) k σ := fun k σ ⟨w1, w2, w3, w4⟩ => ⟨fun i hi => (ei _ _ _ (by decide)).trans (w1 i hi), (ei _ _ _ (by decide)).trans w2, (ei _ _ _ (by decide)).trans w3, (ei _ _ _ (by decide)).trans w4⟩
    have hr : ∀ j, j < alqc p → gR (drp M p) 10 p j = if j = alqc p - 1 then ord 0 else ord (j + 1) := by
      intro j hj
      unfold drp
      rw [gR_sI, gR_qset, if_pos ⟨rfl, rfl, hj⟩]
      split
      · exact (H.1 0 (by omega)).1
      · exact (H.1 (j + 1) (by omega)).1
    have hpq : Pq (drp M p) p (fun j => if j = alqc p - 1 then ord 0 else ord (j + 1)) := by
      refine ⟨fun j hj => ⟨hr j hj, ?_⟩, fun i j hi hj hij => ?_⟩
      · by_cases w : j = alqc p - 1
        · dsimp only
          rw [if_pos w]; exact (H.1 0 (by omega)).2
        · dsimp only
          rw [if_neg w]; exact (H.1 (j + 1) (by omega)).2
      · dsimp only at hij
        by_cases a : i = alqc p - 1
        · by_cases b : j = alqc p - 1
          · omega
          · rw [if_pos a, if_neg b] at hij
            have := H.2 0 (j + 1) (by omega) (by omega) hij
            omega
        · by_cases b : j = alqc p - 1
          · rw [if_neg a, if_pos b] at hij
            have := H.2 (i + 1) 0 (by omega) (by omega) hij
            omega
          · rw [if_neg a, if_neg b] at hij
            have := H.2 (i + 1) (j + 1) (by omega) (by omega) hij
            omega
    have hh' : gI (drp M p) 3 p 1 = nI (alqc p - 1) := by
      unfold drp
      rw [gI_sI, if_pos ⟨rfl, rfl, rfl⟩]
    refine tX3_push0 (img := fun j => img (j + 1)) (h := alqc p - 1) hp hpq hh' (by omega) (fun j hj => ?_) hs (hst _ _ Hs) (fun M' P E => hQ M' ?_ (Eqx_tr ed E (fun _ _ w => w) (fun _ _ w => w)))
    · have := hst _ _ (h5 (j + 1) (by omega))
      try dsimp only
      rw [if_neg (by omega)]
      exact this
    · rw [Nat.sub_add_cancel (by omega)] at P
      exact P
  · rw [decide_eq_false (by omega), if_pos rfl]
    unfold pushP pushH at hQ
    rw [if_neg q, if_neg q] at hQ
    exact tX3_push0 hp H h3 (by omega) h5 hs Hs hQ
theorem tX3_pop0 {z d p s : Nat} {M : bM} {img : Nat → sT} {Q : bV → bM → Prop} (hp : p < 2) (H : Pi M p img 0) : Run z (d + 4) 27 [vr 3 p, vr 5 s] M Q = Q (.inl (bi false)) M := by
  obtain ⟨ord, H, h3, h4, h5⟩ := H
  rw [rX3_popInto]
  simp (disch := omega) only [eX3_popInto_0, eX3_popInto_1, eX3_popInto_4, eX3_popInto_5, eX3_popInto_6, eX3_popInto_7, eX3_popInto_8, eX3_popInto_11, eX3_popInto_12, eX3_popInto_13, eX3_popInto_16, eX3_popInto_17, eX3_popInto_20, eX3_popInto_21, eX3_popInto_24, eX3_popInto_25, eX3_popInto_26, eX3_popInto_29, eX3_popInto_300, eX3_popInto_301, eX3_popInto_31, eX3_popInto_32, eX3_popInto_33, eX3_popInto_36, eX3_popInto_37, eX3_popInto_38, eX3_popInto_41, eX3_popInto_42, eX3_popInto_43, eX3_popInto_46, eX3_popInto_470, eX3_popInto_471, eX3_popInto_30n0, eX3_popInto_30n1, eX3_popInto_47n0, eX3_popInto_47n1, cnt_0, cnt_1, cnt_2, cnt_3, cnt_4, cnt_5, cnt_6, cnt_7, cnt_8, cnt_9, cnt_10, cnt_11, hp, true_and, h3, bi_f]
  rw [if_pos (by decide)]
theorem tX3_pop {z d p h s : Nat} {M : bM} {img : Nat → sT} {Q : bV → bM → Prop} (hp : p < 2) (H : Pi M p img (h + 1)) (hs : s < 2)
    (hQ : ∀ M', Pi M' p img h → St M' s (img h) → Eqx (fun c i => pS p c i ∨ (c = 5 ∧ i = s) ∨ (c = 9 ∧ i = 16 + s)) M M' → Q (.inl (bi true)) M') : Run z (d + 4) 27 [vr 3 p, vr 5 s] M Q := by
  obtain ⟨ord, H, h3, h4, h5⟩ := H
  have hl := plo_lt hp
  have hg := plo_ge (p := p)
  have ha := alq_c hp
  have hc : alqc p ≤ 8 := by unfold alqc; split <;> omega
  obtain ⟨o1, o2, o3⟩ := H.1 h (by omega)
  have e0 : nI (h + 1) - nI 1 = nI h := pk_sub (by omega)
  rw [rX3_popInto]
  simp (disch := omega) only [eX3_popInto_0, eX3_popInto_1, eX3_popInto_4, eX3_popInto_5, eX3_popInto_6, eX3_popInto_7, eX3_popInto_8, eX3_popInto_11, eX3_popInto_12, eX3_popInto_13, eX3_popInto_16, eX3_popInto_17, eX3_popInto_20, eX3_popInto_21, eX3_popInto_24, eX3_popInto_25, eX3_popInto_26, eX3_popInto_29, eX3_popInto_300, eX3_popInto_301, eX3_popInto_31, eX3_popInto_32, eX3_popInto_33, eX3_popInto_36, eX3_popInto_37, eX3_popInto_38, eX3_popInto_41, eX3_popInto_42, eX3_popInto_43, eX3_popInto_46, eX3_popInto_470, eX3_popInto_471, eX3_popInto_30n0, eX3_popInto_30n1, eX3_popInto_47n0, eX3_popInto_47n1, cnt_0, cnt_1, cnt_2, cnt_3, cnt_4, cnt_5, cnt_6, cnt_7, cnt_8, cnt_9, cnt_10, cnt_11, hp, true_and, ha, h3, lit_0, lit_1, e0, nI_leI, nI_ltI, if_neg (Nat.not_lt_zero h), if_neg (show ¬ alqc p ≤ h by omega), vin_nI, nI_clamp, o1, tX5_copy (show s < 12 by omega) (show ord h < 12 by omega) (show s ≠ ord h by omega) (h5 h (by omega)), psh_u, show s < 12 from by omega, bi_t1]
  have e3 : Eqx (fun c i => c = 3 ∧ i = p) (wSt M s (img h)) (sI (wSt M s (img h)) 3 p 1 (nI h)) := Eqx_sI ⟨rfl, rfl⟩
  refine hQ _ ⟨ord, ⟨fun j hj => H.1 j hj, H.2⟩, ?_, by omega, fun j hj => ?_⟩ ?_ ?_
  · rw [gI_sI, if_pos ⟨rfl, rfl, rfl⟩]
  · obtain ⟨w1, w2, w3⟩ := H.1 j (by omega)
    exact St_e e3 (by omega) (by omega) (St_o (by omega) (h5 j (by omega)))
  · exact St_e e3 (by omega) (by omega) (St_wSt _ _ _)
  · exact Eqx_tr (Eqx_w (Or.inr (Or.inr ⟨rfl, rfl⟩)) (Or.inr (Or.inl ⟨rfl, rfl⟩))) e3 (fun _ _ q => q) (fun c i q => Or.inl (Or.inl q))
/-! clues -/
def Cl (M : bM) (ci cs : Nat → Nat) (n : Nat) : Prop := gI M 0 0 2 = nI n ∧ n ≤ 6 ∧ ∀ j, j < n → gI M 9 28 j = nI (ci j) ∧ gI M 9 29 j = nI (cs j)
def cS (c i : Nat) : Prop := c = 0 ∨ (c = 9 ∧ (i = 28 ∨ i = 29))
theorem Cl_e {S : Nat → Nat → Prop} {M M' : bM} {ci cs : Nat → Nat} {n : Nat} (e : Eqx S M M') (hS : ∀ c i, cS c i → ¬ S c i) (H : Cl M ci cs n) : Cl M' ci cs n :=
  ⟨(e _ _ _ (hS _ _ (Or.inl rfl))).1.trans H.1, H.2.1, fun j hj => ⟨(e _ _ _ (hS _ _ (Or.inr ⟨rfl, Or.inl rfl⟩))).1.trans (H.2.2 j hj).1, (e _ _ _ (hS _ _ (Or.inr ⟨rfl, Or.inr rfl⟩))).1.trans (H.2.2 j hj).2⟩⟩
theorem tX0_size {z d n : Nat} {M : bM} {ci cs : Nat → Nat} {Q : bV → bM → Prop} (H : Cl M ci cs n) : Run z (d + 1) 0 [vr 0 0] M Q = Q (.inl (nI n)) M := by
  rw [rX0_size]
  simp only [eX0_size_0, eX0_size_1, eX0_size_4, cnt_0, cnt_1, cnt_2, cnt_3, cnt_4, cnt_5, cnt_6, cnt_7, cnt_8, cnt_9, cnt_10, cnt_11, true_and, H.1, Nat.lt_add_one]
theorem tX0_clear {z d : Nat} {M : bM} {Q : bV → bM → Prop} : Run z (d + 1) 1 [vr 0 0] M Q = Q vu (sI M 0 0 2 (nI 0)) := by
  rw [rX0_clear]
  simp only [eX0_clear_0, eX0_clear_1, eX0_clear_2, eX0_clear_5, cnt_0, cnt_1, cnt_2, cnt_3, cnt_4, cnt_5, cnt_6, cnt_7, cnt_8, cnt_9, cnt_10, cnt_11, true_and, lit_0, Nat.lt_add_one]
theorem tX0_add {z d n i s : Nat} {M : bM} {ci cs : Nat → Nat} {Q : bV → bM → Prop} (H : Cl M ci cs n) : Run z (d + 2) 2 [vr 0 0, .inl (nI i), .inl (nI s)] M Q = if n = 6 then Q (.inl (bi false)) M else Q (.inl (bi true)) (sI (sI (sI M 9 28 n (nI i)) 9 29 n (nI s)) 0 0 2 (nI (n + 1))) := by
  obtain ⟨h1, h2, h3⟩ := H
  have b1 : aln 28 = 6 := rfl
  have b2 : aln 29 = 6 := rfl
  rw [rX0_add]
  by_cases q : n = 6
  · simp (disch := omega) only [eX0_add_0, eX0_add_1, eX0_add_4, eX0_add_6, eX0_add_9, eX0_add_100, eX0_add_101, eX0_add_11, eX0_add_12, eX0_add_15, eX0_add_16, eX0_add_19, eX0_add_20, eX0_add_23, eX0_add_24, eX0_add_27, eX0_add_28, eX0_add_31, eX0_add_32, eX0_add_35, eX0_add_36, eX0_add_36r, eX0_add_37, eX0_add_40, eX0_add_41, eX0_add_42, eX0_add_45, eX0_add_460, eX0_add_461, eX0_add_10n0, eX0_add_10n1, eX0_add_46n0, eX0_add_46n1, cnt_0, cnt_1, cnt_2, cnt_3, cnt_4, cnt_5, cnt_6, cnt_7, cnt_8, cnt_9, cnt_10, cnt_11, true_and, Nat.lt_add_one, h1, lit_6, nI_ltI, q, Nat.lt_irrefl, if_true, if_false, bi_f1]
    rfl
  · have r1 : rowPut M 28 (nI n) (nI i) = sI M 9 28 n (nI i) := rowPut_nI (by omega)
    have r2 : rowPut (sI M 9 28 n (nI i)) 29 (nI n) (nI s) = sI (sI M 9 28 n (nI i)) 9 29 n (nI s) := rowPut_nI (by omega)
    simp (disch := omega) only [eX0_add_0, eX0_add_1, eX0_add_4, eX0_add_6, eX0_add_9, eX0_add_100, eX0_add_101, eX0_add_11, eX0_add_12, eX0_add_15, eX0_add_16, eX0_add_19, eX0_add_20, eX0_add_23, eX0_add_24, eX0_add_27, eX0_add_28, eX0_add_31, eX0_add_32, eX0_add_35, eX0_add_36, eX0_add_36r, eX0_add_37, eX0_add_40, eX0_add_41, eX0_add_42, eX0_add_45, eX0_add_460, eX0_add_461, eX0_add_10n0, eX0_add_10n1, eX0_add_46n0, eX0_add_46n1, cnt_0, cnt_1, cnt_2, cnt_3, cnt_4, cnt_5, cnt_6, cnt_7, cnt_8, cnt_9, cnt_10, cnt_11, true_and, Nat.lt_add_one, h1, lit_6, lit_1, nI_ltI, if_pos (show n < 6 by omega), if_neg q, tX4_put, psh_u, r1, r2, gI_sI, false_and, if_false, Nat.reduceEqDiff, nI_add, bi_t1, Nat.reduceLT]
def hld (ci cs : Nat → Nat) (f : Nat → Nat) (n : Nat) : Bool := decide (∀ j, j < n → f (ci j) = cs j)
theorem eq_dn {α : Sort _} (E R : Nat → α) (N : Nat) (hN : E N = R N) (hs : ∀ i, i < N → E (i + 1) = R (i + 1) → E i = R i) : ∀ i, i ≤ N → E i = R i := by
  intro i
  induction h : N - i generalizing i with
  | zero => intro hi; rw [show i = N by omega]; exact hN
  | succ k ih => intro hi; exact hs i (by omega) (ih (i + 1) (by omega) (by omega))
theorem tX0_hold {z d n k : Nat} {M : bM} {ci cs : Nat → Nat} {σ : sT} {Q : bV → bM → Prop} (H : Cl M ci cs n) (hci : ∀ j, j < n → ci j < 9) (hcs : ∀ j, j < n → cs j ≤ 9) (hk : k < 12) (Hs : St M k σ) (hs : OKs σ) : Run z (d + 2) 3 [vr 0 0, vr 5 k] M Q = Q (.inl (bi (hld ci cs σ.1 n))) M := by
  obtain ⟨h1, h2, h3⟩ := H
  have b1 : aln 28 = 6 := rfl
  have b2 : aln 29 = 6 := rfl
  have hb := aln_st hk
  rw [rX0_hold]
  simp only [eX0_hold_0, eX0_hold_1, eX0_hold_3, eX0_hold_4, eX0_hold_7, eX0_hold_10, eX0_hold_11, eX0_hold_14, eX0_hold_15, eX0_hold_18, eX0_hold_19, eX0_hold_22, eX0_hold_25, eX0_hold_26, eX0_hold_29, eX0_hold_30, eX0_hold_33, eX0_hold_36, eX0_hold_370, eX0_hold_371, eX0_hold_38, eX0_hold_41, eX0_hold_44, eX0_hold_450, eX0_hold_451, eX0_hold_37n0, eX0_hold_37n1, eX0_hold_45n0, eX0_hold_45n1, lit_0]
  refine (eq_dn (fun i => ExG z (Run z (d + 1)) 0 2 false none cX0_hold Q 2 [vr 0 0, vr 5 k, .inl (nI i)] [] M) (fun i => Q (.inl (bi (decide (∀ j, j < n → i ≤ j → σ.1 (ci j) = cs j)))) M) n ?_ (fun i hi ih => ?_) 0 (Nat.zero_le n)).trans ?_
  · rw [eX0_hold_2]
    simp (disch := omega) only [eX0_hold_0, eX0_hold_1, eX0_hold_3, eX0_hold_4, eX0_hold_7, eX0_hold_10, eX0_hold_11, eX0_hold_14, eX0_hold_15, eX0_hold_18, eX0_hold_19, eX0_hold_22, eX0_hold_25, eX0_hold_26, eX0_hold_29, eX0_hold_30, eX0_hold_33, eX0_hold_36, eX0_hold_370, eX0_hold_371, eX0_hold_38, eX0_hold_41, eX0_hold_44, eX0_hold_450, eX0_hold_451, eX0_hold_37n0, eX0_hold_37n1, eX0_hold_45n0, eX0_hold_45n1, cnt_0, cnt_1, cnt_2, cnt_3, cnt_4, cnt_5, cnt_6, cnt_7, cnt_8, cnt_9, cnt_10, cnt_11, true_and, Nat.lt_add_one, h1, nI_leI, Nat.le_refl, if_true]
    rw [decide_eq_true (fun j a b => by omega), bi_t]
  · have c1 := hci i hi
    have c2 := hcs i hi
    have c3 := hs.1 (ci i) c1
    have r1 : rowAt M 28 (nI i) = nI (ci i) := (rowAt_nI (by omega)).trans (h3 i hi).1
    have r2 : rowAt M 29 (nI i) = nI (cs i) := (rowAt_nI (by omega)).trans (h3 i hi).2
    have r3 : rowAt M (16 + k) (nI (ci i)) = nI (σ.1 (ci i)) := (rowAt_nI (by omega)).trans (Hs.1 _ c1)
    try dsimp only at ih
    rw [eX0_hold_2]
    simp (disch := omega) only [eX0_hold_0, eX0_hold_1, eX0_hold_3, eX0_hold_4, eX0_hold_7, eX0_hold_10, eX0_hold_11, eX0_hold_14, eX0_hold_15, eX0_hold_18, eX0_hold_19, eX0_hold_22, eX0_hold_25, eX0_hold_26, eX0_hold_29, eX0_hold_30, eX0_hold_33, eX0_hold_36, eX0_hold_370, eX0_hold_371, eX0_hold_38, eX0_hold_41, eX0_hold_44, eX0_hold_450, eX0_hold_451, eX0_hold_37n0, eX0_hold_37n1, eX0_hold_45n0, eX0_hold_45n1, cnt_0, cnt_1, cnt_2, cnt_3, cnt_4, cnt_5, cnt_6, cnt_7, cnt_8, cnt_9, cnt_10, cnt_11, true_and, Nat.lt_add_one, hk, lt_st, h1, nI_leI, if_neg (Nat.not_le.mpr hi), tX4_at, psh_i, r1, r2, r3, nI_eq, nI_1, ih, Nat.reduceLT]
    by_cases q : σ.1 (ci i) = cs i
    · rw [if_pos q]
      congr 3
      refine decide_eq_decide.mpr ⟨fun w j a b => ?_, fun w j a b => w j a (by omega)⟩
      by_cases e : j = i
      · rw [e]; exact q
      · exact w j a (by omega)
    · rw [if_neg q, decide_eq_false (fun w => q (w i hi (Nat.le_refl i))), bi_f]
  · unfold hld
    congr 3
    exact decide_eq_decide.mpr ⟨fun w j a => w j a (Nat.zero_le j), fun w j a _ => w j a⟩
/-! twos -/
def wTw (M : bM) (m : Nat) (v : Int32) : bM := sI (sI M 6 0 0 (nI m)) 6 0 1 v
theorem wTw_w (M : bM) (m m' : Nat) (v v' : Int32) : wTw (wTw M m v) m' v' = wTw M m' v' := by
  refine bM_ext (fun c i j => ?_) (fun c i j => rfl)
  unfold wTw
  simp only [gI_sI]
  by_cases a : c = 6 ∧ i = 0 ∧ j = 1
  · simp only [if_pos a]
  · by_cases b : c = 6 ∧ i = 0 ∧ j = 0
    · simp only [if_neg a, if_pos b]
    · simp only [if_neg b, if_neg a]
theorem wTw_m (M : bM) (m : Nat) (v : Int32) : gI (wTw M m v) 6 0 0 = nI m := by unfold wTw; rw [gI_sI, if_neg (by decide), gI_sI, if_pos ⟨rfl, rfl, rfl⟩]
theorem wTw_f (M : bM) (m : Nat) (v : Int32) : gI (wTw M m v) 6 0 1 = v := by unfold wTw; rw [gI_sI, if_pos ⟨rfl, rfl, rfl⟩]
theorem wTw_sf (M : bM) (m : Nat) (v w : Int32) : sI (wTw M m v) 6 0 1 w = wTw M m w := by
  refine bM_ext (fun c i j => ?_) (fun c i j => rfl)
  unfold wTw
  simp only [gI_sI]
  by_cases a : c = 6 ∧ i = 0 ∧ j = 1
  · simp only [if_pos a]
  · simp only [if_neg a]
theorem wTw_sm (M : bM) (m n : Nat) (v : Int32) : sI (wTw M m v) 6 0 0 (nI n) = wTw M n v := by
  refine bM_ext (fun c i j => ?_) (fun c i j => rfl)
  unfold wTw
  rw [gI_sI, gI_sI, gI_sI, gI_sI, gI_sI]
  by_cases b : c = 6 ∧ i = 0 ∧ j = 0
  · rw [if_pos b, if_neg (by omega), if_pos b]
  · rw [if_neg b]
    by_cases a : c = 6 ∧ i = 0 ∧ j = 1
    · rw [if_pos a, if_pos a]
    · rw [if_neg a, if_neg a, if_neg b, if_neg b]
theorem Eqx_t {S : Nat → Nat → Prop} {M : bM} {m : Nat} {v : Int32} (h : S 6 0) : Eqx S M (wTw M m v) := Eqx_tr (Eqx_sI h) (Eqx_sI h) (fun _ _ q => q) (fun _ _ q => q)
theorem tX6_clear {z d : Nat} {M : bM} {Q : bV → bM → Prop} : Run z (d + 1) 48 [vr 6 0] M Q = Q vu (wTw M 0 (-4)) := by
  rw [rX6_clear]
  simp only [eX6_clear_0, eX6_clear_1, eX6_clear_2, eX6_clear_5, eX6_clear_6, eX6_clear_8, eX6_clear_11, cnt_0, cnt_1, cnt_2, cnt_3, cnt_4, cnt_5, cnt_6, cnt_7, cnt_8, cnt_9, cnt_10, cnt_11, true_and, lit_0, Nat.lt_add_one]
  rfl
theorem tX6_add {z d m a b : Nat} {v : Int32} {M : bM} {Q : bV → bM → Prop} (hm : m < 2 ^ 30) (ha : a < 9) (hb : b < 9) : Run z (d + 1) 49 [vr 6 0, .inl (nI a), .inl (nI b)] (wTw M m v) Q = Q vu (wTw M (m + 1) (if m = 0 then nI (10 * a + b) else v)) := by
  rw [rX6_add]
  simp (disch := omega) only [eX6_add_0, eX6_add_1, eX6_add_4, eX6_add_7, eX6_add_8, eX6_add_10, eX6_add_11, eX6_add_12, eX6_add_13, eX6_add_14, eX6_add_17, eX6_add_18, eX6_add_18r, eX6_add_19, eX6_add_22, eX6_add_23, eX6_add_24, eX6_add_27, cnt_0, cnt_1, cnt_2, cnt_3, cnt_4, cnt_5, cnt_6, cnt_7, cnt_8, cnt_9, cnt_10, cnt_11, true_and, lit_0, lit_1, lit_10, Nat.lt_add_one, wTw_m, nI_eq, pk_mul, nI_add, wTw_sf, wTw_sm]
  by_cases q : m = 0
  · rw [if_pos q, if_pos q]
  · rw [if_neg q, if_neg q]
theorem tX6_answer {z d m : Nat} {v x : Int32} {M : bM} {Q : bV → bM → Prop} : Run z (d + 1) 50 [vr 6 0, .inl x] (wTw M m v) Q = Q (.inl (if x = 0 then nI m else v)) (wTw M m v) := by
  rw [rX6_answer]
  simp only [eX6_answer_0, eX6_answer_1, eX6_answer_4, eX6_answer_5, eX6_answer_8, eX6_answer_11, eX6_answer_12, eX6_answer_15, cnt_0, cnt_1, cnt_2, cnt_3, cnt_4, cnt_5, cnt_6, cnt_7, cnt_8, cnt_9, cnt_10, cnt_11, true_and, Nat.lt_add_one, wTw_m, wTw_f]
  split <;> rfl
