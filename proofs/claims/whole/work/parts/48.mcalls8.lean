/-! the model's calls, 8: from, led -/
def hsT (S : Nat) (c : Nat → Nat) (q : Nat) : Prop := ∃ j, j < 9 ∧ S.testBit j = true ∧ (c j).testBit q = true
theorem bst_tb (q : Nat × Nat) (S j : Nat) : (bst q S).testBit j = true ↔ (S.testBit j = true ∨ ((S.testBit q.1 = true ∨ S.testBit q.2 = true) ∧ (j = q.1 ∨ j = q.2))) := by
  unfold bst
  by_cases c : S.testBit q.1 = true ∨ S.testBit q.2 = true
  · rw [if_pos c, Nat.testBit_or, Nat.testBit_or, Nat.testBit_two_pow, Nat.testBit_two_pow]
    simp only [Bool.or_eq_true, decide_eq_true_eq]
    constructor
    · rintro (h | h | h)
      · exact Or.inl h
      · exact Or.inr ⟨c, Or.inl h.symm⟩
      · exact Or.inr ⟨c, Or.inr h.symm⟩
    · rintro (h | ⟨-, h | h⟩)
      · exact Or.inl h
      · exact Or.inr (Or.inl h.symm)
      · exact Or.inr (Or.inr h.symm)
  · rw [if_neg c]
    exact ⟨Or.inl, fun h => h.elim id (fun w => absurd w.1 c)⟩
theorem cst_tb (c : Nat → Nat) (q : Nat × Nat) (j k : Nat) : (cst c q j).testBit k = true ↔ ((j = q.1 ∨ j = q.2) ∧ ((c q.1).testBit k = true ∨ (c q.2).testBit k = true)) ∨ (¬ (j = q.1 ∨ j = q.2) ∧ (c j).testBit k = true) := by
  unfold cst upN
  by_cases h2 : j = q.2
  · rw [if_pos h2, Nat.testBit_or, Bool.or_eq_true]
    exact ⟨fun h => Or.inl ⟨Or.inr h2, h⟩, fun h => h.elim (fun w => w.2) (fun w => absurd (Or.inr h2) w.1)⟩
  · rw [if_neg h2]
    by_cases h1 : j = q.1
    · rw [if_pos h1, Nat.testBit_or, Bool.or_eq_true]
      exact ⟨fun h => Or.inl ⟨Or.inl h1, h⟩, fun h => h.elim (fun w => w.2) (fun w => absurd (Or.inl h1) w.1)⟩
    · rw [if_neg h1]
      exact ⟨fun h => Or.inr ⟨fun w => w.elim h1 h2, h⟩, fun h => h.elim (fun w => (w.1.elim h1 h2).elim) (fun w => w.2)⟩
theorem fold_hs (l : List (Nat × Nat)) (hl : ∀ q, q ∈ l → q.1 < 9 ∧ q.2 < 9) (k : Nat) : ∀ (S : Nat) (c : Nat → Nat), hsT S (l.foldl cst c) k ↔ hsT (l.foldr bst S) c k := by
  induction l with
  | nil => exact fun S c => Iff.rfl
  | cons q l ih =>
    intro S c
    rw [List.foldl_cons, List.foldr_cons, ih (fun w hw => hl w (List.mem_cons_of_mem _ hw))]
    obtain ⟨h1, h2⟩ := hl q (List.mem_cons_self)
    generalize l.foldr bst S = T
    unfold hsT
    constructor
    · rintro ⟨j, hj, a, b⟩
      rw [cst_tb] at b
      rcases b with ⟨b, d | d⟩ | ⟨b, d⟩
      · refine ⟨q.1, h1, (bst_tb q T q.1).mpr (Or.inr ⟨?_, Or.inl rfl⟩), d⟩
        rcases b with rfl | rfl
        · exact Or.inl a
        · exact Or.inr a
      · refine ⟨q.2, h2, (bst_tb q T q.2).mpr (Or.inr ⟨?_, Or.inr rfl⟩), d⟩
        rcases b with rfl | rfl
        · exact Or.inl a
        · exact Or.inr a
      · exact ⟨j, hj, (bst_tb q T j).mpr (Or.inl a), d⟩
    · rintro ⟨j, hj, a, b⟩
      rw [bst_tb] at a
      rcases a with a | ⟨a, d⟩
      · by_cases w : j = q.1 ∨ j = q.2
        · refine ⟨j, hj, a, (cst_tb c q j k).mpr (Or.inl ⟨w, ?_⟩)⟩
          rcases w with rfl | rfl
          · exact Or.inl b
          · exact Or.inr b
        · exact ⟨j, hj, a, (cst_tb c q j k).mpr (Or.inr ⟨w, b⟩)⟩
      · have e : (c q.1).testBit k = true ∨ (c q.2).testBit k = true := by
          rcases d with rfl | rfl
          · exact Or.inl b
          · exact Or.inr b
        rcases a with a | a
        · exact ⟨q.1, h1, a, (cst_tb c q q.1 k).mpr (Or.inl ⟨Or.inl rfl, e⟩)⟩
        · exact ⟨q.2, h2, a, (cst_tb c q q.2 k).mpr (Or.inl ⟨Or.inr rfl, e⟩)⟩
theorem foldr_lt (l : List (Nat × Nat)) (hl : ∀ q, q ∈ l → q.1 < 9 ∧ q.2 < 9) {S : Nat} (hS : S < 512) : l.foldr bst S < 512 := by
  induction l with
  | nil => exact hS
  | cons q l ih =>
    rw [List.foldr_cons]
    obtain ⟨h1, h2⟩ := hl q (List.mem_cons_self)
    exact bst_lt (ih (fun w hw => hl w (List.mem_cons_of_mem _ hw))) h1 h2
theorem from_eq (l : List (Nat × Nat)) (hl : ∀ q, q ∈ l → q.1 < 9 ∧ q.2 < 9) {i : Nat} (hi : i < 9) (hc : l.foldl cst (fun j => 2 ^ j) i < 512) : l.foldl cst (fun j => 2 ^ j) i = l.foldr bst (2 ^ i) := by
  have hr := foldr_lt l hl (sh_l hi)
  apply Nat.eq_of_testBit_eq
  intro k
  by_cases hk : k < 9
  · have := fold_hs l hl k (2 ^ i) (fun j => 2 ^ j)
    rw [Bool.eq_iff_iff]
    constructor
    · intro h
      obtain ⟨j, hj, a, b⟩ := this.mp ⟨i, hi, by rw [Nat.testBit_two_pow]; exact decide_eq_true rfl, h⟩
      rw [Nat.testBit_two_pow, decide_eq_true_eq] at b
      rwa [← b]
    · intro h
      obtain ⟨j, hj, a, b⟩ := this.mpr ⟨k, hk, h, by rw [Nat.testBit_two_pow]; exact decide_eq_true rfl⟩
      rw [Nat.testBit_two_pow, decide_eq_true_eq] at a
      rwa [a]
  · have e : 512 ≤ 2 ^ k := Nat.pow_le_pow_right (n := 2) (by decide) (show 9 ≤ k by omega)
    rw [Nat.testBit_lt_two_pow (by omega), Nat.testBit_lt_two_pow (by omega)]
theorem thL_m {τ : Nat → Nat → Nat} (K : OKh τ) {hr : Nat} : ∀ n, n ≤ τ 8 0 → ∀ q, q ∈ thL τ hr n → q.1 < 9 ∧ q.2 < 9 := by
  have hn := K.1
  intro n
  induction n with
  | zero => intro _ q hq; exact absurd hq (List.not_mem_nil)
  | succ n ih =>
    intro hn' q hq
    rw [thL, List.mem_append] at hq
    rcases hq with hq | hq
    · exact ih (by omega) q hq
    · obtain ⟨w1, w2, w3, w4⟩ := K.2.2.2.2.2.2.1 n (by omega)
      split at hq
      · rw [List.mem_singleton] at hq
        subst hq
        exact ⟨by show τ 3 n < 9; omega, by show τ 4 n < 9; omega⟩
      · exact absurd hq (List.not_mem_nil)
theorem tmL_m {τ : Nat → Nat → Nat} (K : OKh τ) : ∀ h, ∀ q, q ∈ tmL τ h → q.1 < 9 ∧ q.2 < 9 := by
  intro h
  induction h with
  | zero => intro q hq; exact absurd hq (List.not_mem_nil)
  | succ h ih =>
    intro q hq
    rw [tmL, List.mem_append] at hq
    exact hq.elim (ih q) (thL_m K _ (Nat.le_refl _) q)
section M8
variable {d G : Nat} {M : bM} {lt : Nat → Nat} {len n : Nat} {τ : Nat → Nat → Nat} {σ : sT} {pa : Nat → sT} {ph : Nat} {ka : Nat → sT} {kh : Nat} {ci cs : Nat → Nat} {cn : Nat} {Q : bV → bM → Prop}
theorem MA_ld {N : bM} (C : MA M lt len τ σ pa ph ka kh ci cs cn) (x : Mx (fun a => a = 8 ∨ a = 9) (fun f => f = 99) M N) : MA N lt len τ σ pa ph ka kh ci cs cn := by
  obtain ⟨P, T, S, P0, P1, L⟩ := C
  exact ⟨MPg_x x (by omega) (by omega) P, MT_x x (by omega) T, MS_x x (by omega) S, MIs_x x (by omega) (by omega) P0, MIs_x x (by omega) (by omega) P1, MCl_x x (by omega) (by omega) L⟩
theorem vX8_from {x y : Int32} (C : MA M lt len τ σ pa ph ka kh ci cs cn) (V : VA G τ σ pa ph ka kh ci cs cn)
    (hQ : ∀ M', MA M' lt len τ σ pa ph ka kh ci cs cn → Eqx mdS M M' → Q (.inl (pFrom τ x y)) M') : Run 1 (d + 3) 137 [vr 8 0, .inl x, .inl y] M Q := by
  obtain ⟨P, T, S, P0, P1, L⟩ := id C
  obtain ⟨K, n1, hs, hg, -⟩ := V
  have hn := K.1
  have e0 : ∀ x, inB x 0 11 = hsB x 12 := fun x => hs_in (by decide)
  rw [rX8_from]
  simp only [eX8_from_0, eX8_from_1, eX8_from_2, eX8_from_5, eX8_from_8, eX8_from_9, eX8_from_10, eX8_from_12, eX8_from_15, eX8_from_18, eX8_from_19, eX8_from_20, eX8_from_21, eX8_from_22, eX8_from_23, eX8_from_26, eX8_from_27, eX8_from_30, eX8_from_31, eX8_from_32, c8_, c11_0, c11_1, c11_2, c11_3, c11_4, c11_5, c11_6, c11_7, c11_8, c11_9, alm_0, alm_1, alm_2, alm_3, alm_4, alm_5, alm_6, alm_7, alm_8, alm_9, vT, true_and, tX8_isItem T K n1, tX8_in, e0, psh_i, bi_0]
  unfold pFrom at hQ
  rcases hsB_cases x (n := τ 7 0) (by omega) with ⟨i, hi, rfl, e⟩ | e
  · rcases hsB_cases y (n := 12) (by decide) with ⟨hr, hr', rfl, e2⟩ | e2
    · rw [if_neg (by simp [e, e2]), nI_clamp (by omega), nI_clamp (by omega)] at hQ
      rw [e, e2, if_neg (by decide), if_neg (by decide)]
      refine tX8_leads T K (by omega) hr' (fun N X Ld B1 B2 => ?_)
      have := hQ N (MA_ld C X) (Mx_E X)
      rw [← from_eq _ (tmL_m K _) (by omega) (B1 i (by omega))] at this
      simp (disch := omega) only [psh_u, eX8_from_0, eX8_from_1, eX8_from_2, eX8_from_5, eX8_from_8, eX8_from_9, eX8_from_10, eX8_from_12, eX8_from_15, eX8_from_18, eX8_from_19, eX8_from_20, eX8_from_21, eX8_from_22, eX8_from_23, eX8_from_26, eX8_from_27, eX8_from_30, eX8_from_31, eX8_from_32, c8_, c11_0, c11_1, c11_2, c11_3, c11_4, c11_5, c11_6, c11_7, c11_8, c11_9, alm_0, alm_1, alm_2, alm_3, alm_4, alm_5, alm_6, alm_7, alm_8, alm_9, vT, true_and, nI_clamp, Ld.2 i (by omega)]
      exact this
    · rw [if_pos (Or.inr e2)] at hQ
      rw [e, e2, if_neg (by decide), if_pos rfl]
      exact hQ M C Eqx_rf
  · rw [if_pos (Or.inl e)] at hQ
    rw [e, if_pos rfl]
    exact hQ M C Eqx_rf
theorem vX8_led {x y w : Int32} (C : MA M lt len τ σ pa ph ka kh ci cs cn) (V : VA G τ σ pa ph ka kh ci cs cn)
    (hQ : ∀ M', MA M' lt len τ σ pa ph ka kh ci cs cn → Eqx mdS M M' → Q (.inl (pLed τ x y w)) M') : Run 1 (d + 3) 138 [vr 8 0, .inl x, .inl y, .inl w] M Q := by
  obtain ⟨P, T, S, P0, P1, L⟩ := id C
  obtain ⟨K, n1, hs, hg, -⟩ := V
  have hn := K.1
  have e0 : ∀ x, inB x 0 11 = hsB x 12 := fun x => hs_in (by decide)
  rw [rX8_led]
  simp only [eX8_led_0, eX8_led_1, eX8_led_2, eX8_led_5, eX8_led_8, eX8_led_9, eX8_led_10, eX8_led_13, eX8_led_16, eX8_led_17, eX8_led_18, eX8_led_20, eX8_led_23, eX8_led_26, eX8_led_27, eX8_led_28, eX8_led_29, eX8_led_30, eX8_led_31, eX8_led_34, eX8_led_35, eX8_led_38, eX8_led_39, eX8_led_40, eX8_led_43, eX8_led_45, eX8_led_48, eX8_led_49, eX8_led_52, eX8_led_53, eX8_led_54, c8_, c11_0, c11_1, c11_2, c11_3, c11_4, c11_5, c11_6, c11_7, c11_8, c11_9, alm_0, alm_1, alm_2, alm_3, alm_4, alm_5, alm_6, alm_7, alm_8, alm_9, vT, true_and, tX8_isItem T K n1, tX8_in, e0, psh_i, bi_0]
  unfold pLed at hQ
  rcases hsB_cases x (n := τ 7 0) (by omega) with ⟨a, ha, rfl, e⟩ | e
  · rcases hsB_cases y (n := τ 7 0) (by omega) with ⟨b, hb, rfl, e3⟩ | e3
    · rcases hsB_cases w (n := 12) (by decide) with ⟨hr, hr', rfl, e2⟩ | e2
      · rw [if_neg (by simp [e, e2, e3]), nI_clamp (by omega), nI_clamp (by omega), nI_clamp (by omega)] at hQ
        rw [e, e2, e3, if_neg (by decide), if_neg (by decide), if_neg (by decide)]
        refine tX8_leads T K (by omega) hr' (fun N X Ld B1 B2 => ?_)
        have := hQ N (MA_ld C X) (Mx_E X)
        have hb2 := B2 b
        generalize hv : (tmL τ (hr + 1)).foldl lkQ (upN (fun _ => 0) a 1) b = v at this hb2
        have l1 := Ld.1 b (by omega)
        rw [hv] at l1
        cases v with
        | zero =>
          simp (disch := omega) only [psh_u, eX8_led_0, eX8_led_1, eX8_led_2, eX8_led_5, eX8_led_8, eX8_led_9, eX8_led_10, eX8_led_13, eX8_led_16, eX8_led_17, eX8_led_18, eX8_led_20, eX8_led_23, eX8_led_26, eX8_led_27, eX8_led_28, eX8_led_29, eX8_led_30, eX8_led_31, eX8_led_34, eX8_led_35, eX8_led_38, eX8_led_39, eX8_led_40, eX8_led_43, eX8_led_45, eX8_led_48, eX8_led_49, eX8_led_52, eX8_led_53, eX8_led_54, c8_, c11_0, c11_1, c11_2, c11_3, c11_4, c11_5, c11_6, c11_7, c11_8, c11_9, alm_0, alm_1, alm_2, alm_3, alm_4, alm_5, alm_6, alm_7, alm_8, alm_9, vT, true_and, nI_clamp, l1, em, show ((0 : Int32) ≤ -1) = False from eq_false (by decide), if_false]
          exact this
        | succ v =>
          simp (disch := omega) only [psh_u, eX8_led_0, eX8_led_1, eX8_led_2, eX8_led_5, eX8_led_8, eX8_led_9, eX8_led_10, eX8_led_13, eX8_led_16, eX8_led_17, eX8_led_18, eX8_led_20, eX8_led_23, eX8_led_26, eX8_led_27, eX8_led_28, eX8_led_29, eX8_led_30, eX8_led_31, eX8_led_34, eX8_led_35, eX8_led_38, eX8_led_39, eX8_led_40, eX8_led_43, eX8_led_45, eX8_led_48, eX8_led_49, eX8_led_52, eX8_led_53, eX8_led_54, c8_, c11_0, c11_1, c11_2, c11_3, c11_4, c11_5, c11_6, c11_7, c11_8, c11_9, alm_0, alm_1, alm_2, alm_3, alm_4, alm_5, alm_6, alm_7, alm_8, alm_9, vT, true_and, nI_clamp, l1, em, show ((0 : Int32) ≤ nI v) = True from eq_true (by rw [lit_0, nI_leI (by decide) (by omega)]; omega), if_true]
          exact this
      · rw [if_pos (Or.inr (Or.inr e2))] at hQ
        rw [e, e3, e2, if_neg (by decide), if_neg (by decide), if_pos rfl]
        exact hQ M C Eqx_rf
    · rw [if_pos (Or.inr (Or.inl e3))] at hQ
      rw [e, e3, if_neg (by decide), if_pos rfl]
      exact hQ M C Eqx_rf
  · rw [if_pos (Or.inl e)] at hQ
    rw [e, if_pos rfl]
    exact hQ M C Eqx_rf
end M8
