/-! the model's state, and its plain calls -/
theorem c8_ : (0 < cnt 1 8) = True := eq_true (by decide)
theorem c11_0 : (0 < cnt 1 11) = True := eq_true (by decide)
theorem c11_1 : (1 < cnt 1 11) = True := eq_true (by decide)
theorem c11_2 : (2 < cnt 1 11) = True := eq_true (by decide)
theorem c11_3 : (3 < cnt 1 11) = True := eq_true (by decide)
theorem c11_4 : (4 < cnt 1 11) = True := eq_true (by decide)
theorem c11_5 : (5 < cnt 1 11) = True := eq_true (by decide)
theorem c11_6 : (6 < cnt 1 11) = True := eq_true (by decide)
theorem c11_7 : (7 < cnt 1 11) = True := eq_true (by decide)
theorem c11_8 : (8 < cnt 1 11) = True := eq_true (by decide)
theorem c11_9 : (9 < cnt 1 11) = True := eq_true (by decide)
theorem alm_0 : alm 0 = 200 := rfl
theorem alm_1 : alm 1 = 60 := rfl
theorem alm_2 : alm 2 = 60 := rfl
theorem alm_3 : alm 3 = 11 := rfl
theorem alm_4 : alm 4 = 88 := rfl
theorem alm_5 : alm 5 = 22 := rfl
theorem alm_6 : alm 6 = 6 := rfl
theorem alm_7 : alm 7 = 11 := rfl
theorem alm_8 : alm 8 = 9 := rfl
theorem alm_9 : alm 9 = 9 := rfl
theorem lit_13 : (13 : Int32) = nI 13 := rfl
theorem lit_22 : (22 : Int32) = nI 22 := rfl
theorem lit_32 : (32 : Int32) = nI 32 := rfl
theorem lit_42 : (42 : Int32) = nI 42 := rfl
theorem lit_48 : (48 : Int32) = nI 48 := rfl
theorem lit_52 : (52 : Int32) = nI 52 := rfl
theorem lit_56 : (56 : Int32) = nI 56 := rfl
theorem lit_57 : (57 : Int32) = nI 57 := rfl
theorem lit_59 : (59 : Int32) = nI 59 := rfl
theorem lit_60 : (60 : Int32) = nI 60 := rfl
theorem lit_77 : (77 : Int32) = nI 77 := rfl
theorem lit_88 : (88 : Int32) = nI 88 := rfl
theorem lit_126 : (126 : Int32) = nI 126 := rfl
theorem lit_200 : (200 : Int32) = nI 200 := rfl
theorem lit_44 : (44 : Int32) = nI 44 := rfl
theorem vT {j n : Nat} (h : j < n) (hn : n < 2 ^ 31) : vp_in (nI j) n = True := eq_true (vin_nI h hn)
def I4 : Int32 := -4
def I3 : Int32 := -3
def I2 : Int32 := -2
def I1 : Int32 := -1
theorem I4_ : (-4 : Int32) = I4 := rfl
theorem I3_ : (-3 : Int32) = I3 := rfl
theorem I2_ : (-2 : Int32) = I2 := rfl
theorem I1_ : (-1 : Int32) = I1 := rfl
/-- what is told: in the array a -/
def MT (M : bM) (a : Nat) (τ : Nat → Nat → Nat) : Prop := gI M 11 a 0 = nI (τ 7 0) ∧ gI M 11 a 1 = nI (τ 8 0) ∧ gI M 11 a 2 = nI (τ 9 0) ∧ gI M 11 a 3 = nI (τ 10 0) ∧ (∀ i, i < τ 7 0 → gI M 11 a (4 + i) = nI (τ 0 i)) ∧ (∀ i, i < τ 7 0 → gI M 11 a (13 + i) = nI (τ 1 i)) ∧
  (∀ t, t < τ 8 0 → gI M 11 a (22 + t) = nI (τ 2 t) ∧ gI M 11 a (32 + t) = nI (τ 3 t) ∧ gI M 11 a (42 + t) = nI (τ 4 t)) ∧ ∀ t, t < τ 9 0 → gI M 11 a (52 + t) = nI (τ 5 t) ∧ gI M 11 a (56 + t) = nI (τ 6 t)
theorem MT_e {S : Nat → Nat → Prop} {M M' : bM} {a : Nat} {τ : Nat → Nat → Nat} (e : Eqx S M M') (h : ¬ S 11 a) (H : MT M a τ) : MT M' a τ := by
  obtain ⟨h1, h2, h3, h4, h5, h6, h7, h8⟩ := H
  exact ⟨(e _ _ _ h).1.trans h1, (e _ _ _ h).1.trans h2, (e _ _ _ h).1.trans h3, (e _ _ _ h).1.trans h4, fun i q => (e _ _ _ h).1.trans (h5 i q), fun i q => (e _ _ _ h).1.trans (h6 i q), fun i q => ⟨(e _ _ _ h).1.trans (h7 i q).1, (e _ _ _ h).1.trans (h7 i q).2.1, (e _ _ _ h).1.trans (h7 i q).2.2⟩, fun i q => ⟨(e _ _ _ h).1.trans (h8 i q).1, (e _ _ _ h).1.trans (h8 i q).2⟩⟩
/-- how all stands, n items, in the array a behind the place o -/
def MI (M : bM) (a o n : Nat) (σ : sT) : Prop := (∀ i, i < n → gI M 11 a (o + i) = nI (σ.1 i)) ∧ gI M 11 a (o + 9) = nI σ.2.1 ∧ gI M 11 a (o + 10) = nI σ.2.2
theorem MI_e {S : Nat → Nat → Prop} {M M' : bM} {a o n : Nat} {σ : sT} (e : Eqx S M M') (h : ¬ S 11 a) (H : MI M a o n σ) : MI M' a o n σ :=
  ⟨fun i q => (e _ _ _ h).1.trans (H.1 i q), (e _ _ _ h).1.trans H.2.1, (e _ _ _ h).1.trans H.2.2⟩
def MS (M : bM) (n : Nat) (σ : sT) : Prop := (∀ i, i < n → gI M 11 3 i = nI (σ.1 i)) ∧ gI M 11 3 9 = nI σ.2.1 ∧ gI M 11 3 10 = nI σ.2.2
theorem MS_e {S : Nat → Nat → Prop} {M M' : bM} {n : Nat} {σ : sT} (e : Eqx S M M') (h : ¬ S 11 3) (H : MS M n σ) : MS M' n σ :=
  ⟨fun i q => (e _ _ _ h).1.trans (H.1 i q), (e _ _ _ h).1.trans H.2.1, (e _ _ _ h).1.trans H.2.2⟩
def sS (c i : Nat) : Prop := c = 11 ∧ i = 3
def wMs (M : bM) (n : Nat) (σ : sT) : bM := (fun c i j => if c = 11 ∧ i = 3 ∧ j < n then nI (σ.1 j) else if c = 11 ∧ i = 3 ∧ j = 9 then nI σ.2.1 else if c = 11 ∧ i = 3 ∧ j = 10 then nI σ.2.2 else M.1 c i j, M.2)
theorem gI_wMs (M : bM) (n : Nat) (σ : sT) (c i j : Nat) : gI (wMs M n σ) c i j = if c = 11 ∧ i = 3 ∧ j < n then nI (σ.1 j) else if c = 11 ∧ i = 3 ∧ j = 9 then nI σ.2.1 else if c = 11 ∧ i = 3 ∧ j = 10 then nI σ.2.2 else gI M c i j := rfl
theorem gR_wMs (M : bM) (n : Nat) (σ : sT) (c i j : Nat) : gR (wMs M n σ) c i j = gR M c i j := rfl
theorem wMs_s {M : bM} {n : Nat} {σ : sT} {j : Nat} (hj : j < n) : gI (wMs M n σ) 11 3 j = nI (σ.1 j) := by rw [gI_wMs, if_pos ⟨rfl, rfl, hj⟩]
theorem wMs_p {M : bM} {n : Nat} {σ : sT} (hn : n ≤ 9) : gI (wMs M n σ) 11 3 9 = nI σ.2.1 := by rw [gI_wMs, if_neg (by omega), if_pos ⟨rfl, rfl, rfl⟩]
theorem wMs_g {M : bM} {n : Nat} {σ : sT} (hn : n ≤ 9) : gI (wMs M n σ) 11 3 10 = nI σ.2.2 := by rw [gI_wMs, if_neg (by omega), if_neg (by omega), if_pos ⟨rfl, rfl, rfl⟩]
theorem wMs_o {M : bM} {n : Nat} {σ : sT} {c i j : Nat} (h : ¬ (c = 11 ∧ i = 3)) : gI (wMs M n σ) c i j = gI M c i j := by
  rw [gI_wMs, if_neg (fun q => h ⟨q.1, q.2.1⟩), if_neg (fun q => h ⟨q.1, q.2.1⟩), if_neg (fun q => h ⟨q.1, q.2.1⟩)]
theorem MS_w {M : bM} {n : Nat} {σ : sT} (hn : n ≤ 9) : MS (wMs M n σ) n σ := ⟨fun i q => wMs_s q, wMs_p hn, wMs_g hn⟩
theorem wMs_E {S : Nat → Nat → Prop} {M : bM} {n : Nat} {σ : sT} (h : S 11 3) : Eqx S M (wMs M n σ) := fun c i j q => ⟨wMs_o (by rintro ⟨rfl, rfl⟩; exact q h), rfl⟩
theorem wMs_id {M : bM} {n : Nat} {σ : sT} (h : MS M n σ) : wMs M n σ = M := by
  obtain ⟨h1, h2, h3⟩ := h
  refine bM_ext (fun c i j => ?_) (fun c i j => rfl)
  rw [gI_wMs]
  split
  · rename_i q; obtain ⟨rfl, rfl, q⟩ := q; exact (h1 j q).symm
  · split
    · rename_i q; obtain ⟨rfl, rfl, rfl⟩ := q; exact h2.symm
    · split
      · rename_i q; obtain ⟨rfl, rfl, rfl⟩ := q; exact h3.symm
      · rfl
theorem wMs_ps {M : bM} {n : Nat} {σ : sT} {j v : Nat} (hj : j < n) (hn : n ≤ 9) : sI (wMs M n σ) 11 3 j (nI v) = wMs M n (upN σ.1 j v, σ.2) := by
  refine bM_ext (fun c i k => ?_) (fun c i k => rfl)
  rw [gI_sI, gI_wMs, gI_wMs]
  unfold upN
  by_cases q : c = 11 ∧ i = 3 ∧ k = j
  · obtain ⟨rfl, rfl, rfl⟩ := q
    rw [if_pos ⟨rfl, rfl, rfl⟩, if_pos ⟨rfl, rfl, hj⟩]
    exact congrArg nI (if_pos rfl).symm
  · rw [if_neg q]
    by_cases q2 : c = 11 ∧ i = 3 ∧ k < n
    · rw [if_pos q2, if_pos q2]
      exact congrArg nI (if_neg (fun w => q ⟨q2.1, q2.2.1, w⟩)).symm
    · rw [if_neg q2, if_neg q2]
theorem wMs_pp {M : bM} {n : Nat} {σ : sT} {p : Nat} (hn : n ≤ 9) : sI (wMs M n σ) 11 3 9 (nI p) = wMs M n (σ.1, p, σ.2.2) := by
  refine bM_ext (fun c i k => ?_) (fun c i k => rfl)
  rw [gI_sI, gI_wMs, gI_wMs]
  by_cases q : c = 11 ∧ i = 3 ∧ k = 9
  · rw [if_pos q, if_neg (by omega), if_pos q]
  · rw [if_neg q, if_neg q, if_neg q]
theorem wMs_pg {M : bM} {n : Nat} {σ : sT} {g : Nat} (hn : n ≤ 9) : sI (wMs M n σ) 11 3 10 (nI g) = wMs M n (σ.1, σ.2.1, g) := by
  refine bM_ext (fun c i k => ?_) (fun c i k => rfl)
  rw [gI_sI, gI_wMs, gI_wMs]
  by_cases q : c = 11 ∧ i = 3 ∧ k = 10
  · rw [if_pos q, if_neg (by omega), if_neg (by omega), if_pos q]
  · rw [if_neg q, if_neg q, if_neg q]
theorem wMs_w (M : bM) (n : Nat) (σ σ' : sT) : wMs (wMs M n σ) n σ' = wMs M n σ' := by
  refine bM_ext (fun c i j => ?_) (fun c i j => rfl)
  rw [gI_wMs, gI_wMs, gI_wMs]
  split
  · rfl
  · split
    · rfl
    · split <;> rfl
theorem MT_w {M : bM} {n : Nat} {σ : sT} {τ : Nat → Nat → Nat} (H : MT M 1 τ) : MT (wMs M n σ) 1 τ := MT_e (S := sS) (wMs_E ⟨rfl, rfl⟩) (by unfold sS; omega) H
def inB (x a b : Int32) : Bool := decide (¬ x < a) && decide (¬ b < x)
theorem in_hs {x : Int32} {n : Nat} (h1 : 1 ≤ n) (hn : n < 2 ^ 31) : inB x (nI 0) (nI (n - 1)) = hsB x n := by
  unfold inB hsB
  congr 1
  apply decide_eq_decide.mpr
  rw [Int32.lt_iff_toInt_lt, Int32.le_iff_toInt_le, nI_toInt (by omega), nI_toInt (by omega)]
  omega
section MO
variable {d : Nat} {M : bM} {Q : bV → bM → Prop} {τ : Nat → Nat → Nat} {n : Nat} {σ : sT}
theorem tX8_in {x a b : Int32} : Run 1 (d + 1) 89 [.inl x, .inl a, .inl b] M Q = Q (.inl (bi (inB x a b))) M := by
  rw [rX8_in]
  simp only [eX8_in_0, eX8_in_1, eX8_in_2, eX8_in_5, eX8_in_6, eX8_in_7, eX8_in_10, eX8_in_11, eX8_in_14, eX8_in_150, eX8_in_151, eX8_in_15n0, eX8_in_15n1]
  unfold inB
  by_cases h1 : x < a
  · rw [if_pos h1]; simp [h1, bi]
  · rw [if_neg h1]
    by_cases h2 : b < x
    · rw [if_pos h2]; simp [h1, h2, bi]
    · rw [if_neg h2]; simp [h1, h2, bi]
theorem tX8_isItem {x : Int32} (T : MT M 1 τ) (K : OKh τ) (n1 : 1 ≤ τ 7 0) : Run 1 (d + 2) 90 [vr 8 0, .inl x] M Q = Q (.inl (bi (hsB x (τ 7 0)))) M := by
  have hn := K.1
  rw [rX8_isItem]
  simp (disch := omega) only [eX8_isItem_0, eX8_isItem_1, eX8_isItem_2, eX8_isItem_3, eX8_isItem_6, eX8_isItem_7, eX8_isItem_8, eX8_isItem_9, eX8_isItem_10, eX8_isItem_130, eX8_isItem_131, eX8_isItem_13n0, eX8_isItem_13n1, c8_, c11_0, c11_1, c11_2, c11_3, c11_4, c11_5, c11_6, c11_7, c11_8, c11_9, alm_0, alm_1, alm_2, alm_3, alm_4, alm_5, alm_6, alm_7, alm_8, alm_9, vT, true_and, lit_0, lit_1, nI_clamp, T.1, pk_sub, tX8_in, psh_i, in_hs]
  cases hsB x (τ 7 0) <;> simp only [bi_t, bi_f, eX8_isItem_0, eX8_isItem_1, eX8_isItem_2, eX8_isItem_3, eX8_isItem_6, eX8_isItem_7, eX8_isItem_8, eX8_isItem_9, eX8_isItem_10, eX8_isItem_130, eX8_isItem_131, eX8_isItem_13n0, eX8_isItem_13n1]
def alB (κ : Nat) : Bool := decide (¬ κ = 3) && decide (¬ κ = 4)
theorem tX8_isAlive {κ : Nat} (h : κ ≤ 5) : Run 1 (d + 1) 91 [.inl (nI κ)] M Q = Q (.inl (bi (alB κ))) M := by
  rw [rX8_isAlive]
  simp (disch := omega) only [eX8_isAlive_0, eX8_isAlive_1, eX8_isAlive_2, eX8_isAlive_5, eX8_isAlive_6, eX8_isAlive_7, eX8_isAlive_10, eX8_isAlive_11, eX8_isAlive_14, eX8_isAlive_150, eX8_isAlive_151, eX8_isAlive_15n0, eX8_isAlive_15n1, lit_3, lit_5, nI_ltI, nI_eq]
  have : κ = 0 ∨ κ = 1 ∨ κ = 2 ∨ κ = 3 ∨ κ = 4 ∨ κ = 5 := by omega
  rcases this with rfl | rfl | rfl | rfl | rfl | rfl <;> rfl
theorem tX8_isPerson {x : Int32} (T : MT M 1 τ) (K : OKh τ) (n1 : 1 ≤ τ 7 0) : Run 1 (d + 3) 92 [vr 8 0, .inl x] M Q = Q (.inl (bi (hpB x τ))) M := by
  have hn := K.1
  rw [rX8_isPerson]
  simp only [eX8_isPerson_0, eX8_isPerson_1, eX8_isPerson_2, eX8_isPerson_5, eX8_isPerson_8, eX8_isPerson_9, eX8_isPerson_12, eX8_isPerson_13, eX8_isPerson_14, eX8_isPerson_15, eX8_isPerson_16, eX8_isPerson_19, eX8_isPerson_22, eX8_isPerson_23, eX8_isPerson_26, eX8_isPerson_270, eX8_isPerson_271, eX8_isPerson_27n0, eX8_isPerson_27n1, c8_, c11_0, c11_1, c11_2, c11_3, c11_4, c11_5, c11_6, c11_7, c11_8, c11_9, alm_0, alm_1, alm_2, alm_3, alm_4, alm_5, alm_6, alm_7, alm_8, alm_9, vT, true_and, tX8_isItem T K n1, psh_i, bi_0]
  unfold hpB
  rcases hsB_cases x (n := τ 7 0) (by omega) with ⟨j, hj, rfl, e⟩ | e
  · have hk := OKh_k K hj
    rw [e, if_neg (by decide), Bool.true_and, nI_clamp (by omega)]
    simp (disch := omega) only [lit_4, nI_add, vT, true_and, nI_clamp, T.2.2.2.2.1 j hj, eX8_isPerson_0, eX8_isPerson_1, eX8_isPerson_2, eX8_isPerson_5, eX8_isPerson_8, eX8_isPerson_9, eX8_isPerson_12, eX8_isPerson_13, eX8_isPerson_14, eX8_isPerson_15, eX8_isPerson_16, eX8_isPerson_19, eX8_isPerson_22, eX8_isPerson_23, eX8_isPerson_26, eX8_isPerson_270, eX8_isPerson_271, eX8_isPerson_27n0, eX8_isPerson_27n1, tX8_isAlive hk, psh_i, bi_0]
    unfold per alB
    rw [decide_eq_true hj, Bool.true_and]
    cases (decide (¬ τ 0 j = 3) && decide (¬ τ 0 j = 4)) <;> rfl
  · rw [e, if_pos rfl, Bool.false_and]; rfl
theorem tX8_seen {i : Nat} (S : MS M n σ) (hn : n ≤ 9) (hs : OKs σ) (hi : i < n) : Run 1 (d + 1) 107 [vr 8 0, .inl (nI i)] M Q = Q (.inl (nI (sn σ i))) M := by
  have hp := hs.2
  rw [rX8_seen]
  simp (disch := omega) only [eX8_seen_0, eX8_seen_1, eX8_seen_4, eX8_seen_6, eX8_seen_7, eX8_seen_8, eX8_seen_9, eX8_seen_10, eX8_seen_11, eX8_seen_12, eX8_seen_15, eX8_seen_16, eX8_seen_19, eX8_seen_20, eX8_seen_23, eX8_seen_24, eX8_seen_25, c8_, c11_0, c11_1, c11_2, c11_3, c11_4, c11_5, c11_6, c11_7, c11_8, c11_9, alm_0, alm_1, alm_2, alm_3, alm_4, alm_5, alm_6, alm_7, alm_8, alm_9, vT, true_and, lit_9, nI_clamp, S.2.1, pow_s hp (show i < 9 by omega), S.1 i hi]
  unfold sn
  cases σ.2.1.testBit i <;> rfl
theorem tX8_gives {a : Nat} (T : MT M 1 τ) (K : OKh τ) (S : MS M (τ 7 0) σ) (hs : OKs σ) (ha : a < τ 7 0) : Run 1 (d + 1) 111 [vr 8 0, .inl (nI a)] M Q = Q (.inl (nI (pgv (τ 0 a) (σ.1 a)))) M := by
  have hn := K.1
  have hk := OKh_k K ha
  have hsa := hs.1 a (by omega)
  rw [rX8_gives]
  unfold pgv
  simp (disch := omega) only [eX8_gives_0, eX8_gives_1, eX8_gives_4, eX8_gives_5, eX8_gives_6, eX8_gives_7, eX8_gives_8, eX8_gives_9, eX8_gives_10, eX8_gives_11, eX8_gives_14, eX8_gives_16, eX8_gives_19, eX8_gives_20, eX8_gives_21, eX8_gives_24, eX8_gives_25, eX8_gives_28, eX8_gives_29, eX8_gives_30, eX8_gives_31, eX8_gives_32, eX8_gives_35, eX8_gives_36, eX8_gives_39, eX8_gives_40, eX8_gives_41, eX8_gives_42, eX8_gives_43, eX8_gives_44, eX8_gives_45, eX8_gives_48, eX8_gives_49, eX8_gives_52, eX8_gives_53, c8_, c11_0, c11_1, c11_2, c11_3, c11_4, c11_5, c11_6, c11_7, c11_8, c11_9, alm_0, alm_1, alm_2, alm_3, alm_4, alm_5, alm_6, alm_7, alm_8, alm_9, vT, true_and, lit_4, lit_5, nI_add, nI_clamp, T.2.2.2.2.1 a ha, nI_eq, S.1 a ha, eq_i8, lit_0, lit_1, lit_2, nI_leI]
  have fin : ∀ k, k ≤ 2 → (if nI 0 ≤ nI (σ.1 a) - nI k then Q (.inl (nI (σ.1 a) - nI k)) M else Q (.inl (nI 0)) M) = Q (.inl (nI (σ.1 a - k))) M := by
    intro k hk
    by_cases h : k ≤ σ.1 a
    · rw [pk_sub h, if_pos ((nI_leI (by omega) (by omega)).mpr (by omega))]
    · have := pk_sneg (a := σ.1 a) (b := k) (by omega) (by omega)
      rw [if_neg (by rw [← lit_0, Int32.not_le]; exact this), show σ.1 a - k = 0 by omega]
  by_cases c5 : τ 0 a = 5
  · rw [if_pos c5, if_pos c5, if_pos (by omega)]
  · rw [if_neg c5, if_neg c5]
    by_cases c1 : τ 0 a = 1
    · rw [if_pos c1, if_pos c1]; exact fin 2 (by omega)
    · rw [if_neg c1, if_neg c1]; exact fin 1 (by omega)
theorem tX8_gets {i x : Nat} (T : MT M 1 τ) (K : OKh τ) (hs : OKs σ) (hi : i < τ 7 0) (hx : x ≤ 9) : Run 1 (d + 1) 112 [vr 8 0, .inl (nI i), .inl (nI x)] (wMs M (τ 7 0) σ) Q = Q (.inl (nI (pgt (τ 0 i) (σ.1 i) x - σ.1 i))) (wMs M (τ 7 0) (upN σ.1 i (pgt (τ 0 i) (σ.1 i) x), σ.2)) := by
  have hn := K.1
  have hk := OKh_k K hi
  have hsi := hs.1 i (by omega)
  have T' := (MT_w (n := τ 7 0) (σ := σ) T).2.2.2.2.1 i hi
  have id : ∀ v, v = σ.1 i → wMs M (τ 7 0) (upN σ.1 i v, σ.2) = wMs M (τ 7 0) σ := by rintro v rfl; rw [upN_self]
  rw [rX8_gets]
  unfold pgt
  simp (disch := omega) only [eX8_gets_0, eX8_gets_1, eX8_gets_4, eX8_gets_5, eX8_gets_6, eX8_gets_7, eX8_gets_8, eX8_gets_9, eX8_gets_10, eX8_gets_11, eX8_gets_14, eX8_gets_15, eX8_gets_16, eX8_gets_17, eX8_gets_20, eX8_gets_21, eX8_gets_23, eX8_gets_24, eX8_gets_25, eX8_gets_28, eX8_gets_30, eX8_gets_31, eX8_gets_34, eX8_gets_35, eX8_gets_36, eX8_gets_39, eX8_gets_40, eX8_gets_41, eX8_gets_43, eX8_gets_44, eX8_gets_47, eX8_gets_48, eX8_gets_49, eX8_gets_50, eX8_gets_52, eX8_gets_53, eX8_gets_56, eX8_gets_57, eX8_gets_59, eX8_gets_60, eX8_gets_62, c8_, c11_0, c11_1, c11_2, c11_3, c11_4, c11_5, c11_6, c11_7, c11_8, c11_9, alm_0, alm_1, alm_2, alm_3, alm_4, alm_5, alm_6, alm_7, alm_8, alm_9, vT, true_and, lit_4, nI_add, nI_clamp, T', lit_1, lit_5, nI_eq, wMs_s hi]
  have fin : ∀ y : Nat, y ≤ 9 → (if nI (σ.1 i) < nI y then Q (.inl (nI y - nI (σ.1 i))) (sI (wMs M (τ 7 0) σ) 11 3 i (nI y)) else Q (.inl 0) (wMs M (τ 7 0) σ)) = Q (.inl (nI (max (σ.1 i) y - σ.1 i))) (wMs M (τ 7 0) (upN σ.1 i (max (σ.1 i) y), σ.2)) := by
    intro y hy
    by_cases q : σ.1 i < y
    · rw [if_pos ((nI_ltI (by omega) (by omega)).mpr q), Nat.max_eq_right (by omega), wMs_ps hi hn, pk_sub (by omega)]
    · rw [if_neg (fun w => q ((nI_ltI (by omega) (by omega)).mp w)), Nat.max_eq_left (by omega), id _ rfl, Nat.sub_self]
      rfl
  by_cases c5 : τ 0 i = 5
  · have c1 : ¬ τ 0 i = 1 := by omega
    simp only [if_pos c5, if_neg c1]
    rw [id _ rfl, Nat.sub_self]
    rfl
  · by_cases c1 : τ 0 i = 1
    · simp only [if_neg c5, if_pos c1]
      cases x with
      | zero =>
        have e : nI 0 - nI 1 = (-1 : Int32) := by decide
        have l : ¬ nI (σ.1 i) < (-1 : Int32) := by
          rw [Int32.lt_iff_toInt_lt, nI_toInt (by omega)]
          simp
        rw [e, if_neg l, Nat.zero_sub, Nat.max_eq_left (by omega), id _ rfl, Nat.sub_self]
        rfl
      | succ x =>
        have e : nI (x + 1) - nI 1 = nI x := pk_sub (a := x + 1) (b := 1) (by omega)
        rw [e, Nat.add_sub_cancel]
        exact fin x (by omega)
    · simp only [if_neg c5, if_neg c1]
      exact fin x hx
theorem tX8_touches {a b : Nat} (T : MT M 1 τ) (K : OKh τ) (hs : OKs σ) (ha : a < τ 7 0) (hb : b < τ 7 0) (hab : a ≠ b) (S : MS M (τ 7 0) σ) : Run 1 (d + 2) 113 [vr 8 0, .inl (nI a), .inl (nI b)] M Q = Q (.inl (nI (pmr (τ 0) σ.1 a b))) (wMs M (τ 7 0) (tcS τ a b σ)) := by
  have hn := K.1
  have h1 := pgv_le (κ := τ 0 a) (hs.1 a (by omega))
  have h2 := pgv_le (κ := τ 0 b) (hs.1 b (by omega))
  have hs1 : OKs (σ.1, σ.2.1 &&& msk a b, σ.2.2) := ⟨hs.1, and_lt hs.2⟩
  have hka := hs.1 a (by omega)
  have hs2 : OKs (upN σ.1 a (pgt (τ 0 a) (σ.1 a) (pgv (τ 0 b) (σ.1 b))), σ.2.1 &&& msk a b, σ.2.2) := by
    refine ⟨fun j hj => ?_, and_lt hs.2⟩
    show upN σ.1 a _ j ≤ 9
    unfold upN
    split
    · exact pgt_le hka (by omega)
    · exact hs.1 j hj
  have w0 : wMs M (τ 7 0) σ = M := wMs_id S
  have pp : sI M 11 3 9 (nI (σ.2.1 &&& msk a b)) = wMs M (τ 7 0) (σ.1, σ.2.1 &&& msk a b, σ.2.2) := by
    have := wMs_pp (M := M) (σ := σ) (p := σ.2.1 &&& msk a b) hn
    rwa [w0] at this
  rw [rX8_touches]
  simp (disch := omega) only [eX8_touches_0, eX8_touches_1, eX8_touches_2, eX8_touches_5, eX8_touches_6, eX8_touches_7, eX8_touches_8, eX8_touches_11, eX8_touches_13, eX8_touches_14, eX8_touches_17, eX8_touches_19, eX8_touches_20, eX8_touches_21, eX8_touches_22, eX8_touches_23, eX8_touches_24, eX8_touches_25, eX8_touches_26, eX8_touches_27, eX8_touches_28, eX8_touches_29, eX8_touches_30, eX8_touches_31, eX8_touches_32, eX8_touches_33, eX8_touches_34, eX8_touches_36, eX8_touches_39, eX8_touches_40, eX8_touches_41, eX8_touches_42, eX8_touches_45, eX8_touches_46, c8_, c11_0, c11_1, c11_2, c11_3, c11_4, c11_5, c11_6, c11_7, c11_8, c11_9, alm_0, alm_1, alm_2, alm_3, alm_4, alm_5, alm_6, alm_7, alm_8, alm_9, vT, true_and, tX8_gives T K S hs ha, tX8_gives T K S hs hb, psh_i, lit_9, nI_clamp, S.2.1, and_msk hs.2, pp, tX8_gets T K hs1 ha (show pgv (τ 0 b) (σ.1 b) ≤ 9 by omega), tX8_gets T K hs2 hb (show pgv (τ 0 a) (σ.1 a) ≤ 9 by omega), nI_add]
  have e1 : upN σ.1 a (pgt (τ 0 a) (σ.1 a) (pgv (τ 0 b) (σ.1 b))) b = σ.1 b := upN_ne (fun q => hab q.symm)
  rw [e1]
  rfl
theorem tX8_lightens {i by_ : Nat} (hn : n ≤ 9) (hs : OKs σ) (hi : i < n) (hb : by_ ≤ 9) : Run 1 (d + 1) 114 [vr 8 0, .inl (nI i), .inl (nI by_)] (wMs M n σ) Q = Q vu (wMs M n (liS i by_ σ)) := by
  have hsi := hs.1 i (by omega)
  rw [rX8_lightens]
  simp (disch := omega) only [eX8_lightens_0, eX8_lightens_1, eX8_lightens_4, eX8_lightens_5, eX8_lightens_6, eX8_lightens_9, eX8_lightens_10, eX8_lightens_11, eX8_lightens_12, eX8_lightens_15, eX8_lightens_16, eX8_lightens_19, eX8_lightens_20, eX8_lightens_21, eX8_lightens_22, eX8_lightens_23, eX8_lightens_26, eX8_lightens_27, eX8_lightens_28, c8_, c11_0, c11_1, c11_2, c11_3, c11_4, c11_5, c11_6, c11_7, c11_8, c11_9, alm_0, alm_1, alm_2, alm_3, alm_4, alm_5, alm_6, alm_7, alm_8, alm_9, vT, true_and, nI_clamp, wMs_s hi, nI_leI, lit_0]
  unfold liS
  by_cases q : σ.1 i ≤ by_
  · rw [if_pos q, wMs_ps hi hn, show σ.1 i - by_ = 0 by omega]
  · rw [if_neg q, pk_sub (by omega), wMs_ps hi hn]
theorem tX8_washesBy {i : Nat} (T : MT M 1 τ) (K : OKh τ) (hi : i < τ 7 0) : Run 1 (d + 1) 115 [vr 8 0, .inl (nI i)] M Q = Q (.inl (nI (wby τ i))) M := by
  have hn := K.1
  have hk := OKh_k K hi
  rw [rX8_washesBy]
  simp (disch := omega) only [eX8_washesBy_0, eX8_washesBy_1, eX8_washesBy_4, eX8_washesBy_5, eX8_washesBy_6, eX8_washesBy_7, eX8_washesBy_8, eX8_washesBy_9, eX8_washesBy_12, eX8_washesBy_13, eX8_washesBy_16, eX8_washesBy_17, c8_, c11_0, c11_1, c11_2, c11_3, c11_4, c11_5, c11_6, c11_7, c11_8, c11_9, alm_0, alm_1, alm_2, alm_3, alm_4, alm_5, alm_6, alm_7, alm_8, alm_9, vT, true_and, lit_4, lit_2, nI_add, nI_clamp, T.2.2.2.2.1 i hi, nI_eq]
  unfold wby
  by_cases q : τ 0 i = 2
  · rw [if_pos q, if_pos q]
  · rw [if_neg q, if_neg q]
theorem liS_0 {i : Nat} : liS i 0 σ = σ := by
  unfold liS
  rw [Nat.sub_zero, upN_self]
theorem fdB_m {τ : Nat → Nat → Nat} {hr i : Nat} : fdB τ hr i = (if per τ i = true then decide (hr % 3 = 2) else decide (hr % 6 = 5) && decide (τ 0 i = 3)) := rfl
theorem tX8_passes (T : MT M 1 τ) (K : OKh τ) (n1 : 1 ≤ τ 7 0) (hs : OKs σ) (hg : σ.2.2 < 2 ^ 30) (S : MS M (τ 7 0) σ) : Run 1 (d + 4) 116 [vr 8 0] M Q = Q vu (wMs M (τ 7 0) (hrS τ σ)) := by
  have hn := K.1
  have ht := K.2.1
  have hw := K.2.2.1
  have hsu := K.2.2.2.1
  have hr12 : σ.2.2 % 12 < 12 := Nat.mod_lt _ (by decide)
  have T' : ∀ σ', MT (wMs M (τ 7 0) σ') 1 τ := fun σ' => MT_w T
  have e12 : nI σ.2.2 - nI σ.2.2 / nI 12 * nI 12 = nI (σ.2.2 % 12) := rem_nI (by omega) (by decide) (by decide)
  have w0 : wMs M (τ 7 0) σ = M := wMs_id S
  rw [rX8_passes]
  simp (disch := omega) only [eX8_passes_0, eX8_passes_1, eX8_passes_4, eX8_passes_6, eX8_passes_7, eX8_passes_9, eX8_passes_10, eX8_passes_11, eX8_passes_12, eX8_passes_14, eX8_passes_15, eX8_passes_18, eX8_passes_19, eX8_passes_20, eX8_passes_23, eX8_passes_24, eX8_passes_27, eX8_passes_29, eX8_passes_30, eX8_passes_31, eX8_passes_32, eX8_passes_33, eX8_passes_36, eX8_passes_37, eX8_passes_38, eX8_passes_41, eX8_passes_43, eX8_passes_44, eX8_passes_45, eX8_passes_46, eX8_passes_47, eX8_passes_50, eX8_passes_52, eX8_passes_53, eX8_passes_54, eX8_passes_55, eX8_passes_58, eX8_passes_59, eX8_passes_62, eX8_passes_65, eX8_passes_66, eX8_passes_68, eX8_passes_69, eX8_passes_72, eX8_passes_73, eX8_passes_74, eX8_passes_77, eX8_passes_78, eX8_passes_81, eX8_passes_83, eX8_passes_84, eX8_passes_85, eX8_passes_86, eX8_passes_87, eX8_passes_90, eX8_passes_91, eX8_passes_92, eX8_passes_95, eX8_passes_97, eX8_passes_98, eX8_passes_99, eX8_passes_100, eX8_passes_101, eX8_passes_102, eX8_passes_105, eX8_passes_107, eX8_passes_108, eX8_passes_109, eX8_passes_110, eX8_passes_113, eX8_passes_116, eX8_passes_119, eX8_passes_122, eX8_passes_123, eX8_passes_125, eX8_passes_126, eX8_passes_129, eX8_passes_130, eX8_passes_131, eX8_passes_134, eX8_passes_135, eX8_passes_136, eX8_passes_139, eX8_passes_142, eX8_passes_143, eX8_passes_144, eX8_passes_145, eX8_passes_146, eX8_passes_149, eX8_passes_150, eX8_passes_153, eX8_passes_154, eX8_passes_157, eX8_passes_158, eX8_passes_161, eX8_passes_162, eX8_passes_163, eX8_passes_164, eX8_passes_165, eX8_passes_166, eX8_passes_169, eX8_passes_170, eX8_passes_172, eX8_passes_173, eX8_passes_174, eX8_passes_177, eX8_passes_178, eX8_passes_181, eX8_passes_182, eX8_passes_183, eX8_passes_184, eX8_passes_185, eX8_passes_186, eX8_passes_189, eX8_passes_190, eX8_passes_193, eX8_passes_194, eX8_passes_197, eX8_passes_200, eX8_passes_203, eX8_passes_204, eX8_passes_207, eX8_passes_209, eX8_passes_210, eX8_passes_211, eX8_passes_214, eX8_passes_215, eX8_passes_216, eX8_passes_219, eX8_passes_220, eX8_passes_223, eX8_passes_224, eX8_passes_227, eX8_passes_229, eX8_passes_230, eX8_passes_231, eX8_passes_232, eX8_passes_235, eX8_passes_237, eX8_passes_238, eX8_passes_239, eX8_passes_240, eX8_passes_241, eX8_passes_242, c8_, c11_0, c11_1, c11_2, c11_3, c11_4, c11_5, c11_6, c11_7, c11_8, c11_9, alm_0, alm_1, alm_2, alm_3, alm_4, alm_5, alm_6, alm_7, alm_8, alm_9, vT, true_and, lit_10, nI_clamp, S.2.2, lit_12, nI_eq, Nat.reduceEqDiff, not_false_iff, e12, lit_0]
  rw [← w0]
  refine (eq_up (fun t => ExG 1 (Run 1 (d + 3)) 8 0 false none cX8_passes Q 13 [vr 8 0, .inl (nI (σ.2.2 % 12)), .inl (nI t), vu] [] (wMs M (τ 7 0) (tcN τ (σ.2.2 % 12) t σ))) (Nat.zero_le (τ 8 0)) (fun t _ hi => ?_)).trans ?_
  · obtain ⟨w1, w2, w3, w4⟩ := K.2.2.2.2.2.2.1 t (by omega)
    obtain ⟨u1, u2, u3⟩ := (T' (tcN τ (σ.2.2 % 12) t σ)).2.2.2.2.2.2.1 t hi
    have hs' := OKs_tcN (hr := σ.2.2 % 12) K hs (show t ≤ τ 8 0 by omega)
    rw [eX8_passes_13]
    simp (disch := omega) only [eX8_passes_0, eX8_passes_1, eX8_passes_4, eX8_passes_6, eX8_passes_7, eX8_passes_9, eX8_passes_10, eX8_passes_11, eX8_passes_12, eX8_passes_14, eX8_passes_15, eX8_passes_18, eX8_passes_19, eX8_passes_20, eX8_passes_23, eX8_passes_24, eX8_passes_27, eX8_passes_29, eX8_passes_30, eX8_passes_31, eX8_passes_32, eX8_passes_33, eX8_passes_36, eX8_passes_37, eX8_passes_38, eX8_passes_41, eX8_passes_43, eX8_passes_44, eX8_passes_45, eX8_passes_46, eX8_passes_47, eX8_passes_50, eX8_passes_52, eX8_passes_53, eX8_passes_54, eX8_passes_55, eX8_passes_58, eX8_passes_59, eX8_passes_62, eX8_passes_65, eX8_passes_66, eX8_passes_68, eX8_passes_69, eX8_passes_72, eX8_passes_73, eX8_passes_74, eX8_passes_77, eX8_passes_78, eX8_passes_81, eX8_passes_83, eX8_passes_84, eX8_passes_85, eX8_passes_86, eX8_passes_87, eX8_passes_90, eX8_passes_91, eX8_passes_92, eX8_passes_95, eX8_passes_97, eX8_passes_98, eX8_passes_99, eX8_passes_100, eX8_passes_101, eX8_passes_102, eX8_passes_105, eX8_passes_107, eX8_passes_108, eX8_passes_109, eX8_passes_110, eX8_passes_113, eX8_passes_116, eX8_passes_119, eX8_passes_122, eX8_passes_123, eX8_passes_125, eX8_passes_126, eX8_passes_129, eX8_passes_130, eX8_passes_131, eX8_passes_134, eX8_passes_135, eX8_passes_136, eX8_passes_139, eX8_passes_142, eX8_passes_143, eX8_passes_144, eX8_passes_145, eX8_passes_146, eX8_passes_149, eX8_passes_150, eX8_passes_153, eX8_passes_154, eX8_passes_157, eX8_passes_158, eX8_passes_161, eX8_passes_162, eX8_passes_163, eX8_passes_164, eX8_passes_165, eX8_passes_166, eX8_passes_169, eX8_passes_170, eX8_passes_172, eX8_passes_173, eX8_passes_174, eX8_passes_177, eX8_passes_178, eX8_passes_181, eX8_passes_182, eX8_passes_183, eX8_passes_184, eX8_passes_185, eX8_passes_186, eX8_passes_189, eX8_passes_190, eX8_passes_193, eX8_passes_194, eX8_passes_197, eX8_passes_200, eX8_passes_203, eX8_passes_204, eX8_passes_207, eX8_passes_209, eX8_passes_210, eX8_passes_211, eX8_passes_214, eX8_passes_215, eX8_passes_216, eX8_passes_219, eX8_passes_220, eX8_passes_223, eX8_passes_224, eX8_passes_227, eX8_passes_229, eX8_passes_230, eX8_passes_231, eX8_passes_232, eX8_passes_235, eX8_passes_237, eX8_passes_238, eX8_passes_239, eX8_passes_240, eX8_passes_241, eX8_passes_242, c8_, c11_0, c11_1, c11_2, c11_3, c11_4, c11_5, c11_6, c11_7, c11_8, c11_9, alm_0, alm_1, alm_2, alm_3, alm_4, alm_5, alm_6, alm_7, alm_8, alm_9, vT, true_and, lit_1, nI_clamp, (T' (tcN τ (σ.2.2 % 12) t σ)).2.1, nI_leI, if_neg (show ¬ τ 8 0 ≤ t by omega), lit_22, lit_32, lit_42, nI_add, u1, u2, u3, nI_eq, tX8_touches (T' (tcN τ (σ.2.2 % 12) t σ)) K hs' w2 w3 w4 (MS_w hn), psh_i, wMs_w]
    rw [tcN]
    by_cases c : τ 2 t = σ.2.2 % 12
    · rw [if_pos c, if_pos c]
    · rw [if_neg c, if_neg c]
  · rw [eX8_passes_13]
    simp (disch := omega) only [eX8_passes_0, eX8_passes_1, eX8_passes_4, eX8_passes_6, eX8_passes_7, eX8_passes_9, eX8_passes_10, eX8_passes_11, eX8_passes_12, eX8_passes_14, eX8_passes_15, eX8_passes_18, eX8_passes_19, eX8_passes_20, eX8_passes_23, eX8_passes_24, eX8_passes_27, eX8_passes_29, eX8_passes_30, eX8_passes_31, eX8_passes_32, eX8_passes_33, eX8_passes_36, eX8_passes_37, eX8_passes_38, eX8_passes_41, eX8_passes_43, eX8_passes_44, eX8_passes_45, eX8_passes_46, eX8_passes_47, eX8_passes_50, eX8_passes_52, eX8_passes_53, eX8_passes_54, eX8_passes_55, eX8_passes_58, eX8_passes_59, eX8_passes_62, eX8_passes_65, eX8_passes_66, eX8_passes_68, eX8_passes_69, eX8_passes_72, eX8_passes_73, eX8_passes_74, eX8_passes_77, eX8_passes_78, eX8_passes_81, eX8_passes_83, eX8_passes_84, eX8_passes_85, eX8_passes_86, eX8_passes_87, eX8_passes_90, eX8_passes_91, eX8_passes_92, eX8_passes_95, eX8_passes_97, eX8_passes_98, eX8_passes_99, eX8_passes_100, eX8_passes_101, eX8_passes_102, eX8_passes_105, eX8_passes_107, eX8_passes_108, eX8_passes_109, eX8_passes_110, eX8_passes_113, eX8_passes_116, eX8_passes_119, eX8_passes_122, eX8_passes_123, eX8_passes_125, eX8_passes_126, eX8_passes_129, eX8_passes_130, eX8_passes_131, eX8_passes_134, eX8_passes_135, eX8_passes_136, eX8_passes_139, eX8_passes_142, eX8_passes_143, eX8_passes_144, eX8_passes_145, eX8_passes_146, eX8_passes_149, eX8_passes_150, eX8_passes_153, eX8_passes_154, eX8_passes_157, eX8_passes_158, eX8_passes_161, eX8_passes_162, eX8_passes_163, eX8_passes_164, eX8_passes_165, eX8_passes_166, eX8_passes_169, eX8_passes_170, eX8_passes_172, eX8_passes_173, eX8_passes_174, eX8_passes_177, eX8_passes_178, eX8_passes_181, eX8_passes_182, eX8_passes_183, eX8_passes_184, eX8_passes_185, eX8_passes_186, eX8_passes_189, eX8_passes_190, eX8_passes_193, eX8_passes_194, eX8_passes_197, eX8_passes_200, eX8_passes_203, eX8_passes_204, eX8_passes_207, eX8_passes_209, eX8_passes_210, eX8_passes_211, eX8_passes_214, eX8_passes_215, eX8_passes_216, eX8_passes_219, eX8_passes_220, eX8_passes_223, eX8_passes_224, eX8_passes_227, eX8_passes_229, eX8_passes_230, eX8_passes_231, eX8_passes_232, eX8_passes_235, eX8_passes_237, eX8_passes_238, eX8_passes_239, eX8_passes_240, eX8_passes_241, eX8_passes_242, c8_, c11_0, c11_1, c11_2, c11_3, c11_4, c11_5, c11_6, c11_7, c11_8, c11_9, alm_0, alm_1, alm_2, alm_3, alm_4, alm_5, alm_6, alm_7, alm_8, alm_9, vT, true_and, lit_1, nI_clamp, (T' (tcN τ (σ.2.2 % 12) (τ 8 0) σ)).2.1, nI_leI, Nat.le_refl, if_true, lit_0]
    have hs1 := OKs_tcN (hr := σ.2.2 % 12) K hs (Nat.le_refl (τ 8 0))
    refine (eq_up (fun t => ExG 1 (Run 1 (d + 3)) 8 0 false none cX8_passes Q 67 [vr 8 0, .inl (nI (σ.2.2 % 12)), .inl (nI t), vu] [] (wMs M (τ 7 0) (wsN τ (σ.2.2 % 12) t (tcN τ (σ.2.2 % 12) (τ 8 0) σ)))) (Nat.zero_le (τ 9 0)) (fun t _ hi => ?_)).trans ?_
    · obtain ⟨w1, w2, w3, w4⟩ := K.2.2.2.2.2.2.2 t (by omega)
      obtain ⟨u1, u2⟩ := (T' (wsN τ (σ.2.2 % 12) t (tcN τ (σ.2.2 % 12) (τ 8 0) σ))).2.2.2.2.2.2.2 t hi
      have hs' := OKs_wsN (hr := σ.2.2 % 12) K hs1 (show t ≤ τ 9 0 by omega)
      have hwb := wby_le τ (τ 6 t)
      rw [eX8_passes_67]
      simp (disch := omega) only [eX8_passes_0, eX8_passes_1, eX8_passes_4, eX8_passes_6, eX8_passes_7, eX8_passes_9, eX8_passes_10, eX8_passes_11, eX8_passes_12, eX8_passes_14, eX8_passes_15, eX8_passes_18, eX8_passes_19, eX8_passes_20, eX8_passes_23, eX8_passes_24, eX8_passes_27, eX8_passes_29, eX8_passes_30, eX8_passes_31, eX8_passes_32, eX8_passes_33, eX8_passes_36, eX8_passes_37, eX8_passes_38, eX8_passes_41, eX8_passes_43, eX8_passes_44, eX8_passes_45, eX8_passes_46, eX8_passes_47, eX8_passes_50, eX8_passes_52, eX8_passes_53, eX8_passes_54, eX8_passes_55, eX8_passes_58, eX8_passes_59, eX8_passes_62, eX8_passes_65, eX8_passes_66, eX8_passes_68, eX8_passes_69, eX8_passes_72, eX8_passes_73, eX8_passes_74, eX8_passes_77, eX8_passes_78, eX8_passes_81, eX8_passes_83, eX8_passes_84, eX8_passes_85, eX8_passes_86, eX8_passes_87, eX8_passes_90, eX8_passes_91, eX8_passes_92, eX8_passes_95, eX8_passes_97, eX8_passes_98, eX8_passes_99, eX8_passes_100, eX8_passes_101, eX8_passes_102, eX8_passes_105, eX8_passes_107, eX8_passes_108, eX8_passes_109, eX8_passes_110, eX8_passes_113, eX8_passes_116, eX8_passes_119, eX8_passes_122, eX8_passes_123, eX8_passes_125, eX8_passes_126, eX8_passes_129, eX8_passes_130, eX8_passes_131, eX8_passes_134, eX8_passes_135, eX8_passes_136, eX8_passes_139, eX8_passes_142, eX8_passes_143, eX8_passes_144, eX8_passes_145, eX8_passes_146, eX8_passes_149, eX8_passes_150, eX8_passes_153, eX8_passes_154, eX8_passes_157, eX8_passes_158, eX8_passes_161, eX8_passes_162, eX8_passes_163, eX8_passes_164, eX8_passes_165, eX8_passes_166, eX8_passes_169, eX8_passes_170, eX8_passes_172, eX8_passes_173, eX8_passes_174, eX8_passes_177, eX8_passes_178, eX8_passes_181, eX8_passes_182, eX8_passes_183, eX8_passes_184, eX8_passes_185, eX8_passes_186, eX8_passes_189, eX8_passes_190, eX8_passes_193, eX8_passes_194, eX8_passes_197, eX8_passes_200, eX8_passes_203, eX8_passes_204, eX8_passes_207, eX8_passes_209, eX8_passes_210, eX8_passes_211, eX8_passes_214, eX8_passes_215, eX8_passes_216, eX8_passes_219, eX8_passes_220, eX8_passes_223, eX8_passes_224, eX8_passes_227, eX8_passes_229, eX8_passes_230, eX8_passes_231, eX8_passes_232, eX8_passes_235, eX8_passes_237, eX8_passes_238, eX8_passes_239, eX8_passes_240, eX8_passes_241, eX8_passes_242, c8_, c11_0, c11_1, c11_2, c11_3, c11_4, c11_5, c11_6, c11_7, c11_8, c11_9, alm_0, alm_1, alm_2, alm_3, alm_4, alm_5, alm_6, alm_7, alm_8, alm_9, vT, true_and, lit_2, lit_1, nI_clamp, (T' (wsN τ (σ.2.2 % 12) t (tcN τ (σ.2.2 % 12) (τ 8 0) σ))).2.2.1, nI_leI, if_neg (show ¬ τ 9 0 ≤ t by omega), lit_52, lit_56, nI_add, u1, u2, nI_eq, tX8_washesBy (T' (wsN τ (σ.2.2 % 12) t (tcN τ (σ.2.2 % 12) (τ 8 0) σ))) K w2, psh_i, tX8_lightens hn hs' w2 (show wby τ (τ 6 t) ≤ 9 by omega), psh_u]
      rw [wsN]
      by_cases c : τ 5 t = σ.2.2 % 12
      · rw [if_pos c, if_pos c]
      · rw [if_neg c, if_neg c]
    · rw [eX8_passes_67]
      simp (disch := omega) only [eX8_passes_0, eX8_passes_1, eX8_passes_4, eX8_passes_6, eX8_passes_7, eX8_passes_9, eX8_passes_10, eX8_passes_11, eX8_passes_12, eX8_passes_14, eX8_passes_15, eX8_passes_18, eX8_passes_19, eX8_passes_20, eX8_passes_23, eX8_passes_24, eX8_passes_27, eX8_passes_29, eX8_passes_30, eX8_passes_31, eX8_passes_32, eX8_passes_33, eX8_passes_36, eX8_passes_37, eX8_passes_38, eX8_passes_41, eX8_passes_43, eX8_passes_44, eX8_passes_45, eX8_passes_46, eX8_passes_47, eX8_passes_50, eX8_passes_52, eX8_passes_53, eX8_passes_54, eX8_passes_55, eX8_passes_58, eX8_passes_59, eX8_passes_62, eX8_passes_65, eX8_passes_66, eX8_passes_68, eX8_passes_69, eX8_passes_72, eX8_passes_73, eX8_passes_74, eX8_passes_77, eX8_passes_78, eX8_passes_81, eX8_passes_83, eX8_passes_84, eX8_passes_85, eX8_passes_86, eX8_passes_87, eX8_passes_90, eX8_passes_91, eX8_passes_92, eX8_passes_95, eX8_passes_97, eX8_passes_98, eX8_passes_99, eX8_passes_100, eX8_passes_101, eX8_passes_102, eX8_passes_105, eX8_passes_107, eX8_passes_108, eX8_passes_109, eX8_passes_110, eX8_passes_113, eX8_passes_116, eX8_passes_119, eX8_passes_122, eX8_passes_123, eX8_passes_125, eX8_passes_126, eX8_passes_129, eX8_passes_130, eX8_passes_131, eX8_passes_134, eX8_passes_135, eX8_passes_136, eX8_passes_139, eX8_passes_142, eX8_passes_143, eX8_passes_144, eX8_passes_145, eX8_passes_146, eX8_passes_149, eX8_passes_150, eX8_passes_153, eX8_passes_154, eX8_passes_157, eX8_passes_158, eX8_passes_161, eX8_passes_162, eX8_passes_163, eX8_passes_164, eX8_passes_165, eX8_passes_166, eX8_passes_169, eX8_passes_170, eX8_passes_172, eX8_passes_173, eX8_passes_174, eX8_passes_177, eX8_passes_178, eX8_passes_181, eX8_passes_182, eX8_passes_183, eX8_passes_184, eX8_passes_185, eX8_passes_186, eX8_passes_189, eX8_passes_190, eX8_passes_193, eX8_passes_194, eX8_passes_197, eX8_passes_200, eX8_passes_203, eX8_passes_204, eX8_passes_207, eX8_passes_209, eX8_passes_210, eX8_passes_211, eX8_passes_214, eX8_passes_215, eX8_passes_216, eX8_passes_219, eX8_passes_220, eX8_passes_223, eX8_passes_224, eX8_passes_227, eX8_passes_229, eX8_passes_230, eX8_passes_231, eX8_passes_232, eX8_passes_235, eX8_passes_237, eX8_passes_238, eX8_passes_239, eX8_passes_240, eX8_passes_241, eX8_passes_242, c8_, c11_0, c11_1, c11_2, c11_3, c11_4, c11_5, c11_6, c11_7, c11_8, c11_9, alm_0, alm_1, alm_2, alm_3, alm_4, alm_5, alm_6, alm_7, alm_8, alm_9, vT, true_and, lit_2, nI_clamp, (T' (wsN τ (σ.2.2 % 12) (τ 9 0) (tcN τ (σ.2.2 % 12) (τ 8 0) σ))).2.2.1, nI_leI, Nat.le_refl, if_true, lit_0]
      have hs2 := OKs_wsN (hr := σ.2.2 % 12) K hs1 (Nat.le_refl (τ 9 0))
      have e3 : nI (σ.2.2 % 12) - nI (σ.2.2 % 12) / nI 3 * nI 3 = nI (σ.2.2 % 12 % 3) := rem_nI (by omega) (by decide) (by decide)
      have e6 : nI (σ.2.2 % 12) - nI (σ.2.2 % 12) / nI 6 * nI 6 = nI (σ.2.2 % 12 % 6) := rem_nI (by omega) (by decide) (by decide)
      generalize hρ : wsN τ (σ.2.2 % 12) (τ 9 0) (tcN τ (σ.2.2 % 12) (τ 8 0) σ) = ρ at hs2 ⊢
      have hρg : ρ.2.2 = σ.2.2 := by rw [← hρ, wsN_g, tcN_g]
      have hfin : Q vu (wMs M (τ 7 0) (hrS τ σ)) = Q vu (wMs M (τ 7 0) ((fdN τ (σ.2.2 % 12) (τ 7 0) ρ).1, (if σ.2.2 % 12 = τ 10 0 then 0 else (fdN τ (σ.2.2 % 12) (τ 7 0) ρ).2.1), σ.2.2 + 1)) := by
        unfold hrS
        rw [hρ]
      rw [wMs_w, hfin]
      have go : ∀ k t a3, t + k = τ 7 0 → ExG 1 (Run 1 (d + 3)) 8 0 false none cX8_passes Q 124 [vr 8 0, .inl (nI (σ.2.2 % 12)), .inl (nI t), a3] [] (wMs M (τ 7 0) (fdN τ (σ.2.2 % 12) t ρ)) = Q vu (wMs M (τ 7 0) ((fdN τ (σ.2.2 % 12) (τ 7 0) ρ).1, (if σ.2.2 % 12 = τ 10 0 then 0 else (fdN τ (σ.2.2 % 12) (τ 7 0) ρ).2.1), σ.2.2 + 1)) := by
        intro k
        induction k with
        | zero =>
          intro t a3 et
          have et' : t = τ 7 0 := et
          subst et'
          have hsf := OKs_fdN (τ := τ) (hr := σ.2.2 % 12) (n := τ 7 0) hs2 hn
          have hgf : (fdN τ (σ.2.2 % 12) (τ 7 0) ρ).2.2 = σ.2.2 := by rw [fdN_g, hρg]
          have T3 := (T' (fdN τ (σ.2.2 % 12) (τ 7 0) ρ))
          rw [eX8_passes_124]
          simp (disch := omega) only [eX8_passes_0, eX8_passes_1, eX8_passes_4, eX8_passes_6, eX8_passes_7, eX8_passes_9, eX8_passes_10, eX8_passes_11, eX8_passes_12, eX8_passes_13, eX8_passes_14, eX8_passes_15, eX8_passes_18, eX8_passes_19, eX8_passes_20, eX8_passes_23, eX8_passes_24, eX8_passes_27, eX8_passes_29, eX8_passes_30, eX8_passes_31, eX8_passes_32, eX8_passes_33, eX8_passes_36, eX8_passes_37, eX8_passes_38, eX8_passes_41, eX8_passes_43, eX8_passes_44, eX8_passes_45, eX8_passes_46, eX8_passes_47, eX8_passes_50, eX8_passes_52, eX8_passes_53, eX8_passes_54, eX8_passes_55, eX8_passes_58, eX8_passes_59, eX8_passes_62, eX8_passes_65, eX8_passes_66, eX8_passes_67, eX8_passes_68, eX8_passes_69, eX8_passes_72, eX8_passes_73, eX8_passes_74, eX8_passes_77, eX8_passes_78, eX8_passes_81, eX8_passes_83, eX8_passes_84, eX8_passes_85, eX8_passes_86, eX8_passes_87, eX8_passes_90, eX8_passes_91, eX8_passes_92, eX8_passes_95, eX8_passes_97, eX8_passes_98, eX8_passes_99, eX8_passes_100, eX8_passes_101, eX8_passes_102, eX8_passes_105, eX8_passes_107, eX8_passes_108, eX8_passes_109, eX8_passes_110, eX8_passes_113, eX8_passes_116, eX8_passes_119, eX8_passes_122, eX8_passes_123, eX8_passes_125, eX8_passes_126, eX8_passes_129, eX8_passes_130, eX8_passes_131, eX8_passes_134, eX8_passes_135, eX8_passes_136, eX8_passes_139, eX8_passes_142, eX8_passes_143, eX8_passes_144, eX8_passes_145, eX8_passes_146, eX8_passes_149, eX8_passes_150, eX8_passes_153, eX8_passes_154, eX8_passes_157, eX8_passes_158, eX8_passes_161, eX8_passes_162, eX8_passes_163, eX8_passes_164, eX8_passes_165, eX8_passes_166, eX8_passes_169, eX8_passes_170, eX8_passes_172, eX8_passes_173, eX8_passes_174, eX8_passes_177, eX8_passes_178, eX8_passes_181, eX8_passes_182, eX8_passes_183, eX8_passes_184, eX8_passes_185, eX8_passes_186, eX8_passes_189, eX8_passes_190, eX8_passes_193, eX8_passes_194, eX8_passes_197, eX8_passes_200, eX8_passes_203, eX8_passes_204, eX8_passes_207, eX8_passes_209, eX8_passes_210, eX8_passes_211, eX8_passes_214, eX8_passes_215, eX8_passes_216, eX8_passes_219, eX8_passes_220, eX8_passes_223, eX8_passes_224, eX8_passes_227, eX8_passes_229, eX8_passes_230, eX8_passes_231, eX8_passes_232, eX8_passes_235, eX8_passes_237, eX8_passes_238, eX8_passes_239, eX8_passes_240, eX8_passes_241, eX8_passes_242, c8_, c11_0, c11_1, c11_2, c11_3, c11_4, c11_5, c11_6, c11_7, c11_8, c11_9, alm_0, alm_1, alm_2, alm_3, alm_4, alm_5, alm_6, alm_7, alm_8, alm_9, vT, true_and, lit_0, nI_clamp, T3.1, nI_leI, Nat.le_refl, if_true, lit_9, lit_3, T3.2.2.2.1, nI_eq, wMs_p hn]
          generalize hφ : fdN τ (σ.2.2 % 12) (τ 7 0) ρ = φ at hgf hsf T3 ⊢
          by_cases c : σ.2.2 % 12 = τ 10 0
          · rw [if_pos c, if_pos c]
            simp (disch := omega) only [wMs_pp hn, eX8_passes_0, eX8_passes_1, eX8_passes_4, eX8_passes_6, eX8_passes_7, eX8_passes_9, eX8_passes_10, eX8_passes_11, eX8_passes_12, eX8_passes_13, eX8_passes_14, eX8_passes_15, eX8_passes_18, eX8_passes_19, eX8_passes_20, eX8_passes_23, eX8_passes_24, eX8_passes_27, eX8_passes_29, eX8_passes_30, eX8_passes_31, eX8_passes_32, eX8_passes_33, eX8_passes_36, eX8_passes_37, eX8_passes_38, eX8_passes_41, eX8_passes_43, eX8_passes_44, eX8_passes_45, eX8_passes_46, eX8_passes_47, eX8_passes_50, eX8_passes_52, eX8_passes_53, eX8_passes_54, eX8_passes_55, eX8_passes_58, eX8_passes_59, eX8_passes_62, eX8_passes_65, eX8_passes_66, eX8_passes_67, eX8_passes_68, eX8_passes_69, eX8_passes_72, eX8_passes_73, eX8_passes_74, eX8_passes_77, eX8_passes_78, eX8_passes_81, eX8_passes_83, eX8_passes_84, eX8_passes_85, eX8_passes_86, eX8_passes_87, eX8_passes_90, eX8_passes_91, eX8_passes_92, eX8_passes_95, eX8_passes_97, eX8_passes_98, eX8_passes_99, eX8_passes_100, eX8_passes_101, eX8_passes_102, eX8_passes_105, eX8_passes_107, eX8_passes_108, eX8_passes_109, eX8_passes_110, eX8_passes_113, eX8_passes_116, eX8_passes_119, eX8_passes_122, eX8_passes_123, eX8_passes_125, eX8_passes_126, eX8_passes_129, eX8_passes_130, eX8_passes_131, eX8_passes_134, eX8_passes_135, eX8_passes_136, eX8_passes_139, eX8_passes_142, eX8_passes_143, eX8_passes_144, eX8_passes_145, eX8_passes_146, eX8_passes_149, eX8_passes_150, eX8_passes_153, eX8_passes_154, eX8_passes_157, eX8_passes_158, eX8_passes_161, eX8_passes_162, eX8_passes_163, eX8_passes_164, eX8_passes_165, eX8_passes_166, eX8_passes_169, eX8_passes_170, eX8_passes_172, eX8_passes_173, eX8_passes_174, eX8_passes_177, eX8_passes_178, eX8_passes_181, eX8_passes_182, eX8_passes_183, eX8_passes_184, eX8_passes_185, eX8_passes_186, eX8_passes_189, eX8_passes_190, eX8_passes_193, eX8_passes_194, eX8_passes_197, eX8_passes_200, eX8_passes_203, eX8_passes_204, eX8_passes_207, eX8_passes_209, eX8_passes_210, eX8_passes_211, eX8_passes_214, eX8_passes_215, eX8_passes_216, eX8_passes_219, eX8_passes_220, eX8_passes_223, eX8_passes_224, eX8_passes_227, eX8_passes_229, eX8_passes_230, eX8_passes_231, eX8_passes_232, eX8_passes_235, eX8_passes_237, eX8_passes_238, eX8_passes_239, eX8_passes_240, eX8_passes_241, eX8_passes_242, c8_, c11_0, c11_1, c11_2, c11_3, c11_4, c11_5, c11_6, c11_7, c11_8, c11_9, alm_0, alm_1, alm_2, alm_3, alm_4, alm_5, alm_6, alm_7, alm_8, alm_9, vT, true_and, lit_10, nI_clamp, wMs_g hn, hgf, nI_1, wMs_pg hn]
          · rw [if_neg c, if_neg c]
            simp (disch := omega) only [wMs_pp hn, eX8_passes_0, eX8_passes_1, eX8_passes_4, eX8_passes_6, eX8_passes_7, eX8_passes_9, eX8_passes_10, eX8_passes_11, eX8_passes_12, eX8_passes_13, eX8_passes_14, eX8_passes_15, eX8_passes_18, eX8_passes_19, eX8_passes_20, eX8_passes_23, eX8_passes_24, eX8_passes_27, eX8_passes_29, eX8_passes_30, eX8_passes_31, eX8_passes_32, eX8_passes_33, eX8_passes_36, eX8_passes_37, eX8_passes_38, eX8_passes_41, eX8_passes_43, eX8_passes_44, eX8_passes_45, eX8_passes_46, eX8_passes_47, eX8_passes_50, eX8_passes_52, eX8_passes_53, eX8_passes_54, eX8_passes_55, eX8_passes_58, eX8_passes_59, eX8_passes_62, eX8_passes_65, eX8_passes_66, eX8_passes_67, eX8_passes_68, eX8_passes_69, eX8_passes_72, eX8_passes_73, eX8_passes_74, eX8_passes_77, eX8_passes_78, eX8_passes_81, eX8_passes_83, eX8_passes_84, eX8_passes_85, eX8_passes_86, eX8_passes_87, eX8_passes_90, eX8_passes_91, eX8_passes_92, eX8_passes_95, eX8_passes_97, eX8_passes_98, eX8_passes_99, eX8_passes_100, eX8_passes_101, eX8_passes_102, eX8_passes_105, eX8_passes_107, eX8_passes_108, eX8_passes_109, eX8_passes_110, eX8_passes_113, eX8_passes_116, eX8_passes_119, eX8_passes_122, eX8_passes_123, eX8_passes_125, eX8_passes_126, eX8_passes_129, eX8_passes_130, eX8_passes_131, eX8_passes_134, eX8_passes_135, eX8_passes_136, eX8_passes_139, eX8_passes_142, eX8_passes_143, eX8_passes_144, eX8_passes_145, eX8_passes_146, eX8_passes_149, eX8_passes_150, eX8_passes_153, eX8_passes_154, eX8_passes_157, eX8_passes_158, eX8_passes_161, eX8_passes_162, eX8_passes_163, eX8_passes_164, eX8_passes_165, eX8_passes_166, eX8_passes_169, eX8_passes_170, eX8_passes_172, eX8_passes_173, eX8_passes_174, eX8_passes_177, eX8_passes_178, eX8_passes_181, eX8_passes_182, eX8_passes_183, eX8_passes_184, eX8_passes_185, eX8_passes_186, eX8_passes_189, eX8_passes_190, eX8_passes_193, eX8_passes_194, eX8_passes_197, eX8_passes_200, eX8_passes_203, eX8_passes_204, eX8_passes_207, eX8_passes_209, eX8_passes_210, eX8_passes_211, eX8_passes_214, eX8_passes_215, eX8_passes_216, eX8_passes_219, eX8_passes_220, eX8_passes_223, eX8_passes_224, eX8_passes_227, eX8_passes_229, eX8_passes_230, eX8_passes_231, eX8_passes_232, eX8_passes_235, eX8_passes_237, eX8_passes_238, eX8_passes_239, eX8_passes_240, eX8_passes_241, eX8_passes_242, c8_, c11_0, c11_1, c11_2, c11_3, c11_4, c11_5, c11_6, c11_7, c11_8, c11_9, alm_0, alm_1, alm_2, alm_3, alm_4, alm_5, alm_6, alm_7, alm_8, alm_9, vT, true_and, lit_10, nI_clamp, wMs_g hn, hgf, nI_1, wMs_pg hn]
        | succ k ih =>
          intro t a3 et
          have hsf := OKs_fdN (τ := τ) (hr := σ.2.2 % 12) (n := t) hs2 (by omega)
          have T3 := (T' (fdN τ (σ.2.2 % 12) t ρ))
          have hkt := OKh_k K (show t < τ 7 0 by omega)
          have nx := ih (t + 1)
          rw [fdN] at nx
          rw [eX8_passes_124]
          simp (disch := omega) only [eX8_passes_0, eX8_passes_1, eX8_passes_4, eX8_passes_6, eX8_passes_7, eX8_passes_9, eX8_passes_10, eX8_passes_11, eX8_passes_12, eX8_passes_13, eX8_passes_14, eX8_passes_15, eX8_passes_18, eX8_passes_19, eX8_passes_20, eX8_passes_23, eX8_passes_24, eX8_passes_27, eX8_passes_29, eX8_passes_30, eX8_passes_31, eX8_passes_32, eX8_passes_33, eX8_passes_36, eX8_passes_37, eX8_passes_38, eX8_passes_41, eX8_passes_43, eX8_passes_44, eX8_passes_45, eX8_passes_46, eX8_passes_47, eX8_passes_50, eX8_passes_52, eX8_passes_53, eX8_passes_54, eX8_passes_55, eX8_passes_58, eX8_passes_59, eX8_passes_62, eX8_passes_65, eX8_passes_66, eX8_passes_67, eX8_passes_68, eX8_passes_69, eX8_passes_72, eX8_passes_73, eX8_passes_74, eX8_passes_77, eX8_passes_78, eX8_passes_81, eX8_passes_83, eX8_passes_84, eX8_passes_85, eX8_passes_86, eX8_passes_87, eX8_passes_90, eX8_passes_91, eX8_passes_92, eX8_passes_95, eX8_passes_97, eX8_passes_98, eX8_passes_99, eX8_passes_100, eX8_passes_101, eX8_passes_102, eX8_passes_105, eX8_passes_107, eX8_passes_108, eX8_passes_109, eX8_passes_110, eX8_passes_113, eX8_passes_116, eX8_passes_119, eX8_passes_122, eX8_passes_123, eX8_passes_125, eX8_passes_126, eX8_passes_129, eX8_passes_130, eX8_passes_131, eX8_passes_134, eX8_passes_135, eX8_passes_136, eX8_passes_139, eX8_passes_142, eX8_passes_143, eX8_passes_144, eX8_passes_145, eX8_passes_146, eX8_passes_149, eX8_passes_150, eX8_passes_153, eX8_passes_154, eX8_passes_157, eX8_passes_158, eX8_passes_161, eX8_passes_162, eX8_passes_163, eX8_passes_164, eX8_passes_165, eX8_passes_166, eX8_passes_169, eX8_passes_170, eX8_passes_172, eX8_passes_173, eX8_passes_174, eX8_passes_177, eX8_passes_178, eX8_passes_181, eX8_passes_182, eX8_passes_183, eX8_passes_184, eX8_passes_185, eX8_passes_186, eX8_passes_189, eX8_passes_190, eX8_passes_193, eX8_passes_194, eX8_passes_197, eX8_passes_200, eX8_passes_203, eX8_passes_204, eX8_passes_207, eX8_passes_209, eX8_passes_210, eX8_passes_211, eX8_passes_214, eX8_passes_215, eX8_passes_216, eX8_passes_219, eX8_passes_220, eX8_passes_223, eX8_passes_224, eX8_passes_227, eX8_passes_229, eX8_passes_230, eX8_passes_231, eX8_passes_232, eX8_passes_235, eX8_passes_237, eX8_passes_238, eX8_passes_239, eX8_passes_240, eX8_passes_241, eX8_passes_242, c8_, c11_0, c11_1, c11_2, c11_3, c11_4, c11_5, c11_6, c11_7, c11_8, c11_9, alm_0, alm_1, alm_2, alm_3, alm_4, alm_5, alm_6, alm_7, alm_8, alm_9, vT, true_and, lit_0, nI_clamp, T3.1, nI_leI, if_neg (show ¬ τ 7 0 ≤ t by omega), tX8_isPerson T3 K n1, hpB_nI K, psh_i, bi_0n, lit_2, lit_3, lit_4, lit_5, lit_6, lit_1, nI_add, nI_eq, T3.2.2.2.2.1 t (show t < τ 7 0 by omega), Nat.reduceEqDiff, not_false_iff, e3, e6, if_true, if_false, tX8_lightens hn hsf (show t < τ 7 0 by omega) (show 1 ≤ 9 by decide), tX8_lightens hn hsf (show t < τ 7 0 by omega) (show 0 ≤ 9 by decide), psh_u, liS_0]
          unfold fdB at nx
          cases hp : per τ t
          · rw [hp, if_neg (show ¬ false = true by decide)] at nx
            rw [if_pos rfl]
            by_cases a : τ 0 t = 3
            · by_cases b : σ.2.2 % 12 % 6 = 5
              · rw [decide_eq_true a, decide_eq_true b, if_pos (show (true && true) = true from rfl)] at nx
                rw [if_pos a, if_pos b]
                exact nx _ (by omega)
              · rw [decide_eq_true a, decide_eq_false b, if_neg (by decide)] at nx
                rw [if_pos a, if_neg b]
                exact nx _ (by omega)
            · rw [decide_eq_false a, Bool.and_false, if_neg (by decide)] at nx
              rw [if_neg a]
              exact nx _ (by omega)
          · rw [hp, if_pos rfl] at nx
            rw [if_neg (show ¬ true = false by decide)]
            by_cases b : σ.2.2 % 12 % 3 = 2
            · rw [decide_eq_true b, if_pos rfl] at nx
              rw [if_pos b]
              exact nx _ (by omega)
            · rw [decide_eq_false b, if_neg (by decide)] at nx
              rw [if_neg b]
              exact nx _ (by omega)
      exact go (τ 7 0) 0 _ (by omega)
end MO
