/-! the model's calls, 4 -/
section M4
variable {d G : Nat} {M : bM} {lt : Nat → Nat} {len n : Nat} {τ : Nat → Nat → Nat} {σ : sT} {pa : Nat → sT} {ph : Nat} {ka : Nat → sT} {kh : Nat} {ci cs : Nat → Nat} {cn : Nat} {Q : bV → bM → Prop}
theorem mX8_lightens {i by_ : Nat} (hn : n ≤ 9) (hs : OKs σ) (hi : i < n) (hb : by_ ≤ 9) (S : MS M n σ) : Run 1 (d + 1) 114 [vr 8 0, .inl (nI i), .inl (nI by_)] M Q = Q vu (wMs M n (liS i by_ σ)) := by
  have := tX8_lightens (d := d) (M := M) (Q := Q) hn hs hi hb
  rwa [wMs_id S] at this
theorem vX8_wash {x : Int32} (C : MA M lt len τ σ pa ph ka kh ci cs cn) (V : VA G τ σ pa ph ka kh ci cs cn)
    (hQ : (hpB x τ = false → Q (.inl (-1)) M) ∧ ∀ a, a < τ 7 0 → per τ a = true → x = nI a → ∀ M', MA M' lt len τ (liS a (wby τ a) σ) (pushP 8 pa ph σ) (pushH 8 ph) ka kh ci cs cn → Eqx mdS M M' → Q (.inl (nI (σ.1 a - wby τ a))) M') : Run 1 (d + 4) 119 [vr 8 0, .inl x] M Q := by
  obtain ⟨P, T, S, P0, P1, L⟩ := id C
  obtain ⟨K, n1, hs, hg, -⟩ := V
  have hn := K.1
  rw [rX8_wash]
  simp only [eX8_wash_0, eX8_wash_1, eX8_wash_2, eX8_wash_5, eX8_wash_8, eX8_wash_9, eX8_wash_10, eX8_wash_11, eX8_wash_14, eX8_wash_15, eX8_wash_16, eX8_wash_17, eX8_wash_18, eX8_wash_21, eX8_wash_24, eX8_wash_25, eX8_wash_28, eX8_wash_29, eX8_wash_30, c8_, c11_0, c11_1, c11_2, c11_3, c11_4, c11_5, c11_6, c11_7, c11_8, c11_9, alm_0, alm_1, alm_2, alm_3, alm_4, alm_5, alm_6, alm_7, alm_8, alm_9, vT, true_and, tX8_isPerson T K n1, psh_i, bi_0]
  rcases hpB_cases K x with ⟨a, ha, hp, rfl, e⟩ | e
  · rw [e, if_neg (by decide)]
    have hwb := wby_le τ a
    refine tX8_keeps hn S P0 (fun M1 x1 P' => ?_)
    have S1 := MS_x x1 (by omega) S
    have T1 := MT_x x1 (by omega) T
    have e1 : (liS a (wby τ a) σ).1 a = σ.1 a - wby τ a := upN_eq
    simp (disch := omega) only [psh_u, eX8_wash_0, eX8_wash_1, eX8_wash_2, eX8_wash_5, eX8_wash_8, eX8_wash_9, eX8_wash_10, eX8_wash_11, eX8_wash_14, eX8_wash_15, eX8_wash_16, eX8_wash_17, eX8_wash_18, eX8_wash_21, eX8_wash_24, eX8_wash_25, eX8_wash_28, eX8_wash_29, eX8_wash_30, c8_, c11_0, c11_1, c11_2, c11_3, c11_4, c11_5, c11_6, c11_7, c11_8, c11_9, alm_0, alm_1, alm_2, alm_3, alm_4, alm_5, alm_6, alm_7, alm_8, alm_9, vT, true_and, tX8_washesBy T1 K ha, psh_i, mX8_lightens hn hs ha (show wby τ a ≤ 9 by omega) S1, nI_clamp, wMs_s ha, e1]
    have xx : Mx (fun a => a = 3 ∨ a = 4 ∨ 7 ≤ a) (fun f => f = 6 ∨ f = 11) M (wMs M1 (τ 7 0) (liS a (wby τ a) σ)) := Mx_n x1 nw4 (Or.inl rfl)
    exact hQ.2 a ha hp rfl _ (MA_now C xx (MS_w hn) (MIs_w (by decide) P')) (Mx_E xx)
  · rw [if_pos e]
    exact hQ.1 e
theorem vX8_powder {x : Int32} (C : MA M lt len τ σ pa ph ka kh ci cs cn) (V : VA G τ σ pa ph ka kh ci cs cn)
    (hQ : (hpB x τ = false → Q (.inl (-1)) M) ∧ ∀ a, a < τ 7 0 → per τ a = true → x = nI a → (σ.2.1.testBit a = true → Q (.inl (-2)) M) ∧ (σ.2.1.testBit a = false → ∀ M', MA M' lt len τ (σ.1, σ.2.1 ||| 2 ^ a, σ.2.2) (pushP 8 pa ph σ) (pushH 8 ph) ka kh ci cs cn → Eqx mdS M M' → Q (.inl (nI (bcN (σ.2.1 ||| 2 ^ a)))) M')) : Run 1 (d + 4) 121 [vr 8 0, .inl x] M Q := by
  obtain ⟨P, T, S, P0, P1, L⟩ := id C
  obtain ⟨K, n1, hs, hg, -⟩ := V
  have hn := K.1
  have hp := hs.2
  rw [rX8_powder]
  simp only [eX8_powder_0, eX8_powder_1, eX8_powder_2, eX8_powder_5, eX8_powder_8, eX8_powder_9, eX8_powder_10, eX8_powder_11, eX8_powder_14, eX8_powder_16, eX8_powder_17, eX8_powder_18, eX8_powder_19, eX8_powder_20, eX8_powder_21, eX8_powder_22, eX8_powder_25, eX8_powder_27, eX8_powder_28, eX8_powder_29, eX8_powder_32, eX8_powder_33, eX8_powder_36, eX8_powder_38, eX8_powder_39, eX8_powder_40, eX8_powder_41, eX8_powder_42, eX8_powder_43, eX8_powder_44, eX8_powder_45, eX8_powder_46, eX8_powder_49, eX8_powder_51, eX8_powder_52, eX8_powder_55, c8_, c11_0, c11_1, c11_2, c11_3, c11_4, c11_5, c11_6, c11_7, c11_8, c11_9, alm_0, alm_1, alm_2, alm_3, alm_4, alm_5, alm_6, alm_7, alm_8, alm_9, vT, true_and, tX8_isPerson T K n1, psh_i, bi_0]
  rcases hpB_cases K x with ⟨a, ha, hp', rfl, e⟩ | e
  · have hQ := hQ.2 a ha hp' rfl
    have e9 : (9 : Int32) = nI 9 := rfl
    rw [e, if_neg (by decide)]
    simp (disch := omega) only [e9, vT, true_and, nI_clamp, S.2.1, pow_s hp (show a < 9 by omega)]
    cases hb : σ.2.1.testBit a
    · rw [if_neg (by decide)]
      refine tX8_keeps hn S P0 (fun M1 x1 P' => ?_)
      have S1 := MS_x x1 (by omega) S
      have hl := pow_l hp (show a < 9 by omega)
      have pp : sI M1 11 3 9 (nI (σ.2.1 ||| 2 ^ a)) = wMs M1 (τ 7 0) (σ.1, σ.2.1 ||| 2 ^ a, σ.2.2) := by
        have := wMs_pp (M := M1) (σ := σ) (p := σ.2.1 ||| 2 ^ a) hn
        rwa [wMs_id S1] at this
      have xx : Mx (fun a => a = 3 ∨ a = 4 ∨ 7 ≤ a) (fun f => f = 6 ∨ f = 11) M (wMs M1 (τ 7 0) (σ.1, σ.2.1 ||| 2 ^ a, σ.2.2)) := Mx_n x1 nw4 (Or.inl rfl)
      have := hQ.2 hb _ (MA_now C xx (MS_w hn) (MIs_w (by decide) P')) (Mx_E xx)
      simp (disch := omega) only [psh_u, eX8_powder_0, eX8_powder_1, eX8_powder_2, eX8_powder_5, eX8_powder_8, eX8_powder_9, eX8_powder_10, eX8_powder_11, eX8_powder_14, eX8_powder_16, eX8_powder_17, eX8_powder_18, eX8_powder_19, eX8_powder_20, eX8_powder_21, eX8_powder_22, eX8_powder_25, eX8_powder_27, eX8_powder_28, eX8_powder_29, eX8_powder_32, eX8_powder_33, eX8_powder_36, eX8_powder_38, eX8_powder_39, eX8_powder_40, eX8_powder_41, eX8_powder_42, eX8_powder_43, eX8_powder_44, eX8_powder_45, eX8_powder_46, eX8_powder_49, eX8_powder_51, eX8_powder_52, eX8_powder_55, c8_, c11_0, c11_1, c11_2, c11_3, c11_4, c11_5, c11_6, c11_7, c11_8, c11_9, alm_0, alm_1, alm_2, alm_3, alm_4, alm_5, alm_6, alm_7, alm_8, alm_9, vT, true_and, e9, nI_clamp, S1.2.1, pow_o hp (show a < 9 by omega), pp, wMs_p hn, tX8_ones hl, psh_i]
      exact this
    · rw [if_pos (by decide)]
      exact hQ.1 hb
  · rw [if_pos e]
    exact hQ.1 e
theorem asz {M : bM} {a lo : Nat} {f : Nat → Int32} {c i j : Nat} (h : c ≠ 11) {n : Nat} : gI (aset M a lo n f) c i j = gI M c i j := by rw [gI_aset, if_neg (fun q => h q.1)]
theorem vX8_undo (C : MA M lt len τ σ pa ph ka kh ci cs cn) (hn : τ 7 0 ≤ 9)
    (hQ : (ph = 0 → Q (.inl (-2)) M) ∧ ∀ k, ph = k + 1 → ∀ M', MA M' lt len τ (pa k) pa k ka kh ci cs cn → Eqx mdS M M' → Q (.inl (nI k)) M') : Run 1 (d + 1) 122 [vr 8 0] M Q := by
  obtain ⟨P, T, S, P0, P1, L⟩ := id C
  have hc := P0.2.1
  rw [rX8_undo]
  cases ph with
  | zero =>
    simp only [eX8_undo_0, eX8_undo_1, eX8_undo_4, eX8_undo_7, eX8_undo_9, eX8_undo_10, eX8_undo_11, eX8_undo_11r, eX8_undo_12, eX8_undo_15, eX8_undo_16, eX8_undo_17, eX8_undo_20, eX8_undo_21, eX8_undo_23, eX8_undo_25, eX8_undo_28, eX8_undo_29, eX8_undo_32, eX8_undo_33, eX8_undo_34, eX8_undo_37, eX8_undo_39, eX8_undo_40, eX8_undo_43, eX8_undo_44, eX8_undo_45, eX8_undo_46, eX8_undo_47, eX8_undo_48, eX8_undo_51, eX8_undo_54, eX8_undo_55, eX8_undo_58, c8_, c11_0, c11_1, c11_2, c11_3, c11_4, c11_5, c11_6, c11_7, c11_8, c11_9, alm_0, alm_1, alm_2, alm_3, alm_4, alm_5, alm_6, alm_7, alm_8, alm_9, vT, true_and, P0.1, show (nI 0 = (0 : Int32)) = True from eq_true rfl, if_true]
    exact hQ.1 rfl
  | succ k =>
    have e1 : nI (k + 1) - 1 = nI k := pk_sub (a := k + 1) (b := 1) (by omega)
    have e0 : (nI (k + 1) = nI 0) = False := eq_false (by rw [nI_eq (by omega) (by decide)]; omega)
    simp only [eX8_undo_0, eX8_undo_1, eX8_undo_4, eX8_undo_7, eX8_undo_9, eX8_undo_10, eX8_undo_11, eX8_undo_11r, eX8_undo_12, eX8_undo_15, eX8_undo_16, eX8_undo_17, eX8_undo_20, eX8_undo_21, eX8_undo_23, eX8_undo_25, eX8_undo_28, eX8_undo_29, eX8_undo_32, eX8_undo_33, eX8_undo_34, eX8_undo_37, eX8_undo_39, eX8_undo_40, eX8_undo_43, eX8_undo_44, eX8_undo_45, eX8_undo_46, eX8_undo_47, eX8_undo_48, eX8_undo_51, eX8_undo_54, eX8_undo_55, eX8_undo_58, c8_, c11_0, c11_1, c11_2, c11_3, c11_4, c11_5, c11_6, c11_7, c11_8, c11_9, alm_0, alm_1, alm_2, alm_3, alm_4, alm_5, alm_6, alm_7, alm_8, alm_9, vT, true_and, P0.1, e0, if_false, e1, lit_0]
    generalize hM0 : sI M 8 0 6 (nI k) = M0
    have x0 : Mx (fun a => a = 3 ∨ a = 4 ∨ 7 ≤ a) (fun f => f = 6 ∨ f = 11) M M0 := by subst hM0; exact Mx_f (Or.inl rfl)
    have xz : Mx (fun a => a = 99) (fun f => f = 6) M M0 := by subst hM0; exact Mx_f rfl
    have g6 : gI M0 8 0 6 = nI k := by subst hM0; rw [gI_sI, if_pos ⟨rfl, rfl, rfl⟩]
    have up : ExG 1 (Run 1 d) 8 1 false none cX8_undo Q 22 [vr 8 0, .inl (nI 0)] [] (aset M0 3 0 0 (fun j => gI M0 11 4 (11 * k + j))) = Q (.inl (nI k)) (aset M0 3 0 11 (fun j => gI M0 11 4 (11 * k + j))) := by
      refine (eq_up (fun i => ExG 1 (Run 1 d) 8 1 false none cX8_undo Q 22 [vr 8 0, .inl (nI i)] [] (aset M0 3 0 i (fun j => gI M0 11 4 (11 * k + j)))) (Nat.zero_le 11) (fun i _ hi => ?_)).trans ?_
      · have e3 : gI (aset M0 3 0 i (fun j => gI M0 11 4 (11 * k + j))) 11 4 (11 * k + i) = gI M0 11 4 (11 * k + i) := by rw [gI_aset, if_neg (by omega)]
        have e4 : gI (aset M0 3 0 i (fun j => gI M0 11 4 (11 * k + j))) 8 0 6 = nI k := (asz (by decide)).trans g6
        rw [eX8_undo_22]
        simp (disch := omega) only [eX8_undo_0, eX8_undo_1, eX8_undo_4, eX8_undo_7, eX8_undo_9, eX8_undo_10, eX8_undo_11, eX8_undo_11r, eX8_undo_12, eX8_undo_15, eX8_undo_16, eX8_undo_17, eX8_undo_20, eX8_undo_21, eX8_undo_23, eX8_undo_25, eX8_undo_28, eX8_undo_29, eX8_undo_32, eX8_undo_33, eX8_undo_34, eX8_undo_37, eX8_undo_39, eX8_undo_40, eX8_undo_43, eX8_undo_44, eX8_undo_45, eX8_undo_46, eX8_undo_47, eX8_undo_48, eX8_undo_51, eX8_undo_54, eX8_undo_55, eX8_undo_58, c8_, c11_0, c11_1, c11_2, c11_3, c11_4, c11_5, c11_6, c11_7, c11_8, c11_9, alm_0, alm_1, alm_2, alm_3, alm_4, alm_5, alm_6, alm_7, alm_8, alm_9, vT, true_and, lit_11, nI_leI, if_neg (show ¬ 11 ≤ i by omega), e4, pk_mul, nI_add, nI_clamp, nI_1, e3]
        have := aset_s M0 3 0 i (fun j => gI M0 11 4 (11 * k + j)) (v := gI M0 11 4 (11 * k + i)) (by rw [Nat.zero_add])
        rw [Nat.zero_add] at this
        rw [this]
      · have e4 : gI (aset M0 3 0 11 (fun j => gI M0 11 4 (11 * k + j))) 8 0 6 = nI k := (asz (by decide)).trans g6
        rw [eX8_undo_22]
        simp (disch := omega) only [eX8_undo_0, eX8_undo_1, eX8_undo_4, eX8_undo_7, eX8_undo_9, eX8_undo_10, eX8_undo_11, eX8_undo_11r, eX8_undo_12, eX8_undo_15, eX8_undo_16, eX8_undo_17, eX8_undo_20, eX8_undo_21, eX8_undo_23, eX8_undo_25, eX8_undo_28, eX8_undo_29, eX8_undo_32, eX8_undo_33, eX8_undo_34, eX8_undo_37, eX8_undo_39, eX8_undo_40, eX8_undo_43, eX8_undo_44, eX8_undo_45, eX8_undo_46, eX8_undo_47, eX8_undo_48, eX8_undo_51, eX8_undo_54, eX8_undo_55, eX8_undo_58, c8_, c11_0, c11_1, c11_2, c11_3, c11_4, c11_5, c11_6, c11_7, c11_8, c11_9, alm_0, alm_1, alm_2, alm_3, alm_4, alm_5, alm_6, alm_7, alm_8, alm_9, vT, true_and, lit_11, nI_leI, Nat.le_refl, if_true, e4]
    rw [aset_0] at up
    rw [up]
    have x1 : Mx (fun a => a = 3 ∨ a = 4 ∨ 7 ≤ a) (fun f => f = 6 ∨ f = 11) M0 (aset M0 3 0 11 (fun j => gI M0 11 4 (11 * k + j))) := Mx_as (Or.inl rfl)
    have x1' : Mx (fun a => a = 3) (fun f => f = 99) M0 (aset M0 3 0 11 (fun j => gI M0 11 4 (11 * k + j))) := Mx_as rfl
    refine hQ.2 k rfl _ (MA_now C (Mx_tr x0 x1) (MS_get hn (MI_x xz (by omega) (P0.2.2 k (by omega)))) (MIs_x x1' (by omega) (by omega) ⟨g6, by omega, fun j hj => MI_x xz (by omega) (P0.2.2 j (by omega))⟩)) (Mx_E (Mx_tr x0 x1))
theorem vX8_keep (C : MA M lt len τ σ pa ph ka kh ci cs cn) (hn : τ 7 0 ≤ 9)
    (hQ : (kh = 2 → Q (.inl (-3)) M) ∧ (¬ kh = 2 → kh < 2 → ∀ M', MA M' lt len τ σ pa ph (pushP 2 ka kh σ) (pushH 2 kh) ci cs cn → Eqx mdS M M' → Q (.inl (nI (pushH 2 kh))) M')) : Run 1 (d + 1) 141 [vr 8 0] M Q := by
  obtain ⟨P, T, S, P0, P1, L⟩ := id C
  have hc := P1.2.1
  rw [rX8_keep]
  by_cases q : kh = 2
  · simp (disch := omega) only [eX8_keep_0, eX8_keep_1, eX8_keep_4, eX8_keep_5, eX8_keep_8, eX8_keep_10, eX8_keep_11, eX8_keep_12, eX8_keep_14, eX8_keep_16, eX8_keep_19, eX8_keep_20, eX8_keep_23, eX8_keep_25, eX8_keep_26, eX8_keep_29, eX8_keep_30, eX8_keep_31, eX8_keep_32, eX8_keep_33, eX8_keep_36, eX8_keep_37, eX8_keep_38, eX8_keep_39, eX8_keep_42, eX8_keep_45, eX8_keep_46, eX8_keep_46r, eX8_keep_47, eX8_keep_50, eX8_keep_51, eX8_keep_52, eX8_keep_55, eX8_keep_56, eX8_keep_59, c8_, c11_0, c11_1, c11_2, c11_3, c11_4, c11_5, c11_6, c11_7, c11_8, c11_9, alm_0, alm_1, alm_2, alm_3, alm_4, alm_5, alm_6, alm_7, alm_8, alm_9, vT, true_and, P1.1, lit_2, nI_eq, if_pos q]
    exact hQ.1 q
  · simp (disch := omega) only [eX8_keep_0, eX8_keep_1, eX8_keep_4, eX8_keep_5, eX8_keep_8, eX8_keep_10, eX8_keep_11, eX8_keep_12, eX8_keep_14, eX8_keep_16, eX8_keep_19, eX8_keep_20, eX8_keep_23, eX8_keep_25, eX8_keep_26, eX8_keep_29, eX8_keep_30, eX8_keep_31, eX8_keep_32, eX8_keep_33, eX8_keep_36, eX8_keep_37, eX8_keep_38, eX8_keep_39, eX8_keep_42, eX8_keep_45, eX8_keep_46, eX8_keep_46r, eX8_keep_47, eX8_keep_50, eX8_keep_51, eX8_keep_52, eX8_keep_55, eX8_keep_56, eX8_keep_59, c8_, c11_0, c11_1, c11_2, c11_3, c11_4, c11_5, c11_6, c11_7, c11_8, c11_9, alm_0, alm_1, alm_2, alm_3, alm_4, alm_5, alm_6, alm_7, alm_8, alm_9, vT, true_and, P1.1, lit_2, nI_eq, if_neg q, lit_0]
    have e8 : ∀ i, gI (aset M 5 (11 * kh) i (fun j => gI M 11 3 (j - 11 * kh))) 8 0 8 = nI kh := fun i => (asz (by decide)).trans P1.1
    have up : ExG 1 (Run 1 d) 8 1 false none cX8_keep Q 13 [vr 8 0, .inl (nI 0)] [] (aset M 5 (11 * kh) 0 (fun j => gI M 11 3 (j - 11 * kh))) = Q (.inl (nI (kh + 1))) (sI (aset M 5 (11 * kh) 11 (fun j => gI M 11 3 (j - 11 * kh))) 8 0 8 (nI (kh + 1))) := by
      refine (eq_up (fun i => ExG 1 (Run 1 d) 8 1 false none cX8_keep Q 13 [vr 8 0, .inl (nI i)] [] (aset M 5 (11 * kh) i (fun j => gI M 11 3 (j - 11 * kh)))) (Nat.zero_le 11) (fun i _ hi => ?_)).trans ?_
      · have e3 : gI (aset M 5 (11 * kh) i (fun j => gI M 11 3 (j - 11 * kh))) 11 3 i = gI M 11 3 i := by rw [gI_aset, if_neg (by omega)]
        rw [eX8_keep_13]
        simp (disch := omega) only [eX8_keep_0, eX8_keep_1, eX8_keep_4, eX8_keep_5, eX8_keep_8, eX8_keep_10, eX8_keep_11, eX8_keep_12, eX8_keep_14, eX8_keep_16, eX8_keep_19, eX8_keep_20, eX8_keep_23, eX8_keep_25, eX8_keep_26, eX8_keep_29, eX8_keep_30, eX8_keep_31, eX8_keep_32, eX8_keep_33, eX8_keep_36, eX8_keep_37, eX8_keep_38, eX8_keep_39, eX8_keep_42, eX8_keep_45, eX8_keep_46, eX8_keep_46r, eX8_keep_47, eX8_keep_50, eX8_keep_51, eX8_keep_52, eX8_keep_55, eX8_keep_56, eX8_keep_59, c8_, c11_0, c11_1, c11_2, c11_3, c11_4, c11_5, c11_6, c11_7, c11_8, c11_9, alm_0, alm_1, alm_2, alm_3, alm_4, alm_5, alm_6, alm_7, alm_8, alm_9, vT, true_and, lit_11, nI_leI, if_neg (show ¬ 11 ≤ i by omega), e8, pk_mul, nI_add, nI_clamp, nI_1, e3]
        rw [aset_s _ _ _ _ _ (by rw [show 11 * kh + i - 11 * kh = i by omega])]
      · have e9 : ∀ {M : bM} {v : Int32}, gI (sI M 8 0 8 v) 8 0 8 = v := by intro M v; rw [gI_sI, if_pos ⟨rfl, rfl, rfl⟩]
        rw [eX8_keep_13]
        simp (disch := omega) only [eX8_keep_0, eX8_keep_1, eX8_keep_4, eX8_keep_5, eX8_keep_8, eX8_keep_10, eX8_keep_11, eX8_keep_12, eX8_keep_14, eX8_keep_16, eX8_keep_19, eX8_keep_20, eX8_keep_23, eX8_keep_25, eX8_keep_26, eX8_keep_29, eX8_keep_30, eX8_keep_31, eX8_keep_32, eX8_keep_33, eX8_keep_36, eX8_keep_37, eX8_keep_38, eX8_keep_39, eX8_keep_42, eX8_keep_45, eX8_keep_46, eX8_keep_46r, eX8_keep_47, eX8_keep_50, eX8_keep_51, eX8_keep_52, eX8_keep_55, eX8_keep_56, eX8_keep_59, c8_, c11_0, c11_1, c11_2, c11_3, c11_4, c11_5, c11_6, c11_7, c11_8, c11_9, alm_0, alm_1, alm_2, alm_3, alm_4, alm_5, alm_6, alm_7, alm_8, alm_9, vT, true_and, lit_11, nI_leI, Nat.le_refl, if_true, e8, nI_1, e9]
    rw [aset_0] at up
    rw [up]
    have x2 : Mx (fun a => a = 5) (fun f => f = 8) M (sI (aset M 5 (11 * kh) 11 (fun j => gI M 11 3 (j - 11 * kh))) 8 0 8 (nI (kh + 1))) := Mx_tr (Mx_as rfl) (Mx_f rfl)
    have xf : Mx (fun a => a = 99) (fun f => f = 8) (aset M 5 (11 * kh) 11 (fun j => gI M 11 3 (j - 11 * kh))) (sI (aset M 5 (11 * kh) 11 (fun j => gI M 11 3 (j - 11 * kh))) 8 0 8 (nI (kh + 1))) := Mx_f rfl
    have ep : pushH 2 kh = kh + 1 := if_neg q
    have := hQ.2 q (by omega) _ ⟨MPg_x x2 (by omega) (by omega) P, MT_x x2 (by omega) T, MS_x x2 (by omega) S, MIs_x x2 (by omega) (by omega) P0, ⟨by rw [gI_sI, if_pos ⟨rfl, rfl, rfl⟩, ep], by omega, fun j hj => ?_⟩, MCl_x x2 (by omega) (by omega) L⟩ (Mx_E x2)
    · rw [ep] at this
      exact this
    · refine MI_x xf (by omega) ?_
      unfold pushP
      rw [if_neg q]
      by_cases w : j = kh
      · subst w
        simp only [if_true]
        exact MI_put hn S
      · simp only [if_neg w]
        exact MI_stay hn (by omega) (P1.2.2 j (by omega))
theorem vX8_back (C : MA M lt len τ σ pa ph ka kh ci cs cn) (hn : τ 7 0 ≤ 9)
    (hQ : (kh = 0 → Q (.inl (-2)) M) ∧ ∀ k, kh = k + 1 → ∀ M', MA M' lt len τ (ka k) pa 0 ka k ci cs cn → Eqx mdS M M' → Q (.inl (nI k)) M') : Run 1 (d + 1) 142 [vr 8 0] M Q := by
  obtain ⟨P, T, S, P0, P1, L⟩ := id C
  have hc := P1.2.1
  rw [rX8_back]
  cases kh with
  | zero =>
    simp only [eX8_back_0, eX8_back_1, eX8_back_4, eX8_back_7, eX8_back_9, eX8_back_10, eX8_back_11, eX8_back_11r, eX8_back_12, eX8_back_15, eX8_back_16, eX8_back_17, eX8_back_20, eX8_back_21, eX8_back_23, eX8_back_25, eX8_back_28, eX8_back_29, eX8_back_32, eX8_back_33, eX8_back_34, eX8_back_37, eX8_back_39, eX8_back_40, eX8_back_43, eX8_back_44, eX8_back_45, eX8_back_46, eX8_back_47, eX8_back_48, eX8_back_51, eX8_back_54, eX8_back_55, eX8_back_56, eX8_back_59, eX8_back_60, eX8_back_63, c8_, c11_0, c11_1, c11_2, c11_3, c11_4, c11_5, c11_6, c11_7, c11_8, c11_9, alm_0, alm_1, alm_2, alm_3, alm_4, alm_5, alm_6, alm_7, alm_8, alm_9, vT, true_and, P1.1, show (nI 0 = (0 : Int32)) = True from eq_true rfl, if_true]
    exact hQ.1 rfl
  | succ k =>
    have e1 : nI (k + 1) - 1 = nI k := pk_sub (a := k + 1) (b := 1) (by omega)
    have e0 : (nI (k + 1) = nI 0) = False := eq_false (by rw [nI_eq (by omega) (by decide)]; omega)
    simp only [eX8_back_0, eX8_back_1, eX8_back_4, eX8_back_7, eX8_back_9, eX8_back_10, eX8_back_11, eX8_back_11r, eX8_back_12, eX8_back_15, eX8_back_16, eX8_back_17, eX8_back_20, eX8_back_21, eX8_back_23, eX8_back_25, eX8_back_28, eX8_back_29, eX8_back_32, eX8_back_33, eX8_back_34, eX8_back_37, eX8_back_39, eX8_back_40, eX8_back_43, eX8_back_44, eX8_back_45, eX8_back_46, eX8_back_47, eX8_back_48, eX8_back_51, eX8_back_54, eX8_back_55, eX8_back_56, eX8_back_59, eX8_back_60, eX8_back_63, c8_, c11_0, c11_1, c11_2, c11_3, c11_4, c11_5, c11_6, c11_7, c11_8, c11_9, alm_0, alm_1, alm_2, alm_3, alm_4, alm_5, alm_6, alm_7, alm_8, alm_9, vT, true_and, P1.1, e0, if_false, e1, lit_0]
    generalize hM0 : sI M 8 0 8 (nI k) = M0
    have xz : Mx (fun a => a = 99) (fun f => f = 8) M M0 := by subst hM0; exact Mx_f rfl
    have g6 : gI M0 8 0 8 = nI k := by subst hM0; rw [gI_sI, if_pos ⟨rfl, rfl, rfl⟩]
    have up : ExG 1 (Run 1 d) 8 1 false none cX8_back Q 22 [vr 8 0, .inl (nI 0)] [] (aset M0 3 0 0 (fun j => gI M0 11 5 (11 * k + j))) = Q (.inl (nI k)) (sI (aset M0 3 0 11 (fun j => gI M0 11 5 (11 * k + j))) 8 0 6 (nI 0)) := by
      refine (eq_up (fun i => ExG 1 (Run 1 d) 8 1 false none cX8_back Q 22 [vr 8 0, .inl (nI i)] [] (aset M0 3 0 i (fun j => gI M0 11 5 (11 * k + j)))) (Nat.zero_le 11) (fun i _ hi => ?_)).trans ?_
      · have e3 : gI (aset M0 3 0 i (fun j => gI M0 11 5 (11 * k + j))) 11 5 (11 * k + i) = gI M0 11 5 (11 * k + i) := by rw [gI_aset, if_neg (by omega)]
        have e4 : gI (aset M0 3 0 i (fun j => gI M0 11 5 (11 * k + j))) 8 0 8 = nI k := (asz (by decide)).trans g6
        rw [eX8_back_22]
        simp (disch := omega) only [eX8_back_0, eX8_back_1, eX8_back_4, eX8_back_7, eX8_back_9, eX8_back_10, eX8_back_11, eX8_back_11r, eX8_back_12, eX8_back_15, eX8_back_16, eX8_back_17, eX8_back_20, eX8_back_21, eX8_back_23, eX8_back_25, eX8_back_28, eX8_back_29, eX8_back_32, eX8_back_33, eX8_back_34, eX8_back_37, eX8_back_39, eX8_back_40, eX8_back_43, eX8_back_44, eX8_back_45, eX8_back_46, eX8_back_47, eX8_back_48, eX8_back_51, eX8_back_54, eX8_back_55, eX8_back_56, eX8_back_59, eX8_back_60, eX8_back_63, c8_, c11_0, c11_1, c11_2, c11_3, c11_4, c11_5, c11_6, c11_7, c11_8, c11_9, alm_0, alm_1, alm_2, alm_3, alm_4, alm_5, alm_6, alm_7, alm_8, alm_9, vT, true_and, lit_11, nI_leI, if_neg (show ¬ 11 ≤ i by omega), e4, pk_mul, nI_add, nI_clamp, nI_1, e3]
        have := aset_s M0 3 0 i (fun j => gI M0 11 5 (11 * k + j)) (v := gI M0 11 5 (11 * k + i)) (by rw [Nat.zero_add])
        rw [Nat.zero_add] at this
        rw [this]
      · have e4 : gI (sI (aset M0 3 0 11 (fun j => gI M0 11 5 (11 * k + j))) 8 0 6 (nI 0)) 8 0 8 = nI k := by rw [gI_sI, if_neg (by omega)]; exact (asz (by decide)).trans g6
        rw [eX8_back_22]
        simp (disch := omega) only [eX8_back_0, eX8_back_1, eX8_back_4, eX8_back_7, eX8_back_9, eX8_back_10, eX8_back_11, eX8_back_11r, eX8_back_12, eX8_back_15, eX8_back_16, eX8_back_17, eX8_back_20, eX8_back_21, eX8_back_23, eX8_back_25, eX8_back_28, eX8_back_29, eX8_back_32, eX8_back_33, eX8_back_34, eX8_back_37, eX8_back_39, eX8_back_40, eX8_back_43, eX8_back_44, eX8_back_45, eX8_back_46, eX8_back_47, eX8_back_48, eX8_back_51, eX8_back_54, eX8_back_55, eX8_back_56, eX8_back_59, eX8_back_60, eX8_back_63, c8_, c11_0, c11_1, c11_2, c11_3, c11_4, c11_5, c11_6, c11_7, c11_8, c11_9, alm_0, alm_1, alm_2, alm_3, alm_4, alm_5, alm_6, alm_7, alm_8, alm_9, vT, true_and, lit_11, nI_leI, Nat.le_refl, if_true, lit_0, e4]
    rw [aset_0] at up
    rw [up]
    generalize hM1 : aset M0 3 0 11 (fun j => gI M0 11 5 (11 * k + j)) = M1
    have S1 : MS M1 (τ 7 0) (ka k) := by subst hM1; exact MS_get hn (MI_x xz (by omega) (P1.2.2 k (by omega)))
    have x1 : Mx (fun a => a = 3) (fun f => f = 99) M0 M1 := by subst hM1; exact Mx_as rfl
    have x2 : Mx (fun a => a = 99) (fun f => f = 6) M1 (sI M1 8 0 6 (nI 0)) := Mx_f rfl
    have xx : Mx (fun a => a = 3 ∨ a = 99) (fun f => f = 6 ∨ f = 8 ∨ f = 99) M (sI M1 8 0 6 (nI 0)) := Mx_tr (Mx_tr (Mx_mo xz (fun a q => Or.inr q) (fun f q => Or.inr (Or.inl q))) (Mx_mo x1 (fun a q => Or.inl q) (fun f q => Or.inr (Or.inr q)))) (Mx_mo x2 (fun a q => Or.inr q) (fun f q => Or.inl q))
    refine hQ.2 k rfl _ ⟨MPg_x xx (by omega) (by omega) P, MT_x xx (by omega) T, MS_x x2 (by omega) S1, ⟨by rw [gI_sI, if_pos ⟨rfl, rfl, rfl⟩], by decide, fun j hj => by omega⟩, ⟨?_, by omega, fun j hj => MI_x xx (by omega) (P1.2.2 j (by omega))⟩, MCl_x xx (by omega) (by omega) L⟩ (Mx_E xx)
    rw [gI_sI, if_neg (by omega)]
    exact (x1.2.2.1 8 (by omega)).trans g6
theorem vX8_pass {x : Int32} (C : MA M lt len τ σ pa ph ka kh ci cs cn) (V : VA G τ σ pa ph ka kh ci cs cn) (hG : G < 2 ^ 28)
    (hQ : ((x < 1 ∨ 24 < x) → Q (.inl (-1)) M) ∧ ∀ n, 1 ≤ n → n ≤ 24 → x = nI n → ∀ M', MA M' lt len τ (hrN τ n σ) (pushP 8 pa ph σ) (pushH 8 ph) ka kh ci cs cn → Eqx mdS M M' → Q (.inl (nI ((hrN τ n σ).2.2 % 12))) M') : Run 1 (d + 5) 117 [vr 8 0, .inl x] M Q := by
  obtain ⟨P, T, S, P0, P1, L⟩ := id C
  obtain ⟨K, n1, hs, hg, -⟩ := V
  have hn := K.1
  rw [rX8_pass]
  simp only [eX8_pass_0, eX8_pass_1, eX8_pass_2, eX8_pass_4, eX8_pass_7, eX8_pass_10, eX8_pass_11, eX8_pass_12, eX8_pass_13, eX8_pass_16, eX8_pass_17, eX8_pass_19, eX8_pass_20, eX8_pass_23, eX8_pass_24, eX8_pass_27, eX8_pass_30, eX8_pass_33, eX8_pass_34, eX8_pass_37, eX8_pass_39, eX8_pass_40, eX8_pass_42, eX8_pass_43, c8_, c11_0, c11_1, c11_2, c11_3, c11_4, c11_5, c11_6, c11_7, c11_8, c11_9, alm_0, alm_1, alm_2, alm_3, alm_4, alm_5, alm_6, alm_7, alm_8, alm_9, vT, true_and, tX8_in, psh_i, bi_0]
  unfold inB
  by_cases a : x < 1
  · rw [decide_eq_false (not_not_intro a), Bool.false_and, if_pos rfl]
    exact hQ.1 (Or.inl a)
  · by_cases b : 24 < x
    · rw [decide_eq_false (not_not_intro b), Bool.and_false, if_pos rfl]
      exact hQ.1 (Or.inr b)
    · obtain ⟨m, hm1, hm2, rfl⟩ : ∃ n, 1 ≤ n ∧ n ≤ 24 ∧ x = nI n := by
        have b2 : x ≤ 24 := by rw [← Int32.not_lt]; exact b
        rcases pk_ix x (n := 25) (by decide) with q | q | ⟨j, hj, rfl⟩
        · exfalso
          rw [Int32.lt_iff_toInt_lt] at a q
          simp at a q
          omega
        · exfalso
          rw [Int32.le_iff_toInt_le, nI_toInt (by decide)] at q
          rw [Int32.le_iff_toInt_le] at b2
          simp at b2
          omega
        · refine ⟨j, ?_, by omega, rfl⟩
          rw [lit_1, nI_ltI (by omega) (by decide)] at a
          omega
      rw [decide_eq_true a, decide_eq_true b, if_neg (by decide)]
      refine tX8_keeps hn S P0 (fun M1 x1 P' => ?_)
      have S1 := MS_x x1 (by omega) S
      have T1 := MT_x x1 (by omega) T
      have hk : ∀ i, OKs (hrN τ i σ) := fun i => OKs_hrN K hs
      have up : ExG 1 (Run 1 (d + 4)) 8 1 false none cX8_pass Q 18 [vr 8 0, .inl (nI m), .inl (nI 0)] [] (wMs M1 (τ 7 0) (hrN τ 0 σ)) = Q (.inl (nI ((hrN τ m σ).2.2 % 12))) (wMs M1 (τ 7 0) (hrN τ m σ)) := by
        refine (eq_up (fun i => ExG 1 (Run 1 (d + 4)) 8 1 false none cX8_pass Q 18 [vr 8 0, .inl (nI m), .inl (nI i)] [] (wMs M1 (τ 7 0) (hrN τ i σ))) (Nat.zero_le m) (fun i _ hi => ?_)).trans ?_
        · have hg' := hrN_g (τ := τ) (σ := σ) (n := i)
          rw [eX8_pass_18]
          simp (disch := omega) only [eX8_pass_0, eX8_pass_1, eX8_pass_2, eX8_pass_4, eX8_pass_7, eX8_pass_10, eX8_pass_11, eX8_pass_12, eX8_pass_13, eX8_pass_16, eX8_pass_17, eX8_pass_19, eX8_pass_20, eX8_pass_23, eX8_pass_24, eX8_pass_27, eX8_pass_30, eX8_pass_33, eX8_pass_34, eX8_pass_37, eX8_pass_39, eX8_pass_40, eX8_pass_42, eX8_pass_43, c8_, c11_0, c11_1, c11_2, c11_3, c11_4, c11_5, c11_6, c11_7, c11_8, c11_9, alm_0, alm_1, alm_2, alm_3, alm_4, alm_5, alm_6, alm_7, alm_8, alm_9, vT, true_and, nI_leI, if_neg (show ¬ m ≤ i by omega), tX8_passes (MT_w T1) K n1 (hk i) (show (hrN τ i σ).2.2 < 2 ^ 30 by omega) (MS_w hn), psh_u, wMs_w, nI_1]
          rfl
        · have hg' := hrN_g (τ := τ) (σ := σ) (n := m)
          have e12 : nI (hrN τ m σ).2.2 - nI (hrN τ m σ).2.2 / nI 12 * nI 12 = nI ((hrN τ m σ).2.2 % 12) := rem_nI (by omega) (by decide) (by decide)
          rw [eX8_pass_18]
          simp (disch := omega) only [eX8_pass_0, eX8_pass_1, eX8_pass_2, eX8_pass_4, eX8_pass_7, eX8_pass_10, eX8_pass_11, eX8_pass_12, eX8_pass_13, eX8_pass_16, eX8_pass_17, eX8_pass_19, eX8_pass_20, eX8_pass_23, eX8_pass_24, eX8_pass_27, eX8_pass_30, eX8_pass_33, eX8_pass_34, eX8_pass_37, eX8_pass_39, eX8_pass_40, eX8_pass_42, eX8_pass_43, c8_, c11_0, c11_1, c11_2, c11_3, c11_4, c11_5, c11_6, c11_7, c11_8, c11_9, alm_0, alm_1, alm_2, alm_3, alm_4, alm_5, alm_6, alm_7, alm_8, alm_9, vT, true_and, nI_leI, Nat.le_refl, if_true, lit_0, lit_10, lit_12, nI_clamp, wMs_g hn, nI_eq, Nat.reduceEqDiff, not_false_iff, e12]
      have e0 : wMs M1 (τ 7 0) (hrN τ 0 σ) = M1 := wMs_id S1
      rw [e0] at up
      simp only [psh_u, eX8_pass_0, eX8_pass_1, eX8_pass_2, eX8_pass_4, eX8_pass_7, eX8_pass_10, eX8_pass_11, eX8_pass_12, eX8_pass_13, eX8_pass_16, eX8_pass_17, eX8_pass_19, eX8_pass_20, eX8_pass_23, eX8_pass_24, eX8_pass_27, eX8_pass_30, eX8_pass_33, eX8_pass_34, eX8_pass_37, eX8_pass_39, eX8_pass_40, eX8_pass_42, eX8_pass_43, lit_0]
      rw [up]
      have xx : Mx (fun a => a = 3 ∨ a = 4 ∨ 7 ≤ a) (fun f => f = 6 ∨ f = 11) M (wMs M1 (τ 7 0) (hrN τ m σ)) := Mx_n x1 nw4 (Or.inl rfl)
      exact hQ.2 m hm1 hm2 rfl _ (MA_now C xx (MS_w hn) (MIs_w (by decide) P')) (Mx_E xx)
end M4
