/-! the model's calls, 5: trials -/
def TR (M N : bM) : Prop := Mx (fun a => a = 3 ∨ a = 7) (fun f => f = 99) M N ∧ ∀ j, j < 11 → gI N 11 7 j = gI M 11 3 j
theorem hld_s {ci cs f : Nat → Nat} {k : Nat} : hld ci cs f (k + 1) = (hld ci cs f k && decide (f (ci k) = cs k)) := by
  unfold hld
  rw [Bool.eq_iff_iff, Bool.and_eq_true, decide_eq_true_eq, decide_eq_true_eq, decide_eq_true_eq]
  refine ⟨fun h => ⟨fun j hj => h j (by omega), h k (by omega)⟩, fun h j hj => ?_⟩
  by_cases q : j = k
  · subst q; exact h.2
  · exact h.1 j (by omega)
theorem TR_n {M N N' : bM} (h : TR M N) (x : Mx (fun a => a = 3) (fun f => f = 99) N N') : TR M N' :=
  ⟨Mx_tr h.1 (Mx_mo x (fun a q => Or.inl q) (fun f q => q)), fun j hj => (x.2.1 7 j (by omega)).trans (h.2 j hj)⟩
theorem TR_w {M N : bM} {n : Nat} {σ : sT} (h : TR M N) : TR M (wMs N n σ) := TR_n h (Mx_w rfl)
section M5
variable {d G : Nat} {M : bM} {lt : Nat → Nat} {len n : Nat} {τ : Nat → Nat → Nat} {σ : sT} {pa : Nat → sT} {ph : Nat} {ka : Nat → sT} {kh : Nat} {ci cs : Nat → Nat} {cn : Nat} {Q : bV → bM → Prop}
theorem MA_let {N : bM} (C : MA M lt len τ σ pa ph ka kh ci cs cn) (hn : τ 7 0 ≤ 9) (x : Mx (fun a => a = 3 ∨ 7 ≤ a) (fun f => f = 99) M N) (h : ∀ j, j < 11 → gI N 11 3 j = gI M 11 3 j) : MA N lt len τ σ pa ph ka kh ci cs cn := by
  obtain ⟨P, T, S, P0, P1, L⟩ := C
  exact ⟨MPg_x x (by omega) (by omega) P, MT_x x (by omega) T, ⟨fun i hi => (h i (by omega)).trans (S.1 i hi), (h 9 (by omega)).trans S.2.1, (h 10 (by omega)).trans S.2.2⟩, MIs_x x (by omega) (by omega) P0, MIs_x x (by omega) (by omega) P1, MCl_x x (by omega) (by omega) L⟩
theorem tX8_holds (hQ : ∀ N, TR M N → (∀ j, gI N 11 3 j = gI M 11 3 j) → Q vu N) : Run 1 (d + 1) 123 [vr 8 0] M Q := by
  rw [rX8_holds]
  have up : ExG 1 (Run 1 d) 8 0 false none cX8_holds Q 2 [vr 8 0, .inl (nI 0)] [] (aset M 7 0 0 (fun j => gI M 11 3 j)) = Q vu (aset M 7 0 11 (fun j => gI M 11 3 j)) := by
    refine (eq_up (fun i => ExG 1 (Run 1 d) 8 0 false none cX8_holds Q 2 [vr 8 0, .inl (nI i)] [] (aset M 7 0 i (fun j => gI M 11 3 j))) (Nat.zero_le 11) (fun i _ hi => ?_)).trans ?_
    · have e3 : gI (aset M 7 0 i (fun j => gI M 11 3 j)) 11 3 i = gI M 11 3 i := by rw [gI_aset, if_neg (by omega)]
      rw [eX8_holds_2]
      simp (disch := omega) only [eX8_holds_0, eX8_holds_1, eX8_holds_3, eX8_holds_5, eX8_holds_8, eX8_holds_9, eX8_holds_12, eX8_holds_13, eX8_holds_14, eX8_holds_17, eX8_holds_18, eX8_holds_19, eX8_holds_20, eX8_holds_23, eX8_holds_26, c8_, c11_0, c11_1, c11_2, c11_3, c11_4, c11_5, c11_6, c11_7, c11_8, c11_9, alm_0, alm_1, alm_2, alm_3, alm_4, alm_5, alm_6, alm_7, alm_8, alm_9, vT, true_and, lit_11, nI_leI, if_neg (show ¬ 11 ≤ i by omega), nI_clamp, nI_1, e3]
      have := aset_s M 7 0 i (fun j => gI M 11 3 j) (v := gI M 11 3 i) (by rw [Nat.zero_add])
      rw [Nat.zero_add] at this
      rw [this]
    · rw [eX8_holds_2]
      simp (disch := omega) only [eX8_holds_0, eX8_holds_1, eX8_holds_3, eX8_holds_5, eX8_holds_8, eX8_holds_9, eX8_holds_12, eX8_holds_13, eX8_holds_14, eX8_holds_17, eX8_holds_18, eX8_holds_19, eX8_holds_20, eX8_holds_23, eX8_holds_26, c8_, c11_0, c11_1, c11_2, c11_3, c11_4, c11_5, c11_6, c11_7, c11_8, c11_9, alm_0, alm_1, alm_2, alm_3, alm_4, alm_5, alm_6, alm_7, alm_8, alm_9, vT, true_and, lit_11, nI_leI, Nat.le_refl, if_true]
  rw [aset_0] at up
  simp only [eX8_holds_0, eX8_holds_1, eX8_holds_3, eX8_holds_5, eX8_holds_8, eX8_holds_9, eX8_holds_12, eX8_holds_13, eX8_holds_14, eX8_holds_17, eX8_holds_18, eX8_holds_19, eX8_holds_20, eX8_holds_23, eX8_holds_26, lit_0]
  rw [up]
  refine hQ _ ⟨Mx_as (Or.inr rfl), fun j hj => ?_⟩ (fun j => ?_)
  · rw [gI_aset, if_pos ⟨rfl, rfl, by omega, by omega⟩]
  · rw [gI_aset, if_neg (by omega)]
theorem tX8_lets {N : bM} (R : TR M N) (hQ : ∀ N', TR M N' → (∀ j, j < 11 → gI N' 11 3 j = gI M 11 3 j) → Q vu N') : Run 1 (d + 1) 124 [vr 8 0] N Q := by
  rw [rX8_lets]
  have up : ExG 1 (Run 1 d) 8 0 false none cX8_lets Q 2 [vr 8 0, .inl (nI 0)] [] (aset N 3 0 0 (fun j => gI N 11 7 j)) = Q vu (aset N 3 0 11 (fun j => gI N 11 7 j)) := by
    refine (eq_up (fun i => ExG 1 (Run 1 d) 8 0 false none cX8_lets Q 2 [vr 8 0, .inl (nI i)] [] (aset N 3 0 i (fun j => gI N 11 7 j))) (Nat.zero_le 11) (fun i _ hi => ?_)).trans ?_
    · have e3 : gI (aset N 3 0 i (fun j => gI N 11 7 j)) 11 7 i = gI N 11 7 i := by rw [gI_aset, if_neg (by omega)]
      rw [eX8_lets_2]
      simp (disch := omega) only [eX8_lets_0, eX8_lets_1, eX8_lets_3, eX8_lets_5, eX8_lets_8, eX8_lets_9, eX8_lets_12, eX8_lets_13, eX8_lets_14, eX8_lets_17, eX8_lets_18, eX8_lets_19, eX8_lets_20, eX8_lets_23, eX8_lets_26, c8_, c11_0, c11_1, c11_2, c11_3, c11_4, c11_5, c11_6, c11_7, c11_8, c11_9, alm_0, alm_1, alm_2, alm_3, alm_4, alm_5, alm_6, alm_7, alm_8, alm_9, vT, true_and, lit_11, nI_leI, if_neg (show ¬ 11 ≤ i by omega), nI_clamp, nI_1, e3]
      have := aset_s N 3 0 i (fun j => gI N 11 7 j) (v := gI N 11 7 i) (by rw [Nat.zero_add])
      rw [Nat.zero_add] at this
      rw [this]
    · rw [eX8_lets_2]
      simp (disch := omega) only [eX8_lets_0, eX8_lets_1, eX8_lets_3, eX8_lets_5, eX8_lets_8, eX8_lets_9, eX8_lets_12, eX8_lets_13, eX8_lets_14, eX8_lets_17, eX8_lets_18, eX8_lets_19, eX8_lets_20, eX8_lets_23, eX8_lets_26, c8_, c11_0, c11_1, c11_2, c11_3, c11_4, c11_5, c11_6, c11_7, c11_8, c11_9, alm_0, alm_1, alm_2, alm_3, alm_4, alm_5, alm_6, alm_7, alm_8, alm_9, vT, true_and, lit_11, nI_leI, Nat.le_refl, if_true]
  rw [aset_0] at up
  simp only [eX8_lets_0, eX8_lets_1, eX8_lets_3, eX8_lets_5, eX8_lets_8, eX8_lets_9, eX8_lets_12, eX8_lets_13, eX8_lets_14, eX8_lets_17, eX8_lets_18, eX8_lets_19, eX8_lets_20, eX8_lets_23, eX8_lets_26, lit_0]
  rw [up]
  refine hQ _ (TR_n R (Mx_as rfl)) (fun j hj => ?_)
  rw [gI_aset, if_pos ⟨rfl, rfl, by omega, by omega⟩]
  exact R.2 j hj
theorem MS_h {N : bM} (hn : n ≤ 9) (h : ∀ j, j < 11 → gI N 11 3 j = gI M 11 3 j) (S : MS M n σ) : MS N n σ := ⟨fun i hi => (h i (by omega)).trans (S.1 i hi), (h 9 (by omega)).trans S.2.1, (h 10 (by omega)).trans S.2.2⟩
theorem TR_T {N : bM} (R : TR M N) (T : MT M 1 τ) : MT N 1 τ := MT_x R.1 (by omega) T
theorem TR_L {N : bM} (R : TR M N) (L : MCl M ci cs cn) : MCl N ci cs cn := MCl_x R.1 (by omega) (by omega) L
theorem TR_A {N : bM} (C : MA M lt len τ σ pa ph ka kh ci cs cn) (hn : τ 7 0 ≤ 9) (R : TR M N) (h : ∀ j, j < 11 → gI N 11 3 j = gI M 11 3 j) : MA N lt len τ σ pa ph ka kh ci cs cn := MA_let C hn (Mx_mo R.1 (fun a q => by omega) (fun f q => q)) h
theorem tX8_isSo {ρ : sT} (hn : n ≤ 9) (L : MCl M ci cs cn) (hc : ∀ j, j < cn → ci j < n ∧ cs j ≤ 9) (hs : OKs ρ) (S : MS M n ρ) : Run 1 (d + 1) 131 [vr 8 0] M Q = Q (.inl (bi (hld ci cs ρ.1 cn))) M := by
  have h6 := L.2.1
  rw [rX8_isSo]
  simp only [eX8_isSo_0, eX8_isSo_1, eX8_isSo_2, eX8_isSo_3, eX8_isSo_5, eX8_isSo_6, eX8_isSo_9, eX8_isSo_12, eX8_isSo_13, eX8_isSo_16, eX8_isSo_17, eX8_isSo_20, eX8_isSo_21, eX8_isSo_24, eX8_isSo_25, eX8_isSo_26, eX8_isSo_28, eX8_isSo_29, eX8_isSo_30, eX8_isSo_31, eX8_isSo_34, eX8_isSo_35, eX8_isSo_36, eX8_isSo_38, eX8_isSo_39, eX8_isSo_42, eX8_isSo_43, eX8_isSo_46, eX8_isSo_47, eX8_isSo_48, eX8_isSo_51, eX8_isSo_54, eX8_isSo_550, eX8_isSo_551, eX8_isSo_55, eX8_isSo_55n0, eX8_isSo_55n1, lit_0, lit_1]
  refine (eq_up (fun k => ExG 1 (Run 1 d) 8 2 false none cX8_isSo Q 4 [vr 8 0, .inl (bi (hld ci cs ρ.1 k)), .inl (nI k)] [] M) (Nat.zero_le cn) (fun k _ hk => ?_)).trans ?_
  · obtain ⟨c1, c2⟩ := hc k hk
    have hsc := hs.1 (ci k) (by omega)
    have e1 : nI (10 * ci k + cs k) / nI 10 = nI (ci k) := by rw [pk_div (by omega) (by decide) (by decide), show (10 * ci k + cs k) / 10 = ci k by omega]
    have e2 : nI (10 * ci k + cs k) - nI (ci k) * nI 10 = nI (cs k) := by rw [pk_mul, pk_sub (by omega), show 10 * ci k + cs k - ci k * 10 = cs k by omega]
    rw [eX8_isSo_4, hld_s]
    simp (disch := omega) only [eX8_isSo_0, eX8_isSo_1, eX8_isSo_2, eX8_isSo_3, eX8_isSo_5, eX8_isSo_6, eX8_isSo_9, eX8_isSo_12, eX8_isSo_13, eX8_isSo_16, eX8_isSo_17, eX8_isSo_20, eX8_isSo_21, eX8_isSo_24, eX8_isSo_25, eX8_isSo_26, eX8_isSo_28, eX8_isSo_29, eX8_isSo_30, eX8_isSo_31, eX8_isSo_34, eX8_isSo_35, eX8_isSo_36, eX8_isSo_38, eX8_isSo_39, eX8_isSo_42, eX8_isSo_43, eX8_isSo_46, eX8_isSo_47, eX8_isSo_48, eX8_isSo_51, eX8_isSo_54, eX8_isSo_550, eX8_isSo_551, eX8_isSo_55, eX8_isSo_55n0, eX8_isSo_55n1, c8_, c11_0, c11_1, c11_2, c11_3, c11_4, c11_5, c11_6, c11_7, c11_8, c11_9, alm_0, alm_1, alm_2, alm_3, alm_4, alm_5, alm_6, alm_7, alm_8, alm_9, vT, true_and, L.1, nI_leI, if_neg (Nat.not_le.mpr hk), bi_0, lit_10, nI_clamp, L.2.2 k hk, e1, e2, lit_0, nI_eq, Nat.reduceEqDiff, not_false_iff, S.1 (ci k) c1, nI_1]
    cases hld ci cs ρ.1 k
    · rw [if_pos (show bi false = nI 0 from rfl), Bool.false_and]; rfl
    · rw [if_neg (show ¬ bi true = nI 0 by decide), Bool.true_and]
      by_cases c : ρ.1 (ci k) = cs k
      · rw [if_pos c, decide_eq_true c]; rfl
      · rw [if_neg c, decide_eq_false c]; rfl
  · rw [eX8_isSo_4]
    simp (disch := omega) only [eX8_isSo_0, eX8_isSo_1, eX8_isSo_2, eX8_isSo_3, eX8_isSo_5, eX8_isSo_6, eX8_isSo_9, eX8_isSo_12, eX8_isSo_13, eX8_isSo_16, eX8_isSo_17, eX8_isSo_20, eX8_isSo_21, eX8_isSo_24, eX8_isSo_25, eX8_isSo_26, eX8_isSo_28, eX8_isSo_29, eX8_isSo_30, eX8_isSo_31, eX8_isSo_34, eX8_isSo_35, eX8_isSo_36, eX8_isSo_38, eX8_isSo_39, eX8_isSo_42, eX8_isSo_43, eX8_isSo_46, eX8_isSo_47, eX8_isSo_48, eX8_isSo_51, eX8_isSo_54, eX8_isSo_550, eX8_isSo_551, eX8_isSo_55, eX8_isSo_55n0, eX8_isSo_55n1, c8_, c11_0, c11_1, c11_2, c11_3, c11_4, c11_5, c11_6, c11_7, c11_8, c11_9, alm_0, alm_1, alm_2, alm_3, alm_4, alm_5, alm_6, alm_7, alm_8, alm_9, vT, true_and, L.1, nI_leI, Nat.le_refl, if_true]
    cases hld ci cs ρ.1 cn
    · exact and_tr (Or.inl rfl)
    · exact and_tr (Or.inr rfl)
theorem vX8_behind {x y w : Int32} (C : MA M lt len τ σ pa ph ka kh ci cs cn) (V : VA G τ σ pa ph ka kh ci cs cn) (hG : G < 2 ^ 28)
    (hQ : ∀ M', MA M' lt len τ σ pa ph ka kh ci cs cn → Eqx mdS M M' → Q (.inl (pBehind τ σ x y w)) M') : Run 1 (d + 5) 125 [vr 8 0, .inl x, .inl y, .inl w] M Q := by
  obtain ⟨P, T, S, P0, P1, L⟩ := id C
  obtain ⟨K, n1, hs, hg, -⟩ := V
  have hn := K.1
  have e48 : ∀ x, inB x 0 48 = hsB x 49 := fun x => hs_in (by decide)
  have e1 : ∀ x, inB x 0 1 = eiB x := fun x => ei_in
  rw [rX8_behind]
  simp only [eX8_behind_0, eX8_behind_1, eX8_behind_2, eX8_behind_4, eX8_behind_7, eX8_behind_10, eX8_behind_11, eX8_behind_12, eX8_behind_15, eX8_behind_18, eX8_behind_19, eX8_behind_20, eX8_behind_21, eX8_behind_24, eX8_behind_27, eX8_behind_28, eX8_behind_29, eX8_behind_30, eX8_behind_33, eX8_behind_34, eX8_behind_38, eX8_behind_39, eX8_behind_42, eX8_behind_43, eX8_behind_46, eX8_behind_49, eX8_behind_52, eX8_behind_53, eX8_behind_56, eX8_behind_57, eX8_behind_60, eX8_behind_61, eX8_behind_62, eX8_behind_65, eX8_behind_66, eX8_behind_67, eX8_behind_70, eX8_behind_72, eX8_behind_73, eX8_behind_76, eX8_behind_78, c8_, c11_0, c11_1, c11_2, c11_3, c11_4, c11_5, c11_6, c11_7, c11_8, c11_9, alm_0, alm_1, alm_2, alm_3, alm_4, alm_5, alm_6, alm_7, alm_8, alm_9, vT, true_and, tX8_isItem T K n1, tX8_in, e48, e1, psh_i, bi_0]
  unfold pBehind at hQ
  rcases hsB_cases x (n := 49) (by decide) with ⟨m, hm, rfl, e⟩ | e
  · rcases hsB_cases y (n := τ 7 0) (by omega) with ⟨i, hi, rfl, e2⟩ | e2
    · rcases eiB_cases w with ⟨hw, e3⟩ | ⟨hw, e3⟩ | e3
      rotate_right
      · rw [e, e2, e3, if_neg (by decide), if_neg (by decide), if_pos rfl]
        have := hQ M C Eqx_rf
        rwa [if_pos (Or.inr (Or.inr e3))] at this
      all_goals
        rw [e, e2, e3, if_neg (by decide), if_neg (by decide), if_neg (by decide)]
        rw [if_neg (by simp [e, e2, e3]), nI_clamp (by omega), nI_clamp (by omega)] at hQ
        refine tX8_holds (fun N R hN => ?_)
        have SN : MS N (τ 7 0) σ := MS_h hn (fun j _ => hN j) S
        have TN := TR_T R T
        have hk : ∀ i, OKs (hrN τ i σ) := fun i => OKs_hrN K hs
        have up : ∀ a4 a5, ExG 1 (Run 1 (d + 4)) 8 1 false none cX8_behind Q 36 [vr 8 0, .inl (nI m), .inl (nI i), .inl w, .inl (nI 0)] [] (wMs N (τ 7 0) (hrN τ 0 σ)) = ExG 1 (Run 1 (d + 4)) 8 1 false none cX8_behind Q 52 [vr 8 0, .inl (nI m), .inl (nI i), .inl w, .inl (nI m)] [] (wMs N (τ 7 0) (hrN τ m σ)) ∨ a4 = a5 + 1 := by
          intro a4 a5
          left
          refine (eq_up (fun k => ExG 1 (Run 1 (d + 4)) 8 1 false none cX8_behind Q 36 [vr 8 0, .inl (nI m), .inl (nI i), .inl w, .inl (nI k)] [] (wMs N (τ 7 0) (hrN τ k σ))) (Nat.zero_le m) (fun k _ hk' => ?_)).trans ?_
          · have hg' := hrN_g (τ := τ) (σ := σ) (n := k)
            rw [eX8_behind_36]
            simp (disch := omega) only [eX8_behind_0, eX8_behind_1, eX8_behind_2, eX8_behind_4, eX8_behind_7, eX8_behind_10, eX8_behind_11, eX8_behind_12, eX8_behind_15, eX8_behind_18, eX8_behind_19, eX8_behind_20, eX8_behind_21, eX8_behind_24, eX8_behind_27, eX8_behind_28, eX8_behind_29, eX8_behind_30, eX8_behind_33, eX8_behind_34, eX8_behind_38, eX8_behind_39, eX8_behind_42, eX8_behind_43, eX8_behind_46, eX8_behind_49, eX8_behind_53, eX8_behind_56, eX8_behind_57, eX8_behind_60, eX8_behind_61, eX8_behind_62, eX8_behind_65, eX8_behind_66, eX8_behind_67, eX8_behind_70, eX8_behind_72, eX8_behind_73, eX8_behind_76, eX8_behind_78, c8_, c11_0, c11_1, c11_2, c11_3, c11_4, c11_5, c11_6, c11_7, c11_8, c11_9, alm_0, alm_1, alm_2, alm_3, alm_4, alm_5, alm_6, alm_7, alm_8, alm_9, vT, true_and, nI_leI, if_neg (show ¬ m ≤ k by omega), tX8_passes (MT_w TN) K n1 (hk k) (show (hrN τ k σ).2.2 < 2 ^ 30 by omega) (MS_w hn), psh_u, wMs_w, nI_1]
            rfl
          · rw [eX8_behind_36]
            simp (disch := omega) only [eX8_behind_0, eX8_behind_1, eX8_behind_2, eX8_behind_4, eX8_behind_7, eX8_behind_10, eX8_behind_11, eX8_behind_12, eX8_behind_15, eX8_behind_18, eX8_behind_19, eX8_behind_20, eX8_behind_21, eX8_behind_24, eX8_behind_27, eX8_behind_28, eX8_behind_29, eX8_behind_30, eX8_behind_33, eX8_behind_34, eX8_behind_38, eX8_behind_39, eX8_behind_42, eX8_behind_43, eX8_behind_46, eX8_behind_49, eX8_behind_53, eX8_behind_56, eX8_behind_57, eX8_behind_60, eX8_behind_61, eX8_behind_62, eX8_behind_65, eX8_behind_66, eX8_behind_67, eX8_behind_70, eX8_behind_72, eX8_behind_73, eX8_behind_76, eX8_behind_78, c8_, c11_0, c11_1, c11_2, c11_3, c11_4, c11_5, c11_6, c11_7, c11_8, c11_9, alm_0, alm_1, alm_2, alm_3, alm_4, alm_5, alm_6, alm_7, alm_8, alm_9, vT, true_and, nI_leI, Nat.le_refl, if_true]
        have up := (up 0 0).resolve_right (by omega)
        have e0 : wMs N (τ 7 0) (hrN τ 0 σ) = N := wMs_id SN
        rw [e0] at up
        subst hw
        simp only [psh_u, eX8_behind_0, eX8_behind_1, eX8_behind_2, eX8_behind_4, eX8_behind_7, eX8_behind_10, eX8_behind_11, eX8_behind_12, eX8_behind_15, eX8_behind_18, eX8_behind_19, eX8_behind_20, eX8_behind_21, eX8_behind_24, eX8_behind_27, eX8_behind_28, eX8_behind_29, eX8_behind_30, eX8_behind_33, eX8_behind_34, eX8_behind_38, eX8_behind_39, eX8_behind_42, eX8_behind_43, eX8_behind_46, eX8_behind_49, eX8_behind_53, eX8_behind_56, eX8_behind_57, eX8_behind_60, eX8_behind_61, eX8_behind_62, eX8_behind_65, eX8_behind_66, eX8_behind_67, eX8_behind_70, eX8_behind_72, eX8_behind_73, eX8_behind_76, eX8_behind_78, lit_0] at up ⊢
        rw [up]
        have R2 : TR M (wMs N (τ 7 0) (hrN τ m σ)) := TR_w R
        simp (disch := omega) only [eX8_behind_0, eX8_behind_1, eX8_behind_2, eX8_behind_4, eX8_behind_7, eX8_behind_10, eX8_behind_11, eX8_behind_12, eX8_behind_15, eX8_behind_18, eX8_behind_19, eX8_behind_20, eX8_behind_21, eX8_behind_24, eX8_behind_27, eX8_behind_28, eX8_behind_29, eX8_behind_30, eX8_behind_33, eX8_behind_34, eX8_behind_38, eX8_behind_39, eX8_behind_42, eX8_behind_43, eX8_behind_46, eX8_behind_49, eX8_behind_52, eX8_behind_53, eX8_behind_56, eX8_behind_57, eX8_behind_60, eX8_behind_61, eX8_behind_62, eX8_behind_65, eX8_behind_66, eX8_behind_67, eX8_behind_70, eX8_behind_72, eX8_behind_73, eX8_behind_76, eX8_behind_78, c8_, c11_0, c11_1, c11_2, c11_3, c11_4, c11_5, c11_6, c11_7, c11_8, c11_9, alm_0, alm_1, alm_2, alm_3, alm_4, alm_5, alm_6, alm_7, alm_8, alm_9, vT, true_and, lit_0, nI_eq, Nat.reduceEqDiff, if_true, if_false, nI_clamp, wMs_s hi, tX8_seen (MS_w hn) hn (hk m) hi, psh_i]
        refine tX8_lets R2 (fun N' R' h' => ?_)
        simp only [psh_u, eX8_behind_0, eX8_behind_1, eX8_behind_2, eX8_behind_4, eX8_behind_7, eX8_behind_10, eX8_behind_11, eX8_behind_12, eX8_behind_15, eX8_behind_18, eX8_behind_19, eX8_behind_20, eX8_behind_21, eX8_behind_24, eX8_behind_27, eX8_behind_28, eX8_behind_29, eX8_behind_30, eX8_behind_33, eX8_behind_34, eX8_behind_38, eX8_behind_39, eX8_behind_42, eX8_behind_43, eX8_behind_46, eX8_behind_49, eX8_behind_52, eX8_behind_53, eX8_behind_56, eX8_behind_57, eX8_behind_60, eX8_behind_61, eX8_behind_62, eX8_behind_65, eX8_behind_66, eX8_behind_67, eX8_behind_70, eX8_behind_72, eX8_behind_73, eX8_behind_76, eX8_behind_78]
        have := hQ N' (TR_A C hn R' h') (Mx_E R'.1)
        first
          | exact this
          | (rw [if_pos (show nI 0 = (0 : Int32) from rfl)] at this; exact this)
          | (rw [if_neg (show ¬ nI 1 = (0 : Int32) by decide)] at this; exact this)
    · rw [e, e2, if_neg (by decide), if_pos rfl]
      have := hQ M C Eqx_rf
      rwa [if_pos (Or.inr (Or.inl e2))] at this
  · rw [e, if_pos rfl]
    have := hQ M C Eqx_rf
    rwa [if_pos (Or.inl e)] at this
theorem vX8_box (C : MA M lt len τ σ pa ph ka kh ci cs cn) (V : VA G τ σ pa ph ka kh ci cs cn) (hG : G < 2 ^ 28)
    (hQ : ∀ M', MA M' lt len τ σ pa ph ka kh ci cs cn → Eqx mdS M M' → Q (.inl (nI (bxN τ σ.2.2 ci cs cn (τ 7 0)))) M') : Run 1 (d + 5) 135 [vr 8 0] M Q := by
  obtain ⟨P, T, S, P0, P1, L⟩ := id C
  obtain ⟨K, n1, hs, hg, -, -, vc⟩ := V
  have hn := K.1
  rw [rX8_box]
  simp only [eX8_box_0, eX8_box_1, eX8_box_4, eX8_box_5, eX8_box_8, eX8_box_10, eX8_box_11, eX8_box_13, eX8_box_16, eX8_box_17, eX8_box_20, eX8_box_22, eX8_box_23, eX8_box_26, eX8_box_28, eX8_box_29, eX8_box_30, eX8_box_31, eX8_box_32, eX8_box_34, eX8_box_35, eX8_box_38, eX8_box_39, eX8_box_40, eX8_box_43, eX8_box_44, eX8_box_48, eX8_box_50, eX8_box_53, eX8_box_54, eX8_box_57, eX8_box_59, eX8_box_61, eX8_box_62, eX8_box_65, eX8_box_67, eX8_box_70, eX8_box_71, eX8_box_72, eX8_box_75, eX8_box_78, eX8_box_79, eX8_box_83, eX8_box_84, eX8_box_87, eX8_box_88, eX8_box_91, eX8_box_94, eX8_box_97, eX8_box_98, eX8_box_99, eX8_box_102, eX8_box_105, eX8_box_106, eX8_box_107, eX8_box_108, eX8_box_111, eX8_box_112, eX8_box_113, eX8_box_114, eX8_box_117, eX8_box_120, eX8_box_121, eX8_box_124, eX8_box_125, c8_, c11_0, c11_1, c11_2, c11_3, c11_4, c11_5, c11_6, c11_7, c11_8, c11_9, alm_0, alm_1, alm_2, alm_3, alm_4, alm_5, alm_6, alm_7, alm_8, alm_9, vT, true_and]
  refine tX8_holds (fun N R hN => ?_)
  have SN : MS N (τ 7 0) σ := MS_h hn (fun j _ => hN j) S
  have hb : ∀ i, i ≤ 9 → bxN τ σ.2.2 ci cs cn i < 512 := fun i hi => bxN_lt hi
  have mn : (if σ.2.2 < 48 then σ.2.2 else 48) = min σ.2.2 48 := by split <;> omega
  have fin : ∀ a4 N, TR M N → ExG 1 (Run 1 (d + 4)) 8 1 false none cX8_box Q 33 [vr 8 0, .inl (nI (min σ.2.2 48)), .inl (nI (bxN τ σ.2.2 ci cs cn (τ 7 0))), .inl (nI (τ 7 0)), a4] [] N := by
    intro a4 N R
    have TN := TR_T R T
    rw [eX8_box_33]
    simp (disch := omega) only [eX8_box_0, eX8_box_1, eX8_box_4, eX8_box_5, eX8_box_8, eX8_box_10, eX8_box_11, eX8_box_13, eX8_box_16, eX8_box_17, eX8_box_20, eX8_box_22, eX8_box_23, eX8_box_26, eX8_box_28, eX8_box_29, eX8_box_30, eX8_box_31, eX8_box_32, eX8_box_34, eX8_box_35, eX8_box_38, eX8_box_39, eX8_box_40, eX8_box_43, eX8_box_44, eX8_box_48, eX8_box_50, eX8_box_53, eX8_box_54, eX8_box_57, eX8_box_59, eX8_box_61, eX8_box_62, eX8_box_65, eX8_box_67, eX8_box_70, eX8_box_71, eX8_box_72, eX8_box_75, eX8_box_78, eX8_box_79, eX8_box_83, eX8_box_84, eX8_box_87, eX8_box_88, eX8_box_91, eX8_box_94, eX8_box_97, eX8_box_98, eX8_box_99, eX8_box_102, eX8_box_105, eX8_box_106, eX8_box_107, eX8_box_108, eX8_box_111, eX8_box_112, eX8_box_113, eX8_box_114, eX8_box_117, eX8_box_120, eX8_box_121, eX8_box_124, eX8_box_125, c8_, c11_0, c11_1, c11_2, c11_3, c11_4, c11_5, c11_6, c11_7, c11_8, c11_9, alm_0, alm_1, alm_2, alm_3, alm_4, alm_5, alm_6, alm_7, alm_8, alm_9, vT, true_and, lit_0, nI_clamp, TN.1, nI_leI, Nat.le_refl, if_true]
    refine tX8_lets R (fun N' R' h' => ?_)
    simp only [psh_u, eX8_box_0, eX8_box_1, eX8_box_4, eX8_box_5, eX8_box_8, eX8_box_10, eX8_box_11, eX8_box_13, eX8_box_16, eX8_box_17, eX8_box_20, eX8_box_22, eX8_box_23, eX8_box_26, eX8_box_28, eX8_box_29, eX8_box_30, eX8_box_31, eX8_box_32, eX8_box_34, eX8_box_35, eX8_box_38, eX8_box_39, eX8_box_40, eX8_box_43, eX8_box_44, eX8_box_48, eX8_box_50, eX8_box_53, eX8_box_54, eX8_box_57, eX8_box_59, eX8_box_61, eX8_box_62, eX8_box_65, eX8_box_67, eX8_box_70, eX8_box_71, eX8_box_72, eX8_box_75, eX8_box_78, eX8_box_79, eX8_box_83, eX8_box_84, eX8_box_87, eX8_box_88, eX8_box_91, eX8_box_94, eX8_box_97, eX8_box_98, eX8_box_99, eX8_box_102, eX8_box_105, eX8_box_106, eX8_box_107, eX8_box_108, eX8_box_111, eX8_box_112, eX8_box_113, eX8_box_114, eX8_box_117, eX8_box_120, eX8_box_121, eX8_box_124, eX8_box_125]
    exact hQ N' (TR_A C hn R' h') (Mx_E R'.1)
  have go : ∀ k i a4 N, i + k = τ 7 0 → TR M N → ExG 1 (Run 1 (d + 4)) 8 1 false none cX8_box Q 33 [vr 8 0, .inl (nI (min σ.2.2 48)), .inl (nI (bxN τ σ.2.2 ci cs cn i)), .inl (nI i), a4] [] N := by
    intro k
    induction k with
    | zero =>
      intro i a4 N ei R
      have ei' : i = τ 7 0 := ei
      subst ei'
      exact fin a4 N R
    | succ k ih =>
      intro i a4 N ei R
      have TN := TR_T R T
      have nx := fun N R => ih (i + 1) (.inl (nI (min σ.2.2 48))) N (by omega) R
      rw [bxN] at nx
      rw [eX8_box_33]
      simp (disch := omega) only [eX8_box_0, eX8_box_1, eX8_box_4, eX8_box_5, eX8_box_8, eX8_box_10, eX8_box_11, eX8_box_13, eX8_box_16, eX8_box_17, eX8_box_20, eX8_box_22, eX8_box_23, eX8_box_26, eX8_box_28, eX8_box_29, eX8_box_30, eX8_box_31, eX8_box_32, eX8_box_34, eX8_box_35, eX8_box_38, eX8_box_39, eX8_box_40, eX8_box_43, eX8_box_44, eX8_box_48, eX8_box_50, eX8_box_53, eX8_box_54, eX8_box_57, eX8_box_59, eX8_box_61, eX8_box_62, eX8_box_65, eX8_box_67, eX8_box_70, eX8_box_71, eX8_box_72, eX8_box_75, eX8_box_78, eX8_box_79, eX8_box_83, eX8_box_84, eX8_box_87, eX8_box_88, eX8_box_91, eX8_box_94, eX8_box_97, eX8_box_98, eX8_box_99, eX8_box_102, eX8_box_105, eX8_box_106, eX8_box_107, eX8_box_108, eX8_box_111, eX8_box_112, eX8_box_113, eX8_box_114, eX8_box_117, eX8_box_120, eX8_box_121, eX8_box_124, eX8_box_125, c8_, c11_0, c11_1, c11_2, c11_3, c11_4, c11_5, c11_6, c11_7, c11_8, c11_9, alm_0, alm_1, alm_2, alm_3, alm_4, alm_5, alm_6, alm_7, alm_8, alm_9, vT, true_and, lit_0, nI_clamp, TN.1, nI_leI, if_neg (show ¬ τ 7 0 ≤ i by omega)]
      have up1 : ExG 1 (Run 1 (d + 4)) 8 1 false none cX8_box Q 46 [vr 8 0, .inl (nI (min σ.2.2 48)), .inl (nI (bxN τ σ.2.2 ci cs cn i)), .inl (nI i), .inl (nI 0)] [] (aset N 3 0 0 (fun j => if j = i then nI 9 else nI 0)) = ExG 1 (Run 1 (d + 4)) 8 1 false none cX8_box Q 81 [vr 8 0, .inl (nI (min σ.2.2 48)), .inl (nI (bxN τ σ.2.2 ci cs cn i)), .inl (nI i), .inl (nI 0)] [] (aset N 3 0 11 (fun j => if j = i then nI 9 else nI 0)) := by
        refine (eq_up (fun j => ExG 1 (Run 1 (d + 4)) 8 1 false none cX8_box Q 46 [vr 8 0, .inl (nI (min σ.2.2 48)), .inl (nI (bxN τ σ.2.2 ci cs cn i)), .inl (nI i), .inl (nI j)] [] (aset N 3 0 j (fun j => if j = i then nI 9 else nI 0))) (Nat.zero_le 11) (fun j _ hj => ?_)).trans ?_
        · have e9 : (9 : Int32) = nI 9 := rfl
          rw [eX8_box_46]
          simp (disch := omega) only [eX8_box_0, eX8_box_1, eX8_box_4, eX8_box_5, eX8_box_8, eX8_box_10, eX8_box_11, eX8_box_13, eX8_box_16, eX8_box_17, eX8_box_20, eX8_box_22, eX8_box_23, eX8_box_26, eX8_box_28, eX8_box_29, eX8_box_30, eX8_box_31, eX8_box_32, eX8_box_34, eX8_box_35, eX8_box_38, eX8_box_39, eX8_box_40, eX8_box_43, eX8_box_44, eX8_box_48, eX8_box_50, eX8_box_53, eX8_box_54, eX8_box_57, eX8_box_59, eX8_box_61, eX8_box_62, eX8_box_65, eX8_box_67, eX8_box_70, eX8_box_71, eX8_box_72, eX8_box_75, eX8_box_78, eX8_box_79, eX8_box_83, eX8_box_84, eX8_box_87, eX8_box_88, eX8_box_91, eX8_box_94, eX8_box_97, eX8_box_98, eX8_box_99, eX8_box_102, eX8_box_105, eX8_box_106, eX8_box_107, eX8_box_108, eX8_box_111, eX8_box_112, eX8_box_113, eX8_box_114, eX8_box_117, eX8_box_120, eX8_box_121, eX8_box_124, eX8_box_125, c8_, c11_0, c11_1, c11_2, c11_3, c11_4, c11_5, c11_6, c11_7, c11_8, c11_9, alm_0, alm_1, alm_2, alm_3, alm_4, alm_5, alm_6, alm_7, alm_8, alm_9, vT, true_and, lit_0, e9, lit_11, nI_leI, if_neg (show ¬ 11 ≤ j by omega), nI_eq, nI_clamp, nI_1]
          have as := fun v h => aset_s N 3 0 j (fun j => if j = i then nI 9 else nI 0) (v := v) h
          rw [Nat.zero_add] at as
          by_cases c : j = i
          · rw [if_pos c, as _ (by rw [if_pos c])]
          · rw [if_neg c, as _ (by rw [if_neg c])]
        · rw [eX8_box_46]
          simp (disch := omega) only [eX8_box_0, eX8_box_1, eX8_box_4, eX8_box_5, eX8_box_8, eX8_box_10, eX8_box_11, eX8_box_13, eX8_box_16, eX8_box_17, eX8_box_20, eX8_box_22, eX8_box_23, eX8_box_26, eX8_box_28, eX8_box_29, eX8_box_30, eX8_box_31, eX8_box_32, eX8_box_34, eX8_box_35, eX8_box_38, eX8_box_39, eX8_box_40, eX8_box_43, eX8_box_44, eX8_box_48, eX8_box_50, eX8_box_53, eX8_box_54, eX8_box_57, eX8_box_59, eX8_box_61, eX8_box_62, eX8_box_65, eX8_box_67, eX8_box_70, eX8_box_71, eX8_box_72, eX8_box_75, eX8_box_78, eX8_box_79, eX8_box_83, eX8_box_84, eX8_box_87, eX8_box_88, eX8_box_91, eX8_box_94, eX8_box_97, eX8_box_98, eX8_box_99, eX8_box_102, eX8_box_105, eX8_box_106, eX8_box_107, eX8_box_108, eX8_box_111, eX8_box_112, eX8_box_113, eX8_box_114, eX8_box_117, eX8_box_120, eX8_box_121, eX8_box_124, eX8_box_125, c8_, c11_0, c11_1, c11_2, c11_3, c11_4, c11_5, c11_6, c11_7, c11_8, c11_9, alm_0, alm_1, alm_2, alm_3, alm_4, alm_5, alm_6, alm_7, alm_8, alm_9, vT, true_and, lit_11, nI_leI, Nat.le_refl, if_true, lit_0]
      rw [aset_0] at up1
      rw [up1]
      have S3 : MS (aset N 3 0 11 (fun j => if j = i then nI 9 else nI 0)) (τ 7 0) (upN (fun _ => 0) i 9, 0, 0) := by
        refine ⟨fun j hj => ?_, ?_, ?_⟩
        · rw [gI_aset, if_pos ⟨rfl, rfl, by omega, by omega⟩]
          show _ = nI (upN (fun _ => 0) i 9 j)
          unfold upN
          split <;> rfl
        · rw [gI_aset, if_pos ⟨rfl, rfl, by omega, by omega⟩, if_neg (by omega)]
        · rw [gI_aset, if_pos ⟨rfl, rfl, by omega, by omega⟩, if_neg (by omega)]
      have R3 : TR M (aset N 3 0 11 (fun j => if j = i then nI 9 else nI 0)) := TR_n R (Mx_as rfl)
      generalize aset N 3 0 11 (fun j => if j = i then nI 9 else nI 0) = N3 at S3 R3 ⊢
      have T3 := TR_T R3 T
      have L3 := TR_L R3 L
      have hk : ∀ j, OKs (hrN τ j (upN (fun _ => 0) i 9, 0, 0)) := fun j => OKs_hrN K (OKs_bx (τ := τ))
      have up2 : ExG 1 (Run 1 (d + 4)) 8 1 false none cX8_box Q 81 [vr 8 0, .inl (nI (min σ.2.2 48)), .inl (nI (bxN τ σ.2.2 ci cs cn i)), .inl (nI i), .inl (nI 0)] [] (wMs N3 (τ 7 0) (hrN τ 0 (upN (fun _ => 0) i 9, 0, 0))) = ExG 1 (Run 1 (d + 4)) 8 1 false none cX8_box Q 97 [vr 8 0, .inl (nI (min σ.2.2 48)), .inl (nI (bxN τ σ.2.2 ci cs cn i)), .inl (nI i), .inl (nI (min σ.2.2 48))] [] (wMs N3 (τ 7 0) (bxS τ σ.2.2 i)) := by
        refine (eq_up (fun j => ExG 1 (Run 1 (d + 4)) 8 1 false none cX8_box Q 81 [vr 8 0, .inl (nI (min σ.2.2 48)), .inl (nI (bxN τ σ.2.2 ci cs cn i)), .inl (nI i), .inl (nI j)] [] (wMs N3 (τ 7 0) (hrN τ j (upN (fun _ => 0) i 9, 0, 0)))) (Nat.zero_le (min σ.2.2 48)) (fun j _ hj => ?_)).trans ?_
        · have hg' : (hrN τ j (upN (fun _ => 0) i 9, 0, 0)).2.2 = 0 + j := hrN_g (τ := τ) (n := j)
          rw [eX8_box_81]
          simp (disch := omega) only [eX8_box_0, eX8_box_1, eX8_box_4, eX8_box_5, eX8_box_8, eX8_box_10, eX8_box_11, eX8_box_13, eX8_box_16, eX8_box_17, eX8_box_20, eX8_box_22, eX8_box_23, eX8_box_26, eX8_box_28, eX8_box_29, eX8_box_30, eX8_box_31, eX8_box_32, eX8_box_34, eX8_box_35, eX8_box_38, eX8_box_39, eX8_box_40, eX8_box_43, eX8_box_44, eX8_box_48, eX8_box_50, eX8_box_53, eX8_box_54, eX8_box_57, eX8_box_59, eX8_box_61, eX8_box_62, eX8_box_65, eX8_box_67, eX8_box_70, eX8_box_71, eX8_box_72, eX8_box_75, eX8_box_78, eX8_box_79, eX8_box_83, eX8_box_84, eX8_box_87, eX8_box_88, eX8_box_91, eX8_box_94, eX8_box_98, eX8_box_99, eX8_box_102, eX8_box_105, eX8_box_106, eX8_box_107, eX8_box_108, eX8_box_111, eX8_box_112, eX8_box_113, eX8_box_114, eX8_box_117, eX8_box_120, eX8_box_121, eX8_box_124, eX8_box_125, c8_, c11_0, c11_1, c11_2, c11_3, c11_4, c11_5, c11_6, c11_7, c11_8, c11_9, alm_0, alm_1, alm_2, alm_3, alm_4, alm_5, alm_6, alm_7, alm_8, alm_9, vT, true_and, nI_leI, if_neg (show ¬ min σ.2.2 48 ≤ j by omega), tX8_passes (MT_w T3) K n1 (hk j) (show (hrN τ j (upN (fun _ => 0) i 9, 0, 0)).2.2 < 2 ^ 30 by omega) (MS_w hn), psh_u, wMs_w, nI_1]
          rfl
        · rw [eX8_box_81]
          simp (disch := omega) only [eX8_box_0, eX8_box_1, eX8_box_4, eX8_box_5, eX8_box_8, eX8_box_10, eX8_box_11, eX8_box_13, eX8_box_16, eX8_box_17, eX8_box_20, eX8_box_22, eX8_box_23, eX8_box_26, eX8_box_28, eX8_box_29, eX8_box_30, eX8_box_31, eX8_box_32, eX8_box_34, eX8_box_35, eX8_box_38, eX8_box_39, eX8_box_40, eX8_box_43, eX8_box_44, eX8_box_48, eX8_box_50, eX8_box_53, eX8_box_54, eX8_box_57, eX8_box_59, eX8_box_61, eX8_box_62, eX8_box_65, eX8_box_67, eX8_box_70, eX8_box_71, eX8_box_72, eX8_box_75, eX8_box_78, eX8_box_79, eX8_box_83, eX8_box_84, eX8_box_87, eX8_box_88, eX8_box_91, eX8_box_94, eX8_box_98, eX8_box_99, eX8_box_102, eX8_box_105, eX8_box_106, eX8_box_107, eX8_box_108, eX8_box_111, eX8_box_112, eX8_box_113, eX8_box_114, eX8_box_117, eX8_box_120, eX8_box_121, eX8_box_124, eX8_box_125, c8_, c11_0, c11_1, c11_2, c11_3, c11_4, c11_5, c11_6, c11_7, c11_8, c11_9, alm_0, alm_1, alm_2, alm_3, alm_4, alm_5, alm_6, alm_7, alm_8, alm_9, vT, true_and, nI_leI, Nat.le_refl, if_true]
          rfl
      have e0 : wMs N3 (τ 7 0) (hrN τ 0 (upN (fun _ => 0) i 9, 0, 0)) = N3 := wMs_id S3
      rw [e0] at up2
      rw [up2]
      have R4 : TR M (wMs N3 (τ 7 0) (bxS τ σ.2.2 i)) := TR_w R3
      have hb' := hb i (by omega)
      simp (disch := omega) only [eX8_box_0, eX8_box_1, eX8_box_4, eX8_box_5, eX8_box_8, eX8_box_10, eX8_box_11, eX8_box_13, eX8_box_16, eX8_box_17, eX8_box_20, eX8_box_22, eX8_box_23, eX8_box_26, eX8_box_28, eX8_box_29, eX8_box_30, eX8_box_31, eX8_box_32, eX8_box_34, eX8_box_35, eX8_box_38, eX8_box_39, eX8_box_40, eX8_box_43, eX8_box_44, eX8_box_48, eX8_box_50, eX8_box_53, eX8_box_54, eX8_box_57, eX8_box_59, eX8_box_61, eX8_box_62, eX8_box_65, eX8_box_67, eX8_box_70, eX8_box_71, eX8_box_72, eX8_box_75, eX8_box_78, eX8_box_79, eX8_box_83, eX8_box_84, eX8_box_87, eX8_box_88, eX8_box_91, eX8_box_94, eX8_box_97, eX8_box_98, eX8_box_99, eX8_box_102, eX8_box_105, eX8_box_106, eX8_box_107, eX8_box_108, eX8_box_111, eX8_box_112, eX8_box_113, eX8_box_114, eX8_box_117, eX8_box_120, eX8_box_121, eX8_box_124, eX8_box_125, c8_, c11_0, c11_1, c11_2, c11_3, c11_4, c11_5, c11_6, c11_7, c11_8, c11_9, alm_0, alm_1, alm_2, alm_3, alm_4, alm_5, alm_6, alm_7, alm_8, alm_9, vT, true_and, tX8_isSo hn (TR_L R4 L) (fun j hj => vc j hj) (hk (min σ.2.2 48)) (MS_w (σ := bxS τ σ.2.2 i) hn), psh_i, bi_0, nI_1]
      have nx := nx _ R4
      by_cases c : hld ci cs (bxS τ σ.2.2 i).1 cn = true
      · rw [if_pos c] at nx
        rw [show hld ci cs (hrN τ (min σ.2.2 48) (upN (fun _ => 0) i 9, 0, 0)).1 cn = true from c, if_neg (by decide), pow_o hb' (by omega)]
        exact nx
      · rw [if_neg c] at nx
        rw [show hld ci cs (hrN τ (min σ.2.2 48) (upN (fun _ => 0) i 9, 0, 0)).1 cn = false from eq_false_of_ne_true c, if_pos rfl, show nI (bxN τ σ.2.2 ci cs cn i) ||| 0 = nI (bxN τ σ.2.2 ci cs cn i) from Int32.or_zero]
        exact nx
  simp (disch := omega) only [psh_u, eX8_box_0, eX8_box_1, eX8_box_4, eX8_box_5, eX8_box_8, eX8_box_10, eX8_box_11, eX8_box_13, eX8_box_16, eX8_box_17, eX8_box_20, eX8_box_22, eX8_box_23, eX8_box_26, eX8_box_28, eX8_box_29, eX8_box_30, eX8_box_31, eX8_box_32, eX8_box_34, eX8_box_35, eX8_box_38, eX8_box_39, eX8_box_40, eX8_box_43, eX8_box_44, eX8_box_48, eX8_box_50, eX8_box_53, eX8_box_54, eX8_box_57, eX8_box_59, eX8_box_61, eX8_box_62, eX8_box_65, eX8_box_67, eX8_box_70, eX8_box_71, eX8_box_72, eX8_box_75, eX8_box_78, eX8_box_79, eX8_box_83, eX8_box_84, eX8_box_87, eX8_box_88, eX8_box_91, eX8_box_94, eX8_box_97, eX8_box_98, eX8_box_99, eX8_box_102, eX8_box_105, eX8_box_106, eX8_box_107, eX8_box_108, eX8_box_111, eX8_box_112, eX8_box_113, eX8_box_114, eX8_box_117, eX8_box_120, eX8_box_121, eX8_box_124, eX8_box_125, c8_, c11_0, c11_1, c11_2, c11_3, c11_4, c11_5, c11_6, c11_7, c11_8, c11_9, alm_0, alm_1, alm_2, alm_3, alm_4, alm_5, alm_6, alm_7, alm_8, alm_9, vT, true_and, lit_10, lit_48, nI_clamp, SN.2.2, nI_leI, lit_0]
  by_cases c : 48 ≤ σ.2.2
  · rw [if_pos c]
    have := go (τ 7 0) 0 vu N (by omega) R
    rw [Nat.min_eq_right c] at this
    exact this
  · rw [if_neg c]
    have := go (τ 7 0) 0 vu N (by omega) R
    rw [Nat.min_eq_left (by omega)] at this
    exact this
end M5
