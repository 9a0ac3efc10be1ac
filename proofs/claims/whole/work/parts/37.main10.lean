/-! the class's calls, 10: as if; the shades that lie in a house -/
section U11
variable {z d G : Nat} {M : bM} {lt : Nat → Nat} {len : Nat} {τ τd : Nat → Nat → Nat} {σ : sT} {pa : Nat → sT} {ph : Nat} {ka : Nat → sT} {kh : Nat} {ci cs : Nat → Nat} {cn : Nat} {Q : bV → bM → Prop}
theorem n4 : (-4 : Int32) = (-4 : Int32) := rfl
theorem uX7_shortestRoute {i s : Nat} (C : CA M lt len τ τd σ pa ph ka kh ci cs cn) (V : VA G τ σ pa ph ka kh ci cs cn) (hi : i < τ 7 0) (hs10 : s < 10)
    (hN : shF τ i s σ.1 4 0 = none → ∀ N, Eqx scr M N → Q (.inl (-4)) N)
    (hY : ∀ l c, shF τ i s σ.1 4 0 = some (l, c) → l ≤ 3 → ∀ N, Eqx scr M N → (∀ j, j < l → gI N 9 30 j = nI (c / 9 ^ (l - 1 - j) % 9)) → Q (.inl (nI l)) N) : Run z (d + 8) 83 [vr 7 0, .inl (nI i), .inl (nI s)] M Q := by
  obtain ⟨h, hh, r1, r2, P, H1, H2, S, P0, P1, L⟩ := id C
  obtain ⟨K, n1, hs, hg, -⟩ := id V
  have hn := K.1
  have X : ∀ N, Eqx scr M N → Ho N h τ := fun N E => Ho_e E (fun r a b => by unfold scr; omega) (by unfold scr; omega) H1
  rw [rX7_shortestRoute]
  simp only [eX7_shortestRoute_0, eX7_shortestRoute_1, eX7_shortestRoute_3, eX7_shortestRoute_4, eX7_shortestRoute_7, eX7_shortestRoute_8, eX7_shortestRoute_11, eX7_shortestRoute_12, eX7_shortestRoute_15, eX7_shortestRoute_18, eX7_shortestRoute_19, eX7_shortestRoute_22, eX7_shortestRoute_23, eX7_shortestRoute_26, eX7_shortestRoute_27, eX7_shortestRoute_30, eX7_shortestRoute_31, eX7_shortestRoute_32, eX7_shortestRoute_33, eX7_shortestRoute_34, eX7_shortestRoute_37, eX7_shortestRoute_40, eX7_shortestRoute_41, eX7_shortestRoute_42, eX7_shortestRoute_45, eX7_shortestRoute_48, eX7_shortestRoute_50, lit_0]
  obtain ⟨R, hR⟩ : ∃ R, shF τ i s σ.1 4 0 = R := ⟨_, rfl⟩
  rw [hR] at hN hY
  have go : ∀ k l N, l + k = 4 → Eqx scr M N → shF τ i s σ.1 k l = R → ExG z (Run z (d + 7)) 7 1 false none cX7_shortestRoute Q 2 [vr 7 0, .inl (nI i), .inl (nI s), .inl (nI l)] [] N := by
    intro k
    induction k with
    | zero =>
      intro l N el E ef
      rw [eX7_shortestRoute_2]
      simp (disch := omega) only [eX7_shortestRoute_0, eX7_shortestRoute_1, eX7_shortestRoute_3, eX7_shortestRoute_4, eX7_shortestRoute_7, eX7_shortestRoute_8, eX7_shortestRoute_11, eX7_shortestRoute_12, eX7_shortestRoute_15, eX7_shortestRoute_18, eX7_shortestRoute_19, eX7_shortestRoute_22, eX7_shortestRoute_23, eX7_shortestRoute_26, eX7_shortestRoute_27, eX7_shortestRoute_30, eX7_shortestRoute_31, eX7_shortestRoute_32, eX7_shortestRoute_33, eX7_shortestRoute_34, eX7_shortestRoute_37, eX7_shortestRoute_40, eX7_shortestRoute_41, eX7_shortestRoute_42, eX7_shortestRoute_45, eX7_shortestRoute_48, eX7_shortestRoute_50, lit_3, nI_ltI, if_pos (show 3 < l by omega)]
      exact hN ef.symm N E
    | succ k ih =>
      intro l N el E ef
      have S' : St N 0 σ := St_e E (by unfold scr; omega) (by unfold scr; omega) S
      have r1N : gR N 7 0 1 = h := (E 7 0 1 (by unfold scr; omega)).2.trans r1
      have E3 : Eqx scr M (wSt N 1 σ) := Eqx_tr E scr_w (fun _ _ q => q) (fun _ _ q => q)
      rw [eX7_shortestRoute_2]
      simp (disch := omega) only [eX7_shortestRoute_0, eX7_shortestRoute_1, eX7_shortestRoute_3, eX7_shortestRoute_4, eX7_shortestRoute_7, eX7_shortestRoute_8, eX7_shortestRoute_11, eX7_shortestRoute_12, eX7_shortestRoute_15, eX7_shortestRoute_18, eX7_shortestRoute_19, eX7_shortestRoute_22, eX7_shortestRoute_23, eX7_shortestRoute_26, eX7_shortestRoute_27, eX7_shortestRoute_30, eX7_shortestRoute_31, eX7_shortestRoute_32, eX7_shortestRoute_33, eX7_shortestRoute_34, eX7_shortestRoute_37, eX7_shortestRoute_40, eX7_shortestRoute_41, eX7_shortestRoute_42, eX7_shortestRoute_45, eX7_shortestRoute_48, eX7_shortestRoute_50, cnt_0, cnt_1, cnt_2, cnt_3, cnt_4, cnt_5, cnt_6, cnt_7, cnt_8, cnt_9, cnt_10, cnt_11, true_and, Nat.lt_add_one, Nat.reduceLT, lit_3, nI_ltI, if_neg (show ¬ 3 < l by omega), tX5_copy (show 1 < 12 by decide) (show 0 < 12 by decide) (by decide) S', psh_u, gR_wSt, r1N, hh, lit_0]
      rw [show d + 7 = (d + (3 - l)) + l + 4 by omega]
      unfold shF at ef
      refine tX7_routeLeads K hh hi hs10 (show l ≤ 3 by omega) X l 0 σ.2.1 σ.2.2 σ.1 _ _ (by omega) hs E3 (St_wSt _ _ _) (fun hf N2 p2 hp2 E2 F2 S2 => ?_) (fun c hf N2 E2 F2 D2 => ?_)
      · rw [hf] at ef
        simp only [psh_i, bi_f, eX7_shortestRoute_0, eX7_shortestRoute_1, eX7_shortestRoute_3, eX7_shortestRoute_4, eX7_shortestRoute_7, eX7_shortestRoute_8, eX7_shortestRoute_11, eX7_shortestRoute_12, eX7_shortestRoute_15, eX7_shortestRoute_18, eX7_shortestRoute_19, eX7_shortestRoute_22, eX7_shortestRoute_23, eX7_shortestRoute_26, eX7_shortestRoute_27, eX7_shortestRoute_30, eX7_shortestRoute_31, eX7_shortestRoute_32, eX7_shortestRoute_33, eX7_shortestRoute_34, eX7_shortestRoute_37, eX7_shortestRoute_40, eX7_shortestRoute_41, eX7_shortestRoute_42, eX7_shortestRoute_45, eX7_shortestRoute_48, eX7_shortestRoute_50, if_true, nI_1]
        rw [show (d + (3 - l)) + l + 4 = d + 7 by omega]
        exact ih (l + 1) N2 (by omega) E2 ef
      · rw [hf] at ef
        simp only [psh_i, bi_t, eX7_shortestRoute_0, eX7_shortestRoute_1, eX7_shortestRoute_3, eX7_shortestRoute_4, eX7_shortestRoute_7, eX7_shortestRoute_8, eX7_shortestRoute_11, eX7_shortestRoute_12, eX7_shortestRoute_15, eX7_shortestRoute_18, eX7_shortestRoute_19, eX7_shortestRoute_22, eX7_shortestRoute_23, eX7_shortestRoute_26, eX7_shortestRoute_27, eX7_shortestRoute_30, eX7_shortestRoute_31, eX7_shortestRoute_32, eX7_shortestRoute_33, eX7_shortestRoute_34, eX7_shortestRoute_37, eX7_shortestRoute_40, eX7_shortestRoute_41, eX7_shortestRoute_42, eX7_shortestRoute_45, eX7_shortestRoute_48, eX7_shortestRoute_50, show ((1 : Int32) = 0) = False from eq_false (by decide), if_false]
        refine hY l c ef.symm (by omega) N2 E2 (fun j hj => ?_)
        have := D2 j hj
        rwa [Nat.zero_add] at this
  exact go 4 0 M (by omega) Eqx_rf hR
theorem uX7_asIf {x y w : Int32} (C : CA M lt len τ τd σ pa ph ka kh ci cs cn) (V : VA G τ σ pa ph ka kh ci cs cn)
    (hQ : ∀ M', CA M' lt len τ τd σ pa ph ka kh ci cs cn → Eqx clS M M' → Q (.inl (pAsIf τ σ x y w)) M') : Run z (d + 9) 63 [vr 7 0, .inl x, .inl y, .inl w] M Q := by
  obtain ⟨h, hh, r1, r2, P, H1, H2, S, P0, P1, L⟩ := id C
  obtain ⟨K, n1, hs, hg, -⟩ := id V
  have hn := K.1
  rw [rX7_asIf]
  unfold pAsIf at hQ
  simp only [eX7_asIf_0, eX7_asIf_1, eX7_asIf_4, eX7_asIf_5, eX7_asIf_8, eX7_asIf_11, eX7_asIf_12, eX7_asIf_15, eX7_asIf_18, eX7_asIf_19, eX7_asIf_22, eX7_asIf_23, eX7_asIf_24, eX7_asIf_27, eX7_asIf_28, eX7_asIf_29, eX7_asIf_30, eX7_asIf_31, eX7_asIf_32, eX7_asIf_35, eX7_asIf_37, eX7_asIf_39, eX7_asIf_41, eX7_asIf_44, eX7_asIf_45, eX7_asIf_48, eX7_asIf_50, eX7_asIf_51, eX7_asIf_52, eX7_asIf_54, eX7_asIf_57, eX7_asIf_58, eX7_asIf_61, eX7_asIf_62, eX7_asIf_63, eX7_asIf_64, eX7_asIf_67, eX7_asIf_70, eX7_asIf_72, cnt_0, cnt_1, cnt_2, cnt_3, cnt_4, cnt_5, cnt_6, cnt_7, cnt_8, cnt_9, cnt_10, cnt_11, true_and, Nat.lt_add_one, r1, hh, tX1_hasPerson hh H1 K, psh_i, bi_0, tX7_isShade]
  rcases hpB_cases K x with ⟨i, hi, pi, rfl, e⟩ | e
  · rcases hsB_cases y (n := 10) (by decide) with ⟨s, hs', rfl, e2⟩ | e2
    · rw [e, e2, if_neg (by decide), if_neg (by decide)]
      by_cases c1 : w < 0
      · rw [if_pos (Or.inr (Or.inr (Or.inl c1)))] at hQ
        rw [if_pos c1]
        exact hQ M C Eqx_rf
      · rw [if_neg c1]
        by_cases c2 : w ≤ 3
        · have c3 : ¬ 3 < w := by rw [Int32.not_lt]; exact c2
          rw [if_neg (by rintro (q | q | q | q) <;> simp_all), nI_clamp (by omega), nI_clamp (by omega)] at hQ
          rw [if_pos c2]
          obtain ⟨k, hk, rfl⟩ : ∃ k, k < 4 ∧ w = nI k := by
            rcases pk_ix w (n := 4) (by decide) with q | q | q
            · exact absurd q c1
            · exfalso
              apply c3
              rw [Int32.le_iff_toInt_le, nI_toInt (by decide)] at q
              rw [Int32.lt_iff_toInt_lt]
              simp at q ⊢
              omega
            · exact q
          rw [nI_clamp (by omega)] at hQ
          refine uX7_shortestRoute C V hi hs' (fun hf N E => ?_) (fun l c hf hl N E D => ?_)
          · have := hQ N (CA_scr C E) (cl_scr E)
            rw [hf] at this
            simp only [psh_i, eX7_asIf_0, eX7_asIf_1, eX7_asIf_4, eX7_asIf_5, eX7_asIf_8, eX7_asIf_11, eX7_asIf_12, eX7_asIf_15, eX7_asIf_18, eX7_asIf_19, eX7_asIf_22, eX7_asIf_23, eX7_asIf_24, eX7_asIf_27, eX7_asIf_28, eX7_asIf_29, eX7_asIf_30, eX7_asIf_31, eX7_asIf_32, eX7_asIf_35, eX7_asIf_37, eX7_asIf_39, eX7_asIf_41, eX7_asIf_44, eX7_asIf_45, eX7_asIf_48, eX7_asIf_50, eX7_asIf_51, eX7_asIf_52, eX7_asIf_54, eX7_asIf_57, eX7_asIf_58, eX7_asIf_61, eX7_asIf_62, eX7_asIf_63, eX7_asIf_64, eX7_asIf_67, eX7_asIf_70, eX7_asIf_72, if_true]
            exact this
          · have := hQ N (CA_scr C E) (cl_scr E)
            rw [hf] at this
            dsimp only at this
            simp (disch := omega) only [psh_i, eX7_asIf_0, eX7_asIf_1, eX7_asIf_4, eX7_asIf_5, eX7_asIf_8, eX7_asIf_11, eX7_asIf_12, eX7_asIf_15, eX7_asIf_18, eX7_asIf_19, eX7_asIf_22, eX7_asIf_23, eX7_asIf_24, eX7_asIf_27, eX7_asIf_28, eX7_asIf_29, eX7_asIf_30, eX7_asIf_31, eX7_asIf_32, eX7_asIf_35, eX7_asIf_37, eX7_asIf_39, eX7_asIf_41, eX7_asIf_44, eX7_asIf_45, eX7_asIf_48, eX7_asIf_50, eX7_asIf_51, eX7_asIf_52, eX7_asIf_54, eX7_asIf_57, eX7_asIf_58, eX7_asIf_61, eX7_asIf_62, eX7_asIf_63, eX7_asIf_64, eX7_asIf_67, eX7_asIf_70, eX7_asIf_72, cnt_0, cnt_1, cnt_2, cnt_3, cnt_4, cnt_5, cnt_6, cnt_7, cnt_8, cnt_9, cnt_10, cnt_11, Nat.reduceLT, true_and, neg4, if_false, lit_0, nI_eq, nI_ltI]
            cases k with
            | zero =>
              rw [if_pos (show nI 0 = (0 : Int32) from rfl)] at this
              rw [if_pos rfl]
              exact this
            | succ k =>
              have hk0 : ¬ nI (k + 1) = (0 : Int32) := by
                rw [lit_0, nI_eq (by omega) (by decide)]
                omega
              rw [if_neg hk0] at this
              rw [if_neg (by omega)]
              by_cases c4 : k + 1 ≤ l
              · rw [if_neg (by omega)]
                rw [if_neg (by omega)] at this
                have hd := D k (by omega)
                have u : rowAt N 30 (nI (k + 1) - 1) = nI (c / 9 ^ (l - 1 - k) % 9) := by
                  rw [lit_1, pk_sub (a := k + 1) (b := 1) (by omega), Nat.add_sub_cancel, rowAt_nI (by rw [aln30]; omega)]
                  exact hd
                simp only [tX4_at (show 30 < 32 by decide), u, psh_i, eX7_asIf_0, eX7_asIf_1, eX7_asIf_4, eX7_asIf_5, eX7_asIf_8, eX7_asIf_11, eX7_asIf_12, eX7_asIf_15, eX7_asIf_18, eX7_asIf_19, eX7_asIf_22, eX7_asIf_23, eX7_asIf_24, eX7_asIf_27, eX7_asIf_28, eX7_asIf_29, eX7_asIf_30, eX7_asIf_31, eX7_asIf_32, eX7_asIf_35, eX7_asIf_37, eX7_asIf_39, eX7_asIf_41, eX7_asIf_44, eX7_asIf_45, eX7_asIf_48, eX7_asIf_50, eX7_asIf_51, eX7_asIf_52, eX7_asIf_54, eX7_asIf_57, eX7_asIf_58, eX7_asIf_61, eX7_asIf_62, eX7_asIf_63, eX7_asIf_64, eX7_asIf_67, eX7_asIf_70, eX7_asIf_72]
                rw [show l - 1 - k = l - (k + 1) by omega]
                exact this
              · rw [if_pos (by omega)]
                rw [if_pos (by omega)] at this
                exact this
        · have c3 : 3 < w := by rw [← Int32.not_le]; exact c2
          rw [if_pos (Or.inr (Or.inr (Or.inr c3)))] at hQ
          rw [if_neg c2]
          exact hQ M C Eqx_rf
    · rw [if_pos (Or.inr (Or.inl e2))] at hQ
      rw [e, e2, if_neg (by decide), if_pos rfl]
      exact hQ M C Eqx_rf
  · rw [if_pos (Or.inl e)] at hQ
    rw [e, if_pos rfl]
    exact hQ M C Eqx_rf
end U11
theorem S9_nil {τ : Nat → Nat → Nat} (h : S9 τ) : S9 (nil0 τ) := h
theorem S9_ad {τ τ' : Nat → Nat → Nat} {c : Nat} {ns : List Nat} (h : S9 τ) (e : adI τ c ns = some τ') : S9 τ' := by
  unfold adI at e
  split at e
  · rename_i a b
    split at e
    · split at e
      · rename_i q
        injection e with e
        subst e
        intro j hj
        rw [upT_j (by decide)]
        unfold upT
        split
        · omega
        · have := h j hj
          split
          · omega
          · exact this
      · exact absurd e (by simp)
    · split at e
      · split at e
        · injection e with e
          subst e
          intro j hj
          rw [upT_j (by decide), upT_j (by decide), upT_j (by decide)]
          exact h j hj
        · exact absurd e (by simp)
      · exact absurd e (by simp)
  · split at e
    · split at e
      · injection e with e
        subst e
        intro j hj
        rw [upT_j (by decide), upT_j (by decide), upT_j (by decide), upT_j (by decide)]
        exact h j hj
      · exact absurd e (by simp)
    · exact absurd e (by simp)
  · split at e
    · split at e
      · injection e with e
        subst e
        intro j hj
        rw [upT_j (by decide)]
        exact h j hj
      · exact absurd e (by simp)
    · exact absurd e (by simp)
  · exact absurd e (by simp)
theorem S9_scn {lt : Nat → Nat} {len : Nat} : ∀ n τ p, S9 τ → S9 (scn lt len n τ p).2 := by
  intro n
  induction n with
  | zero => exact fun τ p h => h
  | succ n ih =>
    intro τ p h
    unfold scn
    split
    · split
      · exact h
      · rename_i r e
        refine ih _ _ ?_
        unfold itm at e
        split at e
        · exact absurd e (by simp)
        · rename_i r' _
          cases ea : adI τ (lt p) r'.1 with
          | none => rw [ea] at e; exact absurd e (by simp)
          | some τ' =>
            rw [ea] at e
            have e : (r'.2, τ') = r := by simpa using e
            subst e
            exact S9_ad h ea
    · exact h
