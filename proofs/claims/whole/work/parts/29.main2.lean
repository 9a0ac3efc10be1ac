/-! the class's calls, 2 -/
section U2
variable {z d G : Nat} {M : bM} {lt : Nat → Nat} {len : Nat} {τ τd : Nat → Nat → Nat} {σ : sT} {pa : Nat → sT} {ph : Nat} {ka : Nat → sT} {kh : Nat} {ci cs : Nat → Nat} {cn : Nat} {Q : bV → bM → Prop}
theorem uX7_lay (C : CA M lt len τ τd σ pa ph ka kh ci cs cn)
    (hQ : (¬ ((scn lt len 200 (nil0 τd) 0).1 = none ∧ ¬ ppl (scn lt len 200 (nil0 τd) 0).2 ((scn lt len 200 (nil0 τd) 0).2 7 0) = 0) → ∀ M', CA M' lt len τ (scn lt len 200 (nil0 τd) 0).2 σ pa ph ka kh ci cs cn → Eqx clS M M' → Q (.inl (-2)) M') ∧
      (((scn lt len 200 (nil0 τd) 0).1 = none ∧ ¬ ppl (scn lt len 200 (nil0 τd) 0).2 ((scn lt len 200 (nil0 τd) 0).2 7 0) = 0) → OKh (scn lt len 200 (nil0 τd) 0).2 → ∀ M', CA M' lt len (scn lt len 200 (nil0 τd) 0).2 τ ((scn lt len 200 (nil0 τd) 0).2 1, 0, 0) pa 0 ka 0 ci cs 0 → Eqx clS M M' → Q (.inl (nI ((scn lt len 200 (nil0 τd) 0).2 7 0))) M')) : Run z (d + 8) 54 [vr 7 0] M Q := by
  obtain ⟨h, hh, r1, r2, P, H1, H2, S, P0, P1, L⟩ := id C
  rw [rX7_lay]
  simp only [eX7_lay_0, eX7_lay_1, eX7_lay_4, eX7_lay_7, eX7_lay_8, eX7_lay_11, eX7_lay_14, eX7_lay_17, eX7_lay_19, cnt_0, cnt_1, cnt_2, cnt_3, cnt_4, cnt_5, cnt_6, cnt_7, cnt_8, cnt_9, cnt_10, cnt_11, true_and, Nat.lt_add_one]
  rw [rX7_layPage]
  simp only [eX7_layPage_0, eX7_layPage_1, eX7_layPage_4, eX7_layPage_5, eX7_layPage_8, eX7_layPage_11, eX7_layPage_13, eX7_layPage_16, eX7_layPage_17, eX7_layPage_20, eX7_layPage_23, eX7_layPage_26, eX7_layPage_270, eX7_layPage_271, eX7_layPage_28, eX7_layPage_29, eX7_layPage_32, eX7_layPage_33, eX7_layPage_34, eX7_layPage_35, eX7_layPage_38, eX7_layPage_41, eX7_layPage_42, eX7_layPage_43, eX7_layPage_46, eX7_layPage_47, eX7_layPage_50, eX7_layPage_51, eX7_layPage_54, eX7_layPage_57, eX7_layPage_58, eX7_layPage_61, eX7_layPage_64, eX7_layPage_65, eX7_layPage_68, eX7_layPage_71, eX7_layPage_72, eX7_layPage_75, eX7_layPage_78, eX7_layPage_790, eX7_layPage_791, eX7_layPage_27n0, eX7_layPage_27n1, eX7_layPage_79n0, eX7_layPage_79n1, cnt_0, cnt_1, cnt_2, cnt_3, cnt_4, cnt_5, cnt_6, cnt_7, cnt_8, cnt_9, cnt_10, cnt_11, true_and, Nat.lt_add_one, r2]
  refine tX2_readInto (h := 1 - h) (by omega) P H2 (fun M1 P1' E1 Hr Kr => ?_)
  have cl1 : Eqx clS M M1 := Eqx_mo E1 (fun c i q => by unfold rS hS fS at q; unfold clS; omega)
  have C1 := CA_draft hh r1 C E1 P1' Hr
  generalize hsc : scn lt len 200 (nil0 τd) 0 = sc at hQ Hr Kr C1
  cases ho : sc.1 with
  | some p =>
    have hp : p < 2 ^ 31 := by
      have : ∀ n τ q p, q ≤ len + 20 → (scn lt len n τ q).1 = some p → p < len := by
        intro n
        induction n with
        | zero => intro τ q p _ h; cases h
        | succ n ih =>
          intro τ q p hq h
          unfold scn at h
          split at h
          · split at h
            · cases h; assumption
            · rename_i r hr
              refine ih r.2 r.1 p ?_ h
              unfold itm at hr
              split at hr
              · cases hr
              · rename_i r' hr'
                obtain ⟨b1, b2, b3⟩ := rdF_b _ _ _ _ hr'
                cases ha : adI τ (lt q) r'.1 with
                | none => rw [ha] at hr; cases hr
                | some τ' => rw [ha] at hr; cases hr; dsimp only; omega
          · cases h
      have := this 200 (nil0 τd) 0 p (by omega) (by rw [hsc]; exact ho)
      have := P.2.1
      omega
    have := hQ.1 (fun q => by rw [ho] at q; cases q.1) M1 C1 cl1
    simp only [psh_i, eX7_layPage_0, eX7_layPage_1, eX7_layPage_4, eX7_layPage_5, eX7_layPage_8, eX7_layPage_11, eX7_layPage_13, eX7_layPage_16, eX7_layPage_17, eX7_layPage_20, eX7_layPage_23, eX7_layPage_26, eX7_layPage_270, eX7_layPage_271, eX7_layPage_28, eX7_layPage_29, eX7_layPage_32, eX7_layPage_33, eX7_layPage_34, eX7_layPage_35, eX7_layPage_38, eX7_layPage_41, eX7_layPage_42, eX7_layPage_43, eX7_layPage_46, eX7_layPage_47, eX7_layPage_50, eX7_layPage_51, eX7_layPage_54, eX7_layPage_57, eX7_layPage_58, eX7_layPage_61, eX7_layPage_64, eX7_layPage_65, eX7_layPage_68, eX7_layPage_71, eX7_layPage_72, eX7_layPage_75, eX7_layPage_78, eX7_layPage_790, eX7_layPage_791, eX7_layPage_27n0, eX7_layPage_27n1, eX7_layPage_79n0, eX7_layPage_79n1, fR, neg4 hp, if_false, eX7_lay_0, eX7_lay_1, eX7_lay_4, eX7_lay_7, eX7_lay_8, eX7_lay_11, eX7_lay_14, eX7_lay_17, eX7_lay_19, if_true]
    exact this
  | none =>
    obtain ⟨h', hh', r1', r2', P', H1', H2', S', P0', P1'', L'⟩ := id C1
    have e : h' = h := by
      have : gR M1 7 0 1 = gR M 7 0 1 := (E1 _ _ _ (by unfold rS hS fS; omega)).2
      rw [r1', r1] at this
      exact this
    subst e
    simp only [psh_i, eX7_layPage_0, eX7_layPage_1, eX7_layPage_4, eX7_layPage_5, eX7_layPage_8, eX7_layPage_11, eX7_layPage_13, eX7_layPage_16, eX7_layPage_17, eX7_layPage_20, eX7_layPage_23, eX7_layPage_26, eX7_layPage_270, eX7_layPage_271, eX7_layPage_28, eX7_layPage_29, eX7_layPage_32, eX7_layPage_33, eX7_layPage_34, eX7_layPage_35, eX7_layPage_38, eX7_layPage_41, eX7_layPage_42, eX7_layPage_43, eX7_layPage_46, eX7_layPage_47, eX7_layPage_50, eX7_layPage_51, eX7_layPage_54, eX7_layPage_57, eX7_layPage_58, eX7_layPage_61, eX7_layPage_64, eX7_layPage_65, eX7_layPage_68, eX7_layPage_71, eX7_layPage_72, eX7_layPage_75, eX7_layPage_78, eX7_layPage_790, eX7_layPage_791, eX7_layPage_27n0, eX7_layPage_27n1, eX7_layPage_79n0, eX7_layPage_79n1, cnt_0, cnt_1, cnt_2, cnt_3, cnt_4, cnt_5, cnt_6, cnt_7, cnt_8, cnt_9, cnt_10, cnt_11, true_and, Nat.lt_add_one, fR, if_true, r2', show 1 - h' < 2 from by omega, tX1_people (show 1 - h' < 2 by omega) Hr Kr]
    by_cases hp : ppl sc.2 (sc.2 7 0) = 0
    · have := hQ.1 (fun q => q.2 hp) M1 C1 cl1
      simp only [hp, show (nI 0 = (0 : Int32)) = True from eq_true rfl, if_true, psh_i, eX7_layPage_0, eX7_layPage_1, eX7_layPage_4, eX7_layPage_5, eX7_layPage_8, eX7_layPage_11, eX7_layPage_13, eX7_layPage_16, eX7_layPage_17, eX7_layPage_20, eX7_layPage_23, eX7_layPage_26, eX7_layPage_270, eX7_layPage_271, eX7_layPage_28, eX7_layPage_29, eX7_layPage_32, eX7_layPage_33, eX7_layPage_34, eX7_layPage_35, eX7_layPage_38, eX7_layPage_41, eX7_layPage_42, eX7_layPage_43, eX7_layPage_46, eX7_layPage_47, eX7_layPage_50, eX7_layPage_51, eX7_layPage_54, eX7_layPage_57, eX7_layPage_58, eX7_layPage_61, eX7_layPage_64, eX7_layPage_65, eX7_layPage_68, eX7_layPage_71, eX7_layPage_72, eX7_layPage_75, eX7_layPage_78, eX7_layPage_790, eX7_layPage_791, eX7_layPage_27n0, eX7_layPage_27n1, eX7_layPage_79n0, eX7_layPage_79n1, eX7_lay_0, eX7_lay_1, eX7_lay_4, eX7_lay_7, eX7_lay_8, eX7_lay_11, eX7_lay_14, eX7_lay_17, eX7_lay_19]
      exact this
    · have hpl := ppl_le sc.2 (sc.2 7 0)
      have hn := Kr.1
      have hp2 : (nI (ppl sc.2 (sc.2 7 0)) = 0) = False := eq_false (nI_ne0 (by omega) (by omega))
      have E2 : Eqx (fun c i => c = 7) M1 (sR (sR M1 7 0 1 (1 - h')) 7 0 2 h') := Eqx_tr (Eqx_sR (S := fun c i => c = 7) rfl) (Eqx_sR (S := fun c i => c = 7) rfl) (fun _ _ q => q) (fun _ _ q => q)
      have Hs1 : Ho (sR (sR M1 7 0 1 (1 - h')) 7 0 2 h') (1 - h') sc.2 := Ho_e E2 (by omega) (by omega) Hr
      have g1 : gR (sR (sR M1 7 0 1 (1 - h')) 7 0 2 h') 7 0 1 = 1 - h' := by rw [gR_sR, if_neg (by omega), gR_sR, if_pos ⟨rfl, rfl, rfl⟩]
      have g2 : gR (sR (sR M1 7 0 1 (1 - h')) 7 0 2 h') 7 0 2 = h' := by rw [gR_sR, if_pos ⟨rfl, rfl, rfl⟩]
      have gd : gR (sR M1 7 0 1 (1 - h')) 7 0 2 = 1 - h' := by rw [gR_sR, if_neg (by omega)]; exact r2'
      simp only [hp2, if_false, eX7_layPage_0, eX7_layPage_1, eX7_layPage_4, eX7_layPage_5, eX7_layPage_8, eX7_layPage_11, eX7_layPage_13, eX7_layPage_16, eX7_layPage_17, eX7_layPage_20, eX7_layPage_23, eX7_layPage_26, eX7_layPage_270, eX7_layPage_271, eX7_layPage_28, eX7_layPage_29, eX7_layPage_32, eX7_layPage_33, eX7_layPage_34, eX7_layPage_35, eX7_layPage_38, eX7_layPage_41, eX7_layPage_42, eX7_layPage_43, eX7_layPage_46, eX7_layPage_47, eX7_layPage_50, eX7_layPage_51, eX7_layPage_54, eX7_layPage_57, eX7_layPage_58, eX7_layPage_61, eX7_layPage_64, eX7_layPage_65, eX7_layPage_68, eX7_layPage_71, eX7_layPage_72, eX7_layPage_75, eX7_layPage_78, eX7_layPage_790, eX7_layPage_791, eX7_layPage_27n0, eX7_layPage_27n1, eX7_layPage_79n0, eX7_layPage_79n1, cnt_0, cnt_1, cnt_2, cnt_3, cnt_4, cnt_5, cnt_6, cnt_7, cnt_8, cnt_9, cnt_10, cnt_11, true_and, Nat.lt_add_one, Nat.reduceLT, r1', r2']
      generalize sR (sR M1 7 0 1 (1 - h')) 7 0 2 h' = M2 at E2 Hs1 g1 g2 ⊢
      simp only [g1, show 1 - h' < 2 from by omega, true_and, tX5_begin (show 0 < 12 by decide) (show 1 - h' < 2 by omega) Hs1, psh_u, tX0_clear, tX3_clear (show 0 < 2 by decide), tX3_clear (show 1 < 2 by decide), psh_i, bi_t, eX7_layPage_0, eX7_layPage_1, eX7_layPage_4, eX7_layPage_5, eX7_layPage_8, eX7_layPage_11, eX7_layPage_13, eX7_layPage_16, eX7_layPage_17, eX7_layPage_20, eX7_layPage_23, eX7_layPage_26, eX7_layPage_270, eX7_layPage_271, eX7_layPage_28, eX7_layPage_29, eX7_layPage_32, eX7_layPage_33, eX7_layPage_34, eX7_layPage_35, eX7_layPage_38, eX7_layPage_41, eX7_layPage_42, eX7_layPage_43, eX7_layPage_46, eX7_layPage_47, eX7_layPage_50, eX7_layPage_51, eX7_layPage_54, eX7_layPage_57, eX7_layPage_58, eX7_layPage_61, eX7_layPage_64, eX7_layPage_65, eX7_layPage_68, eX7_layPage_71, eX7_layPage_72, eX7_layPage_75, eX7_layPage_78, eX7_layPage_790, eX7_layPage_791, eX7_layPage_27n0, eX7_layPage_27n1, eX7_layPage_79n0, eX7_layPage_79n1, eX7_lay_0, eX7_lay_1, eX7_lay_4, eX7_lay_7, eX7_lay_8, eX7_lay_11, eX7_lay_14, eX7_lay_17, eX7_lay_19, cnt_0, cnt_1, cnt_2, cnt_3, cnt_4, cnt_5, cnt_6, cnt_7, cnt_8, cnt_9, cnt_10, cnt_11, Nat.lt_add_one, Nat.reduceLT, show ((1 : Int32) = 0) = False from eq_false (by decide), if_false, gR_sI, gR_wSt]
      have E3 : Eqx (fun c i => (c = 5 ∧ i = 0) ∨ (c = 9 ∧ i = 16) ∨ c = 0 ∨ c = 3) M2 (sI (sI (sI (wSt M2 0 (sc.2 1, 0, 0)) 0 0 2 (nI 0)) 3 0 1 (nI 0)) 3 1 1 (nI 0)) :=
        Eqx_tr (Eqx_tr (Eqx_tr (Eqx_w (S := fun c i => (c = 5 ∧ i = 0) ∨ (c = 9 ∧ i = 16) ∨ c = 0 ∨ c = 3) (Or.inr (Or.inl ⟨rfl, rfl⟩)) (Or.inl ⟨rfl, rfl⟩)) (Eqx_sI (S := fun c i => c = 0) rfl) (fun _ _ q => q) (fun _ _ q => Or.inr (Or.inr (Or.inl q)))) (Eqx_sI (S := fun c i => c = 3) rfl) (fun _ _ q => q) (fun _ _ q => Or.inr (Or.inr (Or.inr q)))) (Eqx_sI (S := fun c i => c = 3) rfl) (fun _ _ q => q) (fun _ _ q => Or.inr (Or.inr (Or.inr q)))
      have S3 : St (sI (sI (sI (wSt M2 0 (sc.2 1, 0, 0)) 0 0 2 (nI 0)) 3 0 1 (nI 0)) 3 1 1 (nI 0)) 0 (sc.2 1, 0, 0) :=
        St_e (S := fun c i => c = 0 ∨ c = 3) (Eqx_tr (Eqx_tr (Eqx_sI (S := fun c i => c = 0) rfl) (Eqx_sI (S := fun c i => c = 3) rfl) (S := fun c i => c = 0 ∨ c = 3) (fun _ _ q => Or.inl q) (fun _ _ q => Or.inr q)) (Eqx_sI (S := fun c i => c = 3) rfl) (fun _ _ q => q) (fun _ _ q => Or.inr q)) (by omega) (by omega) (St_wSt _ _ _)
      have q00 : gI (sI (sI (sI (wSt M2 0 (sc.2 1, 0, 0)) 0 0 2 (nI 0)) 3 0 1 (nI 0)) 3 1 1 (nI 0)) 3 0 1 = nI 0 := by rw [gI_sI, if_neg (by omega), gI_sI, if_pos ⟨rfl, rfl, rfl⟩]
      have q01 : gI (sI (sI (sI (wSt M2 0 (sc.2 1, 0, 0)) 0 0 2 (nI 0)) 3 0 1 (nI 0)) 3 1 1 (nI 0)) 3 1 1 = nI 0 := by rw [gI_sI, if_pos ⟨rfl, rfl, rfl⟩]
      have qcl : gI (sI (sI (sI (wSt M2 0 (sc.2 1, 0, 0)) 0 0 2 (nI 0)) 3 0 1 (nI 0)) 3 1 1 (nI 0)) 0 0 2 = nI 0 := by rw [gI_sI, if_neg (by omega), gI_sI, if_neg (by omega), gI_sI, if_pos ⟨rfl, rfl, rfl⟩]
      generalize sI (sI (sI (wSt M2 0 (sc.2 1, 0, 0)) 0 0 2 (nI 0)) 3 0 1 (nI 0)) 3 1 1 (nI 0) = M3 at E3 S3 q00 q01 qcl ⊢
      have E13 : Eqx (fun c i => c = 7 ∨ (c = 5 ∧ i = 0) ∨ (c = 9 ∧ i = 16) ∨ c = 0 ∨ c = 3) M1 M3 := Eqx_tr E2 E3 (fun _ _ q => Or.inl q) (fun _ _ q => Or.inr q)
      have Hn : Ho M3 (1 - h') sc.2 := Ho_e E13 (by omega) (by omega) Hr
      rw [Ho_n Hn]
      refine hQ.2 ⟨ho, hp⟩ Kr M3 ⟨1 - h', by omega, ?_, ?_, Pg_e E13 (by omega) (by omega) P', Hn, ?_, S3, ?_, ?_, qcl, by omega, fun j hj => by omega⟩ (Eqx_tr cl1 E13 (fun _ _ q => q) (fun c i q => by unfold clS; omega))
      · exact ((E3 _ _ _ (by omega)).2).trans g1
      · rw [(E3 _ _ _ (by omega)).2, g2]; omega
      · have : 1 - (1 - h') = h' := by omega
        rw [this]
        exact Ho_e E13 (by omega) (by omega) H1'
      · obtain ⟨ord, o1, -⟩ := P0'
        exact ⟨ord, ⟨fun j hj => ⟨((E13 _ _ _ (by omega)).2).trans (o1.1 j hj).1, (o1.1 j hj).2⟩, o1.2⟩, q00, by omega, fun j hj => by omega⟩
      · obtain ⟨ord, o1, -⟩ := P1''
        exact ⟨ord, ⟨fun j hj => ⟨((E13 _ _ _ (by omega)).2).trans (o1.1 j hj).1, (o1.1 j hj).2⟩, o1.2⟩, q01, by omega, fun j hj => by omega⟩
theorem uX7_pass {x : Int32} (C : CA M lt len τ τd σ pa ph ka kh ci cs cn) (V : VA G τ σ pa ph ka kh ci cs cn) (hG : G < 2 ^ 28)
    (hQ : ((x < 1 ∨ 24 < x) → Q (.inl (-1)) M) ∧ ∀ n, 1 ≤ n → n ≤ 24 → x = nI n → ∀ M', CA M' lt len τ τd (hrN τ n σ) (pushP 8 pa ph σ) (pushH 8 ph) ka kh ci cs cn → Eqx clS M M' → Q (.inl (nI ((hrN τ n σ).2.2 % 12))) M') : Run z (d + 6) 57 [vr 7 0, .inl x] M Q := by
  obtain ⟨h, hh, r1, r2, P, H1, H2, S, P0, P1, L⟩ := id C
  obtain ⟨K, n1, hs, hg, -⟩ := V
  rw [rX7_pass]
  by_cases a : x < 1
  · have := hQ.1 (Or.inl a)
    simp only [eX7_pass_0, eX7_pass_1, eX7_pass_2, eX7_pass_5, eX7_pass_6, eX7_pass_8, eX7_pass_11, eX7_pass_12, eX7_pass_13, eX7_pass_14, eX7_pass_17, eX7_pass_18, eX7_pass_21, eX7_pass_24, eX7_pass_25, eX7_pass_28, eX7_pass_29, eX7_pass_32, eX7_pass_33, eX7_pass_36, eX7_pass_37, eX7_pass_40, eX7_pass_43, if_pos a]
    exact this
  · by_cases b : 24 < x
    · have := hQ.1 (Or.inr b)
      have b2 : ¬ x ≤ 24 := by rw [Int32.not_le]; exact b
      simp only [eX7_pass_0, eX7_pass_1, eX7_pass_2, eX7_pass_5, eX7_pass_6, eX7_pass_8, eX7_pass_11, eX7_pass_12, eX7_pass_13, eX7_pass_14, eX7_pass_17, eX7_pass_18, eX7_pass_21, eX7_pass_24, eX7_pass_25, eX7_pass_28, eX7_pass_29, eX7_pass_32, eX7_pass_33, eX7_pass_36, eX7_pass_37, eX7_pass_40, eX7_pass_43, if_neg a, if_neg b2]
      exact this
    · have b2 : x ≤ 24 := by rw [← Int32.not_lt]; exact b
      obtain ⟨n, hn1, hn2, rfl⟩ : ∃ n, 1 ≤ n ∧ n ≤ 24 ∧ x = nI n := by
        rcases pk_ix x (n := 25) (by decide) with q | q | ⟨j, hj, rfl⟩
        · exfalso
          rw [Int32.lt_iff_toInt_lt] at a q
          simp at a q
          omega
        · exfalso
          rw [Int32.le_iff_toInt_le, nI_toInt (by decide)] at q
          rw [Int32.le_iff_toInt_le] at b2
          simp at b2
          omega
        · refine ⟨j, ?_, by omega, rfl⟩
          rw [lit_1, nI_ltI (by omega) (by decide)] at a
          omega
      simp only [eX7_pass_0, eX7_pass_1, eX7_pass_2, eX7_pass_5, eX7_pass_6, eX7_pass_8, eX7_pass_11, eX7_pass_12, eX7_pass_13, eX7_pass_14, eX7_pass_17, eX7_pass_18, eX7_pass_21, eX7_pass_24, eX7_pass_25, eX7_pass_28, eX7_pass_29, eX7_pass_32, eX7_pass_33, eX7_pass_36, eX7_pass_37, eX7_pass_40, eX7_pass_43, cnt_0, cnt_1, cnt_2, cnt_3, cnt_4, cnt_5, cnt_6, cnt_7, cnt_8, cnt_9, cnt_10, cnt_11, true_and, Nat.lt_add_one, if_neg a, if_pos b2, Nat.reduceLT]
      refine tX3_push (d := d + 1) (by decide) P0 (by decide) S (fun M1 P0' E1 => ?_)
      have nE : ∀ {c i : Nat}, ¬ ((c = 3 ∧ i = 0) ∨ (c = 10 ∧ i = 0) ∨ (c = 5 ∧ 2 ≤ i ∧ i < 10) ∨ (c = 9 ∧ 18 ≤ i ∧ i < 26)) → ¬ pS 0 c i := fun w v => w (pS_0 v)
      have H1' : Ho M1 h τ := Ho_e E1 (fun r a b => nE (by omega)) (nE (by omega)) H1
      have S' : St M1 0 σ := St_e E1 (nE (by omega)) (nE (by omega)) S
      have r1' : gR M1 7 0 1 = h := ((E1 _ _ _ (nE (by omega))).2).trans r1
      simp (disch := omega) only [psh_u, eX7_pass_0, eX7_pass_1, eX7_pass_2, eX7_pass_5, eX7_pass_6, eX7_pass_8, eX7_pass_11, eX7_pass_12, eX7_pass_13, eX7_pass_14, eX7_pass_17, eX7_pass_18, eX7_pass_21, eX7_pass_24, eX7_pass_25, eX7_pass_28, eX7_pass_29, eX7_pass_32, eX7_pass_33, eX7_pass_36, eX7_pass_37, eX7_pass_40, eX7_pass_43, cnt_0, cnt_1, cnt_2, cnt_3, cnt_4, cnt_5, cnt_6, cnt_7, cnt_8, cnt_9, cnt_10, cnt_11, true_and, Nat.lt_add_one, r1', Nat.reduceLT, mX5_goHours (show 0 < 12 by decide) hh H1' K hs (show σ.2.2 < 2 ^ 29 by omega) (show n < 2 ^ 29 by omega) S', wSt_h]
      have E2 : Eqx (fun c i => (c = 5 ∧ i = 0) ∨ (c = 9 ∧ i = 16)) M1 (wSt M1 0 (hrN τ n σ)) := Eqx_w (Or.inr ⟨rfl, rfl⟩) (Or.inl ⟨rfl, rfl⟩)
      refine hQ.2 n hn1 hn2 rfl _ (CA_now C (Eqx_tr E1 E2 (fun c i q => Or.inr (Or.inl q)) (fun c i q => Or.inr (Or.inr q))) (St_wSt _ _ _) (Pi_e E2 (fun c i q => by have := pS_0 q; omega) P0')) (Eqx_tr E1 E2 (fun c i q => by have := pS_0 q; unfold clS; omega) (fun c i q => by unfold clS; omega))
theorem uX7_touch {x y : Int32} (C : CA M lt len τ τd σ pa ph ka kh ci cs cn) (V : VA G τ σ pa ph ka kh ci cs cn)
    (hQ : ((hsB x (τ 7 0) = false ∨ hsB y (τ 7 0) = false ∨ x = y) → Q (.inl (-1)) M) ∧ ∀ a b, a < τ 7 0 → b < τ 7 0 → a ≠ b → x = nI a → y = nI b → ∀ M', CA M' lt len τ τd (tcS τ a b σ) (pushP 8 pa ph σ) (pushH 8 ph) ka kh ci cs cn → Eqx clS M M' → Q (.inl (nI (pmr (τ 0) σ.1 a b))) M') : Run z (d + 5) 58 [vr 7 0, .inl x, .inl y] M Q := by
  obtain ⟨h, hh, r1, r2, P, H1, H2, S, P0, P1, L⟩ := id C
  obtain ⟨K, n1, hs, hg, -⟩ := V
  have hn := K.1
  rw [rX7_touch]
  simp only [eX7_touch_0, eX7_touch_1, eX7_touch_4, eX7_touch_5, eX7_touch_8, eX7_touch_11, eX7_touch_12, eX7_touch_15, eX7_touch_16, eX7_touch_19, eX7_touch_22, eX7_touch_23, eX7_touch_24, eX7_touch_27, eX7_touch_28, eX7_touch_29, eX7_touch_30, eX7_touch_33, eX7_touch_34, eX7_touch_37, eX7_touch_40, eX7_touch_41, eX7_touch_44, eX7_touch_45, eX7_touch_48, eX7_touch_49, eX7_touch_50, eX7_touch_53, cnt_0, cnt_1, cnt_2, cnt_3, cnt_4, cnt_5, cnt_6, cnt_7, cnt_8, cnt_9, cnt_10, cnt_11, true_and, Nat.lt_add_one, r1, hh, tX1_has hh H1, psh_i, bi_0]
  rcases hsB_cases x (n := τ 7 0) (by omega) with ⟨a, ha, rfl, e⟩ | e
  · rcases hsB_cases y (n := τ 7 0) (by omega) with ⟨b, hb, rfl, e2⟩ | e2
    · by_cases q : a = b
      · rw [e, e2, if_neg (by decide), if_neg (by decide), if_pos (by rw [q])]
        exact hQ.1 (Or.inr (Or.inr (by rw [q])))
      · rw [e, e2, if_neg (by decide), if_neg (by decide), if_neg (by rw [nI_eq (by omega) (by omega)]; exact q)]
        simp only [Nat.reduceLT, true_and]
        refine tX3_push (d := d) (by decide) P0 (by decide) S (fun M1 P0' E1 => ?_)
        have nE : ∀ {c i : Nat}, ¬ ((c = 3 ∧ i = 0) ∨ (c = 10 ∧ i = 0) ∨ (c = 5 ∧ 2 ≤ i ∧ i < 10) ∨ (c = 9 ∧ 18 ≤ i ∧ i < 26)) → ¬ pS 0 c i := fun w v => w (pS_0 v)
        have H1' : Ho M1 h τ := Ho_e E1 (fun r a b => nE (by omega)) (nE (by omega)) H1
        have S' : St M1 0 σ := St_e E1 (nE (by omega)) (nE (by omega)) S
        have r1' : gR M1 7 0 1 = h := ((E1 _ _ _ (nE (by omega))).2).trans r1
        simp (disch := omega) only [psh_u, psh_i, eX7_touch_0, eX7_touch_1, eX7_touch_4, eX7_touch_5, eX7_touch_8, eX7_touch_11, eX7_touch_12, eX7_touch_15, eX7_touch_16, eX7_touch_19, eX7_touch_22, eX7_touch_23, eX7_touch_24, eX7_touch_27, eX7_touch_28, eX7_touch_29, eX7_touch_30, eX7_touch_33, eX7_touch_34, eX7_touch_37, eX7_touch_40, eX7_touch_41, eX7_touch_44, eX7_touch_45, eX7_touch_48, eX7_touch_49, eX7_touch_50, eX7_touch_53, cnt_0, cnt_1, cnt_2, cnt_3, cnt_4, cnt_5, cnt_6, cnt_7, cnt_8, cnt_9, cnt_10, cnt_11, true_and, Nat.lt_add_one, r1', Nat.reduceLT, mX5_meet (show 0 < 12 by decide) hh H1' K hs ha hb q S']
        have E2 : Eqx (fun c i => (c = 5 ∧ i = 0) ∨ (c = 9 ∧ i = 16)) M1 (wSt M1 0 (tcS τ a b σ)) := Eqx_w (Or.inr ⟨rfl, rfl⟩) (Or.inl ⟨rfl, rfl⟩)
        refine hQ.2 a b ha hb q rfl rfl _ (CA_now C (Eqx_tr E1 E2 (fun c i q => Or.inr (Or.inl q)) (fun c i q => Or.inr (Or.inr q))) (St_wSt _ _ _) (Pi_e E2 (fun c i q => by have := pS_0 q; omega) P0')) (Eqx_tr E1 E2 (fun c i q => by have := pS_0 q; unfold clS; omega) (fun c i q => by unfold clS; omega))
    · rw [e, e2, if_neg (by decide), if_pos rfl]
      exact hQ.1 (Or.inr (Or.inl e2))
  · rw [e, if_pos rfl]
    exact hQ.1 (Or.inl e)
theorem hpB_cases {τ : Nat → Nat → Nat} (K : OKh τ) (x : Int32) : (∃ j, j < τ 7 0 ∧ per τ j = true ∧ x = nI j ∧ hpB x τ = true) ∨ hpB x τ = false := by
  have hn := K.1
  rcases hsB_cases x (n := τ 7 0) (by omega) with ⟨a, ha, rfl, e⟩ | e
  · rw [hpB_nI K (by omega)]
    cases hp : per τ a
    · exact Or.inr rfl
    · exact Or.inl ⟨a, ha, hp, rfl, rfl⟩
  · right; unfold hpB; rw [e]; rfl
theorem uX7_wash {x : Int32} (C : CA M lt len τ τd σ pa ph ka kh ci cs cn) (V : VA G τ σ pa ph ka kh ci cs cn)
    (hQ : (hpB x τ = false → Q (.inl (-1)) M) ∧ ∀ a, a < τ 7 0 → per τ a = true → x = nI a → ∀ M', CA M' lt len τ τd (liS a (wby τ a) σ) (pushP 8 pa ph σ) (pushH 8 ph) ka kh ci cs cn → Eqx clS M M' → Q (.inl (nI (σ.1 a - wby τ a))) M') : Run z (d + 5) 59 [vr 7 0, .inl x] M Q := by
  obtain ⟨h, hh, r1, r2, P, H1, H2, S, P0, P1, L⟩ := id C
  obtain ⟨K, n1, hs, hg, -⟩ := V
  have hn := K.1
  rw [rX7_wash]
  simp only [eX7_wash_0, eX7_wash_1, eX7_wash_4, eX7_wash_5, eX7_wash_8, eX7_wash_11, eX7_wash_12, eX7_wash_13, eX7_wash_14, eX7_wash_17, eX7_wash_18, eX7_wash_21, eX7_wash_24, eX7_wash_25, eX7_wash_28, eX7_wash_29, eX7_wash_32, eX7_wash_33, eX7_wash_36, eX7_wash_37, eX7_wash_40, eX7_wash_43, eX7_wash_44, eX7_wash_47, cnt_0, cnt_1, cnt_2, cnt_3, cnt_4, cnt_5, cnt_6, cnt_7, cnt_8, cnt_9, cnt_10, cnt_11, true_and, Nat.lt_add_one, r1, hh, tX1_hasPerson hh H1 K, psh_i, bi_0]
  rcases hpB_cases K x with ⟨a, ha, hp, rfl, e⟩ | e
  · rw [e, if_neg (by decide)]
    simp only [Nat.reduceLT, true_and]
    refine tX3_push (d := d) (by decide) P0 (by decide) S (fun M1 P0' E1 => ?_)
    have nE : ∀ {c i : Nat}, ¬ ((c = 3 ∧ i = 0) ∨ (c = 10 ∧ i = 0) ∨ (c = 5 ∧ 2 ≤ i ∧ i < 10) ∨ (c = 9 ∧ 18 ≤ i ∧ i < 26)) → ¬ pS 0 c i := fun w v => w (pS_0 v)
    have H1' : Ho M1 h τ := Ho_e E1 (fun r a b => nE (by omega)) (nE (by omega)) H1
    have S' : St M1 0 σ := St_e E1 (nE (by omega)) (nE (by omega)) S
    have r1' : gR M1 7 0 1 = h := ((E1 _ _ _ (nE (by omega))).2).trans r1
    have s0 : ∀ σ, rowAt (wSt M1 0 σ) (16 + 0) (nI a) = nI (σ.1 a) := fun σ => wSt_rowAt (by decide) (by omega)
    simp (disch := omega) only [psh_u, psh_i, eX7_wash_0, eX7_wash_1, eX7_wash_4, eX7_wash_5, eX7_wash_8, eX7_wash_11, eX7_wash_12, eX7_wash_13, eX7_wash_14, eX7_wash_17, eX7_wash_18, eX7_wash_21, eX7_wash_24, eX7_wash_25, eX7_wash_28, eX7_wash_29, eX7_wash_32, eX7_wash_33, eX7_wash_36, eX7_wash_37, eX7_wash_40, eX7_wash_43, eX7_wash_44, eX7_wash_47, cnt_0, cnt_1, cnt_2, cnt_3, cnt_4, cnt_5, cnt_6, cnt_7, cnt_8, cnt_9, cnt_10, cnt_11, true_and, Nat.lt_add_one, r1', Nat.reduceLT, mX5_rinse (show 0 < 12 by decide) hh H1' K hs ha S', tX4_at, s0, Nat.reduceAdd]
    have E2 : Eqx (fun c i => (c = 5 ∧ i = 0) ∨ (c = 9 ∧ i = 16)) M1 (wSt M1 0 (liS a (wby τ a) σ)) := Eqx_w (Or.inr ⟨rfl, rfl⟩) (Or.inl ⟨rfl, rfl⟩)
    have e3 : (liS a (wby τ a) σ).1 a = σ.1 a - wby τ a := upN_eq
    rw [e3]
    refine hQ.2 a ha hp rfl _ (CA_now C (Eqx_tr E1 E2 (fun c i q => Or.inr (Or.inl q)) (fun c i q => Or.inr (Or.inr q))) (St_wSt _ _ _) (Pi_e E2 (fun c i q => by have := pS_0 q; omega) P0')) (Eqx_tr E1 E2 (fun c i q => by have := pS_0 q; unfold clS; omega) (fun c i q => by unfold clS; omega))
  · rw [e, if_pos rfl]
    exact hQ.1 e
theorem uX7_powder {x : Int32} (C : CA M lt len τ τd σ pa ph ka kh ci cs cn) (V : VA G τ σ pa ph ka kh ci cs cn)
    (hQ : (hpB x τ = false → Q (.inl (-1)) M) ∧ ∀ a, a < τ 7 0 → per τ a = true → x = nI a → (σ.2.1.testBit a = true → Q (.inl (-2)) M) ∧ (σ.2.1.testBit a = false → ∀ M', CA M' lt len τ τd (σ.1, σ.2.1 ||| 2 ^ a, σ.2.2) (pushP 8 pa ph σ) (pushH 8 ph) ka kh ci cs cn → Eqx clS M M' → Q (.inl (nI (bcN (σ.2.1 ||| 2 ^ a)))) M')) : Run z (d + 5) 60 [vr 7 0, .inl x] M Q := by
  obtain ⟨h, hh, r1, r2, P, H1, H2, S, P0, P1, L⟩ := id C
  obtain ⟨K, n1, hs, hg, -⟩ := V
  have hn := K.1
  rw [rX7_powder]
  simp only [eX7_powder_0, eX7_powder_1, eX7_powder_4, eX7_powder_5, eX7_powder_8, eX7_powder_11, eX7_powder_12, eX7_powder_13, eX7_powder_14, eX7_powder_17, eX7_powder_18, eX7_powder_21, eX7_powder_24, eX7_powder_26, eX7_powder_27, eX7_powder_28, eX7_powder_31, eX7_powder_32, eX7_powder_35, eX7_powder_38, eX7_powder_39, eX7_powder_42, eX7_powder_42r, eX7_powder_43, eX7_powder_46, eX7_powder_47, eX7_powder_48, eX7_powder_49, eX7_powder_50, eX7_powder_53, eX7_powder_54, eX7_powder_57, eX7_powder_60, eX7_powder_63, cnt_0, cnt_1, cnt_2, cnt_3, cnt_4, cnt_5, cnt_6, cnt_7, cnt_8, cnt_9, cnt_10, cnt_11, true_and, Nat.lt_add_one, r1, hh, tX1_hasPerson hh H1 K, psh_i, bi_0]
  rcases hpB_cases K x with ⟨a, ha, hp, rfl, e⟩ | e
  · have hQ := hQ.2 a ha hp rfl
    rw [e, if_neg (by decide)]
    simp only [Nat.reduceLT, true_and, mX5_isPowdered (show 0 < 12 by decide) (show a < 9 by omega) hs S, psh_i, eX7_powder_0, eX7_powder_1, eX7_powder_4, eX7_powder_5, eX7_powder_8, eX7_powder_11, eX7_powder_12, eX7_powder_13, eX7_powder_14, eX7_powder_17, eX7_powder_18, eX7_powder_21, eX7_powder_24, eX7_powder_26, eX7_powder_27, eX7_powder_28, eX7_powder_31, eX7_powder_32, eX7_powder_35, eX7_powder_38, eX7_powder_39, eX7_powder_42, eX7_powder_42r, eX7_powder_43, eX7_powder_46, eX7_powder_47, eX7_powder_48, eX7_powder_49, eX7_powder_50, eX7_powder_53, eX7_powder_54, eX7_powder_57, eX7_powder_60, eX7_powder_63, bi_0]
    cases hb : σ.2.1.testBit a
    · have hQ := hQ.2 hb
      rw [if_pos rfl]
      simp only [cnt_0, cnt_1, cnt_2, cnt_3, cnt_4, cnt_5, cnt_6, cnt_7, cnt_8, cnt_9, cnt_10, cnt_11, Nat.reduceLT, true_and]
      refine tX3_push (d := d) (by decide) P0 (by decide) S (fun M1 P0' E1 => ?_)
      have nE : ∀ {c i : Nat}, ¬ ((c = 3 ∧ i = 0) ∨ (c = 10 ∧ i = 0) ∨ (c = 5 ∧ 2 ≤ i ∧ i < 10) ∨ (c = 9 ∧ 18 ≤ i ∧ i < 26)) → ¬ pS 0 c i := fun w v => w (pS_0 v)
      have S' : St M1 0 σ := St_e E1 (nE (by omega)) (nE (by omega)) S
      rw [← wSt_id S']
      simp (disch := omega) only [psh_u, psh_i, eX7_powder_0, eX7_powder_1, eX7_powder_4, eX7_powder_5, eX7_powder_8, eX7_powder_11, eX7_powder_12, eX7_powder_13, eX7_powder_14, eX7_powder_17, eX7_powder_18, eX7_powder_21, eX7_powder_24, eX7_powder_26, eX7_powder_27, eX7_powder_28, eX7_powder_31, eX7_powder_32, eX7_powder_35, eX7_powder_38, eX7_powder_39, eX7_powder_42, eX7_powder_42r, eX7_powder_43, eX7_powder_46, eX7_powder_47, eX7_powder_48, eX7_powder_49, eX7_powder_50, eX7_powder_53, eX7_powder_54, eX7_powder_57, eX7_powder_60, eX7_powder_63, cnt_0, cnt_1, cnt_2, cnt_3, cnt_4, cnt_5, cnt_6, cnt_7, cnt_8, cnt_9, cnt_10, cnt_11, true_and, Nat.lt_add_one, Nat.reduceLT, wSt_p, pow_o hs.2 (show a < 9 by omega), wSt_pp, tJ6_bitCount (pow_l hs.2 (show a < 9 by omega))]
      have E2 : Eqx (fun c i => (c = 5 ∧ i = 0) ∨ (c = 9 ∧ i = 16)) M1 (wSt M1 0 (σ.1, σ.2.1 ||| 2 ^ a, σ.2.2)) := Eqx_w (Or.inr ⟨rfl, rfl⟩) (Or.inl ⟨rfl, rfl⟩)
      refine hQ _ (CA_now C (Eqx_tr E1 E2 (fun c i q => Or.inr (Or.inl q)) (fun c i q => Or.inr (Or.inr q))) (St_wSt _ _ _) (Pi_e E2 (fun c i q => by have := pS_0 q; omega) P0')) (Eqx_tr E1 E2 (fun c i q => by have := pS_0 q; unfold clS; omega) (fun c i q => by unfold clS; omega))
    · rw [if_neg (by decide)]
      exact hQ.1 hb
  · rw [e, if_pos rfl]
    exact hQ.1 e
theorem uX7_undo (C : CA M lt len τ τd σ pa ph ka kh ci cs cn)
    (hQ : (ph = 0 → Q (.inl (-2)) M) ∧ ∀ k, ph = k + 1 → ∀ M', CA M' lt len τ τd (pa k) pa k ka kh ci cs cn → Eqx clS M M' → Q (.inl (nI k)) M') : Run z (d + 5) 61 [vr 7 0] M Q := by
  obtain ⟨h, hh, r1, r2, P, H1, H2, S, P0, P1, L⟩ := id C
  rw [rX7_undo]
  simp only [eX7_undo_0, eX7_undo_1, eX7_undo_4, eX7_undo_5, eX7_undo_8, eX7_undo_11, eX7_undo_14, eX7_undo_15, eX7_undo_18, eX7_undo_21, eX7_undo_24, eX7_undo_26, cnt_0, cnt_1, cnt_2, cnt_3, cnt_4, cnt_5, cnt_6, cnt_7, cnt_8, cnt_9, cnt_10, cnt_11, true_and, Nat.lt_add_one, Nat.reduceLT]
  cases ph with
  | zero =>
    rw [tX3_pop0 (d := d) (by decide) P0]
    simp only [psh_i, eX7_undo_0, eX7_undo_1, eX7_undo_4, eX7_undo_5, eX7_undo_8, eX7_undo_11, eX7_undo_14, eX7_undo_15, eX7_undo_18, eX7_undo_21, eX7_undo_24, eX7_undo_26, bi_f, if_true]
    exact hQ.1 rfl
  | succ k =>
    refine tX3_pop (d := d) (by decide) P0 (by decide) (fun M1 P0' S' E1 => ?_)
    simp only [psh_i, eX7_undo_0, eX7_undo_1, eX7_undo_4, eX7_undo_5, eX7_undo_8, eX7_undo_11, eX7_undo_14, eX7_undo_15, eX7_undo_18, eX7_undo_21, eX7_undo_24, eX7_undo_26, cnt_0, cnt_1, cnt_2, cnt_3, cnt_4, cnt_5, cnt_6, cnt_7, cnt_8, cnt_9, cnt_10, cnt_11, true_and, Nat.lt_add_one, Nat.reduceLT, bi_t, show ((1 : Int32) = 0) = False from eq_false (by decide), if_false]
    obtain ⟨_, _, hk, _⟩ := id P0'
    rw [tX3_height (by decide) hk]
    simp only [psh_i, eX7_undo_0, eX7_undo_1, eX7_undo_4, eX7_undo_5, eX7_undo_8, eX7_undo_11, eX7_undo_14, eX7_undo_15, eX7_undo_18, eX7_undo_21, eX7_undo_24, eX7_undo_26]
    refine hQ.2 k rfl _ (CA_now C (Eqx_mo E1 (fun c i q => ?_)) S' P0') (Eqx_mo E1 (fun c i q => ?_))
    · rcases q with q | q | q
      · exact Or.inr (Or.inl q)
      · exact Or.inr (Or.inr (Or.inl q))
      · exact Or.inr (Or.inr (Or.inr q))
    · rcases q with q | q | q
      · have := pS_0 q; unfold clS; omega
      · unfold clS; omega
      · unfold clS; omega
end U2
