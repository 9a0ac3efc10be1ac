/-! the class's calls, 8: order, as if -/
def S9 (τ : Nat → Nat → Nat) : Prop := ∀ i, i < 9 → τ 1 i ≤ 9
section U9
variable {z d G : Nat} {M : bM} {lt : Nat → Nat} {len : Nat} {τ τd : Nat → Nat → Nat} {σ : sT} {pa : Nat → sT} {ph : Nat} {ka : Nat → sT} {kh : Nat} {ci cs : Nat → Nat} {cn : Nat} {Q : bV → bM → Prop}
theorem uX7_order {x : Int32} (C : CA M lt len τ τd σ pa ph ka kh ci cs cn) (V : VA G τ σ pa ph ka kh ci cs cn) (h9 : S9 τ)
    (hQ : ∀ M', CA M' lt len τ τd σ pa ph ka kh ci cs cn → Eqx clS M M' → Q (.inl (pOrder τ ci cs cn x)) M') : Run z (d + 11) 69 [vr 7 0, .inl x] M Q := by
  obtain ⟨h, hh, r1, r2, P, H1, H2, S, P0, P1, L⟩ := id C
  obtain ⟨K, n1, hs, hg, -, -, vc⟩ := id V
  have hn := K.1
  have ht := K.2.1
  have hT : oT τ ≤ 6 := Nat.min_le_right _ _
  have hT8 : oT τ ≤ τ 8 0 := Nat.min_le_left _ _
  have hTi : ∀ t, t < oT τ ↔ (t < τ 8 0 ∧ t < 6) := fun t => by unfold oT; omega
  have X : ∀ N, Eqx scr M N → Ho N h τ ∧ Cl N ci cs cn := fun N E => ⟨Ho_e E (fun r a b => by unfold scr; omega) (by unfold scr; omega) H1, Cl_e E (fun c i q => by unfold cS at q; unfold scr; omega) L⟩
  have h0 : OKs (τ 1, 0, 0) := ⟨h9, (by decide : 0 < 512)⟩
  have E0 : ∀ ρ, Eqx scr M (wSt M 1 ρ) := fun ρ => scr_w
  have H1' : ∀ ρ, Ho (wSt M 1 ρ) h τ := fun ρ => (X _ (E0 ρ)).1
  rw [rX7_order]
  simp only [eX7_order_0, eX7_order_1, eX7_order_4, eX7_order_7, eX7_order_8, eX7_order_9, eX7_order_10, eX7_order_13, eX7_order_14, eX7_order_17, eX7_order_20, eX7_order_21, eX7_order_24, eX7_order_25, eX7_order_28, eX7_order_29, eX7_order_32, eX7_order_33, eX7_order_36, eX7_order_37, eX7_order_38, eX7_order_41, eX7_order_42, eX7_order_43, eX7_order_45, eX7_order_46, eX7_order_49, eX7_order_52, eX7_order_55, eX7_order_56, eX7_order_58, eX7_order_61, eX7_order_62, eX7_order_65, eX7_order_66, eX7_order_69, eX7_order_70, eX7_order_73, eX7_order_76, eX7_order_77, eX7_order_80, eX7_order_81, eX7_order_84, eX7_order_87, eX7_order_88, eX7_order_91, eX7_order_94, eX7_order_95, eX7_order_98, eX7_order_101, eX7_order_102, eX7_order_105, eX7_order_106, eX7_order_109, eX7_order_112, eX7_order_115, eX7_order_116, eX7_order_119, eX7_order_120, cnt_0, cnt_1, cnt_2, cnt_3, cnt_4, cnt_5, cnt_6, cnt_7, cnt_8, cnt_9, cnt_10, cnt_11, tX7_isEither, psh_i, bi_0]
  unfold pOrder at hQ
  by_cases c1 : eiB x = false
  · rw [if_pos c1] at hQ ⊢
    exact hQ M C Eqx_rf
  · rw [if_neg c1] at hQ ⊢
    simp only [eX7_order_0, eX7_order_1, eX7_order_4, eX7_order_7, eX7_order_8, eX7_order_9, eX7_order_10, eX7_order_13, eX7_order_14, eX7_order_17, eX7_order_20, eX7_order_21, eX7_order_24, eX7_order_25, eX7_order_28, eX7_order_29, eX7_order_32, eX7_order_33, eX7_order_36, eX7_order_37, eX7_order_38, eX7_order_41, eX7_order_42, eX7_order_43, eX7_order_45, eX7_order_46, eX7_order_49, eX7_order_52, eX7_order_55, eX7_order_56, eX7_order_58, eX7_order_61, eX7_order_62, eX7_order_65, eX7_order_66, eX7_order_69, eX7_order_70, eX7_order_73, eX7_order_76, eX7_order_77, eX7_order_80, eX7_order_81, eX7_order_84, eX7_order_87, eX7_order_88, eX7_order_91, eX7_order_94, eX7_order_95, eX7_order_98, eX7_order_101, eX7_order_102, eX7_order_105, eX7_order_106, eX7_order_109, eX7_order_112, eX7_order_115, eX7_order_116, eX7_order_119, eX7_order_120, cnt_0, cnt_1, cnt_2, cnt_3, cnt_4, cnt_5, cnt_6, cnt_7, cnt_8, cnt_9, cnt_10, cnt_11, true_and, Nat.lt_add_one, Nat.reduceLT, r1, hh, tX5_begin (show 1 < 12 by decide) hh H1, psh_u, gR_wSt]
    by_cases c2 : x = 0
    · rw [if_pos c2] at hQ ⊢
      have e : d + 10 = (d + (6 - oT τ)) + oT τ + 4 := by omega
      simp only [lit_0]
      rw [e]
      refine tX7_orders K hT hT8 hTi n1 hh vc X (oT τ) 0 0 0 0 (τ 1) _ _ (by omega) (by decide) h0 (E0 _) (St_wSt _ _ _) (fun N' p' hp' E' S' => ?_)
      simp only [psh_i, eX7_order_0, eX7_order_1, eX7_order_4, eX7_order_7, eX7_order_8, eX7_order_9, eX7_order_10, eX7_order_13, eX7_order_14, eX7_order_17, eX7_order_20, eX7_order_21, eX7_order_24, eX7_order_25, eX7_order_28, eX7_order_29, eX7_order_32, eX7_order_33, eX7_order_36, eX7_order_37, eX7_order_38, eX7_order_41, eX7_order_42, eX7_order_43, eX7_order_45, eX7_order_46, eX7_order_49, eX7_order_52, eX7_order_55, eX7_order_56, eX7_order_58, eX7_order_61, eX7_order_62, eX7_order_65, eX7_order_66, eX7_order_69, eX7_order_70, eX7_order_73, eX7_order_76, eX7_order_77, eX7_order_80, eX7_order_81, eX7_order_84, eX7_order_87, eX7_order_88, eX7_order_91, eX7_order_94, eX7_order_95, eX7_order_98, eX7_order_101, eX7_order_102, eX7_order_105, eX7_order_106, eX7_order_109, eX7_order_112, eX7_order_115, eX7_order_116, eX7_order_119, eX7_order_120]
      exact hQ N' (CA_scr C E') (cl_scr E')
    · rw [if_neg c2] at hQ ⊢
      have go : ∀ k t p N, t + k = oT τ → p < 512 → Eqx scr M N → St N 1 (odF τ (τ 1) t, p, 0) → ExG z (Run z (d + 10)) 7 1 false none cX7_order Q 44 [vr 7 0, .inl x, .inl (nI t)] [] N := by
        intro k
        induction k with
        | zero =>
          intro t p N et hp E S
          obtain ⟨H1, L⟩ := X N E
          obtain ⟨_, _, r1', _⟩ := id (CA_scr C E)
          have q := hTi t
          have et' : t = oT τ := et
          have r1N : gR N 7 0 1 = h := (E 7 0 1 (by unfold scr; omega)).2.trans r1
          have hs' : OKs (odF τ (τ 1) t, p, 0) := ⟨OKs_od K (by omega) h9, hp⟩
          have fin : ExG z (Run z (d + 10)) 7 1 false none cX7_order Q 101 [vr 7 0, .inl x, .inl (nI t)] [] N := by
            simp only [eX7_order_0, eX7_order_1, eX7_order_4, eX7_order_7, eX7_order_8, eX7_order_9, eX7_order_10, eX7_order_13, eX7_order_14, eX7_order_17, eX7_order_20, eX7_order_21, eX7_order_24, eX7_order_25, eX7_order_28, eX7_order_29, eX7_order_32, eX7_order_33, eX7_order_36, eX7_order_37, eX7_order_38, eX7_order_41, eX7_order_42, eX7_order_43, eX7_order_45, eX7_order_46, eX7_order_49, eX7_order_52, eX7_order_55, eX7_order_56, eX7_order_58, eX7_order_61, eX7_order_62, eX7_order_65, eX7_order_66, eX7_order_69, eX7_order_70, eX7_order_73, eX7_order_76, eX7_order_77, eX7_order_80, eX7_order_81, eX7_order_84, eX7_order_87, eX7_order_88, eX7_order_91, eX7_order_94, eX7_order_95, eX7_order_98, eX7_order_101, eX7_order_102, eX7_order_105, eX7_order_106, eX7_order_109, eX7_order_112, eX7_order_115, eX7_order_116, eX7_order_119, eX7_order_120, cnt_0, cnt_1, cnt_2, cnt_3, cnt_4, cnt_5, cnt_6, cnt_7, cnt_8, cnt_9, cnt_10, cnt_11, true_and, Nat.lt_add_one, Nat.reduceLT, tX0_hold L (fun j hj => Nat.lt_of_lt_of_le (vc j hj).1 hn) (fun j hj => (vc j hj).2) (show 1 < 12 by decide) S hs', psh_i, bi_0]
            have := hQ N (CA_scr C E) (cl_scr E)
            rw [← et'] at this
            cases hc : hld ci cs (odF τ (τ 1) t) cn
            · rw [hc] at this
              rw [if_pos rfl]
              exact this
            · rw [hc] at this
              rw [if_neg (by decide)]
              exact this
          rw [eX7_order_44]
          by_cases c1 : τ 8 0 ≤ t
          · simp (disch := omega) only [eX7_order_0, eX7_order_1, eX7_order_4, eX7_order_7, eX7_order_8, eX7_order_9, eX7_order_10, eX7_order_13, eX7_order_14, eX7_order_17, eX7_order_20, eX7_order_21, eX7_order_24, eX7_order_25, eX7_order_28, eX7_order_29, eX7_order_32, eX7_order_33, eX7_order_36, eX7_order_37, eX7_order_38, eX7_order_41, eX7_order_42, eX7_order_43, eX7_order_45, eX7_order_46, eX7_order_49, eX7_order_52, eX7_order_55, eX7_order_56, eX7_order_58, eX7_order_61, eX7_order_62, eX7_order_65, eX7_order_66, eX7_order_69, eX7_order_70, eX7_order_73, eX7_order_76, eX7_order_77, eX7_order_80, eX7_order_81, eX7_order_84, eX7_order_87, eX7_order_88, eX7_order_91, eX7_order_94, eX7_order_95, eX7_order_98, eX7_order_102, eX7_order_105, eX7_order_106, eX7_order_109, eX7_order_112, eX7_order_115, eX7_order_116, eX7_order_119, eX7_order_120, cnt_0, cnt_1, cnt_2, cnt_3, cnt_4, cnt_5, cnt_6, cnt_7, cnt_8, cnt_9, cnt_10, cnt_11, true_and, Nat.lt_add_one, r1N, hh, Ho_t H1, nI_leI, if_pos c1]
            exact fin
          · simp (disch := omega) only [eX7_order_0, eX7_order_1, eX7_order_4, eX7_order_7, eX7_order_8, eX7_order_9, eX7_order_10, eX7_order_13, eX7_order_14, eX7_order_17, eX7_order_20, eX7_order_21, eX7_order_24, eX7_order_25, eX7_order_28, eX7_order_29, eX7_order_32, eX7_order_33, eX7_order_36, eX7_order_37, eX7_order_38, eX7_order_41, eX7_order_42, eX7_order_43, eX7_order_45, eX7_order_46, eX7_order_49, eX7_order_52, eX7_order_55, eX7_order_56, eX7_order_58, eX7_order_61, eX7_order_62, eX7_order_65, eX7_order_66, eX7_order_69, eX7_order_70, eX7_order_73, eX7_order_76, eX7_order_77, eX7_order_80, eX7_order_81, eX7_order_84, eX7_order_87, eX7_order_88, eX7_order_91, eX7_order_94, eX7_order_95, eX7_order_98, eX7_order_102, eX7_order_105, eX7_order_106, eX7_order_109, eX7_order_112, eX7_order_115, eX7_order_116, eX7_order_119, eX7_order_120, cnt_0, cnt_1, cnt_2, cnt_3, cnt_4, cnt_5, cnt_6, cnt_7, cnt_8, cnt_9, cnt_10, cnt_11, true_and, Nat.lt_add_one, r1N, hh, Ho_t H1, nI_leI, if_neg c1, lit_6, if_pos (show 6 ≤ t by omega)]
            exact fin
        | succ k ih =>
          intro t p N et hp E S
          obtain ⟨H1, L⟩ := X N E
          have r1N : gR N 7 0 1 = h := (E 7 0 1 (by unfold scr; omega)).2.trans r1
          have q := hTi t
          obtain ⟨w1, w2, w3, w4⟩ := K.2.2.2.2.2.2.1 t (by omega)
          have hs' : OKs (odF τ (τ 1) t, p, 0) := ⟨OKs_od K (by omega) h9, hp⟩
          have u2 : rowAt N (5 + 7 * h) (nI t) = nI (τ 3 t) := Ho_ta hh H1 (by omega)
          have u3 : rowAt N (6 + 7 * h) (nI t) = nI (τ 4 t) := Ho_tb hh H1 (by omega)
          rw [eX7_order_44]
          simp (disch := omega) only [eX7_order_0, eX7_order_1, eX7_order_4, eX7_order_7, eX7_order_8, eX7_order_9, eX7_order_10, eX7_order_13, eX7_order_14, eX7_order_17, eX7_order_20, eX7_order_21, eX7_order_24, eX7_order_25, eX7_order_28, eX7_order_29, eX7_order_32, eX7_order_33, eX7_order_36, eX7_order_37, eX7_order_38, eX7_order_41, eX7_order_42, eX7_order_43, eX7_order_45, eX7_order_46, eX7_order_49, eX7_order_52, eX7_order_55, eX7_order_56, eX7_order_58, eX7_order_61, eX7_order_62, eX7_order_65, eX7_order_66, eX7_order_69, eX7_order_70, eX7_order_73, eX7_order_76, eX7_order_77, eX7_order_80, eX7_order_81, eX7_order_84, eX7_order_87, eX7_order_88, eX7_order_91, eX7_order_94, eX7_order_95, eX7_order_98, eX7_order_101, eX7_order_102, eX7_order_105, eX7_order_106, eX7_order_109, eX7_order_112, eX7_order_115, eX7_order_116, eX7_order_119, eX7_order_120, cnt_0, cnt_1, cnt_2, cnt_3, cnt_4, cnt_5, cnt_6, cnt_7, cnt_8, cnt_9, cnt_10, cnt_11, hh, r1N, true_and, Nat.lt_add_one, Nat.reduceLT, Ho_t H1, nI_leI, if_neg (show ¬ τ 8 0 ≤ t by omega), lit_6, if_neg (show ¬ 6 ≤ t by omega), lt_h3 hh, lt_h4 hh, tX4_at, u2, u3, psh_i, mX5_meet (show 1 < 12 by decide) hh H1 K hs' w2 w3 w4 S, nI_1]
          exact ih (t + 1) (p &&& msk (τ 3 t) (τ 4 t)) _ (by omega) (and_lt hp) (Eqx_tr E scr_w (fun _ _ q => q) (fun _ _ q => q)) (St_wSt _ _ _)
      simp only [lit_0]
      exact go (oT τ) 0 0 _ (by omega) (by decide) (E0 _) (St_wSt _ _ _)
end U9
