/-! the class's calls, 4: twos -/
theorem rwL_len (a n k : Nat) : (rwL a n k).length = k := by
  induction k with
  | zero => rfl
  | succ k ih => rw [rwL, List.length_cons, ih]
theorem rw_le (P : Nat → Nat → Bool) (a n k : Nat) (s : Nat × Int32) : ((rwL a n k).foldl (stp P) s).1 ≤ s.1 + k := by
  have := stp_le P (rwL a n k) s
  rwa [rwL_len] at this
def Tw (M : bM) (m : Nat) (v : Int32) : Prop := gI M 6 0 0 = nI m ∧ gI M 6 0 1 = v
theorem Tw_w (M : bM) (m : Nat) (v : Int32) : Tw (wTw M m v) m v := ⟨wTw_m M m v, wTw_f M m v⟩
theorem Tw_id {M : bM} {m : Nat} {v : Int32} (h : Tw M m v) : wTw M m v = M := by
  refine bM_ext (fun c i j => ?_) (fun c i j => rfl)
  unfold wTw
  rw [gI_sI, gI_sI]
  split
  · rename_i q
    obtain ⟨rfl, rfl, rfl⟩ := q
    exact h.2.symm
  · split
    · rename_i q
      obtain ⟨rfl, rfl, rfl⟩ := q
      exact h.1.symm
    · rfl
theorem mX6_add {z d m a b : Nat} {v : Int32} {M : bM} {Q : bV → bM → Prop} (T : Tw M m v) (hm : m < 2 ^ 30) (ha : a < 9) (hb : b < 9) : Run z (d + 1) 49 [vr 6 0, .inl (nI a), .inl (nI b)] M Q = Q vu (wTw M (m + 1) (if m = 0 then nI (10 * a + b) else v)) := by
  have := tX6_add (z := z) (d := d) (v := v) (M := M) (Q := Q) hm ha hb
  rwa [Tw_id T] at this
theorem mX6_answer {z d m : Nat} {v x : Int32} {M : bM} {Q : bV → bM → Prop} (T : Tw M m v) : Run z (d + 1) 50 [vr 6 0, .inl x] M Q = Q (.inl (if x = 0 then nI m else v)) M := by
  have := tX6_answer (z := z) (d := d) (m := m) (v := v) (x := x) (M := M) (Q := Q)
  rwa [Tw_id T] at this
theorem eq_lt_if {α : Type} {c : Bool} {a b : α} (h : c = true) : (if c = true then a else b) = a := if_pos h
section U4
variable {z d G : Nat} {M : bM} {lt : Nat → Nat} {len : Nat} {τ τd : Nat → Nat → Nat} {σ : sT} {pa : Nat → sT} {ph : Nat} {ka : Nat → sT} {kh : Nat} {ci cs : Nat → Nat} {cn : Nat} {Q : bV → bM → Prop}
theorem uX7_looksLike {a b : Nat} (C : CA M lt len τ τd σ pa ph ka kh ci cs cn) (V : VA G τ σ pa ph ka kh ci cs cn) (ha : a < τ 7 0) (hb : b < τ 7 0) : Run z (d + 3) 81 [vr 7 0, .inl (nI a), .inl (nI b)] M Q = Q (.inl (bi (lkB τ σ a b))) M := by
  obtain ⟨h, hh, r1, r2, P, H1, H2, S, P0, P1, L⟩ := id C
  obtain ⟨K, n1, hs, hg, -⟩ := V
  have hn := K.1
  have s1 := sn_le hs (show a < 9 by omega)
  have s2 := sn_le hs (show b < 9 by omega)
  rw [rX7_looksLike]
  simp (disch := omega) only [eX7_looksLike_0, eX7_looksLike_1, eX7_looksLike_4, eX7_looksLike_5, eX7_looksLike_8, eX7_looksLike_11, eX7_looksLike_12, eX7_looksLike_15, eX7_looksLike_16, eX7_looksLike_19, eX7_looksLike_22, eX7_looksLike_23, eX7_looksLike_26, eX7_looksLike_27, eX7_looksLike_30, eX7_looksLike_33, eX7_looksLike_34, eX7_looksLike_37, eX7_looksLike_38, eX7_looksLike_41, eX7_looksLike_42, eX7_looksLike_45, eX7_looksLike_46, eX7_looksLike_49, eX7_looksLike_52, eX7_looksLike_53, eX7_looksLike_56, eX7_looksLike_570, eX7_looksLike_571, eX7_looksLike_57n0, eX7_looksLike_57n1, cnt_0, cnt_1, cnt_2, cnt_3, cnt_4, cnt_5, cnt_6, cnt_7, cnt_8, cnt_9, cnt_10, cnt_11, true_and, Nat.lt_add_one, Nat.reduceLT, r1, hh, tX1_hasPerson hh H1 K, hpB_nI K, psh_i, bi_0, mX5_seen (show 0 < 12 by decide) (show a < 9 by omega) hs S, mX5_seen (show 0 < 12 by decide) (show b < 9 by omega) hs S, lit_0, nI_eq]
  unfold lkB
  by_cases c1 : per τ a = true
  · rw [c1, if_neg (by decide), Bool.true_and]
    by_cases c2 : per τ b = true
    · rw [c2, if_neg (by decide), Bool.true_and]
      by_cases c3 : sn σ a = 0
      · rw [if_pos c3, decide_eq_false (not_not_intro c3), Bool.false_and]
        rfl
      · rw [if_neg c3, decide_eq_true c3, Bool.true_and]
        by_cases c4 : sn σ a = sn σ b
        · rw [if_pos c4, decide_eq_true c4]; rfl
        · rw [if_neg c4, decide_eq_false c4]; rfl
    · rw [eq_false_of_ne_true c2, if_pos (show bi false = nI 0 from rfl), Bool.false_and]; rfl
  · rw [eq_false_of_ne_true c1, if_pos (show bi false = nI 0 from rfl), Bool.false_and]; rfl
theorem uX7_alike {x : Int32} (C : CA M lt len τ τd σ pa ph ka kh ci cs cn) (V : VA G τ σ pa ph ka kh ci cs cn)
    (hQ : (eiB x = false → Q (.inl (-1)) M) ∧ (eiB x = true → ∀ M', CA M' lt len τ τd σ pa ph ka kh ci cs cn → Eqx clS M M' → Q (.inl (twR (lkB τ σ) (τ 7 0) x)) M')) : Run z (d + 4) 65 [vr 7 0, .inl x] M Q := by
  obtain ⟨K, n1, hs, hg, -⟩ := id V
  have hn := K.1
  rw [rX7_alike]
  simp only [eX7_alike_0, eX7_alike_1, eX7_alike_4, eX7_alike_7, eX7_alike_8, eX7_alike_9, eX7_alike_10, eX7_alike_13, eX7_alike_16, eX7_alike_17, eX7_alike_19, eX7_alike_20, eX7_alike_23, eX7_alike_26, eX7_alike_29, eX7_alike_30, eX7_alike_31, eX7_alike_32, eX7_alike_34, eX7_alike_35, eX7_alike_38, eX7_alike_41, eX7_alike_44, eX7_alike_45, eX7_alike_46, eX7_alike_47, eX7_alike_50, eX7_alike_53, eX7_alike_54, eX7_alike_57, eX7_alike_58, eX7_alike_59, eX7_alike_62, eX7_alike_65, eX7_alike_68, eX7_alike_71, eX7_alike_74, eX7_alike_75, eX7_alike_78, eX7_alike_79, eX7_alike_82, cnt_0, cnt_1, cnt_2, cnt_3, cnt_4, cnt_5, cnt_6, cnt_7, cnt_8, cnt_9, cnt_10, cnt_11, tX7_isEither, psh_i, bi_0]
  by_cases e : eiB x = false
  · rw [if_pos e]
    exact hQ.1 e
  · rw [if_neg e]
    have hQ := hQ.2 (by simpa using e)
    simp only [eX7_alike_0, eX7_alike_1, eX7_alike_4, eX7_alike_7, eX7_alike_8, eX7_alike_9, eX7_alike_10, eX7_alike_13, eX7_alike_16, eX7_alike_17, eX7_alike_19, eX7_alike_20, eX7_alike_23, eX7_alike_26, eX7_alike_29, eX7_alike_30, eX7_alike_31, eX7_alike_32, eX7_alike_34, eX7_alike_35, eX7_alike_38, eX7_alike_41, eX7_alike_44, eX7_alike_45, eX7_alike_46, eX7_alike_47, eX7_alike_50, eX7_alike_53, eX7_alike_54, eX7_alike_57, eX7_alike_58, eX7_alike_59, eX7_alike_62, eX7_alike_65, eX7_alike_68, eX7_alike_71, eX7_alike_74, eX7_alike_75, eX7_alike_78, eX7_alike_79, eX7_alike_82, cnt_0, cnt_1, cnt_2, cnt_3, cnt_4, cnt_5, cnt_6, cnt_7, cnt_8, cnt_9, cnt_10, cnt_11, true_and, Nat.lt_add_one, tX6_clear, psh_u]
    have fin : ∀ N s, Eqx scr M N → Tw N s.1 s.2 → s = (plL (τ 7 0) (τ 7 0)).foldl (stp (lkB τ σ)) (0, -4) → ExG z (Run z (d + 3)) 7 1 false none cX7_alike Q 74 [vr 7 0, .inl x, .inl (nI (τ 7 0)), .inl (nI (τ 7 0))] [] N := by
      intro N s E T es
      have := hQ N (CA_scr C E) (cl_scr E)
      unfold twR at this
      rw [← es] at this
      simp only [eX7_alike_0, eX7_alike_1, eX7_alike_4, eX7_alike_7, eX7_alike_8, eX7_alike_9, eX7_alike_10, eX7_alike_13, eX7_alike_16, eX7_alike_17, eX7_alike_19, eX7_alike_20, eX7_alike_23, eX7_alike_26, eX7_alike_29, eX7_alike_30, eX7_alike_31, eX7_alike_32, eX7_alike_34, eX7_alike_35, eX7_alike_38, eX7_alike_41, eX7_alike_44, eX7_alike_45, eX7_alike_46, eX7_alike_47, eX7_alike_50, eX7_alike_53, eX7_alike_54, eX7_alike_57, eX7_alike_58, eX7_alike_59, eX7_alike_62, eX7_alike_65, eX7_alike_68, eX7_alike_71, eX7_alike_74, eX7_alike_75, eX7_alike_78, eX7_alike_79, eX7_alike_82, cnt_0, cnt_1, cnt_2, cnt_3, cnt_4, cnt_5, cnt_6, cnt_7, cnt_8, cnt_9, cnt_10, cnt_11, true_and, Nat.lt_add_one, mX6_answer T, psh_i]
      exact this
    have inn : ∀ k N s b a, b + k = τ 7 0 → a < b → s.1 + k ≤ 1000 → Eqx scr M N → Tw N s.1 s.2 → (∀ N', Eqx scr M N' → Tw N' ((rwL a (τ 7 0) k).foldl (stp (lkB τ σ)) s).1 ((rwL a (τ 7 0) k).foldl (stp (lkB τ σ)) s).2 → ExG z (Run z (d + 3)) 7 1 false none cX7_alike Q 68 [vr 7 0, .inl x, .inl (nI a), .inl (nI (τ 7 0))] [] N') → ExG z (Run z (d + 3)) 7 1 false none cX7_alike Q 33 [vr 7 0, .inl x, .inl (nI a), .inl (nI b)] [] N := by
      intro k
      induction k with
      | zero =>
        intro N s b a hb hab hs1 E T hk
        have := hk N E T
        obtain ⟨h, hh, r1, r2, P, H1, H2, S, P0, P1, L⟩ := CA_scr C E
        have eb : b = τ 7 0 := hb
        rw [eX7_alike_33]
        simp (disch := omega) only [eX7_alike_0, eX7_alike_1, eX7_alike_4, eX7_alike_7, eX7_alike_8, eX7_alike_9, eX7_alike_10, eX7_alike_13, eX7_alike_16, eX7_alike_17, eX7_alike_19, eX7_alike_20, eX7_alike_23, eX7_alike_26, eX7_alike_29, eX7_alike_30, eX7_alike_31, eX7_alike_32, eX7_alike_34, eX7_alike_35, eX7_alike_38, eX7_alike_41, eX7_alike_44, eX7_alike_45, eX7_alike_46, eX7_alike_47, eX7_alike_50, eX7_alike_53, eX7_alike_54, eX7_alike_57, eX7_alike_58, eX7_alike_59, eX7_alike_62, eX7_alike_65, eX7_alike_68, eX7_alike_71, eX7_alike_74, eX7_alike_75, eX7_alike_78, eX7_alike_79, eX7_alike_82, cnt_0, cnt_1, cnt_2, cnt_3, cnt_4, cnt_5, cnt_6, cnt_7, cnt_8, cnt_9, cnt_10, cnt_11, true_and, Nat.lt_add_one, r1, hh, Ho_n H1, nI_leI, eb, Nat.le_refl, if_true]
        simp only [eX7_alike_0, eX7_alike_1, eX7_alike_4, eX7_alike_7, eX7_alike_8, eX7_alike_9, eX7_alike_10, eX7_alike_13, eX7_alike_16, eX7_alike_17, eX7_alike_19, eX7_alike_20, eX7_alike_23, eX7_alike_26, eX7_alike_29, eX7_alike_30, eX7_alike_31, eX7_alike_32, eX7_alike_34, eX7_alike_35, eX7_alike_38, eX7_alike_41, eX7_alike_44, eX7_alike_45, eX7_alike_46, eX7_alike_47, eX7_alike_50, eX7_alike_53, eX7_alike_54, eX7_alike_57, eX7_alike_58, eX7_alike_59, eX7_alike_62, eX7_alike_65, eX7_alike_68, eX7_alike_71, eX7_alike_74, eX7_alike_75, eX7_alike_78, eX7_alike_79, eX7_alike_82] at this
        exact this
      | succ k ih =>
        intro N s b a hb hab hs1 E T hk
        have C' := CA_scr C E
        obtain ⟨h, hh, r1, r2, P, H1, H2, S, P0, P1, L⟩ := id C'
        rw [rwL, List.foldl_cons, show τ 7 0 - (k + 1) = b by omega] at hk
        rw [eX7_alike_33]
        simp (disch := omega) only [eX7_alike_0, eX7_alike_1, eX7_alike_4, eX7_alike_7, eX7_alike_8, eX7_alike_9, eX7_alike_10, eX7_alike_13, eX7_alike_16, eX7_alike_17, eX7_alike_19, eX7_alike_20, eX7_alike_23, eX7_alike_26, eX7_alike_29, eX7_alike_30, eX7_alike_31, eX7_alike_32, eX7_alike_34, eX7_alike_35, eX7_alike_38, eX7_alike_41, eX7_alike_44, eX7_alike_45, eX7_alike_46, eX7_alike_47, eX7_alike_50, eX7_alike_53, eX7_alike_54, eX7_alike_57, eX7_alike_58, eX7_alike_59, eX7_alike_62, eX7_alike_65, eX7_alike_68, eX7_alike_71, eX7_alike_74, eX7_alike_75, eX7_alike_78, eX7_alike_79, eX7_alike_82, cnt_0, cnt_1, cnt_2, cnt_3, cnt_4, cnt_5, cnt_6, cnt_7, cnt_8, cnt_9, cnt_10, cnt_11, true_and, Nat.lt_add_one, r1, hh, Ho_n H1, nI_leI, if_neg (show ¬ τ 7 0 ≤ b by omega), uX7_looksLike C' V (show a < τ 7 0 by omega) (show b < τ 7 0 by omega), psh_i, bi_0, lit_1, nI_add]
        by_cases c : lkB τ σ a b = true
        · rw [c, if_neg (by decide)]
          simp (disch := omega) only [mX6_add T (show s.1 < 2 ^ 30 by omega) (show a < 9 by omega) (show b < 9 by omega), psh_u, eX7_alike_0, eX7_alike_1, eX7_alike_4, eX7_alike_7, eX7_alike_8, eX7_alike_9, eX7_alike_10, eX7_alike_13, eX7_alike_16, eX7_alike_17, eX7_alike_19, eX7_alike_20, eX7_alike_23, eX7_alike_26, eX7_alike_29, eX7_alike_30, eX7_alike_31, eX7_alike_32, eX7_alike_34, eX7_alike_35, eX7_alike_38, eX7_alike_41, eX7_alike_44, eX7_alike_45, eX7_alike_46, eX7_alike_47, eX7_alike_50, eX7_alike_53, eX7_alike_54, eX7_alike_57, eX7_alike_58, eX7_alike_59, eX7_alike_62, eX7_alike_65, eX7_alike_68, eX7_alike_71, eX7_alike_74, eX7_alike_75, eX7_alike_78, eX7_alike_79, eX7_alike_82, lit_1, nI_add]
          have e1 : stp (lkB τ σ) s (a, b) = (s.1 + 1, if s.1 = 0 then nI (10 * a + b) else s.2) := if_pos c
          rw [e1] at hk
          exact ih _ (s.1 + 1, if s.1 = 0 then nI (10 * a + b) else s.2) (b + 1) a (by omega) (by omega) (by show s.1 + 1 + k ≤ 1000; omega) (Eqx_tr E (Eqx_t (Or.inr (Or.inr rfl))) (fun _ _ q => q) (fun _ _ q => q)) (Tw_w _ _ _) hk
        · rw [eq_false_of_ne_true c, if_pos rfl]
          have e1 : stp (lkB τ σ) s (a, b) = s := if_neg c
          rw [e1] at hk
          exact ih _ s (b + 1) a (by omega) (by omega) (by omega) E T hk
    have out : ∀ k N s a a3, a + k = τ 7 0 → s.1 + 10 * k ≤ 900 → Eqx scr M N → Tw N s.1 s.2 → (plL (τ 7 0) k).foldl (stp (lkB τ σ)) s = (plL (τ 7 0) (τ 7 0)).foldl (stp (lkB τ σ)) (0, -4) → (k = 0 → a3 = .inl (nI (τ 7 0))) → ExG z (Run z (d + 3)) 7 1 false none cX7_alike Q 18 [vr 7 0, .inl x, .inl (nI a), a3] [] N := by
      intro k
      induction k with
      | zero =>
        intro N s a a3 ha hs1 E T es h3
        obtain ⟨h, hh, r1, r2, P, H1, H2, S, P0, P1, L⟩ := CA_scr C E
        have ea : a = τ 7 0 := ha
        rw [h3 rfl, eX7_alike_18]
        have := fin N s E T es
        simp (disch := omega) only [eX7_alike_0, eX7_alike_1, eX7_alike_4, eX7_alike_7, eX7_alike_8, eX7_alike_9, eX7_alike_10, eX7_alike_13, eX7_alike_16, eX7_alike_17, eX7_alike_19, eX7_alike_20, eX7_alike_23, eX7_alike_26, eX7_alike_29, eX7_alike_30, eX7_alike_31, eX7_alike_32, eX7_alike_34, eX7_alike_35, eX7_alike_38, eX7_alike_41, eX7_alike_44, eX7_alike_45, eX7_alike_46, eX7_alike_47, eX7_alike_50, eX7_alike_53, eX7_alike_54, eX7_alike_57, eX7_alike_58, eX7_alike_59, eX7_alike_62, eX7_alike_65, eX7_alike_68, eX7_alike_71, eX7_alike_74, eX7_alike_75, eX7_alike_78, eX7_alike_79, eX7_alike_82, cnt_0, cnt_1, cnt_2, cnt_3, cnt_4, cnt_5, cnt_6, cnt_7, cnt_8, cnt_9, cnt_10, cnt_11, true_and, Nat.lt_add_one, r1, hh, Ho_n H1, nI_leI, ea, Nat.le_refl, if_true] at this ⊢
        exact this
      | succ k ih =>
        intro N s a a3 ha hs1 E T es h3
        obtain ⟨h, hh, r1, r2, P, H1, H2, S, P0, P1, L⟩ := CA_scr C E
        rw [eX7_alike_18]
        simp (disch := omega) only [eX7_alike_0, eX7_alike_1, eX7_alike_4, eX7_alike_7, eX7_alike_8, eX7_alike_9, eX7_alike_10, eX7_alike_13, eX7_alike_16, eX7_alike_17, eX7_alike_19, eX7_alike_20, eX7_alike_23, eX7_alike_26, eX7_alike_29, eX7_alike_30, eX7_alike_31, eX7_alike_32, eX7_alike_34, eX7_alike_35, eX7_alike_38, eX7_alike_41, eX7_alike_44, eX7_alike_45, eX7_alike_46, eX7_alike_47, eX7_alike_50, eX7_alike_53, eX7_alike_54, eX7_alike_57, eX7_alike_58, eX7_alike_59, eX7_alike_62, eX7_alike_65, eX7_alike_68, eX7_alike_71, eX7_alike_74, eX7_alike_75, eX7_alike_78, eX7_alike_79, eX7_alike_82, cnt_0, cnt_1, cnt_2, cnt_3, cnt_4, cnt_5, cnt_6, cnt_7, cnt_8, cnt_9, cnt_10, cnt_11, true_and, Nat.lt_add_one, r1, hh, Ho_n H1, nI_leI, if_neg (show ¬ τ 7 0 ≤ a by omega), lit_1, nI_add]
        rw [plL, show τ 7 0 - (k + 1) = a by omega, List.foldl_append] at es
        have hr := rw_le (lkB τ σ) a (τ 7 0) k s
        refine inn k N s (a + 1) a (by omega) (by omega) (by omega) E T (fun N' E' T' => ?_)
        simp only [eX7_alike_0, eX7_alike_1, eX7_alike_4, eX7_alike_7, eX7_alike_8, eX7_alike_9, eX7_alike_10, eX7_alike_13, eX7_alike_16, eX7_alike_17, eX7_alike_19, eX7_alike_20, eX7_alike_23, eX7_alike_26, eX7_alike_29, eX7_alike_30, eX7_alike_31, eX7_alike_32, eX7_alike_34, eX7_alike_35, eX7_alike_38, eX7_alike_41, eX7_alike_44, eX7_alike_45, eX7_alike_46, eX7_alike_47, eX7_alike_50, eX7_alike_53, eX7_alike_54, eX7_alike_57, eX7_alike_58, eX7_alike_59, eX7_alike_62, eX7_alike_65, eX7_alike_68, eX7_alike_71, eX7_alike_74, eX7_alike_75, eX7_alike_78, eX7_alike_79, eX7_alike_82, lit_1, nI_add]
        exact ih N' _ (a + 1) _ (by omega) (by omega) E' T' es (fun _ => rfl)
    exact out (τ 7 0) _ (0, -4) 0 _ (by omega) (by show 0 + 10 * τ 7 0 ≤ 900; omega) (Eqx_t (Or.inr (Or.inr rfl))) (Tw_w _ _ _) rfl (fun q => by omega)
def tdB (τ : Nat → Nat → Nat) (σ : sT) (ci cs : Nat → Nat) (cn a b : Nat) : Bool := hld ci cs (tcS τ a b σ).1 cn
theorem uX7_touched {x : Int32} (C : CA M lt len τ τd σ pa ph ka kh ci cs cn) (V : VA G τ σ pa ph ka kh ci cs cn)
    (hQ : (eiB x = false → Q (.inl (-1)) M) ∧ (eiB x = true → ∀ M', CA M' lt len τ τd σ pa ph ka kh ci cs cn → Eqx clS M M' → Q (.inl (twR (tdB τ σ ci cs cn) (τ 7 0) x)) M')) : Run z (d + 4) 68 [vr 7 0, .inl x] M Q := by
  obtain ⟨K, n1, hs, hg, -, -, vc⟩ := id V
  have hn := K.1
  rw [rX7_touched]
  simp only [eX7_touched_0, eX7_touched_1, eX7_touched_4, eX7_touched_7, eX7_touched_8, eX7_touched_9, eX7_touched_10, eX7_touched_13, eX7_touched_16, eX7_touched_17, eX7_touched_19, eX7_touched_20, eX7_touched_23, eX7_touched_26, eX7_touched_29, eX7_touched_30, eX7_touched_31, eX7_touched_32, eX7_touched_34, eX7_touched_35, eX7_touched_38, eX7_touched_41, eX7_touched_44, eX7_touched_45, eX7_touched_48, eX7_touched_49, eX7_touched_52, eX7_touched_55, eX7_touched_56, eX7_touched_59, eX7_touched_60, eX7_touched_63, eX7_touched_64, eX7_touched_65, eX7_touched_68, eX7_touched_69, eX7_touched_70, eX7_touched_73, eX7_touched_74, eX7_touched_77, eX7_touched_80, eX7_touched_83, eX7_touched_84, eX7_touched_87, eX7_touched_88, eX7_touched_89, eX7_touched_92, eX7_touched_95, eX7_touched_98, eX7_touched_101, eX7_touched_104, eX7_touched_105, eX7_touched_108, eX7_touched_109, eX7_touched_112, cnt_0, cnt_1, cnt_2, cnt_3, cnt_4, cnt_5, cnt_6, cnt_7, cnt_8, cnt_9, cnt_10, cnt_11, tX7_isEither, psh_i, bi_0]
  by_cases e : eiB x = false
  · rw [if_pos e]
    exact hQ.1 e
  · rw [if_neg e]
    have hQ := hQ.2 (by simpa using e)
    simp only [eX7_touched_0, eX7_touched_1, eX7_touched_4, eX7_touched_7, eX7_touched_8, eX7_touched_9, eX7_touched_10, eX7_touched_13, eX7_touched_16, eX7_touched_17, eX7_touched_19, eX7_touched_20, eX7_touched_23, eX7_touched_26, eX7_touched_29, eX7_touched_30, eX7_touched_31, eX7_touched_32, eX7_touched_34, eX7_touched_35, eX7_touched_38, eX7_touched_41, eX7_touched_44, eX7_touched_45, eX7_touched_48, eX7_touched_49, eX7_touched_52, eX7_touched_55, eX7_touched_56, eX7_touched_59, eX7_touched_60, eX7_touched_63, eX7_touched_64, eX7_touched_65, eX7_touched_68, eX7_touched_69, eX7_touched_70, eX7_touched_73, eX7_touched_74, eX7_touched_77, eX7_touched_80, eX7_touched_83, eX7_touched_84, eX7_touched_87, eX7_touched_88, eX7_touched_89, eX7_touched_92, eX7_touched_95, eX7_touched_98, eX7_touched_101, eX7_touched_104, eX7_touched_105, eX7_touched_108, eX7_touched_109, eX7_touched_112, cnt_0, cnt_1, cnt_2, cnt_3, cnt_4, cnt_5, cnt_6, cnt_7, cnt_8, cnt_9, cnt_10, cnt_11, true_and, Nat.lt_add_one, tX6_clear, psh_u]
    have fin : ∀ N s, Eqx scr M N → Tw N s.1 s.2 → s = (plL (τ 7 0) (τ 7 0)).foldl (stp (tdB τ σ ci cs cn)) (0, -4) → ExG z (Run z (d + 3)) 7 1 false none cX7_touched Q 104 [vr 7 0, .inl x, .inl (nI (τ 7 0)), .inl (nI (τ 7 0))] [] N := by
      intro N s E T es
      have := hQ N (CA_scr C E) (cl_scr E)
      unfold twR at this
      rw [← es] at this
      simp only [eX7_touched_0, eX7_touched_1, eX7_touched_4, eX7_touched_7, eX7_touched_8, eX7_touched_9, eX7_touched_10, eX7_touched_13, eX7_touched_16, eX7_touched_17, eX7_touched_19, eX7_touched_20, eX7_touched_23, eX7_touched_26, eX7_touched_29, eX7_touched_30, eX7_touched_31, eX7_touched_32, eX7_touched_34, eX7_touched_35, eX7_touched_38, eX7_touched_41, eX7_touched_44, eX7_touched_45, eX7_touched_48, eX7_touched_49, eX7_touched_52, eX7_touched_55, eX7_touched_56, eX7_touched_59, eX7_touched_60, eX7_touched_63, eX7_touched_64, eX7_touched_65, eX7_touched_68, eX7_touched_69, eX7_touched_70, eX7_touched_73, eX7_touched_74, eX7_touched_77, eX7_touched_80, eX7_touched_83, eX7_touched_84, eX7_touched_87, eX7_touched_88, eX7_touched_89, eX7_touched_92, eX7_touched_95, eX7_touched_98, eX7_touched_101, eX7_touched_104, eX7_touched_105, eX7_touched_108, eX7_touched_109, eX7_touched_112, cnt_0, cnt_1, cnt_2, cnt_3, cnt_4, cnt_5, cnt_6, cnt_7, cnt_8, cnt_9, cnt_10, cnt_11, true_and, Nat.lt_add_one, mX6_answer T, psh_i]
      exact this
    have inn : ∀ k N s b a, b + k = τ 7 0 → a < b → s.1 + k ≤ 1000 → Eqx scr M N → Tw N s.1 s.2 → (∀ N', Eqx scr M N' → Tw N' ((rwL a (τ 7 0) k).foldl (stp (tdB τ σ ci cs cn)) s).1 ((rwL a (τ 7 0) k).foldl (stp (tdB τ σ ci cs cn)) s).2 → ExG z (Run z (d + 3)) 7 1 false none cX7_touched Q 98 [vr 7 0, .inl x, .inl (nI a), .inl (nI (τ 7 0))] [] N') → ExG z (Run z (d + 3)) 7 1 false none cX7_touched Q 33 [vr 7 0, .inl x, .inl (nI a), .inl (nI b)] [] N := by
      intro k
      induction k with
      | zero =>
        intro N s b a hb hab hs1 E T hk
        have := hk N E T
        obtain ⟨h, hh, r1, r2, P, H1, H2, S, P0, P1, L⟩ := CA_scr C E
        have eb : b = τ 7 0 := hb
        rw [eX7_touched_33]
        simp (disch := omega) only [eX7_touched_0, eX7_touched_1, eX7_touched_4, eX7_touched_7, eX7_touched_8, eX7_touched_9, eX7_touched_10, eX7_touched_13, eX7_touched_16, eX7_touched_17, eX7_touched_19, eX7_touched_20, eX7_touched_23, eX7_touched_26, eX7_touched_29, eX7_touched_30, eX7_touched_31, eX7_touched_32, eX7_touched_34, eX7_touched_35, eX7_touched_38, eX7_touched_41, eX7_touched_44, eX7_touched_45, eX7_touched_48, eX7_touched_49, eX7_touched_52, eX7_touched_55, eX7_touched_56, eX7_touched_59, eX7_touched_60, eX7_touched_63, eX7_touched_64, eX7_touched_65, eX7_touched_68, eX7_touched_69, eX7_touched_70, eX7_touched_73, eX7_touched_74, eX7_touched_77, eX7_touched_80, eX7_touched_83, eX7_touched_84, eX7_touched_87, eX7_touched_88, eX7_touched_89, eX7_touched_92, eX7_touched_95, eX7_touched_98, eX7_touched_101, eX7_touched_104, eX7_touched_105, eX7_touched_108, eX7_touched_109, eX7_touched_112, cnt_0, cnt_1, cnt_2, cnt_3, cnt_4, cnt_5, cnt_6, cnt_7, cnt_8, cnt_9, cnt_10, cnt_11, true_and, Nat.lt_add_one, r1, hh, Ho_n H1, nI_leI, eb, Nat.le_refl, if_true]
        simp only [eX7_touched_0, eX7_touched_1, eX7_touched_4, eX7_touched_7, eX7_touched_8, eX7_touched_9, eX7_touched_10, eX7_touched_13, eX7_touched_16, eX7_touched_17, eX7_touched_19, eX7_touched_20, eX7_touched_23, eX7_touched_26, eX7_touched_29, eX7_touched_30, eX7_touched_31, eX7_touched_32, eX7_touched_34, eX7_touched_35, eX7_touched_38, eX7_touched_41, eX7_touched_44, eX7_touched_45, eX7_touched_48, eX7_touched_49, eX7_touched_52, eX7_touched_55, eX7_touched_56, eX7_touched_59, eX7_touched_60, eX7_touched_63, eX7_touched_64, eX7_touched_65, eX7_touched_68, eX7_touched_69, eX7_touched_70, eX7_touched_73, eX7_touched_74, eX7_touched_77, eX7_touched_80, eX7_touched_83, eX7_touched_84, eX7_touched_87, eX7_touched_88, eX7_touched_89, eX7_touched_92, eX7_touched_95, eX7_touched_98, eX7_touched_101, eX7_touched_104, eX7_touched_105, eX7_touched_108, eX7_touched_109, eX7_touched_112] at this
        exact this
      | succ k ih =>
        intro N s b a hb hab hs1 E T hk
        have C' := CA_scr C E
        obtain ⟨h, hh, r1, r2, P, H1, H2, S, P0, P1, L⟩ := id C'
        rw [rwL, List.foldl_cons, show τ 7 0 - (k + 1) = b by omega] at hk
        have hab' : a ≠ b := by omega
        have hs2 : OKs (tcS τ a b σ) := OKs_tc (by omega) (by omega) hs
        have E3 : Eqx scr M (wSt N 1 (tcS τ a b σ)) := Eqx_tr E scr_w (fun _ _ q => q) (fun _ _ q => q)
        have T3 : Tw (wSt N 1 (tcS τ a b σ)) s.1 s.2 := ⟨(wSt_o (by omega) (by omega)).trans T.1, (wSt_o (by omega) (by omega)).trans T.2⟩
        have L3 : Cl (wSt N 1 (tcS τ a b σ)) ci cs cn := Cl_e (S := scr) scr_w (fun c i q => by unfold cS at q; unfold scr; omega) L
        rw [eX7_touched_33]
        simp (disch := omega) only [eX7_touched_0, eX7_touched_1, eX7_touched_4, eX7_touched_7, eX7_touched_8, eX7_touched_9, eX7_touched_10, eX7_touched_13, eX7_touched_16, eX7_touched_17, eX7_touched_19, eX7_touched_20, eX7_touched_23, eX7_touched_26, eX7_touched_29, eX7_touched_30, eX7_touched_31, eX7_touched_32, eX7_touched_34, eX7_touched_35, eX7_touched_38, eX7_touched_41, eX7_touched_44, eX7_touched_45, eX7_touched_48, eX7_touched_49, eX7_touched_52, eX7_touched_55, eX7_touched_56, eX7_touched_59, eX7_touched_60, eX7_touched_63, eX7_touched_64, eX7_touched_65, eX7_touched_68, eX7_touched_69, eX7_touched_70, eX7_touched_73, eX7_touched_74, eX7_touched_77, eX7_touched_80, eX7_touched_83, eX7_touched_84, eX7_touched_87, eX7_touched_88, eX7_touched_89, eX7_touched_92, eX7_touched_95, eX7_touched_98, eX7_touched_101, eX7_touched_104, eX7_touched_105, eX7_touched_108, eX7_touched_109, eX7_touched_112, cnt_0, cnt_1, cnt_2, cnt_3, cnt_4, cnt_5, cnt_6, cnt_7, cnt_8, cnt_9, cnt_10, cnt_11, true_and, Nat.lt_add_one, Nat.reduceLT, r1, hh, Ho_n H1, nI_leI, if_neg (show ¬ τ 7 0 ≤ b by omega), tX5_copy (show 1 < 12 by decide) (show 0 < 12 by decide) (by decide) S, psh_u, gR_wSt, tX5_meet (show 1 < 12 by decide) hh H1 K hs (show a < τ 7 0 by omega) (show b < τ 7 0 by omega) hab', psh_i, tX0_hold L3 (fun j hj => Nat.lt_of_lt_of_le (vc j hj).1 hn) (fun j hj => (vc j hj).2) (show 1 < 12 by decide) (St_wSt _ _ _) hs2, bi_0, lit_1, nI_add]
        by_cases c : tdB τ σ ci cs cn a b = true
        · rw [show hld ci cs (tcS τ a b σ).1 cn = true from c, if_neg (by decide)]
          simp (disch := omega) only [mX6_add T3 (show s.1 < 2 ^ 30 by omega) (show a < 9 by omega) (show b < 9 by omega), psh_u, eX7_touched_0, eX7_touched_1, eX7_touched_4, eX7_touched_7, eX7_touched_8, eX7_touched_9, eX7_touched_10, eX7_touched_13, eX7_touched_16, eX7_touched_17, eX7_touched_19, eX7_touched_20, eX7_touched_23, eX7_touched_26, eX7_touched_29, eX7_touched_30, eX7_touched_31, eX7_touched_32, eX7_touched_34, eX7_touched_35, eX7_touched_38, eX7_touched_41, eX7_touched_44, eX7_touched_45, eX7_touched_48, eX7_touched_49, eX7_touched_52, eX7_touched_55, eX7_touched_56, eX7_touched_59, eX7_touched_60, eX7_touched_63, eX7_touched_64, eX7_touched_65, eX7_touched_68, eX7_touched_69, eX7_touched_70, eX7_touched_73, eX7_touched_74, eX7_touched_77, eX7_touched_80, eX7_touched_83, eX7_touched_84, eX7_touched_87, eX7_touched_88, eX7_touched_89, eX7_touched_92, eX7_touched_95, eX7_touched_98, eX7_touched_101, eX7_touched_104, eX7_touched_105, eX7_touched_108, eX7_touched_109, eX7_touched_112, lit_1, nI_add]
          have e1 : stp (tdB τ σ ci cs cn) s (a, b) = (s.1 + 1, if s.1 = 0 then nI (10 * a + b) else s.2) := if_pos c
          rw [e1] at hk
          exact ih _ (s.1 + 1, if s.1 = 0 then nI (10 * a + b) else s.2) (b + 1) a (by omega) (by omega) (by show s.1 + 1 + k ≤ 1000; omega) (Eqx_tr E3 (Eqx_t (Or.inr (Or.inr rfl))) (fun _ _ q => q) (fun _ _ q => q)) (Tw_w _ _ _) hk
        · rw [show hld ci cs (tcS τ a b σ).1 cn = false from eq_false_of_ne_true c, if_pos rfl]
          have e1 : stp (tdB τ σ ci cs cn) s (a, b) = s := if_neg c
          rw [e1] at hk
          exact ih _ s (b + 1) a (by omega) (by omega) (by omega) E3 T3 hk
    have out : ∀ k N s a a3, a + k = τ 7 0 → s.1 + 10 * k ≤ 900 → Eqx scr M N → Tw N s.1 s.2 → (plL (τ 7 0) k).foldl (stp (tdB τ σ ci cs cn)) s = (plL (τ 7 0) (τ 7 0)).foldl (stp (tdB τ σ ci cs cn)) (0, -4) → (k = 0 → a3 = .inl (nI (τ 7 0))) → ExG z (Run z (d + 3)) 7 1 false none cX7_touched Q 18 [vr 7 0, .inl x, .inl (nI a), a3] [] N := by
      intro k
      induction k with
      | zero =>
        intro N s a a3 ha hs1 E T es h3
        obtain ⟨h, hh, r1, r2, P, H1, H2, S, P0, P1, L⟩ := CA_scr C E
        have ea : a = τ 7 0 := ha
        rw [h3 rfl, eX7_touched_18]
        have := fin N s E T es
        simp (disch := omega) only [eX7_touched_0, eX7_touched_1, eX7_touched_4, eX7_touched_7, eX7_touched_8, eX7_touched_9, eX7_touched_10, eX7_touched_13, eX7_touched_16, eX7_touched_17, eX7_touched_19, eX7_touched_20, eX7_touched_23, eX7_touched_26, eX7_touched_29, eX7_touched_30, eX7_touched_31, eX7_touched_32, eX7_touched_34, eX7_touched_35, eX7_touched_38, eX7_touched_41, eX7_touched_44, eX7_touched_45, eX7_touched_48, eX7_touched_49, eX7_touched_52, eX7_touched_55, eX7_touched_56, eX7_touched_59, eX7_touched_60, eX7_touched_63, eX7_touched_64, eX7_touched_65, eX7_touched_68, eX7_touched_69, eX7_touched_70, eX7_touched_73, eX7_touched_74, eX7_touched_77, eX7_touched_80, eX7_touched_83, eX7_touched_84, eX7_touched_87, eX7_touched_88, eX7_touched_89, eX7_touched_92, eX7_touched_95, eX7_touched_98, eX7_touched_101, eX7_touched_104, eX7_touched_105, eX7_touched_108, eX7_touched_109, eX7_touched_112, cnt_0, cnt_1, cnt_2, cnt_3, cnt_4, cnt_5, cnt_6, cnt_7, cnt_8, cnt_9, cnt_10, cnt_11, true_and, Nat.lt_add_one, r1, hh, Ho_n H1, nI_leI, ea, Nat.le_refl, if_true] at this ⊢
        exact this
      | succ k ih =>
        intro N s a a3 ha hs1 E T es h3
        obtain ⟨h, hh, r1, r2, P, H1, H2, S, P0, P1, L⟩ := CA_scr C E
        rw [eX7_touched_18]
        simp (disch := omega) only [eX7_touched_0, eX7_touched_1, eX7_touched_4, eX7_touched_7, eX7_touched_8, eX7_touched_9, eX7_touched_10, eX7_touched_13, eX7_touched_16, eX7_touched_17, eX7_touched_19, eX7_touched_20, eX7_touched_23, eX7_touched_26, eX7_touched_29, eX7_touched_30, eX7_touched_31, eX7_touched_32, eX7_touched_34, eX7_touched_35, eX7_touched_38, eX7_touched_41, eX7_touched_44, eX7_touched_45, eX7_touched_48, eX7_touched_49, eX7_touched_52, eX7_touched_55, eX7_touched_56, eX7_touched_59, eX7_touched_60, eX7_touched_63, eX7_touched_64, eX7_touched_65, eX7_touched_68, eX7_touched_69, eX7_touched_70, eX7_touched_73, eX7_touched_74, eX7_touched_77, eX7_touched_80, eX7_touched_83, eX7_touched_84, eX7_touched_87, eX7_touched_88, eX7_touched_89, eX7_touched_92, eX7_touched_95, eX7_touched_98, eX7_touched_101, eX7_touched_104, eX7_touched_105, eX7_touched_108, eX7_touched_109, eX7_touched_112, cnt_0, cnt_1, cnt_2, cnt_3, cnt_4, cnt_5, cnt_6, cnt_7, cnt_8, cnt_9, cnt_10, cnt_11, true_and, Nat.lt_add_one, r1, hh, Ho_n H1, nI_leI, if_neg (show ¬ τ 7 0 ≤ a by omega), lit_1, nI_add]
        rw [plL, show τ 7 0 - (k + 1) = a by omega, List.foldl_append] at es
        have hr := rw_le (tdB τ σ ci cs cn) a (τ 7 0) k s
        refine inn k N s (a + 1) a (by omega) (by omega) (by omega) E T (fun N' E' T' => ?_)
        simp only [eX7_touched_0, eX7_touched_1, eX7_touched_4, eX7_touched_7, eX7_touched_8, eX7_touched_9, eX7_touched_10, eX7_touched_13, eX7_touched_16, eX7_touched_17, eX7_touched_19, eX7_touched_20, eX7_touched_23, eX7_touched_26, eX7_touched_29, eX7_touched_30, eX7_touched_31, eX7_touched_32, eX7_touched_34, eX7_touched_35, eX7_touched_38, eX7_touched_41, eX7_touched_44, eX7_touched_45, eX7_touched_48, eX7_touched_49, eX7_touched_52, eX7_touched_55, eX7_touched_56, eX7_touched_59, eX7_touched_60, eX7_touched_63, eX7_touched_64, eX7_touched_65, eX7_touched_68, eX7_touched_69, eX7_touched_70, eX7_touched_73, eX7_touched_74, eX7_touched_77, eX7_touched_80, eX7_touched_83, eX7_touched_84, eX7_touched_87, eX7_touched_88, eX7_touched_89, eX7_touched_92, eX7_touched_95, eX7_touched_98, eX7_touched_101, eX7_touched_104, eX7_touched_105, eX7_touched_108, eX7_touched_109, eX7_touched_112, lit_1, nI_add]
        exact ih N' _ (a + 1) _ (by omega) (by omega) E' T' es (fun _ => rfl)
    exact out (τ 7 0) _ (0, -4) 0 _ (by omega) (by show 0 + 10 * τ 7 0 ≤ 900; omega) (Eqx_t (Or.inr (Or.inr rfl))) (Tw_w _ _ _) rfl (fun q => by omega)
end U4
