/-! the class's calls, 6: led, and the dogs -/
def ec : Nat → Int32
  | 0 => -4
  | k + 1 => nI k
def lkS (q : Nat × Nat) (f : Nat → Nat) : Nat → Nat :=
  upN (upN f q.2 (if ¬ f q.1 = 0 ∧ (f q.2 = 0 ∨ f q.1 + 1 < f q.2) then f q.1 + 1 else f q.2)) q.1 (if ¬ f q.2 = 0 ∧ (f q.1 = 0 ∨ f q.2 + 1 < f q.1) then f q.2 + 1 else f q.1)
def lkQ (f : Nat → Nat) (q : Nat × Nat) : Nat → Nat := lkS q f
theorem lkS_le {q : Nat × Nat} {f : Nat → Nat} {B : Nat} (h : ∀ j, f j ≤ B) (j : Nat) : lkS q f j ≤ B + 1 := by
  have h1 := h q.1
  have h2 := h q.2
  have h3 := h j
  unfold lkS upN
  split
  · split <;> omega
  · split
    · split <;> omega
    · omega
def pLed (τ : Nat → Nat → Nat) (x y w : Int32) : Int32 := if hsB x (τ 7 0) = false ∨ hsB y (τ 7 0) = false ∨ hsB w 12 = false then -1 else
  ec (((tmL τ (w.toNatClampNeg + 1)).foldl lkQ (upN (fun _ => 0) x.toNatClampNeg 1)) y.toNatClampNeg)
def Lk (M : bM) (f : Nat → Nat) : Prop := ∀ j, j < 9 → gI M 9 31 j = ec (f j)
theorem Lk_s {M : bM} {f : Nat → Nat} {i v : Nat} (h : Lk M f) : Lk (sI M 9 31 i (ec v)) (upN f i v) := by
  intro j hj
  rw [gI_sI]
  unfold upN
  by_cases q : j = i
  · subst q
    rw [if_pos ⟨rfl, rfl, rfl⟩, if_pos rfl]
  · rw [if_neg (fun w => q w.2.2), if_neg q]
    exact h j hj
theorem aln31 : aln 31 = 9 := rfl
theorem neg4n {q : Nat} (h : q < 2 ^ 31) : (nI q = -4) = False := neg4 h
theorem tX7_link {z d a b : Nat} {M : bM} {f : Nat → Nat} {Q : bV → bM → Prop} (H : Lk M f) (ha : a < 9) (hb : b < 9) (hab : a ≠ b) (hf : ∀ j, f j ≤ 1000) (hQ : ∀ M', Eqx scr M M' → Lk M' (lkS (a, b) f) → Q vu M') : Run z (d + 2) 86 [vr 7 0, .inl (nI a), .inl (nI b)] M Q := by
  have u1 : rowAt M 31 (nI a) = ec (f a) := (rowAt_nI (by rw [aln31]; exact ha)).trans (H a ha)
  have u2 : rowAt M 31 (nI b) = ec (f b) := (rowAt_nI (by rw [aln31]; exact hb)).trans (H b hb)
  have p1 : ∀ {M : bM} {v : Int32}, rowPut M 31 (nI a) v = sI M 9 31 a v := rowPut_nI (by rw [aln31]; exact ha)
  have p2 : ∀ {M : bM} {v : Int32}, rowPut M 31 (nI b) v = sI M 9 31 b v := rowPut_nI (by rw [aln31]; exact hb)
  have s31 : scr 9 31 := Or.inr (Or.inl ⟨rfl, Or.inr (Or.inr rfl)⟩)
  have h1 := hf a
  have h2 := hf b
  have hno : ∀ v w, v = f b → w = f a → upN (upN f b v) a w = f := by
    rintro v w rfl rfl
    rw [upN_self, upN_self]
  have key : lkS (a, b) f = upN (upN f b (if ¬ f a = 0 ∧ (f b = 0 ∨ f a + 1 < f b) then f a + 1 else f b)) a (if ¬ f b = 0 ∧ (f a = 0 ∨ f b + 1 < f a) then f b + 1 else f a) := rfl
  rw [key] at hQ
  rw [rX7_link]
  cases ea : f a with
  | zero =>
    rw [ea] at u1 hQ
    cases eb : f b with
    | zero =>
      rw [eb] at u2 hQ
      rw [if_neg (by omega), hno _ _ eb.symm ea.symm] at hQ
      simp (disch := omega) only [eX7_link_0, eX7_link_1, eX7_link_4, eX7_link_5, eX7_link_8, eX7_link_9, eX7_link_10, eX7_link_13, eX7_link_14, eX7_link_17, eX7_link_19, eX7_link_20, eX7_link_22, eX7_link_25, eX7_link_27, eX7_link_29, eX7_link_32, eX7_link_34, eX7_link_35, eX7_link_36, eX7_link_37, eX7_link_40, eX7_link_41, eX7_link_44, eX7_link_45, eX7_link_46, eX7_link_47, eX7_link_48, eX7_link_51, eX7_link_53, eX7_link_55, eX7_link_58, eX7_link_59, eX7_link_61, eX7_link_64, eX7_link_65, eX7_link_67, eX7_link_68, eX7_link_69, eX7_link_72, eX7_link_73, eX7_link_76, eX7_link_77, eX7_link_79, eX7_link_80, eX7_link_81, eX7_link_84, cnt_0, cnt_1, cnt_2, cnt_3, cnt_4, cnt_5, cnt_6, cnt_7, cnt_8, cnt_9, cnt_10, cnt_11, true_and, Nat.reduceLT, tX4_at, u1, u2, psh_i, ec, if_true, if_false]
      exact hQ M Eqx_rf H
    | succ m =>
      rw [eb] at u2 hQ
      rw [if_neg (by omega), if_pos (by omega), ← eb, upN_self] at hQ
      simp (disch := omega) only [eX7_link_0, eX7_link_1, eX7_link_4, eX7_link_5, eX7_link_8, eX7_link_9, eX7_link_10, eX7_link_13, eX7_link_14, eX7_link_17, eX7_link_19, eX7_link_20, eX7_link_22, eX7_link_25, eX7_link_27, eX7_link_29, eX7_link_32, eX7_link_34, eX7_link_35, eX7_link_36, eX7_link_37, eX7_link_40, eX7_link_41, eX7_link_44, eX7_link_45, eX7_link_46, eX7_link_47, eX7_link_48, eX7_link_51, eX7_link_53, eX7_link_55, eX7_link_58, eX7_link_59, eX7_link_61, eX7_link_64, eX7_link_65, eX7_link_67, eX7_link_68, eX7_link_69, eX7_link_72, eX7_link_73, eX7_link_76, eX7_link_77, eX7_link_79, eX7_link_80, eX7_link_81, eX7_link_84, cnt_0, cnt_1, cnt_2, cnt_3, cnt_4, cnt_5, cnt_6, cnt_7, cnt_8, cnt_9, cnt_10, cnt_11, true_and, Nat.reduceLT, tX4_at, tX4_put, p1, u1, u2, psh_i, psh_u, ec, if_true, if_false, neg4n, nI_1]
      refine hQ _ (Eqx_sI s31) ?_
      rw [eb]
      exact Lk_s (v := m + 1 + 1) H
  | succ k =>
    rw [ea] at u1 hQ
    cases eb : f b with
    | zero =>
      rw [eb] at u2 hQ
      rw [if_pos (by omega), if_neg (by omega)] at hQ
      have e : upN (upN f b (k + 1 + 1)) a (k + 1) = upN f b (k + 1 + 1) := by
        have := upN_self (upN f b (k + 1 + 1)) a
        rwa [upN_ne hab, ea] at this
      rw [e] at hQ
      simp (disch := omega) only [eX7_link_0, eX7_link_1, eX7_link_4, eX7_link_5, eX7_link_8, eX7_link_9, eX7_link_10, eX7_link_13, eX7_link_14, eX7_link_17, eX7_link_19, eX7_link_20, eX7_link_22, eX7_link_25, eX7_link_27, eX7_link_29, eX7_link_32, eX7_link_34, eX7_link_35, eX7_link_36, eX7_link_37, eX7_link_40, eX7_link_41, eX7_link_44, eX7_link_45, eX7_link_46, eX7_link_47, eX7_link_48, eX7_link_51, eX7_link_53, eX7_link_55, eX7_link_58, eX7_link_59, eX7_link_61, eX7_link_64, eX7_link_65, eX7_link_67, eX7_link_68, eX7_link_69, eX7_link_72, eX7_link_73, eX7_link_76, eX7_link_77, eX7_link_79, eX7_link_80, eX7_link_81, eX7_link_84, cnt_0, cnt_1, cnt_2, cnt_3, cnt_4, cnt_5, cnt_6, cnt_7, cnt_8, cnt_9, cnt_10, cnt_11, true_and, Nat.reduceLT, tX4_at, tX4_put, p2, u1, u2, psh_i, psh_u, ec, if_true, if_false, neg4n, nI_1]
      exact hQ _ (Eqx_sI s31) (Lk_s (v := k + 1 + 1) H)
    | succ m =>
      rw [eb] at u2 hQ
      by_cases c : k + 1 < m
      · rw [if_pos (by omega), if_neg (by omega)] at hQ
        have e : upN (upN f b (k + 1 + 1)) a (k + 1) = upN f b (k + 1 + 1) := by
          have := upN_self (upN f b (k + 1 + 1)) a
          rwa [upN_ne hab, ea] at this
        rw [e] at hQ
        simp (disch := omega) only [eX7_link_0, eX7_link_1, eX7_link_4, eX7_link_5, eX7_link_8, eX7_link_9, eX7_link_10, eX7_link_13, eX7_link_14, eX7_link_17, eX7_link_19, eX7_link_20, eX7_link_22, eX7_link_25, eX7_link_27, eX7_link_29, eX7_link_32, eX7_link_34, eX7_link_35, eX7_link_36, eX7_link_37, eX7_link_40, eX7_link_41, eX7_link_44, eX7_link_45, eX7_link_46, eX7_link_47, eX7_link_48, eX7_link_51, eX7_link_53, eX7_link_55, eX7_link_58, eX7_link_59, eX7_link_61, eX7_link_64, eX7_link_65, eX7_link_67, eX7_link_68, eX7_link_69, eX7_link_72, eX7_link_73, eX7_link_76, eX7_link_77, eX7_link_79, eX7_link_80, eX7_link_81, eX7_link_84, cnt_0, cnt_1, cnt_2, cnt_3, cnt_4, cnt_5, cnt_6, cnt_7, cnt_8, cnt_9, cnt_10, cnt_11, true_and, Nat.reduceLT, tX4_at, tX4_put, p2, u1, u2, psh_i, psh_u, ec, if_true, if_false, neg4n, nI_1, nI_leI, if_neg (show ¬ m ≤ k + 1 by omega), if_pos (show k ≤ m + 1 by omega)]
        exact hQ _ (Eqx_sI s31) (Lk_s (v := k + 1 + 1) H)
      · by_cases c2 : m + 1 < k
        · rw [if_neg (by omega), if_pos (by omega), ← eb, upN_self, eb] at hQ
          simp (disch := omega) only [eX7_link_0, eX7_link_1, eX7_link_4, eX7_link_5, eX7_link_8, eX7_link_9, eX7_link_10, eX7_link_13, eX7_link_14, eX7_link_17, eX7_link_19, eX7_link_20, eX7_link_22, eX7_link_25, eX7_link_27, eX7_link_29, eX7_link_32, eX7_link_34, eX7_link_35, eX7_link_36, eX7_link_37, eX7_link_40, eX7_link_41, eX7_link_44, eX7_link_45, eX7_link_46, eX7_link_47, eX7_link_48, eX7_link_51, eX7_link_53, eX7_link_55, eX7_link_58, eX7_link_59, eX7_link_61, eX7_link_64, eX7_link_65, eX7_link_67, eX7_link_68, eX7_link_69, eX7_link_72, eX7_link_73, eX7_link_76, eX7_link_77, eX7_link_79, eX7_link_80, eX7_link_81, eX7_link_84, cnt_0, cnt_1, cnt_2, cnt_3, cnt_4, cnt_5, cnt_6, cnt_7, cnt_8, cnt_9, cnt_10, cnt_11, true_and, Nat.reduceLT, tX4_at, tX4_put, p1, u1, u2, psh_i, psh_u, ec, if_true, if_false, neg4n, nI_1, nI_leI, if_pos (show m ≤ k + 1 by omega), if_neg (show ¬ k ≤ m + 1 by omega)]
          exact hQ _ (Eqx_sI s31) (Lk_s (v := m + 1 + 1) H)
        · rw [if_neg (by omega), if_neg (by omega), hno _ _ eb.symm ea.symm] at hQ
          simp (disch := omega) only [eX7_link_0, eX7_link_1, eX7_link_4, eX7_link_5, eX7_link_8, eX7_link_9, eX7_link_10, eX7_link_13, eX7_link_14, eX7_link_17, eX7_link_19, eX7_link_20, eX7_link_22, eX7_link_25, eX7_link_27, eX7_link_29, eX7_link_32, eX7_link_34, eX7_link_35, eX7_link_36, eX7_link_37, eX7_link_40, eX7_link_41, eX7_link_44, eX7_link_45, eX7_link_46, eX7_link_47, eX7_link_48, eX7_link_51, eX7_link_53, eX7_link_55, eX7_link_58, eX7_link_59, eX7_link_61, eX7_link_64, eX7_link_65, eX7_link_67, eX7_link_68, eX7_link_69, eX7_link_72, eX7_link_73, eX7_link_76, eX7_link_77, eX7_link_79, eX7_link_80, eX7_link_81, eX7_link_84, cnt_0, cnt_1, cnt_2, cnt_3, cnt_4, cnt_5, cnt_6, cnt_7, cnt_8, cnt_9, cnt_10, cnt_11, true_and, Nat.reduceLT, tX4_at, u1, u2, psh_i, ec, if_true, if_false, neg4n, nI_1, nI_leI, if_pos (show m ≤ k + 1 by omega), if_pos (show k ≤ m + 1 by omega)]
          exact hQ M Eqx_rf H
section U6
variable {z d G : Nat} {M : bM} {lt : Nat → Nat} {len : Nat} {τ τd : Nat → Nat → Nat} {σ : sT} {pa : Nat → sT} {ph : Nat} {ka : Nat → sT} {kh : Nat} {ci cs : Nat → Nat} {cn : Nat} {Q : bV → bM → Prop}
theorem uX7_led {x y w : Int32} (C : CA M lt len τ τd σ pa ph ka kh ci cs cn) (V : VA G τ σ pa ph ka kh ci cs cn)
    (hQ : ∀ M', CA M' lt len τ τd σ pa ph ka kh ci cs cn → Eqx clS M M' → Q (.inl (pLed τ x y w)) M') : Run z (d + 3) 72 [vr 7 0, .inl x, .inl y, .inl w] M Q := by
  obtain ⟨h, hh, r1, r2, P, H1, H2, S, P0, P1, L⟩ := id C
  obtain ⟨K, n1, hs, hg, -⟩ := V
  have hn := K.1
  have ht := K.2.1
  have s31 : scr 9 31 := Or.inr (Or.inl ⟨rfl, Or.inr (Or.inr rfl)⟩)
  rw [rX7_led]
  simp only [eX7_led_0, eX7_led_1, eX7_led_4, eX7_led_5, eX7_led_8, eX7_led_11, eX7_led_12, eX7_led_15, eX7_led_16, eX7_led_19, eX7_led_22, eX7_led_23, eX7_led_26, eX7_led_29, eX7_led_30, eX7_led_31, eX7_led_32, eX7_led_35, eX7_led_37, eX7_led_40, eX7_led_41, eX7_led_44, eX7_led_45, eX7_led_46, eX7_led_49, eX7_led_50, eX7_led_54, eX7_led_55, eX7_led_58, eX7_led_59, eX7_led_63, eX7_led_64, eX7_led_67, eX7_led_70, eX7_led_73, eX7_led_74, eX7_led_77, eX7_led_80, eX7_led_82, eX7_led_85, eX7_led_87, eX7_led_90, eX7_led_91, eX7_led_92, eX7_led_95, eX7_led_98, eX7_led_100, eX7_led_103, eX7_led_104, eX7_led_107, eX7_led_110, eX7_led_112, eX7_led_115, eX7_led_118, eX7_led_121, eX7_led_124, eX7_led_127, eX7_led_130, eX7_led_131, eX7_led_134, eX7_led_135, eX7_led_138, cnt_0, cnt_1, cnt_2, cnt_3, cnt_4, cnt_5, cnt_6, cnt_7, cnt_8, cnt_9, cnt_10, cnt_11, true_and, Nat.lt_add_one, r1, hh, tX1_has hh H1, psh_i, bi_0, tX7_isHour]
  unfold pLed at hQ
  rcases hsB_cases x (n := τ 7 0) (by omega) with ⟨a, ha, rfl, e⟩ | e
  · rcases hsB_cases y (n := τ 7 0) (by omega) with ⟨b, hb, rfl, e3⟩ | e3
    · rcases hsB_cases w (n := 12) (by decide) with ⟨hr, hr', rfl, e2⟩ | e2
      · rw [if_neg (by simp [e, e2, e3]), nI_clamp (by omega), nI_clamp (by omega), nI_clamp (by omega)] at hQ
        rw [e, e2, e3, if_neg (by decide), if_neg (by decide), if_neg (by decide)]
        have p1 : ∀ {M : bM} {v : Int32}, rowPut M 31 (nI a) v = sI M 9 31 a v := rowPut_nI (by rw [aln31]; omega)
        simp only [eX7_led_0, eX7_led_1, eX7_led_4, eX7_led_5, eX7_led_8, eX7_led_11, eX7_led_12, eX7_led_15, eX7_led_16, eX7_led_19, eX7_led_22, eX7_led_23, eX7_led_26, eX7_led_29, eX7_led_30, eX7_led_31, eX7_led_32, eX7_led_35, eX7_led_37, eX7_led_40, eX7_led_41, eX7_led_44, eX7_led_45, eX7_led_46, eX7_led_49, eX7_led_50, eX7_led_54, eX7_led_55, eX7_led_58, eX7_led_59, eX7_led_63, eX7_led_64, eX7_led_67, eX7_led_70, eX7_led_73, eX7_led_74, eX7_led_77, eX7_led_80, eX7_led_82, eX7_led_85, eX7_led_87, eX7_led_90, eX7_led_91, eX7_led_92, eX7_led_95, eX7_led_98, eX7_led_100, eX7_led_103, eX7_led_104, eX7_led_107, eX7_led_110, eX7_led_112, eX7_led_115, eX7_led_118, eX7_led_121, eX7_led_124, eX7_led_127, eX7_led_130, eX7_led_131, eX7_led_134, eX7_led_135, eX7_led_138, cnt_0, cnt_1, cnt_2, cnt_3, cnt_4, cnt_5, cnt_6, cnt_7, cnt_8, cnt_9, cnt_10, cnt_11, true_and, Nat.reduceLT, tX4_fill (show 31 < 32 by decide), psh_u, tX4_put, p1, lit_0]
        have L0 : Lk (sI (rset M 31 (aln 31) (fun _ => (-4))) 9 31 a (nI 0)) (upN (fun _ => 0) a 1) := by
          refine Lk_s (v := 1) (fun j hj => ?_)
          rw [gI_rset, if_pos ⟨rfl, rfl, by rw [aln31]; exact hj⟩]
          rfl
        have E00 : Eqx scr M (rset M 31 (aln 31) (fun _ => (-4))) := fun c i j q => ⟨by rw [gI_rset, if_neg (fun w => q (by obtain ⟨rfl, rfl, _⟩ := w; exact s31))], rfl⟩
        have E0 : Eqx scr M (sI (rset M 31 (aln 31) (fun _ => (-4))) 9 31 a (nI 0)) := Eqx_tr E00 (Eqx_sI s31) (fun _ _ q => q) (fun _ _ q => q)
        have inn : ∀ k, k < 12 → ∀ m t N f, t + m = τ 8 0 → Eqx scr M N → Lk N ((thL τ k t).foldl lkQ f) → (∀ j, (thL τ k t).foldl lkQ f j ≤ 10 * k + t + 1) → (∀ N', Eqx scr M N' → Lk N' ((thL τ k (τ 8 0)).foldl lkQ f) → (∀ j, (thL τ k (τ 8 0)).foldl lkQ f j ≤ 10 * k + τ 8 0 + 1) → ExG z (Run z (d + 2)) 7 1 false none cX7_led Q 124 [vr 7 0, .inl (nI a), .inl (nI b), .inl (nI hr), .inl (nI k), .inl (nI (τ 8 0))] [] N') → ExG z (Run z (d + 2)) 7 1 false none cX7_led Q 61 [vr 7 0, .inl (nI a), .inl (nI b), .inl (nI hr), .inl (nI k), .inl (nI t)] [] N := by
          intro k hk m
          induction m with
          | zero =>
            intro t N f e E L B hf
            have et : t = τ 8 0 := e
            subst et
            obtain ⟨h, hh, r1, r2, P, H1, -⟩ := CA_scr C E
            have := hf N E L B
            rw [eX7_led_61]
            simp (disch := omega) only [eX7_led_0, eX7_led_1, eX7_led_4, eX7_led_5, eX7_led_8, eX7_led_11, eX7_led_12, eX7_led_15, eX7_led_16, eX7_led_19, eX7_led_22, eX7_led_23, eX7_led_26, eX7_led_29, eX7_led_30, eX7_led_31, eX7_led_32, eX7_led_35, eX7_led_37, eX7_led_40, eX7_led_41, eX7_led_44, eX7_led_45, eX7_led_46, eX7_led_49, eX7_led_50, eX7_led_54, eX7_led_55, eX7_led_58, eX7_led_59, eX7_led_63, eX7_led_64, eX7_led_67, eX7_led_70, eX7_led_73, eX7_led_74, eX7_led_77, eX7_led_80, eX7_led_82, eX7_led_85, eX7_led_87, eX7_led_90, eX7_led_91, eX7_led_92, eX7_led_95, eX7_led_98, eX7_led_100, eX7_led_103, eX7_led_104, eX7_led_107, eX7_led_110, eX7_led_112, eX7_led_115, eX7_led_118, eX7_led_121, eX7_led_124, eX7_led_127, eX7_led_130, eX7_led_131, eX7_led_134, eX7_led_135, eX7_led_138, cnt_0, cnt_1, cnt_2, cnt_3, cnt_4, cnt_5, cnt_6, cnt_7, cnt_8, cnt_9, cnt_10, cnt_11, true_and, Nat.lt_add_one, r1, hh, Ho_t H1, nI_leI, Nat.le_refl, if_true] at this ⊢
            exact this
          | succ m ih =>
            intro t N f e E L B hf
            obtain ⟨h, hh, r1, r2, P, H1, -⟩ := CA_scr C E
            obtain ⟨w1, w2, w3, w4⟩ := K.2.2.2.2.2.2.1 t (by omega)
            have u1 : rowAt N (4 + 7 * h) (nI t) = nI (τ 2 t) := Ho_th hh H1 (by omega)
            have u2 : rowAt N (5 + 7 * h) (nI t) = nI (τ 3 t) := Ho_ta hh H1 (by omega)
            have u3 : rowAt N (6 + 7 * h) (nI t) = nI (τ 4 t) := Ho_tb hh H1 (by omega)
            rw [eX7_led_61]
            simp (disch := omega) only [eX7_led_0, eX7_led_1, eX7_led_4, eX7_led_5, eX7_led_8, eX7_led_11, eX7_led_12, eX7_led_15, eX7_led_16, eX7_led_19, eX7_led_22, eX7_led_23, eX7_led_26, eX7_led_29, eX7_led_30, eX7_led_31, eX7_led_32, eX7_led_35, eX7_led_37, eX7_led_40, eX7_led_41, eX7_led_44, eX7_led_45, eX7_led_46, eX7_led_49, eX7_led_50, eX7_led_54, eX7_led_55, eX7_led_58, eX7_led_59, eX7_led_63, eX7_led_64, eX7_led_67, eX7_led_70, eX7_led_73, eX7_led_74, eX7_led_77, eX7_led_80, eX7_led_82, eX7_led_85, eX7_led_87, eX7_led_90, eX7_led_91, eX7_led_92, eX7_led_95, eX7_led_98, eX7_led_100, eX7_led_103, eX7_led_104, eX7_led_107, eX7_led_110, eX7_led_112, eX7_led_115, eX7_led_118, eX7_led_121, eX7_led_124, eX7_led_127, eX7_led_130, eX7_led_131, eX7_led_134, eX7_led_135, eX7_led_138, cnt_0, cnt_1, cnt_2, cnt_3, cnt_4, cnt_5, cnt_6, cnt_7, cnt_8, cnt_9, cnt_10, cnt_11, true_and, Nat.lt_add_one, r1, hh, Ho_t H1, nI_leI, if_neg (show ¬ τ 8 0 ≤ t by omega), lt_h2 hh, lt_h3 hh, lt_h4 hh, tX4_at, u1, u2, u3, psh_i, nI_eq, nI_1]
            have nx := ih (t + 1)
            rw [thL] at nx
            by_cases c : τ 2 t = k
            · simp only [if_pos c, List.foldl_append, List.foldl_cons, List.foldl_nil] at nx ⊢
              refine tX7_link (d := d) L (show τ 3 t < 9 by omega) (show τ 4 t < 9 by omega) w4 (fun j => by have := B j; omega) (fun M' E' L' => ?_)
              simp only [psh_u, eX7_led_0, eX7_led_1, eX7_led_4, eX7_led_5, eX7_led_8, eX7_led_11, eX7_led_12, eX7_led_15, eX7_led_16, eX7_led_19, eX7_led_22, eX7_led_23, eX7_led_26, eX7_led_29, eX7_led_30, eX7_led_31, eX7_led_32, eX7_led_35, eX7_led_37, eX7_led_40, eX7_led_41, eX7_led_44, eX7_led_45, eX7_led_46, eX7_led_49, eX7_led_50, eX7_led_54, eX7_led_55, eX7_led_58, eX7_led_59, eX7_led_63, eX7_led_64, eX7_led_67, eX7_led_70, eX7_led_73, eX7_led_74, eX7_led_77, eX7_led_80, eX7_led_82, eX7_led_85, eX7_led_87, eX7_led_90, eX7_led_91, eX7_led_92, eX7_led_95, eX7_led_98, eX7_led_100, eX7_led_103, eX7_led_104, eX7_led_107, eX7_led_110, eX7_led_112, eX7_led_115, eX7_led_118, eX7_led_121, eX7_led_124, eX7_led_127, eX7_led_130, eX7_led_131, eX7_led_134, eX7_led_135, eX7_led_138, nI_1]
              exact nx M' f (by omega) (Eqx_tr E E' (fun _ _ q => q) (fun _ _ q => q)) L' (fun j => by have := lkS_le (q := (τ 3 t, τ 4 t)) B j; exact this) hf
            · simp only [if_neg c, List.append_nil] at nx ⊢
              exact nx N f (by omega) E L (fun j => by have := B j; omega) hf
        have out : ∀ m k N a5, k + m = hr + 1 → Eqx scr M N → Lk N ((tmL τ k).foldl lkQ (upN (fun _ => 0) a 1)) → (∀ j, (tmL τ k).foldl lkQ (upN (fun _ => 0) a 1) j ≤ 10 * k + 1) → ExG z (Run z (d + 2)) 7 1 false none cX7_led Q 52 [vr 7 0, .inl (nI a), .inl (nI b), .inl (nI hr), .inl (nI k), a5] [] N := by
          intro m
          induction m with
          | zero =>
            intro k N a5 e E L B
            have ek : k = hr + 1 := e
            subst ek
            have u2 : rowAt N 31 (nI b) = _ := (rowAt_nI (by rw [aln31]; omega)).trans (L b (by omega))
            rw [eX7_led_52]
            simp (disch := omega) only [eX7_led_0, eX7_led_1, eX7_led_4, eX7_led_5, eX7_led_8, eX7_led_11, eX7_led_12, eX7_led_15, eX7_led_16, eX7_led_19, eX7_led_22, eX7_led_23, eX7_led_26, eX7_led_29, eX7_led_30, eX7_led_31, eX7_led_32, eX7_led_35, eX7_led_37, eX7_led_40, eX7_led_41, eX7_led_44, eX7_led_45, eX7_led_46, eX7_led_49, eX7_led_50, eX7_led_54, eX7_led_55, eX7_led_58, eX7_led_59, eX7_led_63, eX7_led_64, eX7_led_67, eX7_led_70, eX7_led_73, eX7_led_74, eX7_led_77, eX7_led_80, eX7_led_82, eX7_led_85, eX7_led_87, eX7_led_90, eX7_led_91, eX7_led_92, eX7_led_95, eX7_led_98, eX7_led_100, eX7_led_103, eX7_led_104, eX7_led_107, eX7_led_110, eX7_led_112, eX7_led_115, eX7_led_118, eX7_led_121, eX7_led_124, eX7_led_127, eX7_led_130, eX7_led_131, eX7_led_134, eX7_led_135, eX7_led_138, cnt_0, cnt_1, cnt_2, cnt_3, cnt_4, cnt_5, cnt_6, cnt_7, cnt_8, cnt_9, cnt_10, cnt_11, true_and, nI_ltI, if_pos (show hr < hr + 1 by omega), Nat.reduceLT, tX4_at, u2, psh_i]
            exact hQ N (CA_scr C E) (cl_scr E)
          | succ m ih =>
            intro k N a5 e E L B
            rw [eX7_led_52]
            simp (disch := omega) only [eX7_led_0, eX7_led_1, eX7_led_4, eX7_led_5, eX7_led_8, eX7_led_11, eX7_led_12, eX7_led_15, eX7_led_16, eX7_led_19, eX7_led_22, eX7_led_23, eX7_led_26, eX7_led_29, eX7_led_30, eX7_led_31, eX7_led_32, eX7_led_35, eX7_led_37, eX7_led_40, eX7_led_41, eX7_led_44, eX7_led_45, eX7_led_46, eX7_led_49, eX7_led_50, eX7_led_54, eX7_led_55, eX7_led_58, eX7_led_59, eX7_led_63, eX7_led_64, eX7_led_67, eX7_led_70, eX7_led_73, eX7_led_74, eX7_led_77, eX7_led_80, eX7_led_82, eX7_led_85, eX7_led_87, eX7_led_90, eX7_led_91, eX7_led_92, eX7_led_95, eX7_led_98, eX7_led_100, eX7_led_103, eX7_led_104, eX7_led_107, eX7_led_110, eX7_led_112, eX7_led_115, eX7_led_118, eX7_led_121, eX7_led_124, eX7_led_127, eX7_led_130, eX7_led_131, eX7_led_134, eX7_led_135, eX7_led_138, nI_ltI, if_neg (show ¬ hr < k by omega), lit_0]
            refine inn k (by omega) (τ 8 0) 0 N _ (by omega) E L B (fun N' E' L' B' => ?_)
            simp only [eX7_led_0, eX7_led_1, eX7_led_4, eX7_led_5, eX7_led_8, eX7_led_11, eX7_led_12, eX7_led_15, eX7_led_16, eX7_led_19, eX7_led_22, eX7_led_23, eX7_led_26, eX7_led_29, eX7_led_30, eX7_led_31, eX7_led_32, eX7_led_35, eX7_led_37, eX7_led_40, eX7_led_41, eX7_led_44, eX7_led_45, eX7_led_46, eX7_led_49, eX7_led_50, eX7_led_54, eX7_led_55, eX7_led_58, eX7_led_59, eX7_led_63, eX7_led_64, eX7_led_67, eX7_led_70, eX7_led_73, eX7_led_74, eX7_led_77, eX7_led_80, eX7_led_82, eX7_led_85, eX7_led_87, eX7_led_90, eX7_led_91, eX7_led_92, eX7_led_95, eX7_led_98, eX7_led_100, eX7_led_103, eX7_led_104, eX7_led_107, eX7_led_110, eX7_led_112, eX7_led_115, eX7_led_118, eX7_led_121, eX7_led_124, eX7_led_127, eX7_led_130, eX7_led_131, eX7_led_134, eX7_led_135, eX7_led_138, nI_1]
            have nx := ih (k + 1)
            rw [tmL] at nx
            simp only [List.foldl_append] at nx
            exact nx N' _ (by omega) E' L' (fun j => by have := B' j; omega)
        exact out (hr + 1) 0 _ vu (by omega) E0 L0 (fun j => by show upN (fun _ => 0) a 1 j ≤ 10 * 0 + 1; unfold upN; split; exact Nat.le_refl _; exact Nat.zero_le _)
      · rw [if_pos (Or.inr (Or.inr e2))] at hQ
        rw [e, e3, e2, if_neg (by decide), if_neg (by decide), if_pos rfl]
        exact hQ M C Eqx_rf
    · rw [if_pos (Or.inr (Or.inl e3))] at hQ
      rw [e, e3, if_neg (by decide), if_pos rfl]
      exact hQ M C Eqx_rf
  · rw [if_pos (Or.inl e)] at hQ
    rw [e, if_pos rfl]
    exact hQ M C Eqx_rf
end U6

/-- the dogs -/
def drw (z k : Nat) : Nat := (7919 * z + 6151 * k + 1) * (7919 * z + 6151 * k + 1) % 65521 / 8
theorem lN_in {a : Nat} (h : a < 2 ^ 63) : (lN a).toInt = (a : Int) := lg_ofNat_toInt h
theorem lN_div {a d : Nat} (ha : a < 2 ^ 62) (h0 : 0 < d) (hd : d < 2 ^ 31) : lN a / lN d = lN (a / d) := by
  apply Int64.toInt_inj.mp
  have h1 : a / d ≤ a := Nat.div_le_self a d
  rw [Int64.toInt_div, lN_in (by omega), lN_in (by omega), lN_in (by omega), Int.tdiv_eq_ediv_of_nonneg (by omega), show ((a : Int) / (d : Int)) = ((a / d : Nat) : Int) from (Int.natCast_ediv _ _).symm]
  generalize a / d = q at h1
  exact Int.bmod_eq_of_le (by omega) (by omega)
theorem lN_rem {a d : Nat} (ha : a < 2 ^ 62) (h0 : 0 < d) (hd : d < 2 ^ 31) : lN a - lN a / lN d * lN d = lN (a % d) := by
  rw [lN_div ha h0 hd, lN_mul, lN_sub (Nat.div_mul_le_self a d)]
  exact congrArg lN (by have := Nat.div_add_mod' a d; omega)
theorem drw_b {z k : Nat} (hz : z < 10000) (hk : k < 48) : (7919 * z + 6151 * k + 1) * (7919 * z + 6151 * k + 1) < 2 ^ 62 := by
  have h : 7919 * z + 6151 * k + 1 < 2 ^ 31 := by omega
  exact Nat.lt_of_lt_of_le (Nat.mul_lt_mul'' h h) (by decide)
theorem l65 : ((65521 : Int64) = 0) = False := eq_false (by decide)
theorem l8 : ((8 : Int64) = 0) = False := eq_false (by decide)
theorem tX7_draw {z d a k : Nat} {M : bM} {Q : bV → bM → Prop} (ha : a < 10000) (hk : k < 48) : Run z (d + 1) 87 [.inl (nI a), .inl (nI k)] M Q = Q (.inl (nI (drw a k))) M := by
  have hb := drw_b ha hk
  have hm : (7919 * a + 6151 * k + 1) * (7919 * a + 6151 * k + 1) % 65521 < 65521 := Nat.mod_lt _ (by decide)
  rw [rX7_draw]
  simp only [eX7_draw_0, eX7_draw_3, eX7_draw_4, eX7_draw_5, eX7_draw_6, eX7_draw_9, eX7_draw_10, eX7_draw_11, eX7_draw_12, eX7_draw_13, eX7_draw_14, eX7_draw_15, eX7_draw_16, eX7_draw_17, eX7_draw_18, eX7_draw_19, eX7_draw_22, eX7_draw_23, eX7_draw_26, eX7_draw_27, eX7_draw_28, l65, l8, not_false_iff, true_and]
  rw [nI_l (by omega), nI_l (by omega), show (7919 : Int64) = lN 7919 from rfl, show (6151 : Int64) = lN 6151 from rfl, show (65521 : Int64) = lN 65521 from rfl, show (8 : Int64) = lN 8 from rfl, lN_mul, lN_mul, lN_add, lN_1, lN_mul, lN_rem hb (by decide) (by decide), lN_div (by omega) (by decide) (by decide), lN_i]
  rfl
def dgT (τ : Nat → Nat → Nat) (dr : Nat) (ρ : sT) : sT := if dr % τ 7 0 = dr / 8 % τ 7 0 then ρ else tcS τ (dr % τ 7 0) (dr / 8 % τ 7 0) ρ
def dgN (τ : Nat → Nat → Nat) (z : Nat) (σ : sT) : Nat → sT
  | 0 => σ
  | k + 1 => hrN τ 1 (dgT τ (drw z k) (dgN τ z σ k))
def pDogs (τ : Nat → Nat → Nat) (σ : sT) (x y w : Int32) : Int32 := if x < 0 ∨ nI 9999 < x ∨ y < 1 ∨ nI 48 < y ∨ eiB w = false then -1 else
  if w = 0 then nI (τ 7 0 - cnE (dgN τ x.toNatClampNeg σ y.toNatClampNeg).1 0 (τ 7 0)) else nI (dkN τ (dgN τ x.toNatClampNeg σ y.toNatClampNeg).1 (τ 7 0))
theorem drw_l {z k : Nat} : drw z k < 8191 := by
  unfold drw
  have hm : (7919 * z + 6151 * k + 1) * (7919 * z + 6151 * k + 1) % 65521 < 65521 := Nat.mod_lt _ (by decide)
  omega
theorem dgN_g {τ : Nat → Nat → Nat} {z : Nat} {σ : sT} {k : Nat} : (dgN τ z σ k).2.2 = σ.2.2 + k := by
  induction k with
  | zero => rfl
  | succ k ih =>
    rw [dgN, hrN_g]
    unfold dgT
    split
    · rw [ih]; rfl
    · show (dgN τ z σ k).2.2 + 1 = _
      rw [ih]; rfl
theorem OKs_dgT {τ : Nat → Nat → Nat} {dr : Nat} {σ : sT} (K : OKh τ) (n1 : 1 ≤ τ 7 0) (hs : OKs σ) : OKs (dgT τ dr σ) := by
  have hn := K.1
  have a1 : dr % τ 7 0 < τ 7 0 := Nat.mod_lt _ (by omega)
  have a2 : dr / 8 % τ 7 0 < τ 7 0 := Nat.mod_lt _ (by omega)
  unfold dgT
  split
  · exact hs
  · exact OKs_tc (by omega) (by omega) hs
theorem OKs_dgN {τ : Nat → Nat → Nat} {z : Nat} {σ : sT} {k : Nat} (K : OKh τ) (n1 : 1 ≤ τ 7 0) (hs : OKs σ) : OKs (dgN τ z σ k) := by
  induction k with
  | zero => exact hs
  | succ k ih => exact OKs_hrN K (OKs_dgT K n1 ih)
theorem eq_i8 : (8 : Int32) = nI 8 := rfl
section U7
variable {z d G : Nat} {M : bM} {lt : Nat → Nat} {len : Nat} {τ τd : Nat → Nat → Nat} {σ : sT} {pa : Nat → sT} {ph : Nat} {ka : Nat → sT} {kh : Nat} {ci cs : Nat → Nat} {cn : Nat} {Q : bV → bM → Prop}
theorem uX7_dogTouch {dr : Nat} {ρ : sT} (C : CA M lt len τ τd σ pa ph ka kh ci cs cn) (V : VA G τ σ pa ph ka kh ci cs cn) (hr : OKs ρ) (hd : dr < 8191) : Run z (d + 4) 88 [vr 7 0, .inl (nI dr)] (wSt M 1 ρ) Q = Q vu (wSt M 1 (dgT τ dr ρ)) := by
  obtain ⟨h, hh, r1, r2, P, H1, H2, S, P0, P1, L⟩ := id C
  obtain ⟨K, n1, hs, hg, -⟩ := V
  have hn := K.1
  have a1 : dr % τ 7 0 < τ 7 0 := Nat.mod_lt _ (by omega)
  have a2 : dr / 8 % τ 7 0 < τ 7 0 := Nat.mod_lt _ (by omega)
  have H1' : ∀ ρ, Ho (wSt M 1 ρ) h τ := fun ρ => Ho_w hh H1
  have e1 : nI dr - nI dr / nI (τ 7 0) * nI (τ 7 0) = nI (dr % τ 7 0) := rem_nI (by omega) (by omega) (by omega)
  have e2 : nI dr / nI 8 = nI (dr / 8) := pk_div (by omega) (by decide) (by decide)
  have e3 : nI (dr / 8) - nI (dr / 8) / nI (τ 7 0) * nI (τ 7 0) = nI (dr / 8 % τ 7 0) := rem_nI (by omega) (by omega) (by omega)
  rw [rX7_dogTouch]
  simp (disch := omega) only [eX7_dogTouch_0, eX7_dogTouch_1, eX7_dogTouch_4, eX7_dogTouch_7, eX7_dogTouch_10, eX7_dogTouch_11, eX7_dogTouch_12, eX7_dogTouch_13, eX7_dogTouch_16, eX7_dogTouch_19, eX7_dogTouch_20, eX7_dogTouch_21, eX7_dogTouch_22, eX7_dogTouch_24, eX7_dogTouch_25, eX7_dogTouch_26, eX7_dogTouch_29, eX7_dogTouch_32, eX7_dogTouch_33, eX7_dogTouch_34, eX7_dogTouch_35, eX7_dogTouch_36, eX7_dogTouch_39, eX7_dogTouch_40, eX7_dogTouch_43, eX7_dogTouch_44, eX7_dogTouch_47, eX7_dogTouch_48, eX7_dogTouch_49, eX7_dogTouch_52, eX7_dogTouch_53, cnt_0, cnt_1, cnt_2, cnt_3, cnt_4, cnt_5, cnt_6, cnt_7, cnt_8, cnt_9, cnt_10, cnt_11, true_and, Nat.lt_add_one, Nat.reduceLT, gR_wSt, r1, hh, Ho_n (H1' ρ), lit_0, nI_ltI, if_pos (show 0 < τ 7 0 by omega), nI_eq, show ¬ τ 7 0 = 0 by omega, not_false_iff, e1, eq_i8, e2, e3, Nat.reduceEqDiff]
  unfold dgT
  by_cases c : dr % τ 7 0 = dr / 8 % τ 7 0
  · rw [if_pos c, if_pos c]
  · rw [if_neg c, if_neg c]
    simp only [tX5_meet (show 1 < 12 by decide) hh H1 K hr a1 a2 c, psh_i, eX7_dogTouch_0, eX7_dogTouch_1, eX7_dogTouch_4, eX7_dogTouch_7, eX7_dogTouch_10, eX7_dogTouch_11, eX7_dogTouch_12, eX7_dogTouch_13, eX7_dogTouch_16, eX7_dogTouch_19, eX7_dogTouch_20, eX7_dogTouch_21, eX7_dogTouch_22, eX7_dogTouch_24, eX7_dogTouch_25, eX7_dogTouch_26, eX7_dogTouch_29, eX7_dogTouch_32, eX7_dogTouch_33, eX7_dogTouch_34, eX7_dogTouch_35, eX7_dogTouch_36, eX7_dogTouch_39, eX7_dogTouch_40, eX7_dogTouch_43, eX7_dogTouch_44, eX7_dogTouch_47, eX7_dogTouch_48, eX7_dogTouch_49, eX7_dogTouch_52, eX7_dogTouch_53]
theorem uX7_dogs {x y w : Int32} (C : CA M lt len τ τd σ pa ph ka kh ci cs cn) (V : VA G τ σ pa ph ka kh ci cs cn) (hG : G < 2 ^ 28)
    (hQ : ∀ M', CA M' lt len τ τd σ pa ph ka kh ci cs cn → Eqx clS M M' → Q (.inl (pDogs τ σ x y w)) M') : Run z (d + 6) 73 [vr 7 0, .inl x, .inl y, .inl w] M Q := by
  obtain ⟨h, hh, r1, r2, P, H1, H2, S, P0, P1, L⟩ := id C
  obtain ⟨K, n1, hs, hg, -⟩ := id V
  have hn := K.1
  rw [rX7_dogs]
  unfold pDogs at hQ
  have l1 : (9999 : Int32) = nI 9999 := rfl
  have l2 : (48 : Int32) = nI 48 := rfl
  by_cases c1 : x < 0
  · simp only [eX7_dogs_0, eX7_dogs_1, eX7_dogs_4, eX7_dogs_5, eX7_dogs_8, eX7_dogs_11, eX7_dogs_12, eX7_dogs_13, eX7_dogs_16, eX7_dogs_17, eX7_dogs_19, eX7_dogs_22, eX7_dogs_23, eX7_dogs_26, eX7_dogs_29, eX7_dogs_30, eX7_dogs_31, eX7_dogs_32, eX7_dogs_35, eX7_dogs_36, eX7_dogs_39, eX7_dogs_42, eX7_dogs_43, eX7_dogs_47, eX7_dogs_48, eX7_dogs_51, eX7_dogs_52, eX7_dogs_53, eX7_dogs_55, eX7_dogs_58, eX7_dogs_61, eX7_dogs_62, eX7_dogs_65, eX7_dogs_66, eX7_dogs_69, eX7_dogs_70, eX7_dogs_73, eX7_dogs_76, eX7_dogs_79, eX7_dogs_80, eX7_dogs_83, eX7_dogs_84, eX7_dogs_87, eX7_dogs_88, eX7_dogs_91, eX7_dogs_94, eX7_dogs_97, eX7_dogs_98, eX7_dogs_101, eX7_dogs_102, eX7_dogs_105, eX7_dogs_108, if_pos c1]
    rw [if_pos (Or.inl c1)] at hQ
    exact hQ M C Eqx_rf
  · by_cases c2 : nI 9999 < x
    · simp only [eX7_dogs_0, eX7_dogs_1, eX7_dogs_4, eX7_dogs_5, eX7_dogs_8, eX7_dogs_11, eX7_dogs_12, eX7_dogs_13, eX7_dogs_16, eX7_dogs_17, eX7_dogs_19, eX7_dogs_22, eX7_dogs_23, eX7_dogs_26, eX7_dogs_29, eX7_dogs_30, eX7_dogs_31, eX7_dogs_32, eX7_dogs_35, eX7_dogs_36, eX7_dogs_39, eX7_dogs_42, eX7_dogs_43, eX7_dogs_47, eX7_dogs_48, eX7_dogs_51, eX7_dogs_52, eX7_dogs_53, eX7_dogs_55, eX7_dogs_58, eX7_dogs_61, eX7_dogs_62, eX7_dogs_65, eX7_dogs_66, eX7_dogs_69, eX7_dogs_70, eX7_dogs_73, eX7_dogs_76, eX7_dogs_79, eX7_dogs_80, eX7_dogs_83, eX7_dogs_84, eX7_dogs_87, eX7_dogs_88, eX7_dogs_91, eX7_dogs_94, eX7_dogs_97, eX7_dogs_98, eX7_dogs_101, eX7_dogs_102, eX7_dogs_105, eX7_dogs_108, if_neg c1, l1, if_pos c2]
      rw [if_pos (Or.inr (Or.inl c2))] at hQ
      exact hQ M C Eqx_rf
    · by_cases c3 : y < 1
      · simp only [eX7_dogs_0, eX7_dogs_1, eX7_dogs_4, eX7_dogs_5, eX7_dogs_8, eX7_dogs_11, eX7_dogs_12, eX7_dogs_13, eX7_dogs_16, eX7_dogs_17, eX7_dogs_19, eX7_dogs_22, eX7_dogs_23, eX7_dogs_26, eX7_dogs_29, eX7_dogs_30, eX7_dogs_31, eX7_dogs_32, eX7_dogs_35, eX7_dogs_36, eX7_dogs_39, eX7_dogs_42, eX7_dogs_43, eX7_dogs_47, eX7_dogs_48, eX7_dogs_51, eX7_dogs_52, eX7_dogs_53, eX7_dogs_55, eX7_dogs_58, eX7_dogs_61, eX7_dogs_62, eX7_dogs_65, eX7_dogs_66, eX7_dogs_69, eX7_dogs_70, eX7_dogs_73, eX7_dogs_76, eX7_dogs_79, eX7_dogs_80, eX7_dogs_83, eX7_dogs_84, eX7_dogs_87, eX7_dogs_88, eX7_dogs_91, eX7_dogs_94, eX7_dogs_97, eX7_dogs_98, eX7_dogs_101, eX7_dogs_102, eX7_dogs_105, eX7_dogs_108, if_neg c1, l1, if_neg c2, if_pos c3]
        rw [if_pos (Or.inr (Or.inr (Or.inl c3)))] at hQ
        exact hQ M C Eqx_rf
      · by_cases c4 : nI 48 < y
        · simp only [eX7_dogs_0, eX7_dogs_1, eX7_dogs_4, eX7_dogs_5, eX7_dogs_8, eX7_dogs_11, eX7_dogs_12, eX7_dogs_13, eX7_dogs_16, eX7_dogs_17, eX7_dogs_19, eX7_dogs_22, eX7_dogs_23, eX7_dogs_26, eX7_dogs_29, eX7_dogs_30, eX7_dogs_31, eX7_dogs_32, eX7_dogs_35, eX7_dogs_36, eX7_dogs_39, eX7_dogs_42, eX7_dogs_43, eX7_dogs_47, eX7_dogs_48, eX7_dogs_51, eX7_dogs_52, eX7_dogs_53, eX7_dogs_55, eX7_dogs_58, eX7_dogs_61, eX7_dogs_62, eX7_dogs_65, eX7_dogs_66, eX7_dogs_69, eX7_dogs_70, eX7_dogs_73, eX7_dogs_76, eX7_dogs_79, eX7_dogs_80, eX7_dogs_83, eX7_dogs_84, eX7_dogs_87, eX7_dogs_88, eX7_dogs_91, eX7_dogs_94, eX7_dogs_97, eX7_dogs_98, eX7_dogs_101, eX7_dogs_102, eX7_dogs_105, eX7_dogs_108, if_neg c1, l1, if_neg c2, if_neg c3, l2, if_pos c4]
          rw [if_pos (Or.inr (Or.inr (Or.inr (Or.inl c4))))] at hQ
          exact hQ M C Eqx_rf
        · simp only [eX7_dogs_0, eX7_dogs_1, eX7_dogs_4, eX7_dogs_5, eX7_dogs_8, eX7_dogs_11, eX7_dogs_12, eX7_dogs_13, eX7_dogs_16, eX7_dogs_17, eX7_dogs_19, eX7_dogs_22, eX7_dogs_23, eX7_dogs_26, eX7_dogs_29, eX7_dogs_30, eX7_dogs_31, eX7_dogs_32, eX7_dogs_35, eX7_dogs_36, eX7_dogs_39, eX7_dogs_42, eX7_dogs_43, eX7_dogs_47, eX7_dogs_48, eX7_dogs_51, eX7_dogs_52, eX7_dogs_53, eX7_dogs_55, eX7_dogs_58, eX7_dogs_61, eX7_dogs_62, eX7_dogs_65, eX7_dogs_66, eX7_dogs_69, eX7_dogs_70, eX7_dogs_73, eX7_dogs_76, eX7_dogs_79, eX7_dogs_80, eX7_dogs_83, eX7_dogs_84, eX7_dogs_87, eX7_dogs_88, eX7_dogs_91, eX7_dogs_94, eX7_dogs_97, eX7_dogs_98, eX7_dogs_101, eX7_dogs_102, eX7_dogs_105, eX7_dogs_108, cnt_0, cnt_1, cnt_2, cnt_3, cnt_4, cnt_5, cnt_6, cnt_7, cnt_8, cnt_9, cnt_10, cnt_11, if_neg c1, l1, if_neg c2, if_neg c3, l2, if_neg c4, tX7_isEither, psh_i, bi_0]
          by_cases c5 : eiB w = false
          · rw [if_pos c5]
            rw [if_pos (Or.inr (Or.inr (Or.inr (Or.inr c5))))] at hQ
            exact hQ M C Eqx_rf
          · rw [if_neg c5]
            rw [if_neg (by rintro (q | q | q | q | q) <;> contradiction)] at hQ
            obtain ⟨a, ha, rfl⟩ : ∃ a, a < 10000 ∧ x = nI a := by
              rcases pk_ix x (n := 10000) (by decide) with q | q | q
              · exact absurd q c1
              · exfalso
                apply c2
                rw [Int32.le_iff_toInt_le, nI_toInt (by decide)] at q
                rw [Int32.lt_iff_toInt_lt, nI_toInt (by decide)]
                omega
              · exact q
            obtain ⟨n, hn', rfl⟩ : ∃ n, n < 49 ∧ y = nI n := by
              rcases pk_ix y (n := 49) (by decide) with q | q | q
              · exfalso
                apply c3
                rw [Int32.lt_iff_toInt_lt] at q ⊢
                simp at q ⊢
                omega
              · exfalso
                apply c4
                rw [Int32.le_iff_toInt_le, nI_toInt (by decide)] at q
                rw [Int32.lt_iff_toInt_lt, nI_toInt (by decide)]
                omega
              · exact q
            rw [nI_clamp (by omega), nI_clamp (by omega)] at hQ
            have E1 : ∀ k, Eqx scr M (wSt M 1 (dgN τ a σ k)) := fun k => scr_w
            have H1' : ∀ k, Ho (wSt M 1 (dgN τ a σ k)) h τ := fun k => Ho_w hh H1
            simp only [eX7_dogs_0, eX7_dogs_1, eX7_dogs_4, eX7_dogs_5, eX7_dogs_8, eX7_dogs_11, eX7_dogs_12, eX7_dogs_13, eX7_dogs_16, eX7_dogs_17, eX7_dogs_19, eX7_dogs_22, eX7_dogs_23, eX7_dogs_26, eX7_dogs_29, eX7_dogs_30, eX7_dogs_31, eX7_dogs_32, eX7_dogs_35, eX7_dogs_36, eX7_dogs_39, eX7_dogs_42, eX7_dogs_43, eX7_dogs_47, eX7_dogs_48, eX7_dogs_51, eX7_dogs_52, eX7_dogs_53, eX7_dogs_55, eX7_dogs_58, eX7_dogs_61, eX7_dogs_62, eX7_dogs_65, eX7_dogs_66, eX7_dogs_69, eX7_dogs_70, eX7_dogs_73, eX7_dogs_76, eX7_dogs_79, eX7_dogs_80, eX7_dogs_83, eX7_dogs_84, eX7_dogs_87, eX7_dogs_88, eX7_dogs_91, eX7_dogs_94, eX7_dogs_97, eX7_dogs_98, eX7_dogs_101, eX7_dogs_102, eX7_dogs_105, eX7_dogs_108, cnt_0, cnt_1, cnt_2, cnt_3, cnt_4, cnt_5, cnt_6, cnt_7, cnt_8, cnt_9, cnt_10, cnt_11, true_and, Nat.lt_add_one, Nat.reduceLT, tX5_copy (show 1 < 12 by decide) (show 0 < 12 by decide) (by decide) S, psh_u, lit_0]
            have hQ := hQ _ (CA_scr C (E1 n)) (cl_scr (E1 n))
            have fin : ExG z (Run z (d + 5)) 7 1 false none cX7_dogs Q 45 [vr 7 0, .inl (nI a), .inl (nI n), .inl w, .inl (nI n)] [] (wSt M 1 (dgN τ a σ n)) := by
              have hk' := OKs_dgN (z := a) (k := n) K n1 hs
              rw [eX7_dogs_45]
              simp (disch := omega) only [eX7_dogs_0, eX7_dogs_1, eX7_dogs_4, eX7_dogs_5, eX7_dogs_8, eX7_dogs_11, eX7_dogs_12, eX7_dogs_13, eX7_dogs_16, eX7_dogs_17, eX7_dogs_19, eX7_dogs_22, eX7_dogs_23, eX7_dogs_26, eX7_dogs_29, eX7_dogs_30, eX7_dogs_31, eX7_dogs_32, eX7_dogs_35, eX7_dogs_36, eX7_dogs_39, eX7_dogs_42, eX7_dogs_43, eX7_dogs_47, eX7_dogs_48, eX7_dogs_51, eX7_dogs_52, eX7_dogs_53, eX7_dogs_55, eX7_dogs_58, eX7_dogs_61, eX7_dogs_62, eX7_dogs_65, eX7_dogs_66, eX7_dogs_69, eX7_dogs_70, eX7_dogs_73, eX7_dogs_76, eX7_dogs_79, eX7_dogs_80, eX7_dogs_83, eX7_dogs_84, eX7_dogs_87, eX7_dogs_88, eX7_dogs_91, eX7_dogs_94, eX7_dogs_97, eX7_dogs_98, eX7_dogs_101, eX7_dogs_102, eX7_dogs_105, eX7_dogs_108, cnt_0, cnt_1, cnt_2, cnt_3, cnt_4, cnt_5, cnt_6, cnt_7, cnt_8, cnt_9, cnt_10, cnt_11, true_and, Nat.lt_add_one, Nat.reduceLT, gR_wSt, r1, hh, nI_leI, Nat.le_refl, if_true, tX5_shaded (show 1 < 12 by decide) hh H1 K hk', tX5_darkestPerson (show 1 < 12 by decide) hh H1 K hk', psh_i]
              by_cases c6 : w = 0
              · rw [if_pos c6] at hQ ⊢
                exact hQ
              · rw [if_neg c6] at hQ ⊢
                exact hQ
            have up := eq_up (fun k => ExG z (Run z (d + 5)) 7 1 false none cX7_dogs Q 45 [vr 7 0, .inl (nI a), .inl (nI n), .inl w, .inl (nI k)] [] (wSt M 1 (dgN τ a σ k))) (Nat.zero_le n) (fun k _ hk => by
              have hk' := OKs_dgN (z := a) (k := k) K n1 hs
              have hg' := dgN_g (τ := τ) (z := a) (σ := σ) (k := k)
              have dt : ∀ Q, Run z (d + 5) 88 [vr 7 0, .inl (nI (drw a k))] (wSt M 1 (dgN τ a σ k)) Q = Q vu (wSt M 1 (dgT τ (drw a k) (dgN τ a σ k))) := fun Q => uX7_dogTouch C V hk' drw_l
              have go : ∀ Q, Run z (d + 5) 45 [vr 5 1, vr 1 h, .inl (nI 1)] (wSt M 1 (dgT τ (drw a k) (dgN τ a σ k))) Q = Q vu (wSt M 1 (dgN τ a σ (k + 1))) := fun Q => tX5_goHours (by decide) hh H1 K (OKs_dgT K n1 hk') (by unfold dgT; split <;> (show (dgN τ a σ k).2.2 < 2 ^ 29) <;> omega) (by decide)
              show ExG z (Run z (d + 5)) 7 1 false none cX7_dogs Q 45 [vr 7 0, .inl (nI a), .inl (nI n), .inl w, .inl (nI k)] [] (wSt M 1 (dgN τ a σ k)) = _
              rw [eX7_dogs_45]
              simp (disch := omega) only [eX7_dogs_0, eX7_dogs_1, eX7_dogs_4, eX7_dogs_5, eX7_dogs_8, eX7_dogs_11, eX7_dogs_12, eX7_dogs_13, eX7_dogs_16, eX7_dogs_17, eX7_dogs_19, eX7_dogs_22, eX7_dogs_23, eX7_dogs_26, eX7_dogs_29, eX7_dogs_30, eX7_dogs_31, eX7_dogs_32, eX7_dogs_35, eX7_dogs_36, eX7_dogs_39, eX7_dogs_42, eX7_dogs_43, eX7_dogs_47, eX7_dogs_48, eX7_dogs_51, eX7_dogs_52, eX7_dogs_53, eX7_dogs_55, eX7_dogs_58, eX7_dogs_61, eX7_dogs_62, eX7_dogs_65, eX7_dogs_66, eX7_dogs_69, eX7_dogs_70, eX7_dogs_73, eX7_dogs_76, eX7_dogs_79, eX7_dogs_80, eX7_dogs_83, eX7_dogs_84, eX7_dogs_87, eX7_dogs_88, eX7_dogs_91, eX7_dogs_94, eX7_dogs_97, eX7_dogs_98, eX7_dogs_101, eX7_dogs_102, eX7_dogs_105, eX7_dogs_108, cnt_0, cnt_1, cnt_2, cnt_3, cnt_4, cnt_5, cnt_6, cnt_7, cnt_8, cnt_9, cnt_10, cnt_11, true_and, Nat.lt_add_one, Nat.reduceLT, nI_leI, if_neg (show ¬ n ≤ k by omega), tX7_draw ha (show k < 48 by omega), psh_i, psh_u, dt, gR_wSt, r1, hh, lit_1, go, nI_add])
            exact up.symm ▸ fin
end U7
