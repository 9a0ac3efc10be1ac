/-! the model's calls, 6: twos from behind -/
def dst (P : Nat → Nat → Bool) (q : Nat × Nat) (s : Nat × Int32) : Nat × Int32 := if P q.1 q.2 = true then (s.1 + 1, nI (10 * q.1 + q.2)) else s
theorem dst_stp (P : Nat → Nat → Bool) (l : List (Nat × Nat)) : ∀ s : Nat × Int32, l.foldl (stp P) s = (s.1 + (l.foldr (dst P) (0, -4)).1, if s.1 = 0 ∧ ¬ (l.foldr (dst P) (0, -4)).1 = 0 then (l.foldr (dst P) (0, -4)).2 else s.2) := by
  induction l with
  | nil =>
    intro s
    show s = (s.1 + 0, if s.1 = 0 ∧ ¬ (0 : Nat) = 0 then (-4 : Int32) else s.2)
    rw [if_neg (by omega)]
    rfl
  | cons q l ih =>
    intro s
    rw [List.foldl_cons, List.foldr_cons, ih]
    unfold stp dst
    by_cases c : P q.1 q.2 = true
    · rw [if_pos c, if_pos c]
      dsimp only
      rw [if_neg (by omega)]
      refine Prod.ext (by show s.1 + 1 + _ = s.1 + (_ + 1); omega) ?_
      show (if s.1 = 0 then nI (10 * q.1 + q.2) else s.2) = if s.1 = 0 ∧ ¬ (_ + 1) = 0 then nI (10 * q.1 + q.2) else s.2
      by_cases w : s.1 = 0
      · rw [if_pos w, if_pos ⟨w, by omega⟩]
      · rw [if_neg w, if_neg (fun v => w v.1)]
    · rw [if_neg c, if_neg c]
theorem dst_4 (P : Nat → Nat → Bool) (l : List (Nat × Nat)) : (l.foldr (dst P) (0, -4)).1 = 0 → (l.foldr (dst P) (0, -4)).2 = -4 := by
  induction l with
  | nil => intro _; rfl
  | cons q l ih =>
    rw [List.foldr_cons]
    unfold dst
    split
    · intro h; exact absurd h (by show ¬ _ + 1 = 0; omega)
    · exact ih
theorem twR_d (P : Nat → Nat → Bool) (n : Nat) (w : Int32) : twR P n w = if w = 0 then nI ((plL n n).foldr (dst P) (0, -4)).1 else ((plL n n).foldr (dst P) (0, -4)).2 := by
  unfold twR
  rw [dst_stp]
  by_cases c : w = 0
  · rw [if_pos c, if_pos c, Nat.zero_add]
  · rw [if_neg c, if_neg c]
    dsimp only
    by_cases q : ((plL n n).foldr (dst P) (0, -4)).1 = 0
    · rw [if_neg (fun w => w.2 q), dst_4 P _ q]
    · rw [if_pos ⟨rfl, q⟩]
theorem F_s (P : Nat → Nat → Bool) (n i j : Nat) (s : Nat × Int32) (h1 : 1 ≤ j) (h2 : j < n) : (rwL i n (n - 1 - (j - 1))).foldr (dst P) s = dst P (i, j) ((rwL i n (n - 1 - j)).foldr (dst P) s) := by
  rw [show n - 1 - (j - 1) = (n - 1 - j) + 1 by omega, rwL, List.foldr_cons, show n - (n - 1 - j + 1) = j by omega]
theorem G_s (P : Nat → Nat → Bool) (n K : Nat) (hK : K < n) : (plL n (K + 1)).foldr (dst P) (0, -4) = (rwL (n - (K + 1)) n (n - 1 - (n - (K + 1)))).foldr (dst P) ((plL n K).foldr (dst P) (0, -4)) := by
  rw [plL, List.foldr_append, show n - 1 - (n - (K + 1)) = K by omega]
theorem ix_u1 (t : Nat) : nI t - nI 1 = ix t := ix_u t
section M6
variable {d G : Nat} {M : bM} {lt : Nat → Nat} {len n : Nat} {τ : Nat → Nat → Nat} {σ : sT} {pa : Nat → sT} {ph : Nat} {ka : Nat → sT} {kh : Nat} {ci cs : Nat → Nat} {cn : Nat} {Q : bV → bM → Prop}
theorem vX8_alike {x : Int32} (C : MA M lt len τ σ pa ph ka kh ci cs cn) (V : VA G τ σ pa ph ka kh ci cs cn)
    (hQ : (eiB x = false → Q (.inl (-1)) M) ∧ (eiB x = true → Q (.inl (twR (lkB τ σ) (τ 7 0) x)) M)) : Run 1 (d + 4) 128 [vr 8 0, .inl x] M Q := by
  obtain ⟨P, T, S, P0, P1, L⟩ := id C
  obtain ⟨K, n1, hs, hg, -⟩ := V
  have hn := K.1
  have e1 : ∀ x, inB x 0 1 = eiB x := fun x => ei_in
  rw [rX8_alike]
  simp only [eX8_alike_0, eX8_alike_1, eX8_alike_2, eX8_alike_3, eX8_alike_6, eX8_alike_9, eX8_alike_10, eX8_alike_11, eX8_alike_12, eX8_alike_13, eX8_alike_15, eX8_alike_16, eX8_alike_17, eX8_alike_20, eX8_alike_21, eX8_alike_22, eX8_alike_23, eX8_alike_24, eX8_alike_28, eX8_alike_31, eX8_alike_32, eX8_alike_35, eX8_alike_36, eX8_alike_37, eX8_alike_38, eX8_alike_39, eX8_alike_43, eX8_alike_45, eX8_alike_48, eX8_alike_49, eX8_alike_51, eX8_alike_54, eX8_alike_57, eX8_alike_58, eX8_alike_60, eX8_alike_63, eX8_alike_66, eX8_alike_67, eX8_alike_69, eX8_alike_72, eX8_alike_73, eX8_alike_75, eX8_alike_78, eX8_alike_81, eX8_alike_82, eX8_alike_84, eX8_alike_87, eX8_alike_90, eX8_alike_91, eX8_alike_94, eX8_alike_95, eX8_alike_97, eX8_alike_98, eX8_alike_100, eX8_alike_103, eX8_alike_104, eX8_alike_107, eX8_alike_108, eX8_alike_109, eX8_alike_110, eX8_alike_112, eX8_alike_115, eX8_alike_117, eX8_alike_119, eX8_alike_120, eX8_alike_122, eX8_alike_123, eX8_alike_126, eX8_alike_127, eX8_alike_128, eX8_alike_131, eX8_alike_134, eX8_alike_137, eX8_alike_140, eX8_alike_141, eX8_alike_144, eX8_alike_145, eX8_alike_148, eX8_alike_149, c8_, c11_0, c11_1, c11_2, c11_3, c11_4, c11_5, c11_6, c11_7, c11_8, c11_9, alm_0, alm_1, alm_2, alm_3, alm_4, alm_5, alm_6, alm_7, alm_8, alm_9, vT, true_and, tX8_in, e1, psh_i, bi_0]
  by_cases e : eiB x = false
  · rw [if_pos e]; exact hQ.1 e
  · rw [if_neg e]
    have hQ := hQ.2 (by simpa using e)
    rw [twR_d] at hQ
    have fin : ∀ a5 a6, ExG 1 (Run 1 (d + 3)) 8 1 false none cX8_alike Q 26 [vr 8 0, .inl x, .inl (nI ((plL (τ 7 0) (τ 7 0)).foldr (dst (lkB τ σ)) (0, -4)).1), .inl ((plL (τ 7 0) (τ 7 0)).foldr (dst (lkB τ σ)) (0, -4)).2, .inl (-1), a5, a6] [] M := by
      intro a5 a6
      rw [eX8_alike_26]
      simp only [eX8_alike_0, eX8_alike_1, eX8_alike_2, eX8_alike_3, eX8_alike_6, eX8_alike_9, eX8_alike_10, eX8_alike_11, eX8_alike_12, eX8_alike_13, eX8_alike_15, eX8_alike_16, eX8_alike_17, eX8_alike_20, eX8_alike_21, eX8_alike_22, eX8_alike_23, eX8_alike_24, eX8_alike_28, eX8_alike_31, eX8_alike_32, eX8_alike_35, eX8_alike_36, eX8_alike_37, eX8_alike_38, eX8_alike_39, eX8_alike_43, eX8_alike_45, eX8_alike_48, eX8_alike_49, eX8_alike_51, eX8_alike_54, eX8_alike_57, eX8_alike_58, eX8_alike_60, eX8_alike_63, eX8_alike_66, eX8_alike_67, eX8_alike_69, eX8_alike_72, eX8_alike_73, eX8_alike_75, eX8_alike_78, eX8_alike_81, eX8_alike_82, eX8_alike_84, eX8_alike_87, eX8_alike_90, eX8_alike_91, eX8_alike_94, eX8_alike_95, eX8_alike_97, eX8_alike_98, eX8_alike_100, eX8_alike_103, eX8_alike_104, eX8_alike_107, eX8_alike_108, eX8_alike_109, eX8_alike_110, eX8_alike_112, eX8_alike_115, eX8_alike_117, eX8_alike_119, eX8_alike_120, eX8_alike_122, eX8_alike_123, eX8_alike_126, eX8_alike_127, eX8_alike_128, eX8_alike_131, eX8_alike_134, eX8_alike_137, eX8_alike_140, eX8_alike_141, eX8_alike_144, eX8_alike_145, eX8_alike_148, eX8_alike_149, show ((-1 : Int32) < 0) = True from eq_true (by decide), if_true]
      by_cases w : x = 0
      · rw [if_pos w] at hQ ⊢; exact hQ
      · rw [if_neg w] at hQ ⊢; exact hQ
    have inn : ∀ i (s0 : Nat × Int32), i < τ 7 0 → (∀ a6, ExG 1 (Run 1 (d + 3)) 8 1 false none cX8_alike Q 134 [vr 8 0, .inl x, .inl (nI ((rwL i (τ 7 0) (τ 7 0 - 1 - i)).foldr (dst (lkB τ σ)) s0).1), .inl ((rwL i (τ 7 0) (τ 7 0 - 1 - i)).foldr (dst (lkB τ σ)) s0).2, .inl (nI i), .inl (nI i), a6] [] M) → ∀ r j a6, j = i + r → j < τ 7 0 → ExG 1 (Run 1 (d + 3)) 8 1 false none cX8_alike Q 41 [vr 8 0, .inl x, .inl (nI ((rwL i (τ 7 0) (τ 7 0 - 1 - j)).foldr (dst (lkB τ σ)) s0).1), .inl ((rwL i (τ 7 0) (τ 7 0 - 1 - j)).foldr (dst (lkB τ σ)) s0).2, .inl (nI i), .inl (nI j), a6] [] M := by
      intro i s0 hi hf r
      induction r with
      | zero =>
        intro j a6 ej hj
        have ej' : j = i := ej
        subst ej'
        rw [eX8_alike_41]
        simp (disch := omega) only [eX8_alike_0, eX8_alike_1, eX8_alike_2, eX8_alike_3, eX8_alike_6, eX8_alike_9, eX8_alike_10, eX8_alike_11, eX8_alike_12, eX8_alike_13, eX8_alike_15, eX8_alike_16, eX8_alike_17, eX8_alike_20, eX8_alike_21, eX8_alike_22, eX8_alike_23, eX8_alike_24, eX8_alike_28, eX8_alike_31, eX8_alike_32, eX8_alike_35, eX8_alike_36, eX8_alike_37, eX8_alike_38, eX8_alike_39, eX8_alike_43, eX8_alike_45, eX8_alike_48, eX8_alike_49, eX8_alike_51, eX8_alike_54, eX8_alike_57, eX8_alike_58, eX8_alike_60, eX8_alike_63, eX8_alike_66, eX8_alike_67, eX8_alike_69, eX8_alike_72, eX8_alike_73, eX8_alike_75, eX8_alike_78, eX8_alike_81, eX8_alike_82, eX8_alike_84, eX8_alike_87, eX8_alike_90, eX8_alike_91, eX8_alike_94, eX8_alike_95, eX8_alike_97, eX8_alike_98, eX8_alike_100, eX8_alike_103, eX8_alike_104, eX8_alike_107, eX8_alike_108, eX8_alike_109, eX8_alike_110, eX8_alike_112, eX8_alike_115, eX8_alike_117, eX8_alike_119, eX8_alike_120, eX8_alike_122, eX8_alike_123, eX8_alike_126, eX8_alike_127, eX8_alike_128, eX8_alike_131, eX8_alike_137, eX8_alike_140, eX8_alike_141, eX8_alike_144, eX8_alike_145, eX8_alike_148, eX8_alike_149, nI_leI, Nat.le_refl, if_true]
        exact hf a6
      | succ r ih =>
        intro j a6 ej hj
        have si := sn_le hs (show i < 9 by omega)
        have sj := sn_le hs (show j < 9 by omega)
        have nx := ih (j - 1)
        rw [F_s _ _ _ _ _ (by omega) hj] at nx
        generalize (rwL i (τ 7 0) (τ 7 0 - 1 - j)).foldr (dst (lkB τ σ)) s0 = s at nx ⊢
        have em : nI j + (-1) = nI (j - 1) := by
          have := pk_m1 (j - 1)
          rwa [show j - 1 + 1 = j by omega] at this
        rw [eX8_alike_41]
        simp (disch := omega) only [eX8_alike_0, eX8_alike_1, eX8_alike_2, eX8_alike_3, eX8_alike_6, eX8_alike_9, eX8_alike_10, eX8_alike_11, eX8_alike_12, eX8_alike_13, eX8_alike_15, eX8_alike_16, eX8_alike_17, eX8_alike_20, eX8_alike_21, eX8_alike_22, eX8_alike_23, eX8_alike_24, eX8_alike_28, eX8_alike_31, eX8_alike_32, eX8_alike_35, eX8_alike_36, eX8_alike_37, eX8_alike_38, eX8_alike_39, eX8_alike_43, eX8_alike_45, eX8_alike_48, eX8_alike_49, eX8_alike_51, eX8_alike_54, eX8_alike_57, eX8_alike_58, eX8_alike_60, eX8_alike_63, eX8_alike_66, eX8_alike_67, eX8_alike_69, eX8_alike_72, eX8_alike_73, eX8_alike_75, eX8_alike_78, eX8_alike_81, eX8_alike_82, eX8_alike_84, eX8_alike_87, eX8_alike_90, eX8_alike_91, eX8_alike_94, eX8_alike_95, eX8_alike_97, eX8_alike_98, eX8_alike_100, eX8_alike_103, eX8_alike_104, eX8_alike_107, eX8_alike_108, eX8_alike_109, eX8_alike_110, eX8_alike_112, eX8_alike_115, eX8_alike_117, eX8_alike_119, eX8_alike_120, eX8_alike_122, eX8_alike_123, eX8_alike_126, eX8_alike_127, eX8_alike_128, eX8_alike_131, eX8_alike_134, eX8_alike_137, eX8_alike_140, eX8_alike_141, eX8_alike_144, eX8_alike_145, eX8_alike_148, eX8_alike_149, c8_, c11_0, c11_1, c11_2, c11_3, c11_4, c11_5, c11_6, c11_7, c11_8, c11_9, alm_0, alm_1, alm_2, alm_3, alm_4, alm_5, alm_6, alm_7, alm_8, alm_9, vT, true_and, nI_leI, if_neg (show ¬ j ≤ i by omega), tX8_isPerson T K n1, hpB_nI K, psh_i, bi_0, tX8_seen S hn hs hi, tX8_seen S hn hs hj, nI_eq, em]
        unfold dst lkB at nx
        have t1 : ((1 : Int32) = 0) = False := eq_false (by decide)
        cases p1 : per τ i
        · rw [p1] at nx
          rw [if_pos rfl]
          simp only [Bool.false_and, Bool.false_eq_true, if_false] at nx
          simp only [if_true, Int32.add_zero]
          exact nx _ (by omega) (by omega)
        · rw [p1] at nx
          rw [if_neg (by decide)]
          cases p2 : per τ j
          · rw [p2] at nx
            rw [if_pos rfl]
            simp only [Bool.true_and, Bool.false_and, Bool.false_eq_true, if_false] at nx
            simp only [if_true, Int32.add_zero]
            exact nx _ (by omega) (by omega)
          · rw [p2] at nx
            rw [if_neg (by decide)]
            by_cases c3 : sn σ i = sn σ j
            · rw [if_pos c3]
              by_cases c4 : sn σ i = 0
              · simp only [c4, not_true, decide_false, Bool.true_and, Bool.false_and, Bool.false_eq_true, if_false] at nx
                rw [if_pos (by rw [lit_0, nI_leI (by omega) (by decide)]; omega)]
                simp only [if_true, Int32.add_zero]
                exact nx _ (by omega) (by omega)
              · rw [decide_eq_true c3, decide_eq_true c4] at nx
                simp only [Bool.true_and, if_true] at nx
                rw [if_neg (by rw [lit_0, nI_leI (by omega) (by decide)]; omega)]
                simp only [t1, if_false, lit_10, pk_mul, nI_add, nI_1]
                exact nx _ (by omega) (by omega)
            · rw [if_neg c3]
              rw [decide_eq_false c3] at nx
              simp only [Bool.true_and, Bool.and_false, Bool.false_eq_true, if_false] at nx
              simp only [if_true, Int32.add_zero]
              exact nx _ (by omega) (by omega)
    have out : ∀ r K a5 a6, K + r = τ 7 0 → ExG 1 (Run 1 (d + 3)) 8 1 false none cX8_alike Q 26 [vr 8 0, .inl x, .inl (nI ((plL (τ 7 0) K).foldr (dst (lkB τ σ)) (0, -4)).1), .inl ((plL (τ 7 0) K).foldr (dst (lkB τ σ)) (0, -4)).2, .inl (ix r), a5, a6] [] M := by
      intro r
      induction r with
      | zero =>
        intro K a5 a6 eK
        have eK' : K = τ 7 0 := eK
        subst eK'
        exact fin a5 a6
      | succ r ih =>
        intro K a5 a6 eK
        have nx := ih (K + 1)
        rw [G_s _ _ _ (by omega), show τ 7 0 - (K + 1) = r by omega] at nx
        rw [eX8_alike_26]
        simp (disch := omega) only [eX8_alike_0, eX8_alike_1, eX8_alike_2, eX8_alike_3, eX8_alike_6, eX8_alike_9, eX8_alike_10, eX8_alike_11, eX8_alike_12, eX8_alike_13, eX8_alike_15, eX8_alike_16, eX8_alike_17, eX8_alike_20, eX8_alike_21, eX8_alike_22, eX8_alike_23, eX8_alike_24, eX8_alike_28, eX8_alike_31, eX8_alike_32, eX8_alike_35, eX8_alike_36, eX8_alike_37, eX8_alike_38, eX8_alike_39, eX8_alike_43, eX8_alike_45, eX8_alike_48, eX8_alike_49, eX8_alike_51, eX8_alike_54, eX8_alike_57, eX8_alike_58, eX8_alike_60, eX8_alike_63, eX8_alike_66, eX8_alike_67, eX8_alike_69, eX8_alike_72, eX8_alike_73, eX8_alike_75, eX8_alike_78, eX8_alike_81, eX8_alike_82, eX8_alike_84, eX8_alike_87, eX8_alike_90, eX8_alike_91, eX8_alike_94, eX8_alike_95, eX8_alike_97, eX8_alike_98, eX8_alike_100, eX8_alike_103, eX8_alike_104, eX8_alike_107, eX8_alike_108, eX8_alike_109, eX8_alike_110, eX8_alike_112, eX8_alike_115, eX8_alike_117, eX8_alike_119, eX8_alike_120, eX8_alike_122, eX8_alike_123, eX8_alike_126, eX8_alike_127, eX8_alike_128, eX8_alike_131, eX8_alike_134, eX8_alike_137, eX8_alike_140, eX8_alike_141, eX8_alike_144, eX8_alike_145, eX8_alike_148, eX8_alike_149, c8_, c11_0, c11_1, c11_2, c11_3, c11_4, c11_5, c11_6, c11_7, c11_8, c11_9, alm_0, alm_1, alm_2, alm_3, alm_4, alm_5, alm_6, alm_7, alm_8, alm_9, vT, true_and, ix_s, if_neg (show ¬ nI r < nI 0 from nI_pos (show r < 2 ^ 31 by omega)), lit_0, nI_clamp, T.1, lit_1, pk_sub]
        refine inn r ((plL (τ 7 0) K).foldr (dst (lkB τ σ)) (0, -4)) (by omega) (fun a6 => ?_) (τ 7 0 - 1 - r) (τ 7 0 - 1) a6 (by omega) (by omega) |> (fun h => by rwa [Nat.sub_self] at h)
        simp only [eX8_alike_0, eX8_alike_1, eX8_alike_2, eX8_alike_3, eX8_alike_6, eX8_alike_9, eX8_alike_10, eX8_alike_11, eX8_alike_12, eX8_alike_13, eX8_alike_15, eX8_alike_16, eX8_alike_17, eX8_alike_20, eX8_alike_21, eX8_alike_22, eX8_alike_23, eX8_alike_24, eX8_alike_28, eX8_alike_31, eX8_alike_32, eX8_alike_35, eX8_alike_36, eX8_alike_37, eX8_alike_38, eX8_alike_39, eX8_alike_43, eX8_alike_45, eX8_alike_48, eX8_alike_49, eX8_alike_51, eX8_alike_54, eX8_alike_57, eX8_alike_58, eX8_alike_60, eX8_alike_63, eX8_alike_66, eX8_alike_67, eX8_alike_69, eX8_alike_72, eX8_alike_73, eX8_alike_75, eX8_alike_78, eX8_alike_81, eX8_alike_82, eX8_alike_84, eX8_alike_87, eX8_alike_90, eX8_alike_91, eX8_alike_94, eX8_alike_95, eX8_alike_97, eX8_alike_98, eX8_alike_100, eX8_alike_103, eX8_alike_104, eX8_alike_107, eX8_alike_108, eX8_alike_109, eX8_alike_110, eX8_alike_112, eX8_alike_115, eX8_alike_117, eX8_alike_119, eX8_alike_120, eX8_alike_122, eX8_alike_123, eX8_alike_126, eX8_alike_127, eX8_alike_128, eX8_alike_131, eX8_alike_134, eX8_alike_137, eX8_alike_140, eX8_alike_141, eX8_alike_144, eX8_alike_145, eX8_alike_148, eX8_alike_149, ix_m]
        exact nx _ a6 (by omega)
    have := out (τ 7 0) 0 vu vu (by omega)
    simp (disch := omega) only [lit_0, lit_1, vT, nI_clamp, true_and, T.1, ix_u1]
    exact this
theorem vX8_touched {x : Int32} (C : MA M lt len τ σ pa ph ka kh ci cs cn) (V : VA G τ σ pa ph ka kh ci cs cn)
    (hQ : (eiB x = false → Q (.inl (-1)) M) ∧ (eiB x = true → ∀ M', MA M' lt len τ σ pa ph ka kh ci cs cn → Eqx mdS M M' → Q (.inl (twR (tdB τ σ ci cs cn) (τ 7 0) x)) M')) : Run 1 (d + 4) 132 [vr 8 0, .inl x] M Q := by
  obtain ⟨P, T, S, P0, P1, L⟩ := id C
  obtain ⟨K, n1, hs, hg, -, -, vc⟩ := V
  have hn := K.1
  have e1 : ∀ x, inB x 0 1 = eiB x := fun x => ei_in
  rw [rX8_touched]
  simp only [eX8_touched_0, eX8_touched_1, eX8_touched_2, eX8_touched_3, eX8_touched_6, eX8_touched_9, eX8_touched_10, eX8_touched_11, eX8_touched_12, eX8_touched_15, eX8_touched_16, eX8_touched_17, eX8_touched_19, eX8_touched_20, eX8_touched_21, eX8_touched_24, eX8_touched_25, eX8_touched_26, eX8_touched_27, eX8_touched_28, eX8_touched_32, eX8_touched_35, eX8_touched_36, eX8_touched_39, eX8_touched_40, eX8_touched_41, eX8_touched_42, eX8_touched_43, eX8_touched_47, eX8_touched_49, eX8_touched_52, eX8_touched_53, eX8_touched_55, eX8_touched_57, eX8_touched_60, eX8_touched_61, eX8_touched_62, eX8_touched_65, eX8_touched_67, eX8_touched_68, eX8_touched_71, eX8_touched_72, eX8_touched_74, eX8_touched_77, eX8_touched_78, eX8_touched_81, eX8_touched_82, eX8_touched_83, eX8_touched_84, eX8_touched_86, eX8_touched_89, eX8_touched_91, eX8_touched_93, eX8_touched_94, eX8_touched_96, eX8_touched_97, eX8_touched_100, eX8_touched_101, eX8_touched_102, eX8_touched_105, eX8_touched_108, eX8_touched_111, eX8_touched_114, eX8_touched_115, eX8_touched_118, eX8_touched_119, eX8_touched_122, eX8_touched_123, c8_, c11_0, c11_1, c11_2, c11_3, c11_4, c11_5, c11_6, c11_7, c11_8, c11_9, alm_0, alm_1, alm_2, alm_3, alm_4, alm_5, alm_6, alm_7, alm_8, alm_9, vT, true_and, tX8_in, e1, psh_i, bi_0]
  by_cases e : eiB x = false
  · rw [if_pos e]; exact hQ.1 e
  · rw [if_neg e]
    have hQ := hQ.2 (by simpa using e)
    rw [twR_d] at hQ
    have fin : ∀ a5 a6 N, TR M N → (∀ j, j < 11 → gI N 11 3 j = gI M 11 3 j) → ExG 1 (Run 1 (d + 3)) 8 1 false none cX8_touched Q 30 [vr 8 0, .inl x, .inl (nI ((plL (τ 7 0) (τ 7 0)).foldr (dst (tdB τ σ ci cs cn)) (0, -4)).1), .inl ((plL (τ 7 0) (τ 7 0)).foldr (dst (tdB τ σ ci cs cn)) (0, -4)).2, .inl (-1), a5, a6] [] N := by
      intro a5 a6 N R h
      have hQ := hQ N (TR_A C hn R h) (Mx_E R.1)
      rw [eX8_touched_30]
      simp only [eX8_touched_0, eX8_touched_1, eX8_touched_2, eX8_touched_3, eX8_touched_6, eX8_touched_9, eX8_touched_10, eX8_touched_11, eX8_touched_12, eX8_touched_15, eX8_touched_16, eX8_touched_17, eX8_touched_19, eX8_touched_20, eX8_touched_21, eX8_touched_24, eX8_touched_25, eX8_touched_26, eX8_touched_27, eX8_touched_28, eX8_touched_32, eX8_touched_35, eX8_touched_36, eX8_touched_39, eX8_touched_40, eX8_touched_41, eX8_touched_42, eX8_touched_43, eX8_touched_47, eX8_touched_49, eX8_touched_52, eX8_touched_53, eX8_touched_55, eX8_touched_57, eX8_touched_60, eX8_touched_61, eX8_touched_62, eX8_touched_65, eX8_touched_67, eX8_touched_68, eX8_touched_71, eX8_touched_72, eX8_touched_74, eX8_touched_77, eX8_touched_78, eX8_touched_81, eX8_touched_82, eX8_touched_83, eX8_touched_84, eX8_touched_86, eX8_touched_89, eX8_touched_91, eX8_touched_93, eX8_touched_94, eX8_touched_96, eX8_touched_97, eX8_touched_100, eX8_touched_101, eX8_touched_102, eX8_touched_105, eX8_touched_108, eX8_touched_111, eX8_touched_114, eX8_touched_115, eX8_touched_118, eX8_touched_119, eX8_touched_122, eX8_touched_123, show ((-1 : Int32) < 0) = True from eq_true (by decide), if_true]
      by_cases w : x = 0
      · rw [if_pos w] at hQ ⊢; exact hQ
      · rw [if_neg w] at hQ ⊢; exact hQ
    have inn : ∀ i (s0 : Nat × Int32), i < τ 7 0 → (∀ a6 N, TR M N → (∀ j, j < 11 → gI N 11 3 j = gI M 11 3 j) → ExG 1 (Run 1 (d + 3)) 8 1 false none cX8_touched Q 108 [vr 8 0, .inl x, .inl (nI ((rwL i (τ 7 0) (τ 7 0 - 1 - i)).foldr (dst (tdB τ σ ci cs cn)) s0).1), .inl ((rwL i (τ 7 0) (τ 7 0 - 1 - i)).foldr (dst (tdB τ σ ci cs cn)) s0).2, .inl (nI i), .inl (nI i), a6] [] N) → ∀ r j a6 N, j = i + r → j < τ 7 0 → TR M N → (∀ j, j < 11 → gI N 11 3 j = gI M 11 3 j) → ExG 1 (Run 1 (d + 3)) 8 1 false none cX8_touched Q 45 [vr 8 0, .inl x, .inl (nI ((rwL i (τ 7 0) (τ 7 0 - 1 - j)).foldr (dst (tdB τ σ ci cs cn)) s0).1), .inl ((rwL i (τ 7 0) (τ 7 0 - 1 - j)).foldr (dst (tdB τ σ ci cs cn)) s0).2, .inl (nI i), .inl (nI j), a6] [] N := by
      intro i s0 hi hf r
      induction r with
      | zero =>
        intro j a6 N ej hj R h
        have ej' : j = i := ej
        subst ej'
        rw [eX8_touched_45]
        simp (disch := omega) only [eX8_touched_0, eX8_touched_1, eX8_touched_2, eX8_touched_3, eX8_touched_6, eX8_touched_9, eX8_touched_10, eX8_touched_11, eX8_touched_12, eX8_touched_15, eX8_touched_16, eX8_touched_17, eX8_touched_19, eX8_touched_20, eX8_touched_21, eX8_touched_24, eX8_touched_25, eX8_touched_26, eX8_touched_27, eX8_touched_28, eX8_touched_32, eX8_touched_35, eX8_touched_36, eX8_touched_39, eX8_touched_40, eX8_touched_41, eX8_touched_42, eX8_touched_43, eX8_touched_47, eX8_touched_49, eX8_touched_52, eX8_touched_53, eX8_touched_55, eX8_touched_57, eX8_touched_60, eX8_touched_61, eX8_touched_62, eX8_touched_65, eX8_touched_67, eX8_touched_68, eX8_touched_71, eX8_touched_72, eX8_touched_74, eX8_touched_77, eX8_touched_78, eX8_touched_81, eX8_touched_82, eX8_touched_83, eX8_touched_84, eX8_touched_86, eX8_touched_89, eX8_touched_91, eX8_touched_93, eX8_touched_94, eX8_touched_96, eX8_touched_97, eX8_touched_100, eX8_touched_101, eX8_touched_102, eX8_touched_105, eX8_touched_111, eX8_touched_114, eX8_touched_115, eX8_touched_118, eX8_touched_119, eX8_touched_122, eX8_touched_123, nI_leI, Nat.le_refl, if_true]
        exact hf a6 N R h
      | succ r ih =>
        intro j a6 N ej hj R h
        have nx := ih (j - 1)
        rw [F_s _ _ _ _ _ (by omega) hj] at nx
        generalize (rwL i (τ 7 0) (τ 7 0 - 1 - j)).foldr (dst (tdB τ σ ci cs cn)) s0 = s at nx ⊢
        have em : nI j + (-1) = nI (j - 1) := by
          have := pk_m1 (j - 1)
          rwa [show j - 1 + 1 = j by omega] at this
        have TN := TR_T R T
        have SN : MS N (τ 7 0) σ := MS_h hn h S
        have hs2 : OKs (tcS τ i j σ) := OKs_tc (by omega) (by omega) hs
        have R2 : TR M (wMs N (τ 7 0) (tcS τ i j σ)) := TR_w R
        rw [eX8_touched_45]
        simp (disch := omega) only [eX8_touched_0, eX8_touched_1, eX8_touched_2, eX8_touched_3, eX8_touched_6, eX8_touched_9, eX8_touched_10, eX8_touched_11, eX8_touched_12, eX8_touched_15, eX8_touched_16, eX8_touched_17, eX8_touched_19, eX8_touched_20, eX8_touched_21, eX8_touched_24, eX8_touched_25, eX8_touched_26, eX8_touched_27, eX8_touched_28, eX8_touched_32, eX8_touched_35, eX8_touched_36, eX8_touched_39, eX8_touched_40, eX8_touched_41, eX8_touched_42, eX8_touched_43, eX8_touched_47, eX8_touched_49, eX8_touched_52, eX8_touched_53, eX8_touched_55, eX8_touched_57, eX8_touched_60, eX8_touched_61, eX8_touched_62, eX8_touched_65, eX8_touched_67, eX8_touched_68, eX8_touched_71, eX8_touched_72, eX8_touched_74, eX8_touched_77, eX8_touched_78, eX8_touched_81, eX8_touched_82, eX8_touched_83, eX8_touched_84, eX8_touched_86, eX8_touched_89, eX8_touched_91, eX8_touched_93, eX8_touched_94, eX8_touched_96, eX8_touched_97, eX8_touched_100, eX8_touched_101, eX8_touched_102, eX8_touched_105, eX8_touched_108, eX8_touched_111, eX8_touched_114, eX8_touched_115, eX8_touched_118, eX8_touched_119, eX8_touched_122, eX8_touched_123, c8_, c11_0, c11_1, c11_2, c11_3, c11_4, c11_5, c11_6, c11_7, c11_8, c11_9, alm_0, alm_1, alm_2, alm_3, alm_4, alm_5, alm_6, alm_7, alm_8, alm_9, vT, true_and, nI_leI, if_neg (show ¬ j ≤ i by omega), tX8_touches TN K hs hi hj (show i ≠ j by omega) SN, psh_i, tX8_isSo hn (TR_L R2 L) (fun j hj => vc j hj) hs2 (MS_w (σ := tcS τ i j σ) hn)]
        refine tX8_lets R2 (fun N' R' h' => ?_)
        simp only [psh_u, eX8_touched_0, eX8_touched_1, eX8_touched_2, eX8_touched_3, eX8_touched_6, eX8_touched_9, eX8_touched_10, eX8_touched_11, eX8_touched_12, eX8_touched_15, eX8_touched_16, eX8_touched_17, eX8_touched_19, eX8_touched_20, eX8_touched_21, eX8_touched_24, eX8_touched_25, eX8_touched_26, eX8_touched_27, eX8_touched_28, eX8_touched_32, eX8_touched_35, eX8_touched_36, eX8_touched_39, eX8_touched_40, eX8_touched_41, eX8_touched_42, eX8_touched_43, eX8_touched_47, eX8_touched_49, eX8_touched_52, eX8_touched_53, eX8_touched_55, eX8_touched_57, eX8_touched_60, eX8_touched_61, eX8_touched_62, eX8_touched_65, eX8_touched_67, eX8_touched_68, eX8_touched_71, eX8_touched_72, eX8_touched_74, eX8_touched_77, eX8_touched_78, eX8_touched_81, eX8_touched_82, eX8_touched_83, eX8_touched_84, eX8_touched_86, eX8_touched_89, eX8_touched_91, eX8_touched_93, eX8_touched_94, eX8_touched_96, eX8_touched_97, eX8_touched_100, eX8_touched_101, eX8_touched_102, eX8_touched_105, eX8_touched_108, eX8_touched_111, eX8_touched_114, eX8_touched_115, eX8_touched_118, eX8_touched_119, eX8_touched_122, eX8_touched_123, bi_0, em]
        have nx := fun a6 => nx a6 N' (by omega) (by omega) R' h'
        unfold dst tdB at nx
        cases c : hld ci cs (tcS τ i j σ).1 cn
        · simp only [c, Bool.false_eq_true, if_false] at nx
          simp only [if_true, Int32.add_zero]
          exact nx _
        · simp only [c, if_true] at nx
          simp only [show (true = false) = False from eq_false (by decide), if_false, lit_10, pk_mul, nI_add, nI_1]
          exact nx _
    have out : ∀ r K a5 a6 N, K + r = τ 7 0 → TR M N → (∀ j, j < 11 → gI N 11 3 j = gI M 11 3 j) → ExG 1 (Run 1 (d + 3)) 8 1 false none cX8_touched Q 30 [vr 8 0, .inl x, .inl (nI ((plL (τ 7 0) K).foldr (dst (tdB τ σ ci cs cn)) (0, -4)).1), .inl ((plL (τ 7 0) K).foldr (dst (tdB τ σ ci cs cn)) (0, -4)).2, .inl (ix r), a5, a6] [] N := by
      intro r
      induction r with
      | zero =>
        intro K a5 a6 N eK R h
        have eK' : K = τ 7 0 := eK
        subst eK'
        exact fin a5 a6 N R h
      | succ r ih =>
        intro K a5 a6 N eK R h
        have nx := ih (K + 1)
        have TN := TR_T R T
        rw [G_s _ _ _ (by omega), show τ 7 0 - (K + 1) = r by omega] at nx
        rw [eX8_touched_30]
        simp (disch := omega) only [eX8_touched_0, eX8_touched_1, eX8_touched_2, eX8_touched_3, eX8_touched_6, eX8_touched_9, eX8_touched_10, eX8_touched_11, eX8_touched_12, eX8_touched_15, eX8_touched_16, eX8_touched_17, eX8_touched_19, eX8_touched_20, eX8_touched_21, eX8_touched_24, eX8_touched_25, eX8_touched_26, eX8_touched_27, eX8_touched_28, eX8_touched_32, eX8_touched_35, eX8_touched_36, eX8_touched_39, eX8_touched_40, eX8_touched_41, eX8_touched_42, eX8_touched_43, eX8_touched_47, eX8_touched_49, eX8_touched_52, eX8_touched_53, eX8_touched_55, eX8_touched_57, eX8_touched_60, eX8_touched_61, eX8_touched_62, eX8_touched_65, eX8_touched_67, eX8_touched_68, eX8_touched_71, eX8_touched_72, eX8_touched_74, eX8_touched_77, eX8_touched_78, eX8_touched_81, eX8_touched_82, eX8_touched_83, eX8_touched_84, eX8_touched_86, eX8_touched_89, eX8_touched_91, eX8_touched_93, eX8_touched_94, eX8_touched_96, eX8_touched_97, eX8_touched_100, eX8_touched_101, eX8_touched_102, eX8_touched_105, eX8_touched_108, eX8_touched_111, eX8_touched_114, eX8_touched_115, eX8_touched_118, eX8_touched_119, eX8_touched_122, eX8_touched_123, c8_, c11_0, c11_1, c11_2, c11_3, c11_4, c11_5, c11_6, c11_7, c11_8, c11_9, alm_0, alm_1, alm_2, alm_3, alm_4, alm_5, alm_6, alm_7, alm_8, alm_9, vT, true_and, ix_s, if_neg (show ¬ nI r < nI 0 from nI_pos (show r < 2 ^ 31 by omega)), lit_0, nI_clamp, TN.1, lit_1, pk_sub]
        refine inn r ((plL (τ 7 0) K).foldr (dst (tdB τ σ ci cs cn)) (0, -4)) (by omega) (fun a6 N' R' h' => ?_) (τ 7 0 - 1 - r) (τ 7 0 - 1) a6 N (by omega) (by omega) R h |> (fun h => by rwa [Nat.sub_self] at h)
        simp only [eX8_touched_0, eX8_touched_1, eX8_touched_2, eX8_touched_3, eX8_touched_6, eX8_touched_9, eX8_touched_10, eX8_touched_11, eX8_touched_12, eX8_touched_15, eX8_touched_16, eX8_touched_17, eX8_touched_19, eX8_touched_20, eX8_touched_21, eX8_touched_24, eX8_touched_25, eX8_touched_26, eX8_touched_27, eX8_touched_28, eX8_touched_32, eX8_touched_35, eX8_touched_36, eX8_touched_39, eX8_touched_40, eX8_touched_41, eX8_touched_42, eX8_touched_43, eX8_touched_47, eX8_touched_49, eX8_touched_52, eX8_touched_53, eX8_touched_55, eX8_touched_57, eX8_touched_60, eX8_touched_61, eX8_touched_62, eX8_touched_65, eX8_touched_67, eX8_touched_68, eX8_touched_71, eX8_touched_72, eX8_touched_74, eX8_touched_77, eX8_touched_78, eX8_touched_81, eX8_touched_82, eX8_touched_83, eX8_touched_84, eX8_touched_86, eX8_touched_89, eX8_touched_91, eX8_touched_93, eX8_touched_94, eX8_touched_96, eX8_touched_97, eX8_touched_100, eX8_touched_101, eX8_touched_102, eX8_touched_105, eX8_touched_108, eX8_touched_111, eX8_touched_114, eX8_touched_115, eX8_touched_118, eX8_touched_119, eX8_touched_122, eX8_touched_123, ix_m]
        exact nx _ a6 N' (by omega) R' h'
    refine tX8_holds (fun N R hN => ?_)
    have := out (τ 7 0) 0 vu vu N (by omega) R (fun j _ => hN j)
    have TN := TR_T R T
    simp (disch := omega) only [psh_u, eX8_touched_0, eX8_touched_1, eX8_touched_2, eX8_touched_3, eX8_touched_6, eX8_touched_9, eX8_touched_10, eX8_touched_11, eX8_touched_12, eX8_touched_15, eX8_touched_16, eX8_touched_17, eX8_touched_19, eX8_touched_20, eX8_touched_21, eX8_touched_24, eX8_touched_25, eX8_touched_26, eX8_touched_27, eX8_touched_28, eX8_touched_32, eX8_touched_35, eX8_touched_36, eX8_touched_39, eX8_touched_40, eX8_touched_41, eX8_touched_42, eX8_touched_43, eX8_touched_47, eX8_touched_49, eX8_touched_52, eX8_touched_53, eX8_touched_55, eX8_touched_57, eX8_touched_60, eX8_touched_61, eX8_touched_62, eX8_touched_65, eX8_touched_67, eX8_touched_68, eX8_touched_71, eX8_touched_72, eX8_touched_74, eX8_touched_77, eX8_touched_78, eX8_touched_81, eX8_touched_82, eX8_touched_83, eX8_touched_84, eX8_touched_86, eX8_touched_89, eX8_touched_91, eX8_touched_93, eX8_touched_94, eX8_touched_96, eX8_touched_97, eX8_touched_100, eX8_touched_101, eX8_touched_102, eX8_touched_105, eX8_touched_108, eX8_touched_111, eX8_touched_114, eX8_touched_115, eX8_touched_118, eX8_touched_119, eX8_touched_122, eX8_touched_123, c8_, c11_0, c11_1, c11_2, c11_3, c11_4, c11_5, c11_6, c11_7, c11_8, c11_9, alm_0, alm_1, alm_2, alm_3, alm_4, alm_5, alm_6, alm_7, alm_8, alm_9, vT, true_and, lit_0, lit_1, nI_clamp, TN.1, ix_u1]
    exact this
end M6
