/-! the class's calls, 3 -/
def pBehind (τ : Nat → Nat → Nat) (σ : sT) (x y w : Int32) : Int32 := if hsB x 49 = false ∨ hsB y (τ 7 0) = false ∨ eiB w = false then -1 else
  if w = 0 then nI ((hrN τ x.toNatClampNeg σ).1 y.toNatClampNeg) else nI (sn (hrN τ x.toNatClampNeg σ) y.toNatClampNeg)
def wt (g s b : Nat) : Nat := if s ≤ g then 0 else (s - g + b - 1) / b
def soN (τ : Nat → Nat → Nat) (f : Nat → Nat) (g : Nat) : Nat → Nat
  | 0 => 0
  | n + 1 => if per τ n = true then soN τ f g n + wt g (f n) (wby τ n) else soN τ f g n
def pSoap (τ : Nat → Nat → Nat) (σ : sT) (x : Int32) : Int32 := if hsB x 10 = false then -1 else nI (soN τ σ.1 x.toNatClampNeg (τ 7 0))
def pCount (τ : Nat → Nat → Nat) (σ : sT) (len ph kh cn : Nat) (x : Int32) : Int32 :=
  if x.toInt = 0 then nI (τ 7 0) else if x.toInt = 1 then nI (ppl τ (τ 7 0)) else if x.toInt = 2 then nI (τ 8 0) else if x.toInt = 3 then nI (σ.2.2 % 12) else
  if x.toInt = 4 then nI σ.2.2 else if x.toInt = 5 then nI (τ 7 0 - cnE σ.1 0 (τ 7 0)) else if x.toInt = 6 then nI cn else if x.toInt = 7 then nI ph else
  if x.toInt = 8 then nI kh else if x.toInt = 9 then nI len else if x.toInt = 10 then nI (τ 10 0) else -1
/-- the twos from a place on, in their order -/
def rwL (a n : Nat) : Nat → List (Nat × Nat)
  | 0 => []
  | k + 1 => (a, n - (k + 1)) :: rwL a n k
def plL (n : Nat) : Nat → List (Nat × Nat)
  | 0 => []
  | k + 1 => rwL (n - (k + 1)) n k ++ plL n k
def stp (P : Nat → Nat → Bool) (s : Nat × Int32) (q : Nat × Nat) : Nat × Int32 := if P q.1 q.2 = true then (s.1 + 1, if s.1 = 0 then nI (10 * q.1 + q.2) else s.2) else s
/-- how many twos, and the first -/
def twR (P : Nat → Nat → Bool) (n : Nat) (w : Int32) : Int32 := if w = 0 then nI ((plL n n).foldl (stp P) (0, -4)).1 else ((plL n n).foldl (stp P) (0, -4)).2
theorem stp_le (P : Nat → Nat → Bool) (l : List (Nat × Nat)) (s : Nat × Int32) : (l.foldl (stp P) s).1 ≤ s.1 + l.length := by
  induction l generalizing s with
  | nil => exact Nat.le_refl _
  | cons q l ih =>
    have := ih (stp P s q)
    have h2 : (stp P s q).1 ≤ s.1 + 1 := by unfold stp; split <;> omega
    rw [List.foldl_cons, List.length_cons]
    omega
def lkB (τ : Nat → Nat → Nat) (σ : sT) (a b : Nat) : Bool := per τ a && (per τ b && (decide (¬ sn σ a = 0) && decide (sn σ a = sn σ b)))
theorem sn_le {σ : sT} (hs : OKs σ) {i : Nat} (hi : i < 9) : sn σ i ≤ 9 := by
  unfold sn
  split
  · omega
  · exact hs.1 i hi
theorem eiB_cases (x : Int32) : (x = nI 0 ∧ eiB x = true) ∨ (x = nI 1 ∧ eiB x = true) ∨ eiB x = false := by
  unfold eiB
  by_cases a : x = 0
  · left; exact ⟨a, by simp [a]⟩
  · by_cases b : x = 1
    · right; left; exact ⟨b, by simp [b]⟩
    · right; right; simp [a, b]
section U3
variable {z d G : Nat} {M : bM} {lt : Nat → Nat} {len : Nat} {τ τd : Nat → Nat → Nat} {σ : sT} {pa : Nat → sT} {ph : Nat} {ka : Nat → sT} {kh : Nat} {ci cs : Nat → Nat} {cn : Nat} {Q : bV → bM → Prop}
theorem scr_w {M : bM} {σ : sT} : Eqx scr M (wSt M 1 σ) := Eqx_w (Or.inr (Or.inl ⟨rfl, Or.inl rfl⟩)) (Or.inl ⟨rfl, rfl⟩)
theorem le48 {x : Int32} (a : ¬ x < 0) : (48 < x) ↔ (nI 49 ≤ x) := by
  refine ⟨fun h => ?_, fun h => ?_⟩
  · rw [Int32.lt_iff_toInt_lt] at h
    rw [Int32.le_iff_toInt_le, nI_toInt (by decide)]
    simp at h
    omega
  · rw [Int32.le_iff_toInt_le, nI_toInt (by decide)] at h
    rw [Int32.lt_iff_toInt_lt]
    simp
    omega
theorem uX7_behind {x y w : Int32} (C : CA M lt len τ τd σ pa ph ka kh ci cs cn) (V : VA G τ σ pa ph ka kh ci cs cn) (hG : G < 2 ^ 28)
    (hQ : ∀ M', CA M' lt len τ τd σ pa ph ka kh ci cs cn → Eqx clS M M' → Q (.inl (pBehind τ σ x y w)) M') : Run z (d + 6) 62 [vr 7 0, .inl x, .inl y, .inl w] M Q := by
  obtain ⟨h, hh, r1, r2, P, H1, H2, S, P0, P1, L⟩ := id C
  obtain ⟨K, n1, hs, hg, -⟩ := V
  have hn := K.1
  rw [rX7_behind]
  unfold pBehind at hQ
  simp only [eX7_behind_0, eX7_behind_1, eX7_behind_4, eX7_behind_5, eX7_behind_7, eX7_behind_10, eX7_behind_11, eX7_behind_14, eX7_behind_15, eX7_behind_18, eX7_behind_21, eX7_behind_22, eX7_behind_25, eX7_behind_28, eX7_behind_29, eX7_behind_30, eX7_behind_31, eX7_behind_34, eX7_behind_35, eX7_behind_38, eX7_behind_41, eX7_behind_42, eX7_behind_45, eX7_behind_46, eX7_behind_49, eX7_behind_50, eX7_behind_53, eX7_behind_54, eX7_behind_57, eX7_behind_58, eX7_behind_61, eX7_behind_64, eX7_behind_65, eX7_behind_68, eX7_behind_71, eX7_behind_72, eX7_behind_75, eX7_behind_76, eX7_behind_79, cnt_0, cnt_1, cnt_2, cnt_3, cnt_4, cnt_5, cnt_6, cnt_7, cnt_8, cnt_9, cnt_10, cnt_11, true_and, Nat.lt_add_one, r1, hh, tX1_has hh H1, psh_i, bi_0, tX7_isEither]
  by_cases a : x < 0
  · rw [if_pos a]
    have := hQ M C Eqx_rf
    rwa [if_pos (Or.inl (by unfold hsB; simp [a]))] at this
  · rw [if_neg a]
    rcases hsB_cases x (n := 49) (by decide) with ⟨n, hn, rfl, e1⟩ | e1
    · rw [if_neg (fun q => nI_ge hn (by decide) ((le48 a).mp q))]
      rcases hsB_cases y (n := τ 7 0) (by omega) with ⟨i, hi, rfl, e2⟩ | e2
      · rw [e2, if_neg (by decide)]
        have fin : ∀ M', M' = wSt M 1 (hrN τ n σ) → CA M' lt len τ τd σ pa ph ka kh ci cs cn ∧ Eqx clS M M' := fun M' e => by subst e; exact ⟨CA_scr C scr_w, cl_scr scr_w⟩
        have hs2 := OKs_hrN (n := n) K hs
        have go : ∀ Q, Run z (d + 5) 45 [vr 5 1, vr 1 h, .inl (nI n)] (wSt M 1 σ) Q = Q vu (wSt M 1 (hrN τ n σ)) := fun Q => tX5_goHours (by decide) hh H1 K hs (by omega) (by omega)
        have s0 : ∀ σ, rowAt (wSt M 1 σ) (16 + 1) (nI i) = nI (σ.1 i) := fun σ => wSt_rowAt (by decide) (by omega)
        rcases eiB_cases w with ⟨rfl, e3⟩ | ⟨rfl, e3⟩ | e3
        · rw [e3, if_neg (by decide)]
          have := hQ _ (fin _ rfl).1 (fin _ rfl).2
          rw [if_neg (by simp [e1, e2, e3]), if_pos (show nI 0 = (0 : Int32) from rfl), nI_clamp (by omega), nI_clamp (by omega)] at this
          simp (disch := omega) only [Nat.reduceLT, true_and, tX5_copy (show 1 < 12 by decide) (show 0 < 12 by decide) (by decide) S, psh_u, gR_wSt, r1, hh, go, psh_i, eX7_behind_0, eX7_behind_1, eX7_behind_4, eX7_behind_5, eX7_behind_7, eX7_behind_10, eX7_behind_11, eX7_behind_14, eX7_behind_15, eX7_behind_18, eX7_behind_21, eX7_behind_22, eX7_behind_25, eX7_behind_28, eX7_behind_29, eX7_behind_30, eX7_behind_31, eX7_behind_34, eX7_behind_35, eX7_behind_38, eX7_behind_41, eX7_behind_42, eX7_behind_45, eX7_behind_46, eX7_behind_49, eX7_behind_50, eX7_behind_53, eX7_behind_54, eX7_behind_57, eX7_behind_58, eX7_behind_61, eX7_behind_64, eX7_behind_65, eX7_behind_68, eX7_behind_71, eX7_behind_72, eX7_behind_75, eX7_behind_76, eX7_behind_79, cnt_0, cnt_1, cnt_2, cnt_3, cnt_4, cnt_5, cnt_6, cnt_7, cnt_8, cnt_9, cnt_10, cnt_11, Nat.lt_add_one, lit_0, if_true, tX4_at, s0, Nat.reduceAdd]
          exact this
        · rw [e3, if_neg (by decide)]
          have := hQ _ (fin _ rfl).1 (fin _ rfl).2
          rw [if_neg (by simp [e1, e2, e3]), if_neg (by decide), nI_clamp (by omega), nI_clamp (by omega)] at this
          simp (disch := omega) only [Nat.reduceLT, true_and, tX5_copy (show 1 < 12 by decide) (show 0 < 12 by decide) (by decide) S, psh_u, gR_wSt, r1, hh, go, psh_i, eX7_behind_0, eX7_behind_1, eX7_behind_4, eX7_behind_5, eX7_behind_7, eX7_behind_10, eX7_behind_11, eX7_behind_14, eX7_behind_15, eX7_behind_18, eX7_behind_21, eX7_behind_22, eX7_behind_25, eX7_behind_28, eX7_behind_29, eX7_behind_30, eX7_behind_31, eX7_behind_34, eX7_behind_35, eX7_behind_38, eX7_behind_41, eX7_behind_42, eX7_behind_45, eX7_behind_46, eX7_behind_49, eX7_behind_50, eX7_behind_53, eX7_behind_54, eX7_behind_57, eX7_behind_58, eX7_behind_61, eX7_behind_64, eX7_behind_65, eX7_behind_68, eX7_behind_71, eX7_behind_72, eX7_behind_75, eX7_behind_76, eX7_behind_79, cnt_0, cnt_1, cnt_2, cnt_3, cnt_4, cnt_5, cnt_6, cnt_7, cnt_8, cnt_9, cnt_10, cnt_11, Nat.lt_add_one, show (nI 1 = (0 : Int32)) = False from eq_false (by decide), if_false, tX5_seen (show 1 < 12 by decide) (show i < 9 by omega) hs2]
          exact this
        · rw [e3, if_pos rfl]
          have := hQ M C Eqx_rf
          rwa [if_pos (Or.inr (Or.inr e3))] at this
      · rw [e2, if_pos rfl]
        have := hQ M C Eqx_rf
        rwa [if_pos (Or.inr (Or.inl e2))] at this
    · have := hQ M C Eqx_rf
      rw [if_pos (Or.inl e1)] at this
      have e4 : nI 49 ≤ x := by unfold hsB at e1; simpa [a] using e1
      rw [if_pos ((le48 a).mpr e4)]
      exact this
theorem uX7_keep (C : CA M lt len τ τd σ pa ph ka kh ci cs cn)
    (hQ : (kh = 2 → Q (.inl (-3)) M) ∧ (¬ kh = 2 → kh < 2 → ∀ M', CA M' lt len τ τd σ pa ph (pushP 2 ka kh σ) (pushH 2 kh) ci cs cn → Eqx clS M M' → Q (.inl (nI (pushH 2 kh))) M')) : Run z (d + 5) 74 [vr 7 0] M Q := by
  obtain ⟨h, hh, r1, r2, P, H1, H2, S, P0, P1, L⟩ := id C
  obtain ⟨_, _, hk, hk2, _⟩ := id P1
  have hk3 : kh ≤ 2 := hk2
  rw [rX7_keep]
  simp only [eX7_keep_0, eX7_keep_1, eX7_keep_4, eX7_keep_7, eX7_keep_10, eX7_keep_12, eX7_keep_13, eX7_keep_14, eX7_keep_17, eX7_keep_18, eX7_keep_21, eX7_keep_24, eX7_keep_25, eX7_keep_28, eX7_keep_31, cnt_0, cnt_1, cnt_2, cnt_3, cnt_4, cnt_5, cnt_6, cnt_7, cnt_8, cnt_9, cnt_10, cnt_11, true_and, Nat.lt_add_one, Nat.reduceLT, tX3_isFull (show 1 < 2 by decide) hk (show kh < 2 ^ 31 by omega), psh_i, bi_0]
  have ha : alqc 1 = 2 := rfl
  by_cases q : kh = 2
  · rw [ha, decide_eq_true (by omega), if_neg (by decide)]
    exact hQ.1 q
  · rw [ha, decide_eq_false (by omega), if_pos rfl]
    refine tX3_push (d := d) (by decide) P1 (by decide) S (fun M1 P1' E1 => ?_)
    have nE : ∀ {c i : Nat}, ¬ ((c = 3 ∧ i = 1) ∨ (c = 10 ∧ i = 1) ∨ (c = 5 ∧ 10 ≤ i ∧ i < 12) ∨ (c = 9 ∧ 26 ≤ i ∧ i < 28)) → ¬ pS 1 c i := fun w v => w (pS_1 v)
    obtain ⟨_, _, hk', _⟩ := id P1'
    simp only [psh_u, eX7_keep_0, eX7_keep_1, eX7_keep_4, eX7_keep_7, eX7_keep_10, eX7_keep_12, eX7_keep_13, eX7_keep_14, eX7_keep_17, eX7_keep_18, eX7_keep_21, eX7_keep_24, eX7_keep_25, eX7_keep_28, eX7_keep_31, cnt_0, cnt_1, cnt_2, cnt_3, cnt_4, cnt_5, cnt_6, cnt_7, cnt_8, cnt_9, cnt_10, cnt_11, true_and, Nat.lt_add_one, Nat.reduceLT, tX3_height (show 1 < 2 by decide) hk', psh_i]
    refine hQ.2 q (by omega) M1 (CA_kept C (Eqx_mo E1 (fun _ _ w => Or.inl w)) (St_e E1 (nE (by omega)) (nE (by omega)) S) (Pi_e E1 (fun c i q => nE (by have := pS_0 q; omega)) P0) P1') (Eqx_mo E1 (fun c i q => by have := pS_1 q; unfold clS; omega))
theorem uX7_back (C : CA M lt len τ τd σ pa ph ka kh ci cs cn)
    (hQ : (kh = 0 → Q (.inl (-2)) M) ∧ ∀ k, kh = k + 1 → ∀ M', CA M' lt len τ τd (ka k) pa 0 ka k ci cs cn → Eqx clS M M' → Q (.inl (nI k)) M') : Run z (d + 5) 75 [vr 7 0] M Q := by
  obtain ⟨h, hh, r1, r2, P, H1, H2, S, P0, P1, L⟩ := id C
  rw [rX7_back]
  simp only [eX7_back_0, eX7_back_1, eX7_back_4, eX7_back_5, eX7_back_8, eX7_back_11, eX7_back_14, eX7_back_16, eX7_back_17, eX7_back_18, eX7_back_21, eX7_back_24, eX7_back_25, eX7_back_28, eX7_back_31, cnt_0, cnt_1, cnt_2, cnt_3, cnt_4, cnt_5, cnt_6, cnt_7, cnt_8, cnt_9, cnt_10, cnt_11, true_and, Nat.lt_add_one, Nat.reduceLT]
  cases kh with
  | zero =>
    rw [tX3_pop0 (d := d) (by decide) P1]
    simp only [psh_i, eX7_back_0, eX7_back_1, eX7_back_4, eX7_back_5, eX7_back_8, eX7_back_11, eX7_back_14, eX7_back_16, eX7_back_17, eX7_back_18, eX7_back_21, eX7_back_24, eX7_back_25, eX7_back_28, eX7_back_31, bi_f, if_true]
    exact hQ.1 rfl
  | succ k =>
    refine tX3_pop (d := d) (by decide) P1 (by decide) (fun M1 P1' S' E1 => ?_)
    have nE : ∀ {c i : Nat}, ¬ (((c = 3 ∧ i = 1) ∨ (c = 10 ∧ i = 1) ∨ (c = 5 ∧ 10 ≤ i ∧ i < 12) ∨ (c = 9 ∧ 26 ≤ i ∧ i < 28)) ∨ (c = 5 ∧ i = 0) ∨ (c = 9 ∧ i = 16 + 0)) → ¬ (pS 1 c i ∨ (c = 5 ∧ i = 0) ∨ (c = 9 ∧ i = 16 + 0)) := fun w v => w (v.imp pS_1 id)
    obtain ⟨_, _, hk, _⟩ := id P1'
    have hk' : gI (sI M1 3 0 1 (nI 0)) 3 1 1 = nI k := by rw [gI_sI, if_neg (by omega)]; exact hk
    simp only [psh_i, eX7_back_0, eX7_back_1, eX7_back_4, eX7_back_5, eX7_back_8, eX7_back_11, eX7_back_14, eX7_back_16, eX7_back_17, eX7_back_18, eX7_back_21, eX7_back_24, eX7_back_25, eX7_back_28, eX7_back_31, cnt_0, cnt_1, cnt_2, cnt_3, cnt_4, cnt_5, cnt_6, cnt_7, cnt_8, cnt_9, cnt_10, cnt_11, true_and, Nat.lt_add_one, Nat.reduceLT, bi_t, show ((1 : Int32) = 0) = False from eq_false (by decide), if_false, tX3_clear (show 0 < 2 by decide), psh_u, tX3_height (show 1 < 2 by decide) hk']
    have E2 : Eqx (fun c i => c = 3 ∧ i = 0) M1 (sI M1 3 0 1 (nI 0)) := Eqx_sI ⟨rfl, rfl⟩
    refine hQ.2 k rfl _ (CA_kept C (Eqx_tr E1 E2 (fun c i q => ?_) (fun c i q => Or.inr (Or.inr (Or.inr q)))) (St_e E2 (by omega) (by omega) S') ?_ (Pi_e E2 (fun c i q => by have := pS_1 q; omega) P1')) (Eqx_tr E1 E2 (fun c i q => ?_) (fun c i q => by unfold clS; omega))
    · rcases q with q | q | q
      · exact Or.inl q
      · exact Or.inr (Or.inl q)
      · exact Or.inr (Or.inr (Or.inl q))
    · obtain ⟨ord, o1, -⟩ := P0
      refine ⟨ord, ⟨fun j hj => ⟨?_, (o1.1 j hj).2⟩, o1.2⟩, by rw [gI_sI, if_pos ⟨rfl, rfl, rfl⟩], by omega, fun j hj => by omega⟩
      rw [gR_sI, (E1 _ _ _ (nE (by omega))).2]
      exact (o1.1 j hj).1
    · rcases q with q | q | q
      · have := pS_1 q; unfold clS; omega
      · unfold clS; omega
      · unfold clS; omega
theorem uX7_count {x : Int32} (C : CA M lt len τ τd σ pa ph ka kh ci cs cn) (V : VA G τ σ pa ph ka kh ci cs cn) (hQ : Q (.inl (pCount τ σ len ph kh cn x)) M) : Run z (d + 4) 76 [vr 7 0, .inl x] M Q := by
  obtain ⟨h, hh, r1, r2, P, H1, H2, S, P0, P1, L⟩ := id C
  obtain ⟨K, n1, hs, hg, -⟩ := V
  obtain ⟨_, _, hk0, _⟩ := id P0
  obtain ⟨_, _, hk1, _⟩ := id P1
  rw [rX7_count]
  simp only [eX7_count_0, eX7_count_1, eX7_count_60, eX7_count_61, eX7_count_64, eX7_count_67, eX7_count_68, eX7_count_69, eX7_count_72, eX7_count_75, eX7_count_76, eX7_count_77, eX7_count_80, eX7_count_83, eX7_count_84, eX7_count_85, eX7_count_88, eX7_count_91, eX7_count_92, eX7_count_93, eX7_count_96, eX7_count_99, eX7_count_100, eX7_count_101, eX7_count_104, eX7_count_105, eX7_count_108, eX7_count_111, eX7_count_112, eX7_count_113, eX7_count_116, eX7_count_119, eX7_count_120, eX7_count_121, eX7_count_124, eX7_count_127, eX7_count_128, eX7_count_129, eX7_count_132, eX7_count_135, eX7_count_136, eX7_count_137, eX7_count_140, eX7_count_143, eX7_count_144, eX7_count_145, eX7_count_148, eX7_count_151, eX7_count_152, eX7_count_153, cnt_0, cnt_1, cnt_2, cnt_3, cnt_4, cnt_5, cnt_6, cnt_7, cnt_8, cnt_9, cnt_10, cnt_11, true_and, Nat.lt_add_one, Nat.reduceLT, r1, hh, Ho_n H1, Ho_t H1, Ho_su H1, tX1_people hh H1 K, S.2.2.1, S.2.2.2, mX5_shaded (show 0 < 12 by decide) hh H1 K hs S, tX0_size L, tX3_height (show 0 < 2 by decide) hk0, tX3_height (show 1 < 2 by decide) hk1, tX2_length P, psh_i]
  unfold pCount at hQ
  by_cases q : x.toInt = 0
  · rw [if_pos q] at hQ ⊢
    exact hQ
  rw [if_neg q] at hQ ⊢
  clear q
  by_cases q : x.toInt = 1
  · rw [if_pos q] at hQ ⊢
    exact hQ
  rw [if_neg q] at hQ ⊢
  clear q
  by_cases q : x.toInt = 2
  · rw [if_pos q] at hQ ⊢
    exact hQ
  rw [if_neg q] at hQ ⊢
  clear q
  by_cases q : x.toInt = 3
  · rw [if_pos q] at hQ ⊢
    exact hQ
  rw [if_neg q] at hQ ⊢
  clear q
  by_cases q : x.toInt = 4
  · rw [if_pos q] at hQ ⊢
    exact hQ
  rw [if_neg q] at hQ ⊢
  clear q
  by_cases q : x.toInt = 5
  · rw [if_pos q] at hQ ⊢
    exact hQ
  rw [if_neg q] at hQ ⊢
  clear q
  by_cases q : x.toInt = 6
  · rw [if_pos q] at hQ ⊢
    exact hQ
  rw [if_neg q] at hQ ⊢
  clear q
  by_cases q : x.toInt = 7
  · rw [if_pos q] at hQ ⊢
    exact hQ
  rw [if_neg q] at hQ ⊢
  clear q
  by_cases q : x.toInt = 8
  · rw [if_pos q] at hQ ⊢
    exact hQ
  rw [if_neg q] at hQ ⊢
  clear q
  by_cases q : x.toInt = 9
  · rw [if_pos q] at hQ ⊢
    exact hQ
  rw [if_neg q] at hQ ⊢
  clear q
  by_cases q : x.toInt = 10
  · rw [if_pos q] at hQ ⊢
    exact hQ
  rw [if_neg q] at hQ ⊢
  clear q
  exact hQ
theorem uX7_show {x y : Int32} (C : CA M lt len τ τd σ pa ph ka kh ci cs cn) (V : VA G τ σ pa ph ka kh ci cs cn)
    (hQ : ((hsB x (τ 7 0) = false ∨ hsB y 10 = false) → Q (.inl (-1)) M) ∧ ∀ i s, i < τ 7 0 → s < 10 → x = nI i → y = nI s → (cn = 6 → Q (.inl (-3)) M) ∧ (¬ cn = 6 → ∀ M', CA M' lt len τ τd σ pa ph ka kh (upN ci cn i) (upN cs cn s) (cn + 1) → Eqx clS M M' → Q (.inl (nI (cn + 1))) M')) : Run z (d + 3) 66 [vr 7 0, .inl x, .inl y] M Q := by
  obtain ⟨h, hh, r1, r2, P, H1, H2, S, P0, P1, L⟩ := id C
  obtain ⟨K, n1, hs, hg, -⟩ := V
  have hn := K.1
  rw [rX7_show]
  simp only [eX7_show_0, eX7_show_1, eX7_show_4, eX7_show_5, eX7_show_8, eX7_show_11, eX7_show_12, eX7_show_15, eX7_show_18, eX7_show_19, eX7_show_20, eX7_show_21, eX7_show_24, eX7_show_25, eX7_show_26, eX7_show_29, eX7_show_32, eX7_show_33, eX7_show_36, eX7_show_39, eX7_show_42, eX7_show_44, cnt_0, cnt_1, cnt_2, cnt_3, cnt_4, cnt_5, cnt_6, cnt_7, cnt_8, cnt_9, cnt_10, cnt_11, true_and, Nat.lt_add_one, r1, hh, tX1_has hh H1, psh_i, bi_0, tX7_isShade]
  rcases hsB_cases x (n := τ 7 0) (by omega) with ⟨i, hi, rfl, e⟩ | e
  · rcases hsB_cases y (n := 10) (by decide) with ⟨s, hs', rfl, e2⟩ | e2
    · have hQ := hQ.2 i s hi hs' rfl rfl
      rw [e, e2, if_neg (by decide), if_neg (by decide), tX0_add L]
      by_cases q : cn = 6
      · rw [if_pos q]
        simp only [psh_i, eX7_show_0, eX7_show_1, eX7_show_4, eX7_show_5, eX7_show_8, eX7_show_11, eX7_show_12, eX7_show_15, eX7_show_18, eX7_show_19, eX7_show_20, eX7_show_21, eX7_show_24, eX7_show_25, eX7_show_26, eX7_show_29, eX7_show_32, eX7_show_33, eX7_show_36, eX7_show_39, eX7_show_42, eX7_show_44, bi_f, if_true]
        exact hQ.1 q
      · rw [if_neg q]
        have L' : Cl (sI (sI (sI M 9 28 cn (nI i)) 9 29 cn (nI s)) 0 0 2 (nI (cn + 1))) (upN ci cn i) (upN cs cn s) (cn + 1) := by
          have := L.2.1
          refine ⟨by rw [gI_sI, if_pos ⟨rfl, rfl, rfl⟩], by omega, fun j hj => ?_⟩
          unfold upN
          by_cases w : j = cn
          · subst w
            rw [if_pos rfl, if_pos rfl]
            constructor
            · rw [gI_sI, if_neg (by omega), gI_sI, if_neg (by omega), gI_sI, if_pos ⟨rfl, rfl, rfl⟩]
            · rw [gI_sI, if_neg (by omega), gI_sI, if_pos ⟨rfl, rfl, rfl⟩]
          · rw [if_neg w, if_neg w]
            constructor
            · rw [gI_sI, if_neg (by omega), gI_sI, if_neg (by omega), gI_sI, if_neg (by omega)]
              exact (L.2.2 j (by omega)).1
            · rw [gI_sI, if_neg (by omega), gI_sI, if_neg (by omega), gI_sI, if_neg (by omega)]
              exact (L.2.2 j (by omega)).2
        have E : Eqx cS M (sI (sI (sI M 9 28 cn (nI i)) 9 29 cn (nI s)) 0 0 2 (nI (cn + 1))) := Eqx_tr (Eqx_tr (Eqx_sI (S := cS) (Or.inr ⟨rfl, Or.inl rfl⟩)) (Eqx_sI (S := cS) (Or.inr ⟨rfl, Or.inr rfl⟩)) (fun _ _ q => q) (fun _ _ q => q)) (Eqx_sI (S := cS) (Or.inl rfl)) (fun _ _ q => q) (fun _ _ q => q)
        have := hQ.2 q _ (CA_clue C E L') (Eqx_mo E (fun c i q => by unfold cS at q; unfold clS; omega))
        simp only [psh_i, eX7_show_0, eX7_show_1, eX7_show_4, eX7_show_5, eX7_show_8, eX7_show_11, eX7_show_12, eX7_show_15, eX7_show_18, eX7_show_19, eX7_show_20, eX7_show_21, eX7_show_24, eX7_show_25, eX7_show_26, eX7_show_29, eX7_show_32, eX7_show_33, eX7_show_36, eX7_show_39, eX7_show_42, eX7_show_44, cnt_0, cnt_1, cnt_2, cnt_3, cnt_4, cnt_5, cnt_6, cnt_7, cnt_8, cnt_9, cnt_10, cnt_11, true_and, Nat.lt_add_one, bi_t, show ((1 : Int32) = 0) = False from eq_false (by decide), if_false, tX0_size L']
        exact this
    · rw [e, e2, if_neg (by decide), if_pos rfl]
      exact hQ.1 (Or.inr e2)
  · rw [e, if_pos rfl]
    exact hQ.1 (Or.inl e)
theorem uX7_forget (C : CA M lt len τ τd σ pa ph ka kh ci cs cn) (hQ : ∀ M', CA M' lt len τ τd σ pa ph ka kh ci cs 0 → Eqx clS M M' → Q (.inl (nI cn)) M') : Run z (d + 2) 67 [vr 7 0] M Q := by
  obtain ⟨h, hh, r1, r2, P, H1, H2, S, P0, P1, L⟩ := id C
  rw [rX7_forget]
  simp only [eX7_forget_0, eX7_forget_1, eX7_forget_4, eX7_forget_7, eX7_forget_8, eX7_forget_9, eX7_forget_12, eX7_forget_15, eX7_forget_16, cnt_0, cnt_1, cnt_2, cnt_3, cnt_4, cnt_5, cnt_6, cnt_7, cnt_8, cnt_9, cnt_10, cnt_11, true_and, Nat.lt_add_one, tX0_size L, psh_i, tX0_clear, psh_u]
  have E : Eqx cS M (sI M 0 0 2 (nI 0)) := Eqx_sI (Or.inl rfl)
  exact hQ _ (CA_clue C E ⟨by rw [gI_sI, if_pos ⟨rfl, rfl, rfl⟩], by decide, fun j hj => by omega⟩) (Eqx_mo E (fun c i q => by unfold cS at q; unfold clS; omega))
theorem tX7_washingsTo {g s b : Nat} (hg : g ≤ 9) (hs : s ≤ 9) (hb : 1 ≤ b) (hb2 : b ≤ 4) : Run z (d + 1) 82 [.inl (nI g), .inl (nI s), .inl (nI b)] M Q = Q (.inl (nI (wt g s b))) M := by
  rw [rX7_washingsTo]
  unfold wt
  by_cases q : s ≤ g
  · simp (disch := omega) only [eX7_washingsTo_0, eX7_washingsTo_1, eX7_washingsTo_2, eX7_washingsTo_5, eX7_washingsTo_6, eX7_washingsTo_9, eX7_washingsTo_10, eX7_washingsTo_11, eX7_washingsTo_12, eX7_washingsTo_13, eX7_washingsTo_14, eX7_washingsTo_15, eX7_washingsTo_16, eX7_washingsTo_17, eX7_washingsTo_18, eX7_washingsTo_19, eX7_washingsTo_20, nI_leI, if_pos q, lit_0]
  · have e1 : nI s - nI g = nI (s - g) := pk_sub (by omega)
    have e2 : nI (s - g + b) - nI 1 = nI (s - g + b - 1) := pk_sub (by omega)
    have e3 : nI (s - g + b - 1) / nI b = nI ((s - g + b - 1) / b) := pk_div (by omega) (by omega) (by omega)
    simp (disch := omega) only [eX7_washingsTo_0, eX7_washingsTo_1, eX7_washingsTo_2, eX7_washingsTo_5, eX7_washingsTo_6, eX7_washingsTo_9, eX7_washingsTo_10, eX7_washingsTo_11, eX7_washingsTo_12, eX7_washingsTo_13, eX7_washingsTo_14, eX7_washingsTo_15, eX7_washingsTo_16, eX7_washingsTo_17, eX7_washingsTo_18, eX7_washingsTo_19, eX7_washingsTo_20, nI_leI, if_neg q, lit_0, lit_1, nI_ltI, if_pos (show 0 < b by omega), e1, nI_add, e2, e3, nI_eq, show ¬ b = 0 by omega, not_false_iff, true_and]
theorem soN_le {f : Nat → Nat} {g n : Nat} (hf : ∀ i, i < n → f i ≤ 9) : soN τ f g n ≤ 20 * n := by
  induction n with
  | zero => exact Nat.le_refl _
  | succ n ih =>
    have := ih (fun i hi => hf i (by omega))
    have h1 := hf n (by omega)
    unfold soN
    split
    · have : wt g (f n) (wby τ n) ≤ 20 := by
        unfold wt
        split
        · omega
        · have hw := wby_le τ n
          exact Nat.le_trans (Nat.div_le_self _ _) (by omega)
      omega
    · omega
theorem uX7_soap {x : Int32} (C : CA M lt len τ τd σ pa ph ka kh ci cs cn) (V : VA G τ σ pa ph ka kh ci cs cn) (hQ : Q (.inl (pSoap τ σ x)) M) : Run z (d + 4) 64 [vr 7 0, .inl x] M Q := by
  obtain ⟨h, hh, r1, r2, P, H1, H2, S, P0, P1, L⟩ := id C
  obtain ⟨K, n1, hs, hg, -⟩ := V
  have hn := K.1
  rw [rX7_soap]
  simp only [eX7_soap_0, eX7_soap_1, eX7_soap_4, eX7_soap_7, eX7_soap_8, eX7_soap_9, eX7_soap_10, eX7_soap_11, eX7_soap_12, eX7_soap_14, eX7_soap_15, eX7_soap_18, eX7_soap_21, eX7_soap_24, eX7_soap_25, eX7_soap_28, eX7_soap_29, eX7_soap_32, eX7_soap_35, eX7_soap_36, eX7_soap_37, eX7_soap_38, eX7_soap_41, eX7_soap_44, eX7_soap_45, eX7_soap_48, eX7_soap_49, eX7_soap_52, eX7_soap_53, eX7_soap_56, eX7_soap_59, eX7_soap_60, eX7_soap_61, eX7_soap_64, eX7_soap_67, eX7_soap_68, cnt_0, cnt_1, cnt_2, cnt_3, cnt_4, cnt_5, cnt_6, cnt_7, cnt_8, cnt_9, cnt_10, cnt_11, tX7_isShade, psh_i, bi_0]
  unfold pSoap at hQ
  rcases hsB_cases x (n := 10) (by decide) with ⟨g, hg', rfl, e⟩ | e
  · rw [e, if_neg (by decide), nI_clamp (by omega)] at hQ
    rw [e, if_neg (by decide)]
    simp only [eX7_soap_0, eX7_soap_1, eX7_soap_4, eX7_soap_7, eX7_soap_8, eX7_soap_9, eX7_soap_10, eX7_soap_11, eX7_soap_12, eX7_soap_14, eX7_soap_15, eX7_soap_18, eX7_soap_21, eX7_soap_24, eX7_soap_25, eX7_soap_28, eX7_soap_29, eX7_soap_32, eX7_soap_35, eX7_soap_36, eX7_soap_37, eX7_soap_38, eX7_soap_41, eX7_soap_44, eX7_soap_45, eX7_soap_48, eX7_soap_49, eX7_soap_52, eX7_soap_53, eX7_soap_56, eX7_soap_59, eX7_soap_60, eX7_soap_61, eX7_soap_64, eX7_soap_67, eX7_soap_68, lit_0]
    suffices hgo : ExG z (Run z (d + 3)) 7 1 false none cX7_soap Q 13 [vr 7 0, .inl (nI g), .inl (nI 0), .inl (nI 0)] [] M = Q (.inl (nI (soN τ σ.1 g (τ 7 0)))) M by rw [hgo]; exact hQ
    refine (eq_up (fun i => ExG z (Run z (d + 3)) 7 1 false none cX7_soap Q 13 [vr 7 0, .inl (nI g), .inl (nI (soN τ σ.1 g i)), .inl (nI i)] [] M) (Nat.zero_le (τ 7 0)) (fun i _ hi => ?_)).trans ?_
    · have s0 : rowAt M (16 + 0) (nI i) = nI (σ.1 i) := St_rowAt (by decide) (by omega) S
      have hb2 := wby_le τ i
      have hb1 : 1 ≤ wby τ i := by unfold wby; split <;> omega
      have hsi := hs.1 i (by omega)
      rw [eX7_soap_13]
      simp (disch := omega) only [eX7_soap_0, eX7_soap_1, eX7_soap_4, eX7_soap_7, eX7_soap_8, eX7_soap_9, eX7_soap_10, eX7_soap_11, eX7_soap_12, eX7_soap_14, eX7_soap_15, eX7_soap_18, eX7_soap_21, eX7_soap_24, eX7_soap_25, eX7_soap_28, eX7_soap_29, eX7_soap_32, eX7_soap_35, eX7_soap_36, eX7_soap_37, eX7_soap_38, eX7_soap_41, eX7_soap_44, eX7_soap_45, eX7_soap_48, eX7_soap_49, eX7_soap_52, eX7_soap_53, eX7_soap_56, eX7_soap_59, eX7_soap_60, eX7_soap_61, eX7_soap_64, eX7_soap_67, eX7_soap_68, cnt_0, cnt_1, cnt_2, cnt_3, cnt_4, cnt_5, cnt_6, cnt_7, cnt_8, cnt_9, cnt_10, cnt_11, true_and, Nat.lt_add_one, Nat.reduceLT, r1, hh, Ho_n H1, nI_leI, if_neg (Nat.not_le.mpr hi), tX1_hasPerson hh H1 K, hpB_nI K, psh_i, bi_0, tX4_at, s0, Nat.reduceAdd, tX1_lighterByWashing hh H1 K hi, tX7_washingsTo, nI_add, nI_1]
      rw [soN]
      cases per τ i <;> rfl
    · rw [eX7_soap_13]
      simp (disch := omega) only [eX7_soap_0, eX7_soap_1, eX7_soap_4, eX7_soap_7, eX7_soap_8, eX7_soap_9, eX7_soap_10, eX7_soap_11, eX7_soap_12, eX7_soap_14, eX7_soap_15, eX7_soap_18, eX7_soap_21, eX7_soap_24, eX7_soap_25, eX7_soap_28, eX7_soap_29, eX7_soap_32, eX7_soap_35, eX7_soap_36, eX7_soap_37, eX7_soap_38, eX7_soap_41, eX7_soap_44, eX7_soap_45, eX7_soap_48, eX7_soap_49, eX7_soap_52, eX7_soap_53, eX7_soap_56, eX7_soap_59, eX7_soap_60, eX7_soap_61, eX7_soap_64, eX7_soap_67, eX7_soap_68, cnt_0, cnt_1, cnt_2, cnt_3, cnt_4, cnt_5, cnt_6, cnt_7, cnt_8, cnt_9, cnt_10, cnt_11, true_and, Nat.lt_add_one, r1, hh, Ho_n H1, nI_leI, Nat.le_refl, if_true]
  · rw [if_pos e] at hQ
    rw [if_pos e]
    exact hQ
end U3
