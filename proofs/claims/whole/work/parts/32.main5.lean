/-! the class's calls, 5: the box, and from -/
def bxS (τ : Nat → Nat → Nat) (g i : Nat) : sT := hrN τ (min g 48) (upN (fun _ => 0) i 9, 0, 0)
def bxN (τ : Nat → Nat → Nat) (g : Nat) (ci cs : Nat → Nat) (cn : Nat) : Nat → Nat
  | 0 => 0
  | i + 1 => if hld ci cs (bxS τ g i).1 cn = true then bxN τ g ci cs cn i ||| 2 ^ i else bxN τ g ci cs cn i
theorem bxN_lt {τ : Nat → Nat → Nat} {g : Nat} {ci cs : Nat → Nat} {cn i : Nat} (h : i ≤ 9) : bxN τ g ci cs cn i < 512 := by
  induction i with
  | zero => exact (by decide : 0 < 512)
  | succ i ih =>
    have := ih (by omega)
    unfold bxN
    split
    · exact pow_l this (by omega)
    · exact this
theorem OKs_bx {τ : Nat → Nat → Nat} {i : Nat} : OKs (upN (fun _ => 0) i 9, 0, 0) := by
  refine ⟨fun j hj => ?_, (by decide : 0 < 512)⟩
  show upN (fun _ => 0) i 9 j ≤ 9
  unfold upN
  split
  · exact Nat.le_refl _
  · exact Nat.zero_le _
theorem min_nI {g : Nat} (h : g < 2 ^ 31) : (if nI 48 < nI g then nI 48 else nI g) = nI (min g 48) := by
  by_cases q : 48 < g
  · rw [if_pos ((nI_ltI (by decide) h).mpr q), Nat.min_eq_right (by omega)]
  · rw [if_neg (fun w => q ((nI_ltI (by decide) h).mp w)), Nat.min_eq_left (by omega)]
/-- the touches of an hour, and of the hours up to one, as they come -/
def thL (τ : Nat → Nat → Nat) (hr : Nat) : Nat → List (Nat × Nat)
  | 0 => []
  | n + 1 => thL τ hr n ++ (if τ 2 n = hr then [(τ 3 n, τ 4 n)] else [])
def tmL (τ : Nat → Nat → Nat) : Nat → List (Nat × Nat)
  | 0 => []
  | h + 1 => tmL τ h ++ thL τ h (τ 8 0)
def bst (q : Nat × Nat) (S : Nat) : Nat := if S.testBit q.1 = true ∨ S.testBit q.2 = true then S ||| (2 ^ q.1 ||| 2 ^ q.2) else S
def pFrom (τ : Nat → Nat → Nat) (x y : Int32) : Int32 := if hsB x (τ 7 0) = false ∨ hsB y 12 = false then -1 else nI ((tmL τ (y.toNatClampNeg + 1)).foldr bst (2 ^ x.toNatClampNeg))
theorem or_t0 : ∀ a : Fin 9, ∀ b : Fin 9, ((1 : Int32) <<< (nI a.val &&& 31) ||| (1 : Int32) <<< (nI b.val &&& 31)) = nI (2 ^ a.val ||| 2 ^ b.val) ∧ (2 ^ a.val ||| 2 ^ b.val) < 512 ∧ (1 : Int32) <<< (nI a.val &&& 31) = nI (2 ^ a.val) ∧ 2 ^ a.val < 512 := by decide +kernel
theorem or_t {a b : Nat} (ha : a < 9) (hb : b < 9) : ((1 : Int32) <<< (nI a &&& 31) ||| (1 : Int32) <<< (nI b &&& 31)) = nI (2 ^ a ||| 2 ^ b) := (or_t0 ⟨a, ha⟩ ⟨b, hb⟩).1
theorem or_l {a b : Nat} (ha : a < 9) (hb : b < 9) : (2 ^ a ||| 2 ^ b) < 512 := (or_t0 ⟨a, ha⟩ ⟨b, hb⟩).2.1
theorem sh_t {a : Nat} (ha : a < 9) : (1 : Int32) <<< (nI a &&& 31) = nI (2 ^ a) := (or_t0 ⟨a, ha⟩ ⟨a, ha⟩).2.2.1
theorem sh_l {a : Nat} (ha : a < 9) : 2 ^ a < 512 := (or_t0 ⟨a, ha⟩ ⟨a, ha⟩).2.2.2
theorem nI_or {a b : Nat} (ha : a < 512) (hb : b < 512) : nI a ||| nI b = nI (a ||| b) ∧ (a ||| b) < 512 := by
  have h : (a ||| b) < 2 ^ 9 := Nat.or_lt_two_pow ha hb
  refine ⟨?_, h⟩
  apply Int32.toBitVec_inj.mp
  apply BitVec.eq_of_toNat_eq
  rw [Int32.toBitVec_or, BitVec.toNat_or, pk_tn (by omega), pk_tn (by omega), pk_tn (by omega)]
theorem nI_an {a b : Nat} (ha : a < 512) (hb : b < 512) : (nI a &&& nI b = 0) = (a &&& b = 0) := by
  rw [nI_and a (by omega), pk_tn (by omega), lit_0, nI_eq (Nat.lt_of_le_of_lt Nat.and_le_left (by omega)) (by decide)]
theorem an_t {S a b : Nat} : ((S &&& (2 ^ a ||| 2 ^ b)) = 0) = ¬ (S.testBit a = true ∨ S.testBit b = true) := by
  refine propext ⟨fun h q => ?_, fun h => ?_⟩
  · rcases q with q | q
    · have : (S &&& (2 ^ a ||| 2 ^ b)).testBit a = true := by rw [Nat.testBit_and, Nat.testBit_or, q, Nat.testBit_two_pow_self]; rfl
      rw [h, Nat.zero_testBit] at this
      exact absurd this (by decide)
    · have : (S &&& (2 ^ a ||| 2 ^ b)).testBit b = true := by rw [Nat.testBit_and, Nat.testBit_or, q, Nat.testBit_two_pow_self, Bool.or_true]; rfl
      rw [h, Nat.zero_testBit] at this
      exact absurd this (by decide)
  · apply Nat.eq_of_testBit_eq
    intro i
    rw [Nat.zero_testBit, Nat.testBit_and, Nat.testBit_or, Nat.testBit_two_pow, Nat.testBit_two_pow]
    by_cases ea : a = i
    · subst ea
      have : S.testBit a = false := by simpa using fun q => h (Or.inl q)
      rw [this, Bool.false_and]
    · by_cases eb : b = i
      · subst eb
        have : S.testBit b = false := by simpa using fun q => h (Or.inr q)
        rw [this, Bool.false_and]
      · simp [ea, eb]
theorem bst_lt {S : Nat} {q : Nat × Nat} (hS : S < 512) (ha : q.1 < 9) (hb : q.2 < 9) : bst q S < 512 := by
  unfold bst
  split
  · exact (nI_or hS (or_l ha hb)).2
  · exact hS
def ix : Nat → Int32
  | 0 => -1
  | t + 1 => nI t
theorem ix_s (t : Nat) : ix (t + 1) = nI t := rfl
theorem ix_m (t : Nat) : nI t + (-1) = ix t := by
  cases t with
  | zero => decide
  | succ t => exact pk_m1 t
theorem ix_u (t : Nat) : nI t - 1 = ix t := by
  cases t with
  | zero => decide
  | succ t => exact pk_sub (a := t + 1) (b := 1) (by omega)
section U5
variable {z d G : Nat} {M : bM} {lt : Nat → Nat} {len : Nat} {τ τd : Nat → Nat → Nat} {σ : sT} {pa : Nat → sT} {ph : Nat} {ka : Nat → sT} {kh : Nat} {ci cs : Nat → Nat} {cn : Nat} {Q : bV → bM → Prop}
theorem uX7_box (C : CA M lt len τ τd σ pa ph ka kh ci cs cn) (V : VA G τ σ pa ph ka kh ci cs cn) (hG : G < 2 ^ 28)
    (hQ : ∀ M', CA M' lt len τ τd σ pa ph ka kh ci cs cn → Eqx clS M M' → Q (.inl (nI (bxN τ σ.2.2 ci cs cn (τ 7 0)))) M') : Run z (d + 6) 70 [vr 7 0] M Q := by
  obtain ⟨K, n1, hs, hg, -, -, vc⟩ := id V
  have hn := K.1
  rw [rX7_box]
  simp only [eX7_box_0, eX7_box_1, eX7_box_2, eX7_box_3, eX7_box_5, eX7_box_6, eX7_box_9, eX7_box_12, eX7_box_15, eX7_box_16, eX7_box_19, eX7_box_20, eX7_box_23, eX7_box_26, eX7_box_27, eX7_box_30, eX7_box_33, eX7_box_34, eX7_box_37, eX7_box_38, eX7_box_41, eX7_box_44, eX7_box_45, eX7_box_47, eX7_box_50, eX7_box_51, eX7_box_54, eX7_box_55, eX7_box_58, eX7_box_59, eX7_box_62, eX7_box_65, eX7_box_67, eX7_box_70, eX7_box_73, eX7_box_74, eX7_box_77, eX7_box_78, eX7_box_81, eX7_box_84, eX7_box_87, eX7_box_88, eX7_box_89, eX7_box_90, eX7_box_91, eX7_box_92, eX7_box_93, eX7_box_96, eX7_box_99, eX7_box_100, lit_0]
  have go : ∀ k N i, i + k = τ 7 0 → Eqx scr M N → ExG z (Run z (d + 5)) 7 1 false none cX7_box Q 4 [vr 7 0, .inl (nI (bxN τ σ.2.2 ci cs cn i)), .inl (nI i)] [] N := by
    intro k
    induction k with
    | zero =>
      intro N i hi E
      obtain ⟨h, hh, r1, r2, P, H1, H2, S, P0, P1, L⟩ := CA_scr C E
      have ei : i = τ 7 0 := hi
      subst ei
      rw [eX7_box_4]
      simp (disch := omega) only [eX7_box_0, eX7_box_1, eX7_box_2, eX7_box_3, eX7_box_5, eX7_box_6, eX7_box_9, eX7_box_12, eX7_box_15, eX7_box_16, eX7_box_19, eX7_box_20, eX7_box_23, eX7_box_26, eX7_box_27, eX7_box_30, eX7_box_33, eX7_box_34, eX7_box_37, eX7_box_38, eX7_box_41, eX7_box_44, eX7_box_45, eX7_box_47, eX7_box_50, eX7_box_51, eX7_box_54, eX7_box_55, eX7_box_58, eX7_box_59, eX7_box_62, eX7_box_65, eX7_box_67, eX7_box_70, eX7_box_73, eX7_box_74, eX7_box_77, eX7_box_78, eX7_box_81, eX7_box_84, eX7_box_87, eX7_box_88, eX7_box_89, eX7_box_90, eX7_box_91, eX7_box_92, eX7_box_93, eX7_box_96, eX7_box_99, eX7_box_100, cnt_0, cnt_1, cnt_2, cnt_3, cnt_4, cnt_5, cnt_6, cnt_7, cnt_8, cnt_9, cnt_10, cnt_11, true_and, Nat.lt_add_one, r1, hh, Ho_n H1, nI_leI, Nat.le_refl, if_true]
      exact hQ N (CA_scr C E) (cl_scr E)
    | succ k ih =>
      intro N i hi E
      obtain ⟨h, hh, r1, r2, P, H1, H2, S, P0, P1, L⟩ := CA_scr C E
      have hs2 : OKs (bxS τ σ.2.2 i) := OKs_hrN K (OKs_bx (τ := τ))
      have E3 : Eqx scr M (wSt N 1 (bxS τ σ.2.2 i)) := Eqx_tr E scr_w (fun _ _ q => q) (fun _ _ q => q)
      have L3 : Cl (wSt N 1 (bxS τ σ.2.2 i)) ci cs cn := Cl_e (S := scr) scr_w (fun c i q => by unfold cS at q; unfold scr; omega) L
      have go : ∀ Q, Run z (d + 5) 45 [vr 5 1, vr 1 h, .inl (nI (min σ.2.2 48))] (wSt N 1 (upN (fun _ => 0) i 9, 0, 0)) Q = Q vu (wSt N 1 (bxS τ σ.2.2 i)) := fun Q => tX5_goHours (by decide) hh H1 K (OKs_bx (τ := τ)) (by show 0 < 2 ^ 29; decide) (by omega)
      have fl : rset (wSt N 1 (τ 1, 0, 0)) (16 + 1) (aln (16 + 1)) (fun _ => nI 0) = wSt N 1 (fun _ => 0, 0, 0) := by rw [aln_st (by decide)]; exact wSt_rset (fun _ _ => rfl)
      have pt : rowPut (wSt N 1 (fun _ => 0, 0, 0)) (16 + 1) (nI i) (nI 9) = wSt N 1 (upN (fun _ => 0) i 9, 0, 0) := wSt_rowPut (by decide) (by omega)
      have gn : ∀ σ', gI (wSt N 1 σ') 5 0 3 = nI σ.2.2 := fun σ' => (wSt_o (by omega) (by omega)).trans S.2.2.2
      have hb := bxN_lt (τ := τ) (g := σ.2.2) (ci := ci) (cs := cs) (cn := cn) (show i ≤ 9 by omega)
      rw [eX7_box_4]
      simp (disch := omega) only [eX7_box_0, eX7_box_1, eX7_box_2, eX7_box_3, eX7_box_5, eX7_box_6, eX7_box_9, eX7_box_12, eX7_box_15, eX7_box_16, eX7_box_19, eX7_box_20, eX7_box_23, eX7_box_26, eX7_box_27, eX7_box_30, eX7_box_33, eX7_box_34, eX7_box_37, eX7_box_38, eX7_box_41, eX7_box_44, eX7_box_45, eX7_box_47, eX7_box_50, eX7_box_51, eX7_box_54, eX7_box_55, eX7_box_58, eX7_box_59, eX7_box_62, eX7_box_65, eX7_box_67, eX7_box_70, eX7_box_73, eX7_box_74, eX7_box_77, eX7_box_78, eX7_box_81, eX7_box_84, eX7_box_87, eX7_box_88, eX7_box_89, eX7_box_90, eX7_box_91, eX7_box_92, eX7_box_93, eX7_box_96, eX7_box_99, eX7_box_100, cnt_0, cnt_1, cnt_2, cnt_3, cnt_4, cnt_5, cnt_6, cnt_7, cnt_8, cnt_9, cnt_10, cnt_11, true_and, Nat.lt_add_one, Nat.reduceLT, r1, hh, Ho_n H1, nI_leI, if_neg (show ¬ τ 7 0 ≤ i by omega), tX5_begin (show 1 < 12 by decide) hh H1, psh_u, tX4_fill (show 16 + 1 < 32 by decide), lt_st (show 1 < 12 by decide), lit_0, fl, lit_9, tX4_put, pt, gR_wSt, gn, show (48 : Int32) = nI 48 from rfl, min_nI (show σ.2.2 < 2 ^ 31 by omega), go, psh_i, tX0_hold L3 (fun j hj => Nat.lt_of_lt_of_le (vc j hj).1 hn) (fun j hj => (vc j hj).2) (show 1 < 12 by decide) (St_wSt _ _ _) hs2, bi_0n, nI_1]
      have nx := ih (wSt N 1 (bxS τ σ.2.2 i)) (i + 1) (by omega) E3
      unfold bxN at nx
      by_cases c : hld ci cs (bxS τ σ.2.2 i).1 cn = true
      · rw [if_pos c] at nx
        rw [c, if_neg (by decide), lit_1, ← lit_1, pow_o hb (by omega)]
        exact nx
      · rw [if_neg c] at nx
        rw [eq_false_of_ne_true c, if_pos rfl]
        exact nx
  exact go (τ 7 0) M 0 (by omega) Eqx_rf
theorem uX7_from {x y : Int32} (C : CA M lt len τ τd σ pa ph ka kh ci cs cn) (V : VA G τ σ pa ph ka kh ci cs cn) (hQ : Q (.inl (pFrom τ x y)) M) : Run z (d + 3) 71 [vr 7 0, .inl x, .inl y] M Q := by
  obtain ⟨h, hh, r1, r2, P, H1, H2, S, P0, P1, L⟩ := id C
  obtain ⟨K, n1, hs, hg, -⟩ := V
  have hn := K.1
  have ht := K.2.1
  rw [rX7_from]
  simp only [eX7_from_0, eX7_from_1, eX7_from_4, eX7_from_5, eX7_from_8, eX7_from_11, eX7_from_12, eX7_from_15, eX7_from_18, eX7_from_19, eX7_from_20, eX7_from_21, eX7_from_22, eX7_from_23, eX7_from_24, eX7_from_25, eX7_from_29, eX7_from_32, eX7_from_33, eX7_from_36, eX7_from_39, eX7_from_40, eX7_from_41, eX7_from_45, eX7_from_48, eX7_from_49, eX7_from_50, eX7_from_53, eX7_from_56, eX7_from_58, eX7_from_61, eX7_from_62, eX7_from_63, eX7_from_64, eX7_from_67, eX7_from_70, eX7_from_72, eX7_from_75, eX7_from_76, eX7_from_77, eX7_from_79, eX7_from_80, eX7_from_83, eX7_from_86, eX7_from_88, eX7_from_91, eX7_from_93, eX7_from_96, eX7_from_97, eX7_from_99, eX7_from_100, eX7_from_103, eX7_from_104, eX7_from_106, eX7_from_107, eX7_from_108, eX7_from_111, eX7_from_114, eX7_from_117, eX7_from_120, eX7_from_121, cnt_0, cnt_1, cnt_2, cnt_3, cnt_4, cnt_5, cnt_6, cnt_7, cnt_8, cnt_9, cnt_10, cnt_11, true_and, Nat.lt_add_one, r1, hh, tX1_has hh H1, psh_i, bi_0, tX7_isHour]
  unfold pFrom at hQ
  rcases hsB_cases x (n := τ 7 0) (by omega) with ⟨i, hi, rfl, e⟩ | e
  · rcases hsB_cases y (n := 12) (by decide) with ⟨hr, hr', rfl, e2⟩ | e2
    · rw [if_neg (by simp [e, e2]), nI_clamp (by omega), nI_clamp (by omega)] at hQ
      rw [e, e2, if_neg (by decide), if_neg (by decide), sh_t (by omega)]
      have inn : ∀ k, k < 12 → ∀ t S a6, t ≤ τ 8 0 → S < 512 → (∀ a6, ((thL τ k t).foldr bst S) < 512 → ExG z (Run z (d + 2)) 7 1 false none cX7_from Q 43 [vr 7 0, .inl (nI i), .inl (nI hr), .inl (nI ((thL τ k t).foldr bst S)), .inl (nI k), .inl (-1), a6] [] M) → ExG z (Run z (d + 2)) 7 1 false none cX7_from Q 43 [vr 7 0, .inl (nI i), .inl (nI hr), .inl (nI S), .inl (nI k), .inl (ix t), a6] [] M := by
        intro k hk t
        induction t with
        | zero =>
          intro S a6 _ hS hf
          exact hf a6 hS
        | succ t ih =>
          intro S a6 h1 hS hf
          obtain ⟨w1, w2, w3, w4⟩ := K.2.2.2.2.2.2.1 t (by omega)
          have u1 : rowAt M (4 + 7 * h) (nI t) = nI (τ 2 t) := Ho_th hh H1 (by omega)
          have u2 : rowAt M (5 + 7 * h) (nI t) = nI (τ 3 t) := Ho_ta hh H1 (by omega)
          have u3 : rowAt M (6 + 7 * h) (nI t) = nI (τ 4 t) := Ho_tb hh H1 (by omega)
          have mo := or_t (show τ 3 t < 9 by omega) (show τ 4 t < 9 by omega)
          have ml := or_l (show τ 3 t < 9 by omega) (show τ 4 t < 9 by omega)
          obtain ⟨o1, o2⟩ := nI_or hS ml
          rw [eX7_from_43]
          simp (disch := omega) only [eX7_from_0, eX7_from_1, eX7_from_4, eX7_from_5, eX7_from_8, eX7_from_11, eX7_from_12, eX7_from_15, eX7_from_18, eX7_from_19, eX7_from_20, eX7_from_21, eX7_from_22, eX7_from_23, eX7_from_24, eX7_from_25, eX7_from_29, eX7_from_32, eX7_from_33, eX7_from_36, eX7_from_39, eX7_from_40, eX7_from_41, eX7_from_45, eX7_from_48, eX7_from_49, eX7_from_50, eX7_from_53, eX7_from_56, eX7_from_58, eX7_from_61, eX7_from_62, eX7_from_63, eX7_from_64, eX7_from_67, eX7_from_70, eX7_from_72, eX7_from_75, eX7_from_76, eX7_from_77, eX7_from_79, eX7_from_80, eX7_from_83, eX7_from_86, eX7_from_88, eX7_from_91, eX7_from_93, eX7_from_96, eX7_from_97, eX7_from_99, eX7_from_100, eX7_from_103, eX7_from_104, eX7_from_106, eX7_from_107, eX7_from_108, eX7_from_111, eX7_from_114, eX7_from_117, eX7_from_120, eX7_from_121, cnt_0, cnt_1, cnt_2, cnt_3, cnt_4, cnt_5, cnt_6, cnt_7, cnt_8, cnt_9, cnt_10, cnt_11, true_and, Nat.lt_add_one, ix_s, if_neg (nI_pos (show t < 2 ^ 31 by omega)), r1, hh, lt_h2 hh, lt_h3 hh, lt_h4 hh, tX4_at, u1, u2, u3, psh_i, mo, nI_eq, nI_an hS ml, an_t, o1, ix_m]
          rw [thL, List.foldr_append] at hf
          by_cases c : τ 2 t = k
          · rw [if_pos c] at hf ⊢
            have e1 : List.foldr bst S [(τ 3 t, τ 4 t)] = if S.testBit (τ 3 t) = true ∨ S.testBit (τ 4 t) = true then S ||| (2 ^ τ 3 t ||| 2 ^ τ 4 t) else S := rfl
            rw [e1] at hf
            by_cases c2 : S.testBit (τ 3 t) = true ∨ S.testBit (τ 4 t) = true
            · rw [if_pos c2] at hf
              rw [if_neg (not_not_intro c2)]
              exact ih _ _ (by omega) o2 hf
            · rw [if_neg c2] at hf
              rw [if_pos c2]
              exact ih _ _ (by omega) hS hf
          · rw [if_neg c] at hf ⊢
            exact ih _ _ (by omega) hS hf
      have out : ∀ k S a5 a6, k ≤ 12 → S < 512 → (tmL τ k).foldr bst S = (tmL τ (hr + 1)).foldr bst (2 ^ i) → ExG z (Run z (d + 2)) 7 1 false none cX7_from Q 27 [vr 7 0, .inl (nI i), .inl (nI hr), .inl (nI S), .inl (ix k), a5, a6] [] M := by
        intro k
        induction k with
        | zero =>
          intro S a5 a6 _ hS es
          rw [eX7_from_27]
          simp only [eX7_from_0, eX7_from_1, eX7_from_4, eX7_from_5, eX7_from_8, eX7_from_11, eX7_from_12, eX7_from_15, eX7_from_18, eX7_from_19, eX7_from_20, eX7_from_21, eX7_from_22, eX7_from_23, eX7_from_24, eX7_from_25, eX7_from_29, eX7_from_32, eX7_from_33, eX7_from_36, eX7_from_39, eX7_from_40, eX7_from_41, eX7_from_45, eX7_from_48, eX7_from_49, eX7_from_50, eX7_from_53, eX7_from_56, eX7_from_58, eX7_from_61, eX7_from_62, eX7_from_63, eX7_from_64, eX7_from_67, eX7_from_70, eX7_from_72, eX7_from_75, eX7_from_76, eX7_from_77, eX7_from_79, eX7_from_80, eX7_from_83, eX7_from_86, eX7_from_88, eX7_from_91, eX7_from_93, eX7_from_96, eX7_from_97, eX7_from_99, eX7_from_100, eX7_from_103, eX7_from_104, eX7_from_106, eX7_from_107, eX7_from_108, eX7_from_111, eX7_from_114, eX7_from_117, eX7_from_120, eX7_from_121, ix, show ((-1 : Int32) < 0) = True from eq_true (by decide), if_true]
          have e1 : S = (tmL τ (hr + 1)).foldr bst (2 ^ i) := es
          rw [e1]
          exact hQ
        | succ k ih =>
          intro S a5 a6 hk hS es
          rw [eX7_from_27]
          simp (disch := omega) only [eX7_from_0, eX7_from_1, eX7_from_4, eX7_from_5, eX7_from_8, eX7_from_11, eX7_from_12, eX7_from_15, eX7_from_18, eX7_from_19, eX7_from_20, eX7_from_21, eX7_from_22, eX7_from_23, eX7_from_24, eX7_from_25, eX7_from_29, eX7_from_32, eX7_from_33, eX7_from_36, eX7_from_39, eX7_from_40, eX7_from_41, eX7_from_45, eX7_from_48, eX7_from_49, eX7_from_50, eX7_from_53, eX7_from_56, eX7_from_58, eX7_from_61, eX7_from_62, eX7_from_63, eX7_from_64, eX7_from_67, eX7_from_70, eX7_from_72, eX7_from_75, eX7_from_76, eX7_from_77, eX7_from_79, eX7_from_80, eX7_from_83, eX7_from_86, eX7_from_88, eX7_from_91, eX7_from_93, eX7_from_96, eX7_from_97, eX7_from_99, eX7_from_100, eX7_from_103, eX7_from_104, eX7_from_106, eX7_from_107, eX7_from_108, eX7_from_111, eX7_from_114, eX7_from_117, eX7_from_120, eX7_from_121, cnt_0, cnt_1, cnt_2, cnt_3, cnt_4, cnt_5, cnt_6, cnt_7, cnt_8, cnt_9, cnt_10, cnt_11, true_and, Nat.lt_add_one, ix_s, if_neg (nI_pos (show k < 2 ^ 31 by omega)), r1, hh, Ho_t H1, ix_u]
          refine inn k (by omega) (τ 8 0) S _ (by omega) hS (fun a6 hl => ?_)
          rw [eX7_from_43]
          simp (disch := omega) only [eX7_from_0, eX7_from_1, eX7_from_4, eX7_from_5, eX7_from_8, eX7_from_11, eX7_from_12, eX7_from_15, eX7_from_18, eX7_from_19, eX7_from_20, eX7_from_21, eX7_from_22, eX7_from_23, eX7_from_24, eX7_from_25, eX7_from_29, eX7_from_32, eX7_from_33, eX7_from_36, eX7_from_39, eX7_from_40, eX7_from_41, eX7_from_45, eX7_from_48, eX7_from_49, eX7_from_50, eX7_from_53, eX7_from_56, eX7_from_58, eX7_from_61, eX7_from_62, eX7_from_63, eX7_from_64, eX7_from_67, eX7_from_70, eX7_from_72, eX7_from_75, eX7_from_76, eX7_from_77, eX7_from_79, eX7_from_80, eX7_from_83, eX7_from_86, eX7_from_88, eX7_from_91, eX7_from_93, eX7_from_96, eX7_from_97, eX7_from_99, eX7_from_100, eX7_from_103, eX7_from_104, eX7_from_106, eX7_from_107, eX7_from_108, eX7_from_111, eX7_from_114, eX7_from_117, eX7_from_120, eX7_from_121, show ((-1 : Int32) < 0) = True from eq_true (by decide), if_true, ix_m]
          rw [tmL, List.foldr_append] at es
          exact ih _ _ _ (by omega) hl es
      have := out (hr + 1) (2 ^ i) vu vu (by omega) (sh_l (by omega)) rfl
      rw [ix_s] at this
      exact this
    · rw [if_pos (Or.inr e2)] at hQ
      rw [e, e2, if_neg (by decide), if_pos rfl]
      exact hQ
  · rw [if_pos (Or.inl e)] at hQ
    rw [e, if_pos rfl]
    exact hQ
end U5
