/-! the model's state whole, and its calls, 1 -/
def MPg (M : bM) (lt : Nat → Nat) (len : Nat) : Prop := gI M 8 0 1 = nI len ∧ len ≤ 200 ∧ ∀ j, j < len → gI M 11 0 j = nI (lt j) ∧ lt j < 128
def MIs (M : bM) (f a n : Nat) (img : Nat → sT) (h cap : Nat) : Prop := gI M 8 0 f = nI h ∧ h ≤ cap ∧ ∀ j, j < h → MI M a (11 * j) n (img j)
def MCl (M : bM) (ci cs : Nat → Nat) (cn : Nat) : Prop := gI M 8 0 10 = nI cn ∧ cn ≤ 6 ∧ ∀ j, j < cn → gI M 11 6 j = nI (10 * ci j + cs j)
def MA (M : bM) (lt : Nat → Nat) (len : Nat) (τ : Nat → Nat → Nat) (σ : sT) (pa : Nat → sT) (ph : Nat) (ka : Nat → sT) (kh : Nat) (ci cs : Nat → Nat) (cn : Nat) : Prop :=
  MPg M lt len ∧ MT M 1 τ ∧ MS M (τ 7 0) σ ∧ MIs M 6 4 (τ 7 0) pa ph 8 ∧ MIs M 8 5 (τ 7 0) ka kh 2 ∧ MCl M ci cs cn
def mdS (c i : Nat) : Prop := c = 8 ∨ c = 11
/-- only the arrays in A and the fields in F of the model may be other -/
def Mx (A F : Nat → Prop) (M M' : bM) : Prop := (∀ c i j, ¬ mdS c i → gI M' c i j = gI M c i j) ∧ (∀ a j, ¬ A a → gI M' 11 a j = gI M 11 a j) ∧ (∀ j, ¬ F j → gI M' 8 0 j = gI M 8 0 j) ∧ ∀ c i j, gR M' c i j = gR M c i j
theorem Mx_E {A F : Nat → Prop} {M M' : bM} (h : Mx A F M M') : Eqx mdS M M' := fun c i j q => ⟨h.1 c i j q, h.2.2.2 c i j⟩
theorem Mx_rf {A F : Nat → Prop} {M : bM} : Mx A F M M := ⟨fun _ _ _ _ => rfl, fun _ _ _ => rfl, fun _ _ => rfl, fun _ _ _ => rfl⟩
theorem Mx_tr {A F : Nat → Prop} {M M1 M2 : bM} (h1 : Mx A F M M1) (h2 : Mx A F M1 M2) : Mx A F M M2 :=
  ⟨fun c i j q => (h2.1 c i j q).trans (h1.1 c i j q), fun a j q => (h2.2.1 a j q).trans (h1.2.1 a j q), fun j q => (h2.2.2.1 j q).trans (h1.2.2.1 j q), fun c i j => (h2.2.2.2 c i j).trans (h1.2.2.2 c i j)⟩
theorem Mx_mo {A F A' F' : Nat → Prop} {M M1 : bM} (h1 : Mx A F M M1) (ha : ∀ a, A a → A' a) (hf : ∀ a, F a → F' a) : Mx A' F' M M1 :=
  ⟨h1.1, fun a j q => h1.2.1 a j (fun w => q (ha a w)), fun j q => h1.2.2.1 j (fun w => q (hf j w)), h1.2.2.2⟩
theorem Mx_a {A F : Nat → Prop} {M : bM} {a j : Nat} {v : Int32} (h : A a) : Mx A F M (sI M 11 a j v) := by
  refine ⟨fun c i j' q => ?_, fun a' j' q => ?_, fun j' q => ?_, fun _ _ _ => rfl⟩
  · rw [gI_sI, if_neg (by rintro ⟨rfl, -⟩; exact q (Or.inr rfl))]
  · rw [gI_sI, if_neg (by rintro ⟨-, rfl, -⟩; exact q h)]
  · rw [gI_sI, if_neg (by omega)]
theorem Mx_f {A F : Nat → Prop} {M : bM} {f : Nat} {v : Int32} (h : F f) : Mx A F M (sI M 8 0 f v) := by
  refine ⟨fun c i j' q => ?_, fun a' j' q => ?_, fun j' q => ?_, fun _ _ _ => rfl⟩
  · rw [gI_sI, if_neg (by rintro ⟨rfl, -⟩; exact q (Or.inl rfl))]
  · rw [gI_sI, if_neg (by omega)]
  · rw [gI_sI, if_neg (by rintro ⟨-, -, rfl⟩; exact q h)]
theorem Mx_w {A F : Nat → Prop} {M : bM} {n : Nat} {σ : sT} (h : A 3) : Mx A F M (wMs M n σ) := by
  refine ⟨fun c i j' q => wMs_o (by rintro ⟨rfl, rfl⟩; exact q (Or.inr rfl)), fun a' j' q => wMs_o (by rintro ⟨-, rfl⟩; exact q h), fun j' q => wMs_o (by omega), fun _ _ _ => rfl⟩
/-- an array's places from lo on, n of them, set anew -/
def aset (M : bM) (a lo n : Nat) (f : Nat → Int32) : bM := (fun c i j => if c = 11 ∧ i = a ∧ lo ≤ j ∧ j < lo + n then f j else M.1 c i j, M.2)
theorem gI_aset (M : bM) (a lo n : Nat) (f : Nat → Int32) (c i j : Nat) : gI (aset M a lo n f) c i j = if c = 11 ∧ i = a ∧ lo ≤ j ∧ j < lo + n then f j else gI M c i j := rfl
theorem aset_0 (M : bM) (a lo : Nat) (f : Nat → Int32) : aset M a lo 0 f = M := by
  refine bM_ext (fun c i j => ?_) (fun c i j => rfl)
  rw [gI_aset, if_neg (by omega)]
theorem aset_s (M : bM) (a lo n : Nat) (f : Nat → Int32) {v : Int32} (hv : v = f (lo + n)) : sI (aset M a lo n f) 11 a (lo + n) v = aset M a lo (n + 1) f := by
  subst hv
  refine bM_ext (fun c i j => ?_) (fun c i j => rfl)
  rw [gI_sI, gI_aset, gI_aset]
  by_cases h : c = 11 ∧ i = a ∧ j = lo + n
  · obtain ⟨rfl, rfl, rfl⟩ := h
    rw [if_pos ⟨rfl, rfl, rfl⟩, if_pos ⟨rfl, rfl, by omega, by omega⟩]
  · rw [if_neg h]
    by_cases h2 : c = 11 ∧ i = a ∧ lo ≤ j ∧ j < lo + n
    · rw [if_pos h2, if_pos ⟨h2.1, h2.2.1, h2.2.2.1, by omega⟩]
    · rw [if_neg h2, if_neg (fun q => h2 ⟨q.1, q.2.1, q.2.2.1, by have := fun e => h ⟨q.1, q.2.1, e⟩; omega⟩)]
theorem Mx_as {A F : Nat → Prop} {M : bM} {a lo n : Nat} {f : Nat → Int32} (h : A a) : Mx A F M (aset M a lo n f) := by
  refine ⟨fun c i j' q => ?_, fun a' j' q => ?_, fun j' q => ?_, fun _ _ _ => rfl⟩
  · rw [gI_aset, if_neg (by rintro ⟨rfl, -⟩; exact q (Or.inr rfl))]
  · rw [gI_aset, if_neg (by rintro ⟨-, rfl, -⟩; exact q h)]
  · rw [gI_aset, if_neg (by omega)]
theorem MPg_x {A F : Nat → Prop} {M M' : bM} {lt : Nat → Nat} {len : Nat} (e : Mx A F M M') (h0 : ¬ A 0) (h1 : ¬ F 1) (H : MPg M lt len) : MPg M' lt len :=
  ⟨(e.2.2.1 _ h1).trans H.1, H.2.1, fun j hj => ⟨(e.2.1 _ _ h0).trans (H.2.2 j hj).1, (H.2.2 j hj).2⟩⟩
theorem MT_x {A F : Nat → Prop} {M M' : bM} {a : Nat} {τ : Nat → Nat → Nat} (e : Mx A F M M') (h : ¬ A a) (H : MT M a τ) : MT M' a τ := by
  obtain ⟨h1, h2, h3, h4, h5, h6, h7, h8⟩ := H
  exact ⟨(e.2.1 _ _ h).trans h1, (e.2.1 _ _ h).trans h2, (e.2.1 _ _ h).trans h3, (e.2.1 _ _ h).trans h4, fun i q => (e.2.1 _ _ h).trans (h5 i q), fun i q => (e.2.1 _ _ h).trans (h6 i q), fun i q => ⟨(e.2.1 _ _ h).trans (h7 i q).1, (e.2.1 _ _ h).trans (h7 i q).2.1, (e.2.1 _ _ h).trans (h7 i q).2.2⟩, fun i q => ⟨(e.2.1 _ _ h).trans (h8 i q).1, (e.2.1 _ _ h).trans (h8 i q).2⟩⟩
theorem MI_x {A F : Nat → Prop} {M M' : bM} {a o n : Nat} {σ : sT} (e : Mx A F M M') (h : ¬ A a) (H : MI M a o n σ) : MI M' a o n σ :=
  ⟨fun i q => (e.2.1 _ _ h).trans (H.1 i q), (e.2.1 _ _ h).trans H.2.1, (e.2.1 _ _ h).trans H.2.2⟩
theorem MS_x {A F : Nat → Prop} {M M' : bM} {n : Nat} {σ : sT} (e : Mx A F M M') (h : ¬ A 3) (H : MS M n σ) : MS M' n σ :=
  ⟨fun i q => (e.2.1 _ _ h).trans (H.1 i q), (e.2.1 _ _ h).trans H.2.1, (e.2.1 _ _ h).trans H.2.2⟩
theorem MIs_x {A F : Nat → Prop} {M M' : bM} {f a n h cap : Nat} {img : Nat → sT} (e : Mx A F M M') (hA : ¬ A a) (hF : ¬ F f) (H : MIs M f a n img h cap) : MIs M' f a n img h cap :=
  ⟨(e.2.2.1 _ hF).trans H.1, H.2.1, fun j hj => MI_x e hA (H.2.2 j hj)⟩
theorem MCl_x {A F : Nat → Prop} {M M' : bM} {ci cs : Nat → Nat} {cn : Nat} (e : Mx A F M M') (hA : ¬ A 6) (hF : ¬ F 10) (H : MCl M ci cs cn) : MCl M' ci cs cn :=
  ⟨(e.2.2.1 _ hF).trans H.1, H.2.1, fun j hj => (e.2.1 _ _ hA).trans (H.2.2 j hj)⟩
theorem MA_cl {M M' : bM} {lt : Nat → Nat} {len : Nat} {τ : Nat → Nat → Nat} {σ : sT} {pa : Nat → sT} {ph : Nat} {ka : Nat → sT} {kh : Nat} {ci cs : Nat → Nat} {cn : Nat} (e : Eqx clS M M') (H : MA M lt len τ σ pa ph ka kh ci cs cn) : MA M' lt len τ σ pa ph ka kh ci cs cn := by
  have x : Mx (fun _ => False) (fun _ => False) M (M'.1, M.2) → True := fun _ => trivial
  have e8 : ∀ j, gI M' 8 0 j = gI M 8 0 j := fun j => (e 8 0 j (by unfold clS; omega)).1
  have e11 : ∀ a j, gI M' 11 a j = gI M 11 a j := fun a j => (e 11 a j (by unfold clS; omega)).1
  obtain ⟨P, T, S, P0, P1, L⟩ := H
  refine ⟨⟨(e8 _).trans P.1, P.2.1, fun j hj => ⟨(e11 _ _).trans (P.2.2 j hj).1, (P.2.2 j hj).2⟩⟩, MT_e e (by unfold clS; omega) T, MS_e e (by unfold clS; omega) S, ⟨(e8 _).trans P0.1, P0.2.1, fun j hj => MI_e e (by unfold clS; omega) (P0.2.2 j hj)⟩, ⟨(e8 _).trans P1.1, P1.2.1, fun j hj => MI_e e (by unfold clS; omega) (P1.2.2 j hj)⟩, ⟨(e8 _).trans L.1, L.2.1, fun j hj => (e11 _ _).trans (L.2.2 j hj)⟩⟩
section M1
variable {d G : Nat} {M : bM} {lt : Nat → Nat} {len : Nat} {τ : Nat → Nat → Nat} {σ : sT} {pa : Nat → sT} {ph : Nat} {ka : Nat → sT} {kh : Nat} {ci cs : Nat → Nat} {cn : Nat} {Q : bV → bM → Prop}
theorem hs_in {x : Int32} {n : Nat} (hn : n + 1 < 2 ^ 31) : inB x (nI 0) (nI n) = hsB x (n + 1) := in_hs (x := x) (n := n + 1) (by omega) hn
theorem ei_in {x : Int32} : inB x (nI 0) (nI 1) = eiB x := by
  rw [hs_in (by decide)]
  rcases hsB_cases x (n := 2) (by decide) with ⟨j, hj, rfl, e⟩ | e
  · rw [e]
    match j, hj with
    | 0, _ => rfl
    | 1, _ => rfl
  · rw [e]
    rcases eiB_cases x with ⟨rfl, -⟩ | ⟨rfl, -⟩ | h
    · exact absurd e (by decide)
    · exact absurd e (by decide)
    · exact h.symm
theorem vX8_write {x : Int32} (C : MA M lt len τ σ pa ph ka kh ci cs cn)
    (hQ : ((x < 32 ∨ 126 < x) → Q (.inl (-1)) M) ∧ (¬ (x < 32 ∨ 126 < x) → (len = 200 → Q (.inl (-3)) M) ∧ (¬ len = 200 → ∀ M', MA M' (upN lt len x.toNatClampNeg) (len + 1) τ σ pa ph ka kh ci cs cn → Eqx mdS M M' → Q (.inl (nI (len + 1))) M'))) : Run 1 (d + 2) 93 [vr 8 0, .inl x] M Q := by
  obtain ⟨P, T, S, P0, P1, L⟩ := id C
  rw [rX8_write]
  simp only [eX8_write_0, eX8_write_1, eX8_write_3, eX8_write_5, eX8_write_8, eX8_write_11, eX8_write_12, eX8_write_13, eX8_write_14, eX8_write_17, eX8_write_20, eX8_write_23, eX8_write_25, eX8_write_26, eX8_write_27, eX8_write_30, eX8_write_31, eX8_write_34, eX8_write_35, eX8_write_36, eX8_write_37, eX8_write_37r, eX8_write_38, eX8_write_41, eX8_write_42, eX8_write_43, eX8_write_46, eX8_write_47, eX8_write_50, c8_, c11_0, c11_1, c11_2, c11_3, c11_4, c11_5, c11_6, c11_7, c11_8, c11_9, alm_0, alm_1, alm_2, alm_3, alm_4, alm_5, alm_6, alm_7, alm_8, alm_9, vT, true_and, tX8_in, psh_i, bi_0]
  by_cases a : x < 32 ∨ 126 < x
  · have e : inB x 32 126 = false := by
      unfold inB
      rcases a with a | a
      · rw [decide_eq_false (not_not_intro a), Bool.false_and]
      · rw [decide_eq_false (not_not_intro a), Bool.and_false]
    rw [if_pos e]
    exact hQ.1 a
  · have hQ := hQ.2 a
    have a1 : ¬ x < 32 := fun q => a (Or.inl q)
    have a2 : ¬ 126 < x := fun q => a (Or.inr q)
    have e : inB x 32 126 = true := by
      unfold inB
      rw [decide_eq_true a1, decide_eq_true a2]; rfl
    obtain ⟨v, hv, rfl⟩ : ∃ v, v < 127 ∧ x = nI v := by
      rcases pk_ix x (n := 127) (by decide) with q | q | q
      · exfalso
        apply a1
        rw [Int32.lt_iff_toInt_lt] at q ⊢
        simp at q ⊢
        omega
      · exfalso
        apply a2
        rw [Int32.le_iff_toInt_le, nI_toInt (by decide)] at q
        rw [Int32.lt_iff_toInt_lt]
        simp
        omega
      · exact q
    have hl := P.2.1
    rw [e, if_neg (by decide)]
    simp (disch := omega) only [P.1, lit_200, nI_eq]
    by_cases q : len = 200
    · rw [if_pos q]
      exact hQ.1 q
    · rw [if_neg q]
      have x1 : Mx (fun a => a = 0) (fun f => f = 1) M (sI (sI M 11 0 len (nI v)) 8 0 1 (nI (len + 1))) := Mx_tr (Mx_a rfl) (Mx_f rfl)
      have e81 : ∀ {M : bM} {v w : Int32} {l : Nat}, gI M 8 0 1 = w → gI (sI M 11 0 l v) 8 0 1 = w := fun h => by rw [gI_sI, if_neg (by omega)]; exact h
      simp (disch := omega) only [vT, nI_clamp, true_and, e81 P.1, nI_1, gI_sI, and_self, if_true]
      refine hQ.2 q _ ?_ (Mx_E x1)
      rw [nI_clamp (by omega)]
      refine ⟨⟨by rw [gI_sI, if_pos ⟨rfl, rfl, rfl⟩], by omega, fun j hj => ?_⟩, MT_x x1 (by omega) T, MS_x x1 (by omega) S, MIs_x x1 (by omega) (by omega) P0, MIs_x x1 (by omega) (by omega) P1, MCl_x x1 (by omega) (by omega) L⟩
      rw [gI_sI, if_neg (by omega), gI_sI]
      unfold upN
      by_cases w : j = len
      · rw [if_pos ⟨rfl, rfl, w⟩, if_pos w]; exact ⟨rfl, by omega⟩
      · rw [if_neg (by omega), if_neg w]; exact P.2.2 j (by omega)
theorem vX8_wipe (C : MA M lt len τ σ pa ph ka kh ci cs cn) (hQ : ∀ M', MA M' lt 0 τ σ pa ph ka kh ci cs cn → Eqx mdS M M' → Q (.inl (nI len)) M') : Run 1 (d + 1) 94 [vr 8 0] M Q := by
  obtain ⟨P, T, S, P0, P1, L⟩ := id C
  rw [rX8_wipe]
  simp only [eX8_wipe_0, eX8_wipe_1, eX8_wipe_4, eX8_wipe_5, eX8_wipe_6, eX8_wipe_7, eX8_wipe_10, eX8_wipe_11, c8_, c11_0, c11_1, c11_2, c11_3, c11_4, c11_5, c11_6, c11_7, c11_8, c11_9, alm_0, alm_1, alm_2, alm_3, alm_4, alm_5, alm_6, alm_7, alm_8, alm_9, vT, true_and, P.1, lit_0]
  have x1 : Mx (fun a => a = 99) (fun f => f = 1) M (sI M 8 0 1 (nI 0)) := Mx_f rfl
  exact hQ _ ⟨⟨by rw [gI_sI, if_pos ⟨rfl, rfl, rfl⟩], by decide, fun j hj => by omega⟩, MT_x x1 (by omega) T, MS_x x1 (by omega) S, MIs_x x1 (by omega) (by omega) P0, MIs_x x1 (by omega) (by omega) P1, MCl_x x1 (by omega) (by omega) L⟩ (Mx_E x1)
theorem vX8_item {x w : Int32} (C : MA M lt len τ σ pa ph ka kh ci cs cn) (V : VA G τ σ pa ph ka kh ci cs cn) (hQ : Q (.inl (pItem τ σ x w)) M) : Run 1 (d + 4) 108 [vr 8 0, .inl x, .inl w] M Q := by
  obtain ⟨P, T, S, P0, P1, L⟩ := id C
  obtain ⟨K, n1, hs, hg, -⟩ := V
  have hn := K.1
  rw [rX8_item]
  simp only [eX8_item_0, eX8_item_1, eX8_item_2, eX8_item_5, eX8_item_8, eX8_item_9, eX8_item_10, eX8_item_11, eX8_item_44, eX8_item_45, eX8_item_48, eX8_item_49, eX8_item_50, eX8_item_51, eX8_item_52, eX8_item_53, eX8_item_54, eX8_item_57, eX8_item_58, eX8_item_59, eX8_item_60, eX8_item_61, eX8_item_62, eX8_item_65, eX8_item_66, eX8_item_67, eX8_item_68, eX8_item_71, eX8_item_74, eX8_item_75, eX8_item_78, eX8_item_79, eX8_item_80, eX8_item_81, eX8_item_84, eX8_item_86, eX8_item_87, eX8_item_88, eX8_item_89, eX8_item_90, eX8_item_91, eX8_item_92, eX8_item_93, c8_, c11_0, c11_1, c11_2, c11_3, c11_4, c11_5, c11_6, c11_7, c11_8, c11_9, alm_0, alm_1, alm_2, alm_3, alm_4, alm_5, alm_6, alm_7, alm_8, alm_9, vT, true_and, tX8_isItem T K n1, psh_i, bi_0]
  unfold pItem at hQ
  rcases hsB_cases x (n := τ 7 0) (by omega) with ⟨j, hj, rfl, e⟩ | e
  · rw [e, if_neg (by decide), nI_clamp (by omega)] at hQ
    rw [e, if_neg (by decide)]
    simp (disch := omega) only [lit_4, lit_9, lit_1, lit_0, nI_add, vT, true_and, nI_clamp, T.2.2.2.2.1 j hj, S.1 j hj, tX8_seen S hn hs hj, tX8_isPerson T K n1, hpB_nI K, psh_i, bi_0n, S.2.1, eX8_item_0, eX8_item_1, eX8_item_2, eX8_item_5, eX8_item_8, eX8_item_9, eX8_item_10, eX8_item_11, eX8_item_44, eX8_item_45, eX8_item_48, eX8_item_49, eX8_item_50, eX8_item_51, eX8_item_52, eX8_item_53, eX8_item_54, eX8_item_57, eX8_item_58, eX8_item_59, eX8_item_60, eX8_item_61, eX8_item_62, eX8_item_65, eX8_item_66, eX8_item_67, eX8_item_68, eX8_item_71, eX8_item_74, eX8_item_75, eX8_item_78, eX8_item_79, eX8_item_80, eX8_item_81, eX8_item_84, eX8_item_86, eX8_item_87, eX8_item_88, eX8_item_89, eX8_item_90, eX8_item_91, eX8_item_92, eX8_item_93]
    have e1 : ∀ b : Bool, (if b = false then Q (.inl (nI 0)) M else Q (.inl (nI 1)) M) = Q (.inl (bi b)) M := fun b => by cases b <;> rfl
    have e2 := pow_s hs.2 (show j < 9 by omega)
    rw [lit_1] at e2
    rw [e1, e2]
    by_cases q : w.toInt = 0
    · rw [if_pos q] at hQ ⊢
      exact hQ
    rw [if_neg q] at hQ ⊢
    clear q
    by_cases q : w.toInt = 1
    · rw [if_pos q] at hQ ⊢
      exact hQ
    rw [if_neg q] at hQ ⊢
    clear q
    by_cases q : w.toInt = 2
    · rw [if_pos q] at hQ ⊢
      exact hQ
    rw [if_neg q] at hQ ⊢
    clear q
    by_cases q : w.toInt = 3
    · rw [if_pos q] at hQ ⊢
      exact hQ
    rw [if_neg q] at hQ ⊢
    clear q
    by_cases q : w.toInt = 4
    · rw [if_pos q] at hQ ⊢
      exact hQ
    rw [if_neg q] at hQ ⊢
    clear q
    exact hQ
  · rw [if_pos e] at hQ
    rw [if_pos e]
    exact hQ
end M1
