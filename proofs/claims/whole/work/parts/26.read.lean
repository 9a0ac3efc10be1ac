/-! contracts: a TEXT read into a house, laid -/
def rdF (lt : Nat → Nat) (len : Nat) : Nat → Nat → Option (List Nat × Nat)
  | 0, _ => none
  | n + 1, p => if fg lt len p = 0 then none else
      if tl lt len (p + fg lt len p) = 59 then some ([fv lt len p (fg lt len p)], p + fg lt len p + 1) else
      if tl lt len (p + fg lt len p) = 44 then (rdF lt len n (p + fg lt len p + 1)).map (fun r => (fv lt len p (fg lt len p) :: r.1, r.2)) else none
theorem fg_le {lt : Nat → Nat} {len p : Nat} : fg lt len p ≤ 2 := by unfold fg; split <;> (try split) <;> omega
theorem fv_lt {lt : Nat → Nat} {len p : Nat} : fv lt len p (fg lt len p) < 100 := by
  have h := (fv_b (lt := lt) (len := len) (p := p) _ (Nat.le_refl _)).1
  have h2 := fg_le (lt := lt) (len := len) (p := p)
  refine Nat.lt_of_lt_of_le h ?_
  exact Nat.pow_le_pow_right (by decide) h2
theorem rdF_b {lt : Nat → Nat} {len : Nat} : ∀ n p ns q, rdF lt len n p = some (ns, q) → q ≤ p + 3 * n ∧ ns.length ≤ n ∧ p < q := by
  intro n
  induction n with
  | zero => intro p ns q h; cases h
  | succ n ih =>
    intro p ns q h
    have h2 := fg_le (lt := lt) (len := len) (p := p)
    unfold rdF at h
    split at h
    · cases h
    · split at h
      · cases h
        refine ⟨by omega, by simp, by omega⟩
      · split at h
        · cases hr : rdF lt len n (p + fg lt len p + 1) with
          | none => rw [hr] at h; cases h
          | some r =>
            rw [hr] at h
            obtain ⟨b1, b2, b3⟩ := ih _ r.1 r.2 hr
            cases h
            refine ⟨by omega, by rw [List.length_cons]; omega, by omega⟩
        · cases h
def fS (c i : Nat) : Prop := c = 2 ∨ (c = 9 ∧ i = 1)
theorem neg4 {q : Nat} (h : q < 2 ^ 31) : (nI q = -4) = False := by
  refine eq_false (fun e => ?_)
  have h1 := nI_toInt h
  rw [e] at h1
  have h2 : ((-4 : Int32)).toInt = -4 := by decide
  omega
theorem tX2_readNumbers0 {z d len : Nat} {lt : Nat → Nat} {x1 : bV} {Q : bV → bM → Prop} : ∀ (n f p : Nat) (M : bM) (ns : List Nat) (a4 a5 : bV), n + f = 3 → ns.length = f → p + 4 * n < 2 ^ 28 → Pg M lt len → (∀ j v, ns[j]? = some v → gI M 9 1 j = nI v ∧ v < 100) →
    (∀ M', Pg M' lt len → Eqx fS M M' → (rdF lt len n p = none → Q (.inl (-4)) M') ∧ (∀ r q, rdF lt len n p = some (r, q) → Nu M' (ns ++ r) → Q (.inl (nI q)) M')) →
    ExG z (Run z (d + 4)) 2 1 false none cX2_readNumbers Q 4 [vr 2 0, x1, .inl (nI p), .inl (nI f), a4, a5] [] M := by
  intro n
  induction n with
  | zero =>
    intro f p M ns a4 a5 hf hl hp H hn hQ
    have := (hQ M H Eqx_rf).1 rfl
    rw [eX2_readNumbers_4]
    simp (disch := omega) only [eX2_readNumbers_0, eX2_readNumbers_1, eX2_readNumbers_2, eX2_readNumbers_3, eX2_readNumbers_5, eX2_readNumbers_6, eX2_readNumbers_9, eX2_readNumbers_10, eX2_readNumbers_11, eX2_readNumbers_14, eX2_readNumbers_16, eX2_readNumbers_18, eX2_readNumbers_21, eX2_readNumbers_23, eX2_readNumbers_24, eX2_readNumbers_25, eX2_readNumbers_28, eX2_readNumbers_29, eX2_readNumbers_30, eX2_readNumbers_31, eX2_readNumbers_33, eX2_readNumbers_36, eX2_readNumbers_39, eX2_readNumbers_40, eX2_readNumbers_41, eX2_readNumbers_42, eX2_readNumbers_43, eX2_readNumbers_46, eX2_readNumbers_47, eX2_readNumbers_49, eX2_readNumbers_50, eX2_readNumbers_51, eX2_readNumbers_52, eX2_readNumbers_53, eX2_readNumbers_54, eX2_readNumbers_55, eX2_readNumbers_56, eX2_readNumbers_57, eX2_readNumbers_60, eX2_readNumbers_62, eX2_readNumbers_64, eX2_readNumbers_66, eX2_readNumbers_69, eX2_readNumbers_70, eX2_readNumbers_71, eX2_readNumbers_73, eX2_readNumbers_75, eX2_readNumbers_78, eX2_readNumbers_80, eX2_readNumbers_81, eX2_readNumbers_84, eX2_readNumbers_87, eX2_readNumbers_89, lit_3, nI_leI, if_pos (show 3 ≤ f by omega)]
    exact this
  | succ n ih =>
    intro f p M ns a4 a5 hf hl hp H hn hQ
    have hk := fg_le (lt := lt) (len := len) (p := p)
    have hv := fv_lt (lt := lt) (len := len) (p := p)
    have b1 : aln 1 = 3 := rfl
    have l44 : (44 : Int32) = nI 44 := rfl
    have l59 : (59 : Int32) = nI 59 := rfl
    rw [eX2_readNumbers_4]
    by_cases k0 : fg lt len p = 0
    · have := (hQ M H Eqx_rf).1 (by unfold rdF; rw [if_pos k0])
      simp (disch := omega) only [eX2_readNumbers_0, eX2_readNumbers_1, eX2_readNumbers_2, eX2_readNumbers_3, eX2_readNumbers_5, eX2_readNumbers_6, eX2_readNumbers_9, eX2_readNumbers_10, eX2_readNumbers_11, eX2_readNumbers_14, eX2_readNumbers_16, eX2_readNumbers_18, eX2_readNumbers_21, eX2_readNumbers_23, eX2_readNumbers_24, eX2_readNumbers_25, eX2_readNumbers_28, eX2_readNumbers_29, eX2_readNumbers_30, eX2_readNumbers_31, eX2_readNumbers_33, eX2_readNumbers_36, eX2_readNumbers_39, eX2_readNumbers_40, eX2_readNumbers_41, eX2_readNumbers_42, eX2_readNumbers_43, eX2_readNumbers_46, eX2_readNumbers_47, eX2_readNumbers_49, eX2_readNumbers_50, eX2_readNumbers_51, eX2_readNumbers_52, eX2_readNumbers_53, eX2_readNumbers_54, eX2_readNumbers_55, eX2_readNumbers_56, eX2_readNumbers_57, eX2_readNumbers_60, eX2_readNumbers_62, eX2_readNumbers_64, eX2_readNumbers_66, eX2_readNumbers_69, eX2_readNumbers_70, eX2_readNumbers_71, eX2_readNumbers_73, eX2_readNumbers_75, eX2_readNumbers_78, eX2_readNumbers_80, eX2_readNumbers_81, eX2_readNumbers_84, eX2_readNumbers_87, eX2_readNumbers_89, cnt_0, cnt_1, cnt_2, cnt_3, cnt_4, cnt_5, cnt_6, cnt_7, cnt_8, cnt_9, cnt_10, cnt_11, true_and, Nat.lt_add_one, lit_3, nI_leI, if_neg (show ¬ 3 ≤ f by omega), tX2_figuresAt H, psh_i, lit_0, nI_eq, if_pos k0]
      exact this
    · have r1 : rowPut M 1 (nI f) (nI (fv lt len p (fg lt len p))) = sI M 9 1 f (nI (fv lt len p (fg lt len p))) := rowPut_nI (by omega)
      have H1 : Pg (sI M 9 1 f (nI (fv lt len p (fg lt len p)))) lt len := Pg_sI H (by omega) (by omega)
      have E1 : Eqx fS M (sI M 9 1 f (nI (fv lt len p (fg lt len p)))) := Eqx_sI (Or.inr ⟨rfl, rfl⟩)
      have H2 : Pg (sI (sI M 9 1 f (nI (fv lt len p (fg lt len p)))) 2 0 3 (nI (f + 1))) lt len := Pg_sI H1 (by omega) (by omega)
      have E2 : Eqx fS M (sI (sI M 9 1 f (nI (fv lt len p (fg lt len p)))) 2 0 3 (nI (f + 1))) := Eqx_tr E1 (Eqx_sI (S := fS) (Or.inl rfl)) (fun _ _ q => q) (fun _ _ q => q)
      have e2 : nI (p + (fg lt len p + 1)) - nI 1 = nI (p + fg lt len p) := by rw [pk_sub (by omega)]; rfl
      have tlb : tl lt len (p + fg lt len p) < 128 := tl_lt H
      have N2 : ∀ j v, (ns ++ [fv lt len p (fg lt len p)])[j]? = some v → gI (sI (sI M 9 1 f (nI (fv lt len p (fg lt len p)))) 2 0 3 (nI (f + 1))) 9 1 j = nI v ∧ v < 100 := by
        intro j v hj
        rw [gI_sI, if_neg (by omega), gI_sI]
        by_cases w : j = f
        · rw [if_pos ⟨rfl, rfl, w⟩]
          rw [List.getElem?_append_right (by omega), show j - ns.length = 0 by omega] at hj
          cases hj
          exact ⟨rfl, hv⟩
        · rw [if_neg (by omega)]
          have hlt := (List.getElem?_eq_some_iff.mp hj).1
          rw [List.length_append, List.length_singleton] at hlt
          rw [List.getElem?_append_left (by omega)] at hj
          exact hn j v hj
      simp (disch := omega) only [eX2_readNumbers_0, eX2_readNumbers_1, eX2_readNumbers_2, eX2_readNumbers_3, eX2_readNumbers_5, eX2_readNumbers_6, eX2_readNumbers_9, eX2_readNumbers_10, eX2_readNumbers_11, eX2_readNumbers_14, eX2_readNumbers_16, eX2_readNumbers_18, eX2_readNumbers_21, eX2_readNumbers_23, eX2_readNumbers_24, eX2_readNumbers_25, eX2_readNumbers_28, eX2_readNumbers_29, eX2_readNumbers_30, eX2_readNumbers_31, eX2_readNumbers_33, eX2_readNumbers_36, eX2_readNumbers_39, eX2_readNumbers_40, eX2_readNumbers_41, eX2_readNumbers_42, eX2_readNumbers_43, eX2_readNumbers_46, eX2_readNumbers_47, eX2_readNumbers_49, eX2_readNumbers_50, eX2_readNumbers_51, eX2_readNumbers_52, eX2_readNumbers_53, eX2_readNumbers_54, eX2_readNumbers_55, eX2_readNumbers_56, eX2_readNumbers_57, eX2_readNumbers_60, eX2_readNumbers_62, eX2_readNumbers_64, eX2_readNumbers_66, eX2_readNumbers_69, eX2_readNumbers_70, eX2_readNumbers_71, eX2_readNumbers_73, eX2_readNumbers_75, eX2_readNumbers_78, eX2_readNumbers_80, eX2_readNumbers_81, eX2_readNumbers_84, eX2_readNumbers_87, eX2_readNumbers_89, cnt_0, cnt_1, cnt_2, cnt_3, cnt_4, cnt_5, cnt_6, cnt_7, cnt_8, cnt_9, cnt_10, cnt_11, true_and, Nat.lt_add_one, lit_3, nI_leI, if_neg (show ¬ 3 ≤ f by omega), tX2_figuresAt H, psh_i, lit_0, nI_eq, if_neg k0, lit_1, tX2_valueOf H _ rfl, Nat.reduceLT, tX4_put, r1, psh_u, nI_add, e2, tX2_letterAt H2, l44, l59]
      by_cases c59 : tl lt len (p + fg lt len p) = 59
      · rw [if_pos c59]
        refine (hQ _ H2 E2).2 [fv lt len p (fg lt len p)] _ (by unfold rdF; rw [if_neg k0, if_pos c59]; rfl) ⟨?_, N2⟩
        rw [gI_sI, if_pos ⟨rfl, rfl, rfl⟩, List.length_append, List.length_singleton, hl]
      · rw [if_neg c59]
        by_cases c44 : tl lt len (p + fg lt len p) = 44
        · rw [if_pos c44]
          refine ih (f + 1) (p + (fg lt len p + 1)) _ (ns ++ [fv lt len p (fg lt len p)]) _ _ (by omega) (by rw [List.length_append, List.length_singleton]; omega) (by omega) H2 N2 (fun M' P E => ?_)
          obtain ⟨w1, w2⟩ := hQ M' P (Eqx_tr E2 E (fun _ _ q => q) (fun _ _ q => q))
          have er : rdF lt len (n + 1) p = (rdF lt len n (p + (fg lt len p + 1))).map (fun r => (fv lt len p (fg lt len p) :: r.1, r.2)) := by
            conv => lhs; unfold rdF
            rw [if_neg k0, if_neg c59, if_pos c44]
            rfl
          refine ⟨fun hr => w1 (by rw [er, hr]; rfl), fun r q hr hN => w2 (fv lt len p (fg lt len p) :: r) q (by rw [er, hr]; rfl) ?_⟩
          rw [List.append_assoc] at hN
          exact hN
        · rw [if_neg c44]
          exact (hQ _ H2 E2).1 (by unfold rdF; rw [if_neg k0, if_neg c59, if_neg c44])
theorem tX2_readNumbers {z d len p : Nat} {M : bM} {lt : Nat → Nat} {Q : bV → bM → Prop} (H : Pg M lt len) (hp : p < 2 ^ 27)
    (hQ : ∀ M', Pg M' lt len → Eqx fS M M' → (rdF lt len 3 p = none → Q (.inl (-4)) M') ∧ (∀ r q, rdF lt len 3 p = some (r, q) → Nu M' r → Q (.inl (nI q)) M')) : Run z (d + 5) 18 [vr 2 0, .inl (nI p)] M Q := by
  rw [rX2_readNumbers]
  simp only [eX2_readNumbers_0, eX2_readNumbers_1, eX2_readNumbers_2, eX2_readNumbers_3, eX2_readNumbers_5, eX2_readNumbers_6, eX2_readNumbers_9, eX2_readNumbers_10, eX2_readNumbers_11, eX2_readNumbers_14, eX2_readNumbers_16, eX2_readNumbers_18, eX2_readNumbers_21, eX2_readNumbers_23, eX2_readNumbers_24, eX2_readNumbers_25, eX2_readNumbers_28, eX2_readNumbers_29, eX2_readNumbers_30, eX2_readNumbers_31, eX2_readNumbers_33, eX2_readNumbers_36, eX2_readNumbers_39, eX2_readNumbers_40, eX2_readNumbers_41, eX2_readNumbers_42, eX2_readNumbers_43, eX2_readNumbers_46, eX2_readNumbers_47, eX2_readNumbers_49, eX2_readNumbers_50, eX2_readNumbers_51, eX2_readNumbers_52, eX2_readNumbers_53, eX2_readNumbers_54, eX2_readNumbers_55, eX2_readNumbers_56, eX2_readNumbers_57, eX2_readNumbers_60, eX2_readNumbers_62, eX2_readNumbers_64, eX2_readNumbers_66, eX2_readNumbers_69, eX2_readNumbers_70, eX2_readNumbers_71, eX2_readNumbers_73, eX2_readNumbers_75, eX2_readNumbers_78, eX2_readNumbers_80, eX2_readNumbers_81, eX2_readNumbers_84, eX2_readNumbers_87, eX2_readNumbers_89, lit_0]
  exact tX2_readNumbers0 3 0 p _ [] _ _ rfl rfl (by omega) H (fun j v h => by cases h) hQ
/-- the ITEM at a place -/
def itm (lt : Nat → Nat) (len : Nat) (τ : Nat → Nat → Nat) (p : Nat) : Option (Nat × (Nat → Nat → Nat)) := match rdF lt len 3 (p + 1) with
  | none => none
  | some r => (adI τ (lt p) r.1).map (fun τ' => (r.2, τ'))
/-- ITEM behind ITEM: the fault, and what is told ahead of it -/
def scn (lt : Nat → Nat) (len : Nat) : Nat → (Nat → Nat → Nat) → Nat → Option Nat × (Nat → Nat → Nat)
  | 0, τ, _ => (none, τ)
  | n + 1, τ, p => if p < len then (match itm lt len τ p with
      | none => (some p, τ)
      | some r => scn lt len n r.2 r.1) else (none, τ)
def fR (o : Option Nat) : Int32 := match o with | none => -4 | some p => nI p
def rS (h c i : Nat) : Prop := hS h c i ∨ fS c i
theorem OKh_nil {τ : Nat → Nat → Nat} : OKh (nil0 τ) := by
  have e7 : nil0 τ 7 0 = 0 := rfl
  have e8 : nil0 τ 8 0 = 0 := rfl
  have e9 : nil0 τ 9 0 = 0 := rfl
  refine ⟨by rw [e7]; decide, by rw [e8]; decide, by rw [e9]; decide, by show 7 < 12; decide, fun i hi => ?_, fun i hi => ?_, fun i hi => ?_, fun i hi => ?_⟩
  · rw [e7] at hi; omega
  · rw [e7] at hi; omega
  · rw [e8] at hi; omega
  · rw [e9] at hi; omega
set_option maxHeartbeats 4000000 in
theorem tX2_readInto0 {z d len h : Nat} {lt : Nat → Nat} {Q : bV → bM → Prop} (hh : h < 2) : ∀ (n i p : Nat) (M : bM) (τ : Nat → Nat → Nat) (a4 : bV), n + i = 200 → p ≤ 12 * i → Pg M lt len → Ho M h τ → OKh τ →
    (∀ M', Pg M' lt len → Eqx (rS h) M M' → Ho M' h (scn lt len n τ p).2 → OKh (scn lt len n τ p).2 → Q (.inl (fR (scn lt len n τ p).1)) M') →
    ExG z (Run z (d + 5)) 2 1 false none cX2_readInto Q 8 [vr 2 0, vr 1 h, .inl (nI p), .inl (nI i), a4] [] M := by
  have l200 : (200 : Int32) = nI 200 := rfl
  intro n
  induction n with
  | zero =>
    intro i p M τ a4 hi hp H Hh K hQ
    have := hQ M H Eqx_rf Hh K
    rw [eX2_readInto_8]
    simp (disch := omega) only [eX2_readInto_0, eX2_readInto_1, eX2_readInto_4, eX2_readInto_5, eX2_readInto_6, eX2_readInto_7, eX2_readInto_9, eX2_readInto_12, eX2_readInto_15, eX2_readInto_16, eX2_readInto_17, eX2_readInto_20, eX2_readInto_23, eX2_readInto_24, eX2_readInto_25, eX2_readInto_26, eX2_readInto_27, eX2_readInto_30, eX2_readInto_32, eX2_readInto_34, eX2_readInto_36, eX2_readInto_39, eX2_readInto_40, eX2_readInto_41, eX2_readInto_44, eX2_readInto_45, eX2_readInto_48, eX2_readInto_49, eX2_readInto_52, eX2_readInto_53, eX2_readInto_56, eX2_readInto_59, eX2_readInto_62, eX2_readInto_63, eX2_readInto_64, eX2_readInto_66, eX2_readInto_67, eX2_readInto_70, eX2_readInto_73, eX2_readInto_75, l200, nI_leI, if_pos (show 200 ≤ i by omega)]
    exact this
  | succ n ih =>
    intro i p M τ a4 hi hp H Hh K hQ
    have hlen := H.2.1
    have b0 : aln 0 = 200 := rfl
    rw [eX2_readInto_8]
    by_cases hpl : p < len
    · simp (disch := omega) only [eX2_readInto_0, eX2_readInto_1, eX2_readInto_4, eX2_readInto_5, eX2_readInto_6, eX2_readInto_7, eX2_readInto_9, eX2_readInto_12, eX2_readInto_15, eX2_readInto_16, eX2_readInto_17, eX2_readInto_20, eX2_readInto_23, eX2_readInto_24, eX2_readInto_25, eX2_readInto_26, eX2_readInto_27, eX2_readInto_30, eX2_readInto_32, eX2_readInto_34, eX2_readInto_36, eX2_readInto_39, eX2_readInto_40, eX2_readInto_41, eX2_readInto_44, eX2_readInto_45, eX2_readInto_48, eX2_readInto_49, eX2_readInto_52, eX2_readInto_53, eX2_readInto_56, eX2_readInto_59, eX2_readInto_62, eX2_readInto_63, eX2_readInto_64, eX2_readInto_66, eX2_readInto_67, eX2_readInto_70, eX2_readInto_73, eX2_readInto_75, cnt_0, cnt_1, cnt_2, cnt_3, cnt_4, cnt_5, cnt_6, cnt_7, cnt_8, cnt_9, cnt_10, cnt_11, true_and, Nat.lt_add_one, l200, nI_leI, if_neg (show ¬ 200 ≤ i by omega), H.1, if_neg (show ¬ len ≤ p by omega), lit_1, nI_add]
      have es : scn lt len (n + 1) τ p = (match itm lt len τ p with | none => (some p, τ) | some r => scn lt len n r.2 r.1) := by
        conv => lhs; unfold scn
        rw [if_pos hpl]
      refine tX2_readNumbers (d := d) H (by omega) (fun M1 H1 E1 => ⟨fun hr => ?_, fun r q hr hN => ?_⟩)
      · have ei : itm lt len τ p = none := by unfold itm; rw [hr]
        rw [ei] at es
        have Hh1 : Ho M1 h τ := Ho_e E1 (fun r h1 h2 => by unfold fS; omega) (by unfold fS; omega) Hh
        rw [es] at hQ
        have := hQ M1 H1 (Eqx_mo E1 (fun _ _ q => Or.inr q)) Hh1 K
        simp only [psh_i, eX2_readInto_0, eX2_readInto_1, eX2_readInto_4, eX2_readInto_5, eX2_readInto_6, eX2_readInto_7, eX2_readInto_9, eX2_readInto_12, eX2_readInto_15, eX2_readInto_16, eX2_readInto_17, eX2_readInto_20, eX2_readInto_23, eX2_readInto_24, eX2_readInto_25, eX2_readInto_26, eX2_readInto_27, eX2_readInto_30, eX2_readInto_32, eX2_readInto_34, eX2_readInto_36, eX2_readInto_39, eX2_readInto_40, eX2_readInto_41, eX2_readInto_44, eX2_readInto_45, eX2_readInto_48, eX2_readInto_49, eX2_readInto_52, eX2_readInto_53, eX2_readInto_56, eX2_readInto_59, eX2_readInto_62, eX2_readInto_63, eX2_readInto_64, eX2_readInto_66, eX2_readInto_67, eX2_readInto_70, eX2_readInto_73, eX2_readInto_75, if_true]
        exact this
      · obtain ⟨q1, q2, q3⟩ := rdF_b _ _ _ _ hr
        have Hh1 : Ho M1 h τ := Ho_e E1 (fun r h1 h2 => by unfold fS; omega) (by unfold fS; omega) Hh
        obtain ⟨lp1, lp2⟩ := H1.2.2 p hpl
        have r0 : rowAt M1 0 (nI p) = nI (lt p) := (rowAt_nI (by omega)).trans lp1
        simp (disch := omega) only [psh_i, eX2_readInto_0, eX2_readInto_1, eX2_readInto_4, eX2_readInto_5, eX2_readInto_6, eX2_readInto_7, eX2_readInto_9, eX2_readInto_12, eX2_readInto_15, eX2_readInto_16, eX2_readInto_17, eX2_readInto_20, eX2_readInto_23, eX2_readInto_24, eX2_readInto_25, eX2_readInto_26, eX2_readInto_27, eX2_readInto_30, eX2_readInto_32, eX2_readInto_34, eX2_readInto_36, eX2_readInto_39, eX2_readInto_40, eX2_readInto_41, eX2_readInto_44, eX2_readInto_45, eX2_readInto_48, eX2_readInto_49, eX2_readInto_52, eX2_readInto_53, eX2_readInto_56, eX2_readInto_59, eX2_readInto_62, eX2_readInto_63, eX2_readInto_64, eX2_readInto_66, eX2_readInto_67, eX2_readInto_70, eX2_readInto_73, eX2_readInto_75, cnt_0, cnt_1, cnt_2, cnt_3, cnt_4, cnt_5, cnt_6, cnt_7, cnt_8, cnt_9, cnt_10, cnt_11, true_and, Nat.lt_add_one, neg4, if_false, hh, tX4_at, r0, hN.1, Nat.reduceLT]
        refine tX1_add (d := d + 1) hh Hh1 K lp2 hN q2 ⟨fun ha => ?_, fun τ' ha M2 H2 E2 => ?_⟩
        · have ei : itm lt len τ p = none := by unfold itm; rw [hr]; dsimp only; rw [ha]; rfl
          rw [ei] at es
          rw [es] at hQ
          have := hQ M1 H1 (Eqx_mo E1 (fun _ _ q => Or.inr q)) Hh1 K
          simp only [psh_i, bi_f, eX2_readInto_0, eX2_readInto_1, eX2_readInto_4, eX2_readInto_5, eX2_readInto_6, eX2_readInto_7, eX2_readInto_9, eX2_readInto_12, eX2_readInto_15, eX2_readInto_16, eX2_readInto_17, eX2_readInto_20, eX2_readInto_23, eX2_readInto_24, eX2_readInto_25, eX2_readInto_26, eX2_readInto_27, eX2_readInto_30, eX2_readInto_32, eX2_readInto_34, eX2_readInto_36, eX2_readInto_39, eX2_readInto_40, eX2_readInto_41, eX2_readInto_44, eX2_readInto_45, eX2_readInto_48, eX2_readInto_49, eX2_readInto_52, eX2_readInto_53, eX2_readInto_56, eX2_readInto_59, eX2_readInto_62, eX2_readInto_63, eX2_readInto_64, eX2_readInto_66, eX2_readInto_67, eX2_readInto_70, eX2_readInto_73, eX2_readInto_75, if_true]
          exact this
        · have ei : itm lt len τ p = some (q, τ') := by unfold itm; rw [hr]; dsimp only; rw [ha]; rfl
          rw [ei] at es
          rw [es] at hQ
          have K2 := OKh_ad K ha
          have P2 : Pg M2 lt len := Pg_e E2 (by unfold hS; omega) (by unfold hS; omega) H1
          have E3 : Eqx (rS h) M M2 := Eqx_tr E1 E2 (fun _ _ q => Or.inr q) (fun _ _ q => Or.inl q)
          simp only [psh_i, bi_t, eX2_readInto_0, eX2_readInto_1, eX2_readInto_4, eX2_readInto_5, eX2_readInto_6, eX2_readInto_7, eX2_readInto_9, eX2_readInto_12, eX2_readInto_15, eX2_readInto_16, eX2_readInto_17, eX2_readInto_20, eX2_readInto_23, eX2_readInto_24, eX2_readInto_25, eX2_readInto_26, eX2_readInto_27, eX2_readInto_30, eX2_readInto_32, eX2_readInto_34, eX2_readInto_36, eX2_readInto_39, eX2_readInto_40, eX2_readInto_41, eX2_readInto_44, eX2_readInto_45, eX2_readInto_48, eX2_readInto_49, eX2_readInto_52, eX2_readInto_53, eX2_readInto_56, eX2_readInto_59, eX2_readInto_62, eX2_readInto_63, eX2_readInto_64, eX2_readInto_66, eX2_readInto_67, eX2_readInto_70, eX2_readInto_73, eX2_readInto_75, show ((1 : Int32) = 0) = False from eq_false (by decide), if_false]
          rw [lit_1, nI_add]
          exact ih (i + 1) q M2 τ' _ (by omega) (by omega) P2 H2 K2 (fun M' P E Hf Kf => hQ M' P (Eqx_tr E3 E (fun _ _ q => q) (fun _ _ q => q)) Hf Kf)
    · have es : scn lt len (n + 1) τ p = (none, τ) := by
        conv => lhs; unfold scn
        rw [if_neg hpl]
      rw [es] at hQ
      have := hQ M H Eqx_rf Hh K
      simp (disch := omega) only [eX2_readInto_0, eX2_readInto_1, eX2_readInto_4, eX2_readInto_5, eX2_readInto_6, eX2_readInto_7, eX2_readInto_9, eX2_readInto_12, eX2_readInto_15, eX2_readInto_16, eX2_readInto_17, eX2_readInto_20, eX2_readInto_23, eX2_readInto_24, eX2_readInto_25, eX2_readInto_26, eX2_readInto_27, eX2_readInto_30, eX2_readInto_32, eX2_readInto_34, eX2_readInto_36, eX2_readInto_39, eX2_readInto_40, eX2_readInto_41, eX2_readInto_44, eX2_readInto_45, eX2_readInto_48, eX2_readInto_49, eX2_readInto_52, eX2_readInto_53, eX2_readInto_56, eX2_readInto_59, eX2_readInto_62, eX2_readInto_63, eX2_readInto_64, eX2_readInto_66, eX2_readInto_67, eX2_readInto_70, eX2_readInto_73, eX2_readInto_75, cnt_0, cnt_1, cnt_2, cnt_3, cnt_4, cnt_5, cnt_6, cnt_7, cnt_8, cnt_9, cnt_10, cnt_11, true_and, Nat.lt_add_one, l200, nI_leI, if_neg (show ¬ 200 ≤ i by omega), H.1, if_pos (show len ≤ p by omega)]
      exact this
theorem tX2_readInto {z d len h : Nat} {lt : Nat → Nat} {M : bM} {τ : Nat → Nat → Nat} {Q : bV → bM → Prop} (hh : h < 2) (H : Pg M lt len) (Hh : Ho M h τ)
    (hQ : ∀ M', Pg M' lt len → Eqx (rS h) M M' → Ho M' h (scn lt len 200 (nil0 τ) 0).2 → OKh (scn lt len 200 (nil0 τ) 0).2 → Q (.inl (fR (scn lt len 200 (nil0 τ) 0).1)) M') : Run z (d + 6) 17 [vr 2 0, vr 1 h] M Q := by
  rw [rX2_readInto]
  simp only [eX2_readInto_0, eX2_readInto_1, eX2_readInto_4, eX2_readInto_5, eX2_readInto_6, eX2_readInto_7, eX2_readInto_9, eX2_readInto_12, eX2_readInto_15, eX2_readInto_16, eX2_readInto_17, eX2_readInto_20, eX2_readInto_23, eX2_readInto_24, eX2_readInto_25, eX2_readInto_26, eX2_readInto_27, eX2_readInto_30, eX2_readInto_32, eX2_readInto_34, eX2_readInto_36, eX2_readInto_39, eX2_readInto_40, eX2_readInto_41, eX2_readInto_44, eX2_readInto_45, eX2_readInto_48, eX2_readInto_49, eX2_readInto_52, eX2_readInto_53, eX2_readInto_56, eX2_readInto_59, eX2_readInto_62, eX2_readInto_63, eX2_readInto_64, eX2_readInto_66, eX2_readInto_67, eX2_readInto_70, eX2_readInto_73, eX2_readInto_75, cnt_0, cnt_1, cnt_2, cnt_3, cnt_4, cnt_5, cnt_6, cnt_7, cnt_8, cnt_9, cnt_10, cnt_11, hh, true_and]
  refine tX1_clear (d := d + 4) hh Hh (fun M1 H1 E1 => ?_)
  simp only [psh_u, eX2_readInto_0, eX2_readInto_1, eX2_readInto_4, eX2_readInto_5, eX2_readInto_6, eX2_readInto_7, eX2_readInto_9, eX2_readInto_12, eX2_readInto_15, eX2_readInto_16, eX2_readInto_17, eX2_readInto_20, eX2_readInto_23, eX2_readInto_24, eX2_readInto_25, eX2_readInto_26, eX2_readInto_27, eX2_readInto_30, eX2_readInto_32, eX2_readInto_34, eX2_readInto_36, eX2_readInto_39, eX2_readInto_40, eX2_readInto_41, eX2_readInto_44, eX2_readInto_45, eX2_readInto_48, eX2_readInto_49, eX2_readInto_52, eX2_readInto_53, eX2_readInto_56, eX2_readInto_59, eX2_readInto_62, eX2_readInto_63, eX2_readInto_64, eX2_readInto_66, eX2_readInto_67, eX2_readInto_70, eX2_readInto_73, eX2_readInto_75, lit_0]
  exact tX2_readInto0 hh 200 0 0 M1 (nil0 τ) _ rfl (Nat.zero_le _) (Pg_e E1 (by unfold hS; omega) (by unfold hS; omega) H) H1 OKh_nil (fun M' P E Hf Kf => hQ M' P (Eqx_tr E1 E (fun _ _ q => Or.inl q) (fun _ _ q => q)) Hf Kf)
