/-! the class as a whole -/
theorem mX5_seen {z d k i : Nat} {M : bM} {σ : sT} {Q : bV → bM → Prop} (hk : k < 12) (hi : i < 9) (hs : OKs σ) (Hs : St M k σ) : Run z (d + 2) 37 [vr 5 k, .inl (nI i)] M Q = Q (.inl (nI (sn σ i))) M := by
  have := tX5_seen (z := z) (d := d) (M := M) (Q := Q) hk hi hs
  rwa [wSt_id Hs] at this
theorem mX5_isPowdered {z d k i : Nat} {M : bM} {σ : sT} {Q : bV → bM → Prop} (hk : k < 12) (hi : i < 9) (hs : OKs σ) (Hs : St M k σ) : Run z (d + 1) 36 [vr 5 k, .inl (nI i)] M Q = Q (.inl (bi (σ.2.1.testBit i))) M := by
  have := tX5_isPowdered (z := z) (d := d) (M := M) (Q := Q) hk hi hs
  rwa [wSt_id Hs] at this
theorem mX5_shaded {z d k h : Nat} {M : bM} {σ : sT} {τ : Nat → Nat → Nat} {Q : bV → bM → Prop} (hk : k < 12) (hh : h < 2) (H : Ho M h τ) (K : OKh τ) (hs : OKs σ) (Hs : St M k σ) : Run z (d + 2) 38 [vr 5 k, vr 1 h] M Q = Q (.inl (nI (τ 7 0 - cnE σ.1 0 (τ 7 0)))) M := by
  have := tX5_shaded (z := z) (d := d) (M := M) (Q := Q) hk hh H K hs
  rwa [wSt_id Hs] at this
theorem mX5_darkestPerson {z d k h : Nat} {M : bM} {σ : sT} {τ : Nat → Nat → Nat} {Q : bV → bM → Prop} (hk : k < 12) (hh : h < 2) (H : Ho M h τ) (K : OKh τ) (hs : OKs σ) (Hs : St M k σ) : Run z (d + 3) 39 [vr 5 k, vr 1 h] M Q = Q (.inl (nI (dkN τ σ.1 (τ 7 0)))) M := by
  have := tX5_darkestPerson (z := z) (d := d) (M := M) (Q := Q) hk hh H K hs
  rwa [wSt_id Hs] at this
theorem mX5_meet {z d k h a b : Nat} {M : bM} {σ : sT} {τ : Nat → Nat → Nat} {Q : bV → bM → Prop} (hk : k < 12) (hh : h < 2) (H : Ho M h τ) (K : OKh τ) (hs : OKs σ) (ha : a < τ 7 0) (hb : b < τ 7 0) (hab : a ≠ b) (Hs : St M k σ) : Run z (d + 3) 40 [vr 5 k, vr 1 h, .inl (nI a), .inl (nI b)] M Q = Q (.inl (nI (pmr (τ 0) σ.1 a b))) (wSt M k (tcS τ a b σ)) := by
  have := tX5_meet (z := z) (d := d) (M := M) (Q := Q) hk hh H K hs ha hb hab
  rwa [wSt_id Hs] at this
theorem mX5_rinse {z d k h i : Nat} {M : bM} {σ : sT} {τ : Nat → Nat → Nat} {Q : bV → bM → Prop} (hk : k < 12) (hh : h < 2) (H : Ho M h τ) (K : OKh τ) (hs : OKs σ) (hi : i < τ 7 0) (Hs : St M k σ) : Run z (d + 3) 43 [vr 5 k, vr 1 h, .inl (nI i)] M Q = Q vu (wSt M k (liS i (wby τ i) σ)) := by
  have := tX5_rinse (z := z) (d := d) (M := M) (Q := Q) hk hh H K hs hi
  rwa [wSt_id Hs] at this
theorem mX5_goHours {z d k h n : Nat} {M : bM} {σ : sT} {τ : Nat → Nat → Nat} {Q : bV → bM → Prop} (hk : k < 12) (hh : h < 2) (H : Ho M h τ) (K : OKh τ) (hs : OKs σ) (hg : σ.2.2 < 2 ^ 29) (hn : n < 2 ^ 29) (Hs : St M k σ) : Run z (d + 5) 45 [vr 5 k, vr 1 h, .inl (nI n)] M Q = Q vu (wSt M k (hrN τ n σ)) := by
  have := tX5_goHours (z := z) (d := d) (M := M) (Q := Q) hk hh H K hs hg hn
  rwa [wSt_id Hs] at this
theorem St_rowAt {M : bM} {k i : Nat} {σ : sT} (hk : k < 12) (hi : i < 9) (Hs : St M k σ) : rowAt M (16 + k) (nI i) = nI (σ.1 i) := (rowAt_nI (by rw [aln_st hk]; exact hi)).trans (Hs.1 i hi)
/-- what the class holds: the TEXT's letters and how many, the laid house, the other one, how all stands, what can be undone, what is kept, what is shown -/
def CA (M : bM) (lt : Nat → Nat) (len : Nat) (τ τd : Nat → Nat → Nat) (σ : sT) (pa : Nat → sT) (ph : Nat) (ka : Nat → sT) (kh : Nat) (ci cs : Nat → Nat) (cn : Nat) : Prop :=
  ∃ h, h < 2 ∧ gR M 7 0 1 = h ∧ gR M 7 0 2 = 1 - h ∧ Pg M lt len ∧ Ho M h τ ∧ Ho M (1 - h) τd ∧ St M 0 σ ∧ Pi M 0 pa ph ∧ Pi M 1 ka kh ∧ Cl M ci cs cn
/-- what holds of it; G: no more hours have gone by -/
def VA (G : Nat) (τ : Nat → Nat → Nat) (σ : sT) (pa : Nat → sT) (ph : Nat) (ka : Nat → sT) (kh : Nat) (ci cs : Nat → Nat) (cn : Nat) : Prop :=
  OKh τ ∧ 1 ≤ τ 7 0 ∧ OKs σ ∧ σ.2.2 ≤ G ∧ (∀ j, j < ph → OKs (pa j) ∧ (pa j).2.2 ≤ G) ∧ (∀ j, j < kh → OKs (ka j) ∧ (ka j).2.2 ≤ G) ∧ ∀ j, j < cn → ci j < τ 7 0 ∧ cs j ≤ 9
/-- all but the model -/
def clS (c i : Nat) : Prop := c ≠ 8 ∧ c ≠ 11
/-- the class's scratch -/
def scr (c i : Nat) : Prop := (c = 5 ∧ i = 1) ∨ (c = 9 ∧ (i = 17 ∨ i = 30 ∨ i = 31)) ∨ c = 6
theorem pS_0 {c i : Nat} (h : pS 0 c i) : (c = 3 ∧ i = 0) ∨ (c = 10 ∧ i = 0) ∨ (c = 5 ∧ 2 ≤ i ∧ i < 10) ∨ (c = 9 ∧ 18 ≤ i ∧ i < 26) := h
theorem pS_1 {c i : Nat} (h : pS 1 c i) : (c = 3 ∧ i = 1) ∨ (c = 10 ∧ i = 1) ∨ (c = 5 ∧ 10 ≤ i ∧ i < 12) ∨ (c = 9 ∧ 26 ≤ i ∧ i < 28) := h
section CAU
variable {M M' : bM} {lt lt' : Nat → Nat} {len len' : Nat} {τ τd τd' : Nat → Nat → Nat} {σ σ' : sT} {pa pa' : Nat → sT} {ph ph' : Nat} {ka ka' : Nat → sT} {kh kh' : Nat} {ci cs ci' cs' : Nat → Nat} {cn cn' : Nat}
theorem CA_scr (C : CA M lt len τ τd σ pa ph ka kh ci cs cn) (E : Eqx scr M M') : CA M' lt len τ τd σ pa ph ka kh ci cs cn := by
  obtain ⟨h, hh, r1, r2, P, H1, H2, S, P0, P1, L⟩ := C
  refine ⟨h, hh, (E _ _ _ (by unfold scr; omega)).2.trans r1, (E _ _ _ (by unfold scr; omega)).2.trans r2, Pg_e E (by unfold scr; omega) (by unfold scr; omega) P, Ho_e E (fun r a b => by unfold scr; omega) (by unfold scr; omega) H1, Ho_e E (fun r a b => by unfold scr; omega) (by unfold scr; omega) H2, St_e E (by unfold scr; omega) (by unfold scr; omega) S, Pi_e E (fun c i q => ?_) P0, Pi_e E (fun c i q => ?_) P1, Cl_e E (fun c i q => ?_) L⟩
  · have := pS_0 q; unfold scr; omega
  · have := pS_1 q; unfold scr; omega
  · unfold cS at q; unfold scr; omega
/-- the stand and what can be undone -/
theorem CA_now (C : CA M lt len τ τd σ pa ph ka kh ci cs cn) (E : Eqx (fun c i => scr c i ∨ pS 0 c i ∨ (c = 5 ∧ i = 0) ∨ (c = 9 ∧ i = 16)) M M') (S' : St M' 0 σ') (P' : Pi M' 0 pa' ph') : CA M' lt len τ τd σ' pa' ph' ka kh ci cs cn := by
  obtain ⟨h, hh, r1, r2, P, H1, H2, S, P0, P1, L⟩ := C
  have nq : ∀ {c i : Nat}, ¬ (scr c i ∨ ((c = 3 ∧ i = 0) ∨ (c = 10 ∧ i = 0) ∨ (c = 5 ∧ 2 ≤ i ∧ i < 10) ∨ (c = 9 ∧ 18 ≤ i ∧ i < 26)) ∨ (c = 5 ∧ i = 0) ∨ (c = 9 ∧ i = 16)) → ¬ (scr c i ∨ pS 0 c i ∨ (c = 5 ∧ i = 0) ∨ (c = 9 ∧ i = 16)) := fun a b => a (b.imp id (fun w => w.imp pS_0 id))
  refine ⟨h, hh, (E _ _ _ (nq (by unfold scr; omega))).2.trans r1, (E _ _ _ (nq (by unfold scr; omega))).2.trans r2, Pg_e E (nq (by unfold scr; omega)) (nq (by unfold scr; omega)) P, Ho_e E (fun r a b => nq (by unfold scr; omega)) (nq (by unfold scr; omega)) H1, Ho_e E (fun r a b => nq (by unfold scr; omega)) (nq (by unfold scr; omega)) H2, S', P', Pi_e E (fun c i q => ?_) P1, Cl_e E (fun c i q => ?_) L⟩
  · have := pS_1 q; exact nq (by unfold scr; omega)
  · unfold cS at q; exact nq (by unfold scr; omega)
theorem CA_page (C : CA M lt len τ τd σ pa ph ka kh ci cs cn) (E : Eqx gS M M') (P' : Pg M' lt' len') : CA M' lt' len' τ τd σ pa ph ka kh ci cs cn := by
  obtain ⟨h, hh, r1, r2, P, H1, H2, S, P0, P1, L⟩ := C
  refine ⟨h, hh, (E _ _ _ (by unfold gS; omega)).2.trans r1, (E _ _ _ (by unfold gS; omega)).2.trans r2, P', Ho_e E (fun r a b => by unfold gS; omega) (by unfold gS; omega) H1, Ho_e E (fun r a b => by unfold gS; omega) (by unfold gS; omega) H2, St_e E (by unfold gS; omega) (by unfold gS; omega) S, Pi_e E (fun c i q => ?_) P0, Pi_e E (fun c i q => ?_) P1, Cl_e E (fun c i q => ?_) L⟩
  · have := pS_0 q; unfold gS; omega
  · have := pS_1 q; unfold gS; omega
  · unfold cS at q; unfold gS; omega
theorem CA_clue (C : CA M lt len τ τd σ pa ph ka kh ci cs cn) (E : Eqx cS M M') (L' : Cl M' ci' cs' cn') : CA M' lt len τ τd σ pa ph ka kh ci' cs' cn' := by
  obtain ⟨h, hh, r1, r2, P, H1, H2, S, P0, P1, L⟩ := C
  refine ⟨h, hh, (E _ _ _ (by unfold cS; omega)).2.trans r1, (E _ _ _ (by unfold cS; omega)).2.trans r2, Pg_e E (by unfold cS; omega) (by unfold cS; omega) P, Ho_e E (fun r a b => by unfold cS; omega) (by unfold cS; omega) H1, Ho_e E (fun r a b => by unfold cS; omega) (by unfold cS; omega) H2, St_e E (by unfold cS; omega) (by unfold cS; omega) S, Pi_e E (fun c i q => ?_) P0, Pi_e E (fun c i q => ?_) P1, L'⟩
  · have := pS_0 q; unfold cS; omega
  · have := pS_1 q; unfold cS; omega
/-- what is kept, the stand, what can be undone -/
theorem CA_kept (C : CA M lt len τ τd σ pa ph ka kh ci cs cn) (E : Eqx (fun c i => pS 1 c i ∨ (c = 5 ∧ i = 0) ∨ (c = 9 ∧ i = 16) ∨ (c = 3 ∧ i = 0)) M M') (S' : St M' 0 σ') (P0' : Pi M' 0 pa' ph') (P1' : Pi M' 1 ka' kh') : CA M' lt len τ τd σ' pa' ph' ka' kh' ci cs cn := by
  obtain ⟨h, hh, r1, r2, P, H1, H2, S, P0, P1, L⟩ := C
  have nq : ∀ {c i : Nat}, ¬ (((c = 3 ∧ i = 1) ∨ (c = 10 ∧ i = 1) ∨ (c = 5 ∧ 10 ≤ i ∧ i < 12) ∨ (c = 9 ∧ 26 ≤ i ∧ i < 28)) ∨ (c = 5 ∧ i = 0) ∨ (c = 9 ∧ i = 16) ∨ (c = 3 ∧ i = 0)) → ¬ (pS 1 c i ∨ (c = 5 ∧ i = 0) ∨ (c = 9 ∧ i = 16) ∨ (c = 3 ∧ i = 0)) := fun a b => a (b.imp pS_1 id)
  refine ⟨h, hh, (E _ _ _ (nq (by omega))).2.trans r1, (E _ _ _ (nq (by omega))).2.trans r2, Pg_e E (nq (by omega)) (nq (by omega)) P, Ho_e E (fun r a b => nq (by omega)) (nq (by omega)) H1, Ho_e E (fun r a b => nq (by omega)) (nq (by omega)) H2, S', P0', P1', Cl_e E (fun c i q => ?_) L⟩
  unfold cS at q
  exact nq (by omega)
/-- the house that isn't laid -/
theorem CA_draft {h : Nat} (hh : h < 2) (r1 : gR M 7 0 1 = h) (C : CA M lt len τ τd σ pa ph ka kh ci cs cn) (E : Eqx (rS (1 - h)) M M') (P' : Pg M' lt len) (H' : Ho M' (1 - h) τd') : CA M' lt len τ τd' σ pa ph ka kh ci cs cn := by
  obtain ⟨h2, hh2, r1', r2, P, H1, H2, S, P0, P1, L⟩ := C
  have e : h2 = h := r1'.symm.trans r1
  subst e
  refine ⟨h2, hh, (E _ _ _ (by unfold rS hS fS; omega)).2.trans r1, (E _ _ _ (by unfold rS hS fS; omega)).2.trans r2, P', Ho_e E (fun r a b => by unfold rS hS fS; omega) (by unfold rS hS fS; omega) H1, H', St_e E (by unfold rS hS fS; omega) (by unfold rS hS fS; omega) S, Pi_e E (fun c i q => ?_) P0, Pi_e E (fun c i q => ?_) P1, Cl_e E (fun c i q => ?_) L⟩
  · have := pS_0 q; unfold rS hS fS; omega
  · have := pS_1 q; unfold rS hS fS; omega
  · unfold cS at q; unfold rS hS fS; omega
end CAU
theorem cl_scr {M M' : bM} (E : Eqx scr M M') : Eqx clS M M' := Eqx_mo E (fun c i q => by unfold scr at q; unfold clS; omega)
