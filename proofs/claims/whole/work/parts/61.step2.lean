/-! one call of both, 2 -/
theorem push_V {cap h G G' : Nat} {img : Nat → sT} {σ : sT} (hc : 0 < cap) (hh : h ≤ cap) (hi : ∀ j, j < h → OKs (img j) ∧ (img j).2.2 ≤ G) (hs : OKs σ) (hg : σ.2.2 ≤ G) (hG : G ≤ G') : ∀ j, j < pushH cap h → OKs (pushP cap img h σ j) ∧ (pushP cap img h σ j).2.2 ≤ G' := by
  intro j hj
  unfold pushH at hj
  unfold pushP
  by_cases c : h = cap
  · rw [if_pos c] at hj ⊢
    by_cases q : j = cap - 1
    · simp only [if_pos q]; exact ⟨hs, by omega⟩
    · simp only [if_neg q]
      have := hi (j + 1) (by omega)
      exact ⟨this.1, by have := this.2; omega⟩
  · rw [if_neg c] at hj ⊢
    by_cases q : j = h
    · simp only [if_pos q]; exact ⟨hs, by omega⟩
    · simp only [if_neg q]
      have := hi j (by omega)
      exact ⟨this.1, by have := this.2; omega⟩
section ST2
variable {d G : Nat} {M : bM} {x y w : Int32}
theorem st_write (I : INV G M) : Run 1 (d + 20) 51 [vr 7 0, .inl x] M (fun v M1 => ∃ t, v = .inl t ∧ Run 1 (d + 20) 93 [vr 8 0, .inl x] M1 (fun v' M2 => v' = .inl t ∧ INV (G + 24) M2)) := by
  obtain ⟨lt, len, τ, τd, σ, pa, ph, ka, kh, ci, cs, cn, C, A, V, s1, s2⟩ := I
  refine uX7_write (d := d + 17) C ⟨fun e => ?_, fun e => ⟨fun f => ?_, fun f M1 C1 E1 => ?_⟩⟩
  · refine ⟨_, rfl, vX8_write (d := d + 18) A ⟨fun _ => ?_, fun e2 => absurd e e2⟩⟩
    exact ⟨rfl, lt, len, τ, τd, σ, pa, ph, ka, kh, ci, cs, cn, C, A, VA_mo V (by omega), s1, s2⟩
  · refine ⟨_, rfl, vX8_write (d := d + 18) A ⟨fun e2 => absurd e2 e, fun _ => ⟨fun _ => ?_, fun f2 => absurd f f2⟩⟩⟩
    exact ⟨rfl, lt, len, τ, τd, σ, pa, ph, ka, kh, ci, cs, cn, C, A, VA_mo V (by omega), s1, s2⟩
  · refine ⟨_, rfl, vX8_write (d := d + 18) (MA_cl E1 A) ⟨fun e2 => absurd e2 e, fun _ => ⟨fun f2 => absurd f2 f, fun _ M2 A2 E2 => ?_⟩⟩⟩
    exact ⟨rfl, _, _, τ, τd, σ, pa, ph, ka, kh, ci, cs, cn, CA_md C1 E2, A2, VA_mo V (by omega), s1, s2⟩
theorem st_wipe (I : INV G M) : Run 1 (d + 20) 52 [vr 7 0] M (fun v M1 => ∃ t, v = .inl t ∧ Run 1 (d + 20) 94 [vr 8 0] M1 (fun v' M2 => v' = .inl t ∧ INV (G + 24) M2)) := by
  obtain ⟨lt, len, τ, τd, σ, pa, ph, ka, kh, ci, cs, cn, C, A, V, s1, s2⟩ := I
  refine uX7_wipe (d := d + 18) C (fun M1 C1 E1 => ?_)
  refine ⟨_, rfl, vX8_wipe (d := d + 19) (MA_cl E1 A) (fun M2 A2 E2 => ?_)⟩
  exact ⟨rfl, lt, 0, τ, τd, σ, pa, ph, ka, kh, ci, cs, cn, CA_md C1 E2, A2, VA_mo V (by omega), s1, s2⟩
theorem st_fault (I : INV G M) : Run 1 (d + 20) 53 [vr 7 0] M (fun v M1 => ∃ t, v = .inl t ∧ Run 1 (d + 20) 104 [vr 8 0] M1 (fun v' M2 => v' = .inl t ∧ INV (G + 24) M2)) := by
  obtain ⟨lt, len, τ, τd, σ, pa, ph, ka, kh, ci, cs, cn, C, A, V, s1, s2⟩ := I
  refine uX7_fault (d := d + 13) C (fun M1 C1 E1 => ?_)
  refine ⟨_, rfl, vX8_fault (d := d + 14) (τd := τd) (MA_cl E1 A) (fun M2 A2 E2 => ?_)⟩
  exact ⟨rfl, lt, len, τ, _, σ, pa, ph, ka, kh, ci, cs, cn, CA_md C1 E2, A2, VA_mo V (by omega), s1, S9_scn _ _ _ (S9_nil s2)⟩
theorem st_lay (I : INV G M) : Run 1 (d + 20) 54 [vr 7 0] M (fun v M1 => ∃ t, v = .inl t ∧ Run 1 (d + 20) 106 [vr 8 0] M1 (fun v' M2 => v' = .inl t ∧ INV (G + 24) M2)) := by
  obtain ⟨lt, len, τ, τd, σ, pa, ph, ka, kh, ci, cs, cn, C, A, V, s1, s2⟩ := I
  have s3 : S9 (scn lt len 200 (nil0 τd) 0).2 := S9_scn _ _ _ (S9_nil s2)
  refine uX7_lay (d := d + 12) C ⟨fun e M1 C1 E1 => ?_, fun e K M1 C1 E1 => ?_⟩
  · refine ⟨_, rfl, vX8_lay (d := d + 14) (τd := τd) (MA_cl E1 A) ⟨fun _ M2 A2 E2 => ?_, fun e2 => absurd e2 e⟩⟩
    exact ⟨rfl, lt, len, τ, _, σ, pa, ph, ka, kh, ci, cs, cn, CA_md C1 E2, A2, VA_mo V (by omega), s1, s3⟩
  · refine ⟨_, rfl, vX8_lay (d := d + 14) (τd := τd) (MA_cl E1 A) ⟨fun e2 => absurd e e2, fun _ K2 M2 A2 E2 => ?_⟩⟩
    have hp := ppl_le (scn lt len 200 (nil0 τd) 0).2 ((scn lt len 200 (nil0 τd) 0).2 7 0)
    have := e.2
    exact ⟨rfl, lt, len, _, τ, _, pa, 0, ka, 0, ci, cs, 0, CA_md C1 E2, A2, ⟨K, by omega, ⟨s3, (by decide : 0 < 512)⟩, by show 0 ≤ G + 24; omega, fun j hj => by omega, fun j hj => by omega, fun j hj => by omega⟩, s3, s1⟩
theorem st_pass (hG : G < 2 ^ 27) (I : INV G M) : Run 1 (d + 20) 57 [vr 7 0, .inl x] M (fun v M1 => ∃ t, v = .inl t ∧ Run 1 (d + 20) 117 [vr 8 0, .inl x] M1 (fun v' M2 => v' = .inl t ∧ INV (G + 24) M2)) := by
  obtain ⟨lt, len, τ, τd, σ, pa, ph, ka, kh, ci, cs, cn, C, A, V, s1, s2⟩ := I
  obtain ⟨K, n1, hs, hg, v1, v2, v3⟩ := id V
  refine uX7_pass (d := d + 14) C V (by omega) ⟨fun e => ?_, fun n hn1 hn2 ex M1 C1 E1 => ?_⟩
  · refine ⟨_, rfl, vX8_pass (d := d + 15) A V (by omega) ⟨fun _ => ?_, fun n hn1 hn2 ex M2 A2 E2 => ?_⟩⟩
    · exact ⟨rfl, lt, len, τ, τd, σ, pa, ph, ka, kh, ci, cs, cn, C, A, VA_mo V (by omega), s1, s2⟩
    · exfalso
      subst ex
      rcases e with e | e
      · rw [lit_1, nI_ltI (by omega) (by decide)] at e; omega
      · rw [show (24 : Int32) = nI 24 from rfl, nI_ltI (by decide) (by omega)] at e; omega
  · refine ⟨_, rfl, vX8_pass (d := d + 15) (MA_cl E1 A) V (by omega) ⟨fun e => ?_, fun m hm1 hm2 em M2 A2 E2 => ?_⟩⟩
    · exfalso
      subst ex
      rcases e with e | e
      · rw [lit_1, nI_ltI (by omega) (by decide)] at e; omega
      · rw [show (24 : Int32) = nI 24 from rfl, nI_ltI (by decide) (by omega)] at e; omega
    · have enm : n = m := by
        rw [ex, nI_eq (by omega) (by omega)] at em
        exact em
      subst enm
      have hg' := hrN_g (τ := τ) (σ := σ) (n := n)
      exact ⟨rfl, lt, len, τ, τd, _, _, _, ka, kh, ci, cs, cn, CA_md C1 E2, A2, ⟨K, n1, OKs_hrN K hs, by omega, push_V (by decide) A.2.2.2.1.2.1 v1 hs hg (by omega), fun j hj => ⟨(v2 j hj).1, by have := (v2 j hj).2; omega⟩, v3⟩, s1, s2⟩
theorem st_touch (I : INV G M) : Run 1 (d + 20) 58 [vr 7 0, .inl x, .inl y] M (fun v M1 => ∃ t, v = .inl t ∧ Run 1 (d + 20) 118 [vr 8 0, .inl x, .inl y] M1 (fun v' M2 => v' = .inl t ∧ INV (G + 24) M2)) := by
  obtain ⟨lt, len, τ, τd, σ, pa, ph, ka, kh, ci, cs, cn, C, A, V, s1, s2⟩ := I
  obtain ⟨K, n1, hs, hg, v1, v2, v3⟩ := id V
  have hn := K.1
  have bad : ∀ a b, a < τ 7 0 → b < τ 7 0 → a ≠ b → x = nI a → y = nI b → ¬ (hsB x (τ 7 0) = false ∨ hsB y (τ 7 0) = false ∨ x = y) := by
    intro a b ha hb hab ex ey e
    subst ex ey
    rw [hsB_nI ha (by omega), hsB_nI hb (by omega), nI_eq (by omega) (by omega)] at e
    rcases e with e | e | e
    · exact absurd e (by decide)
    · exact absurd e (by decide)
    · exact hab e
  refine uX7_touch (d := d + 15) C V ⟨fun e => ?_, fun a b ha hb hab ex ey M1 C1 E1 => ?_⟩
  · refine ⟨_, rfl, vX8_touch (d := d + 17) A V ⟨fun _ => ?_, fun a b ha hb hab ex ey M2 A2 E2 => absurd e (bad a b ha hb hab ex ey)⟩⟩
    exact ⟨rfl, lt, len, τ, τd, σ, pa, ph, ka, kh, ci, cs, cn, C, A, VA_mo V (by omega), s1, s2⟩
  · refine ⟨_, rfl, vX8_touch (d := d + 17) (MA_cl E1 A) V ⟨fun e => absurd e (bad a b ha hb hab ex ey), fun a' b' ha' hb' hab' ex' ey' M2 A2 E2 => ?_⟩⟩
    have ea : a = a' := by rw [ex, nI_eq (by omega) (by omega)] at ex'; exact ex'
    have eb : b = b' := by rw [ey, nI_eq (by omega) (by omega)] at ey'; exact ey'
    subst ea eb
    exact ⟨rfl, lt, len, τ, τd, _, _, _, ka, kh, ci, cs, cn, CA_md C1 E2, A2, ⟨K, n1, OKs_tc (by omega) (by omega) hs, by show σ.2.2 ≤ G + 24; omega, push_V (by decide) A.2.2.2.1.2.1 v1 hs hg (by omega), fun j hj => ⟨(v2 j hj).1, by have := (v2 j hj).2; omega⟩, v3⟩, s1, s2⟩
theorem st_forget (I : INV G M) : Run 1 (d + 20) 67 [vr 7 0] M (fun v M1 => ∃ t, v = .inl t ∧ Run 1 (d + 20) 130 [vr 8 0] M1 (fun v' M2 => v' = .inl t ∧ INV (G + 24) M2)) := by
  obtain ⟨lt, len, τ, τd, σ, pa, ph, ka, kh, ci, cs, cn, C, A, V, s1, s2⟩ := I
  obtain ⟨K, n1, hs, hg, v1, v2, v3⟩ := VA_mo V (show G ≤ G + 24 by omega)
  refine uX7_forget (d := d + 18) C (fun M1 C1 E1 => ?_)
  refine ⟨_, rfl, vX8_forget (d := d + 19) (MA_cl E1 A) (fun M2 A2 E2 => ?_)⟩
  exact ⟨rfl, lt, len, τ, τd, σ, pa, ph, ka, kh, ci, cs, 0, CA_md C1 E2, A2, ⟨K, n1, hs, hg, v1, v2, fun j hj => by omega⟩, s1, s2⟩
theorem st_undo (I : INV G M) : Run 1 (d + 20) 61 [vr 7 0] M (fun v M1 => ∃ t, v = .inl t ∧ Run 1 (d + 20) 122 [vr 8 0] M1 (fun v' M2 => v' = .inl t ∧ INV (G + 24) M2)) := by
  obtain ⟨lt, len, τ, τd, σ, pa, ph, ka, kh, ci, cs, cn, C, A, V, s1, s2⟩ := I
  obtain ⟨K, n1, hs, hg, v1, v2, v3⟩ := VA_mo V (show G ≤ G + 24 by omega)
  have hn := K.1
  refine uX7_undo (d := d + 15) C ⟨fun e => ?_, fun k e M1 C1 E1 => ?_⟩
  · refine ⟨_, rfl, vX8_undo (d := d + 19) A hn ⟨fun _ => ?_, fun k e2 M2 A2 E2 => by omega⟩⟩
    exact ⟨rfl, lt, len, τ, τd, σ, pa, ph, ka, kh, ci, cs, cn, C, A, VA_mo V (by omega), s1, s2⟩
  · refine ⟨_, rfl, vX8_undo (d := d + 19) (MA_cl E1 A) hn ⟨fun e2 => by omega, fun k' e2 M2 A2 E2 => ?_⟩⟩
    have ek : k = k' := by omega
    subst ek
    have := v1 k (by omega)
    exact ⟨rfl, lt, len, τ, τd, _, pa, k, ka, kh, ci, cs, cn, CA_md C1 E2, A2, ⟨K, n1, this.1, this.2, fun j hj => v1 j (by omega), v2, v3⟩, s1, s2⟩
end ST2
