/-! one call of both, 1 -/
theorem CA_md {M M' : bM} {lt : Nat → Nat} {len : Nat} {τ τd : Nat → Nat → Nat} {σ : sT} {pa : Nat → sT} {ph : Nat} {ka : Nat → sT} {kh : Nat} {ci cs : Nat → Nat} {cn : Nat} (C : CA M lt len τ τd σ pa ph ka kh ci cs cn) (E : Eqx mdS M M') : CA M' lt len τ τd σ pa ph ka kh ci cs cn := by
  obtain ⟨h, hh, r1, r2, P, H1, H2, S, P0, P1, L⟩ := C
  refine ⟨h, hh, (E _ _ _ (by unfold mdS; omega)).2.trans r1, (E _ _ _ (by unfold mdS; omega)).2.trans r2, Pg_e E (by unfold mdS; omega) (by unfold mdS; omega) P, Ho_e E (fun r a b => by unfold mdS; omega) (by unfold mdS; omega) H1, Ho_e E (fun r a b => by unfold mdS; omega) (by unfold mdS; omega) H2, St_e E (by unfold mdS; omega) (by unfold mdS; omega) S, Pi_e E (fun c i q => ?_) P0, Pi_e E (fun c i q => ?_) P1, Cl_e E (fun c i q => ?_) L⟩
  · have := pS_0 q; unfold mdS; omega
  · have := pS_1 q; unfold mdS; omega
  · unfold cS at q; unfold mdS; omega
/-- both stand alike -/
def INV (G : Nat) (M : bM) : Prop := ∃ lt len τ τd σ pa ph ka kh ci cs cn, CA M lt len τ τd σ pa ph ka kh ci cs cn ∧ MA M lt len τ σ pa ph ka kh ci cs cn ∧ VA G τ σ pa ph ka kh ci cs cn ∧ S9 τ ∧ S9 τd
theorem VA_mo {G G' : Nat} {τ : Nat → Nat → Nat} {σ : sT} {pa : Nat → sT} {ph : Nat} {ka : Nat → sT} {kh : Nat} {ci cs : Nat → Nat} {cn : Nat} (V : VA G τ σ pa ph ka kh ci cs cn) (h : G ≤ G') : VA G' τ σ pa ph ka kh ci cs cn := by
  obtain ⟨K, n1, hs, hg, v1, v2, v3⟩ := V
  exact ⟨K, n1, hs, by omega, fun j hj => ⟨(v1 j hj).1, by have := (v1 j hj).2; omega⟩, fun j hj => ⟨(v2 j hj).1, by have := (v2 j hj).2; omega⟩, v3⟩
section ST
variable {d G : Nat} {M : bM} {x y w : Int32}
theorem st_item (I : INV G M) : Run 1 (d + 20) 55 [vr 7 0, .inl x, .inl w] M (fun v M1 => ∃ t, v = .inl t ∧ Run 1 (d + 20) 108 [vr 8 0, .inl x, .inl w] M1 (fun v' M2 => v' = .inl t ∧ INV (G + 24) M2)) := by
  obtain ⟨lt, len, τ, τd, σ, pa, ph, ka, kh, ci, cs, cn, C, A, V, s1, s2⟩ := I
  refine uX7_item (d := d + 16) C V ?_
  refine ⟨_, rfl, vX8_item (d := d + 16) A V ?_⟩
  exact ⟨rfl, lt, len, τ, τd, σ, pa, ph, ka, kh, ci, cs, cn, C, A, VA_mo V (by omega), s1, s2⟩
theorem st_hour (I : INV G M) : Run 1 (d + 20) 56 [vr 7 0, .inl x, .inl w] M (fun v M1 => ∃ t, v = .inl t ∧ Run 1 (d + 20) 109 [vr 8 0, .inl x, .inl w] M1 (fun v' M2 => v' = .inl t ∧ INV (G + 24) M2)) := by
  obtain ⟨lt, len, τ, τd, σ, pa, ph, ka, kh, ci, cs, cn, C, A, V, s1, s2⟩ := I
  refine uX7_hour (d := d + 17) C V ?_
  refine ⟨_, rfl, vX8_hour (d := d + 18) A V ?_⟩
  exact ⟨rfl, lt, len, τ, τd, σ, pa, ph, ka, kh, ci, cs, cn, C, A, VA_mo V (by omega), s1, s2⟩
theorem st_count (hG : G < 2 ^ 27) (I : INV G M) : Run 1 (d + 20) 76 [vr 7 0, .inl x] M (fun v M1 => ∃ t, v = .inl t ∧ Run 1 (d + 20) 143 [vr 8 0, .inl x] M1 (fun v' M2 => v' = .inl t ∧ INV (G + 24) M2)) := by
  obtain ⟨lt, len, τ, τd, σ, pa, ph, ka, kh, ci, cs, cn, C, A, V, s1, s2⟩ := I
  refine uX7_count (d := d + 16) C V ?_
  refine ⟨_, rfl, vX8_count (d := d + 16) A V (by omega) ?_⟩
  exact ⟨rfl, lt, len, τ, τd, σ, pa, ph, ka, kh, ci, cs, cn, C, A, VA_mo V (by omega), s1, s2⟩
theorem st_soap (I : INV G M) : Run 1 (d + 20) 64 [vr 7 0, .inl x] M (fun v M1 => ∃ t, v = .inl t ∧ Run 1 (d + 20) 127 [vr 8 0, .inl x] M1 (fun v' M2 => v' = .inl t ∧ INV (G + 24) M2)) := by
  obtain ⟨lt, len, τ, τd, σ, pa, ph, ka, kh, ci, cs, cn, C, A, V, s1, s2⟩ := I
  refine uX7_soap (d := d + 16) C V ?_
  refine ⟨_, rfl, vX8_soap (d := d + 16) A V ?_⟩
  exact ⟨rfl, lt, len, τ, τd, σ, pa, ph, ka, kh, ci, cs, cn, C, A, VA_mo V (by omega), s1, s2⟩
theorem st_behind (hG : G < 2 ^ 27) (I : INV G M) : Run 1 (d + 20) 62 [vr 7 0, .inl x, .inl y, .inl w] M (fun v M1 => ∃ t, v = .inl t ∧ Run 1 (d + 20) 125 [vr 8 0, .inl x, .inl y, .inl w] M1 (fun v' M2 => v' = .inl t ∧ INV (G + 24) M2)) := by
  obtain ⟨lt, len, τ, τd, σ, pa, ph, ka, kh, ci, cs, cn, C, A, V, s1, s2⟩ := I
  refine uX7_behind (d := d + 14) C V (by omega) (fun M1 C1 E1 => ?_)
  refine ⟨_, rfl, vX8_behind (d := d + 15) (MA_cl E1 A) V (by omega) (fun M2 A2 E2 => ?_)⟩
  exact ⟨rfl, lt, len, τ, τd, σ, pa, ph, ka, kh, ci, cs, cn, CA_md C1 E2, A2, VA_mo V (by omega), s1, s2⟩
theorem st_asIf (I : INV G M) : Run 1 (d + 20) 63 [vr 7 0, .inl x, .inl y, .inl w] M (fun v M1 => ∃ t, v = .inl t ∧ Run 1 (d + 20) 126 [vr 8 0, .inl x, .inl y, .inl w] M1 (fun v' M2 => v' = .inl t ∧ INV (G + 24) M2)) := by
  obtain ⟨lt, len, τ, τd, σ, pa, ph, ka, kh, ci, cs, cn, C, A, V, s1, s2⟩ := I
  refine uX7_asIf (d := d + 11) C V (fun M1 C1 E1 => ?_)
  refine ⟨_, rfl, vX8_asIf (d := d + 16) (MA_cl E1 A) V (fun M2 A2 E2 => ?_)⟩
  exact ⟨rfl, lt, len, τ, τd, σ, pa, ph, ka, kh, ci, cs, cn, CA_md C1 E2, A2, VA_mo V (by omega), s1, s2⟩
theorem st_alike (I : INV G M) : Run 1 (d + 20) 65 [vr 7 0, .inl x] M (fun v M1 => ∃ t, v = .inl t ∧ Run 1 (d + 20) 128 [vr 8 0, .inl x] M1 (fun v' M2 => v' = .inl t ∧ INV (G + 24) M2)) := by
  obtain ⟨lt, len, τ, τd, σ, pa, ph, ka, kh, ci, cs, cn, C, A, V, s1, s2⟩ := I
  refine uX7_alike (d := d + 16) C V ⟨fun e => ?_, fun e M1 C1 E1 => ?_⟩
  · refine ⟨_, rfl, vX8_alike (d := d + 16) A V ⟨fun _ => ?_, fun e2 => absurd (e.symm.trans e2) (by decide)⟩⟩
    exact ⟨rfl, lt, len, τ, τd, σ, pa, ph, ka, kh, ci, cs, cn, C, A, VA_mo V (by omega), s1, s2⟩
  · refine ⟨_, rfl, vX8_alike (d := d + 16) (MA_cl E1 A) V ⟨fun e2 => absurd (e2.symm.trans e) (by decide), fun _ => ?_⟩⟩
    exact ⟨rfl, lt, len, τ, τd, σ, pa, ph, ka, kh, ci, cs, cn, C1, MA_cl E1 A, VA_mo V (by omega), s1, s2⟩
theorem st_touched (I : INV G M) : Run 1 (d + 20) 68 [vr 7 0, .inl x] M (fun v M1 => ∃ t, v = .inl t ∧ Run 1 (d + 20) 132 [vr 8 0, .inl x] M1 (fun v' M2 => v' = .inl t ∧ INV (G + 24) M2)) := by
  obtain ⟨lt, len, τ, τd, σ, pa, ph, ka, kh, ci, cs, cn, C, A, V, s1, s2⟩ := I
  refine uX7_touched (d := d + 16) C V ⟨fun e => ?_, fun e M1 C1 E1 => ?_⟩
  · refine ⟨_, rfl, vX8_touched (d := d + 16) A V ⟨fun _ => ?_, fun e2 => absurd (e.symm.trans e2) (by decide)⟩⟩
    exact ⟨rfl, lt, len, τ, τd, σ, pa, ph, ka, kh, ci, cs, cn, C, A, VA_mo V (by omega), s1, s2⟩
  · refine ⟨_, rfl, vX8_touched (d := d + 16) (MA_cl E1 A) V ⟨fun e2 => absurd (e2.symm.trans e) (by decide), fun _ M2 A2 E2 => ?_⟩⟩
    exact ⟨rfl, lt, len, τ, τd, σ, pa, ph, ka, kh, ci, cs, cn, CA_md C1 E2, A2, VA_mo V (by omega), s1, s2⟩
theorem st_order (I : INV G M) : Run 1 (d + 20) 69 [vr 7 0, .inl x] M (fun v M1 => ∃ t, v = .inl t ∧ Run 1 (d + 20) 134 [vr 8 0, .inl x] M1 (fun v' M2 => v' = .inl t ∧ INV (G + 24) M2)) := by
  obtain ⟨lt, len, τ, τd, σ, pa, ph, ka, kh, ci, cs, cn, C, A, V, s1, s2⟩ := I
  refine uX7_order (d := d + 9) C V s1 (fun M1 C1 E1 => ?_)
  refine ⟨_, rfl, vX8_order (d := d + 17) (MA_cl E1 A) V s1 (fun M2 A2 E2 => ?_)⟩
  exact ⟨rfl, lt, len, τ, τd, σ, pa, ph, ka, kh, ci, cs, cn, CA_md C1 E2, A2, VA_mo V (by omega), s1, s2⟩
theorem st_box (hG : G < 2 ^ 27) (I : INV G M) : Run 1 (d + 20) 70 [vr 7 0] M (fun v M1 => ∃ t, v = .inl t ∧ Run 1 (d + 20) 135 [vr 8 0] M1 (fun v' M2 => v' = .inl t ∧ INV (G + 24) M2)) := by
  obtain ⟨lt, len, τ, τd, σ, pa, ph, ka, kh, ci, cs, cn, C, A, V, s1, s2⟩ := I
  refine uX7_box (d := d + 14) C V (by omega) (fun M1 C1 E1 => ?_)
  refine ⟨_, rfl, vX8_box (d := d + 15) (MA_cl E1 A) V (by omega) (fun M2 A2 E2 => ?_)⟩
  exact ⟨rfl, lt, len, τ, τd, σ, pa, ph, ka, kh, ci, cs, cn, CA_md C1 E2, A2, VA_mo V (by omega), s1, s2⟩
theorem st_from (I : INV G M) : Run 1 (d + 20) 71 [vr 7 0, .inl x, .inl y] M (fun v M1 => ∃ t, v = .inl t ∧ Run 1 (d + 20) 137 [vr 8 0, .inl x, .inl y] M1 (fun v' M2 => v' = .inl t ∧ INV (G + 24) M2)) := by
  obtain ⟨lt, len, τ, τd, σ, pa, ph, ka, kh, ci, cs, cn, C, A, V, s1, s2⟩ := I
  refine uX7_from (d := d + 17) C V ?_
  refine ⟨_, rfl, vX8_from (d := d + 17) A V (fun M2 A2 E2 => ?_)⟩
  exact ⟨rfl, lt, len, τ, τd, σ, pa, ph, ka, kh, ci, cs, cn, CA_md C E2, A2, VA_mo V (by omega), s1, s2⟩
theorem st_led (I : INV G M) : Run 1 (d + 20) 72 [vr 7 0, .inl x, .inl y, .inl w] M (fun v M1 => ∃ t, v = .inl t ∧ Run 1 (d + 20) 138 [vr 8 0, .inl x, .inl y, .inl w] M1 (fun v' M2 => v' = .inl t ∧ INV (G + 24) M2)) := by
  obtain ⟨lt, len, τ, τd, σ, pa, ph, ka, kh, ci, cs, cn, C, A, V, s1, s2⟩ := I
  refine uX7_led (d := d + 17) C V (fun M1 C1 E1 => ?_)
  refine ⟨_, rfl, vX8_led (d := d + 17) (MA_cl E1 A) V (fun M2 A2 E2 => ?_)⟩
  exact ⟨rfl, lt, len, τ, τd, σ, pa, ph, ka, kh, ci, cs, cn, CA_md C1 E2, A2, VA_mo V (by omega), s1, s2⟩
theorem st_dogs (hG : G < 2 ^ 27) (I : INV G M) : Run 1 (d + 20) 73 [vr 7 0, .inl x, .inl y, .inl w] M (fun v M1 => ∃ t, v = .inl t ∧ Run 1 (d + 20) 139 [vr 8 0, .inl x, .inl y, .inl w] M1 (fun v' M2 => v' = .inl t ∧ INV (G + 24) M2)) := by
  obtain ⟨lt, len, τ, τd, σ, pa, ph, ka, kh, ci, cs, cn, C, A, V, s1, s2⟩ := I
  refine uX7_dogs (d := d + 14) C V (by omega) (fun M1 C1 E1 => ?_)
  refine ⟨_, rfl, vX8_dogs (d := d + 15) (MA_cl E1 A) V (by omega) (fun M2 A2 E2 => ?_)⟩
  exact ⟨rfl, lt, len, τ, τd, σ, pa, ph, ka, kh, ci, cs, cn, CA_md C1 E2, A2, VA_mo V (by omega), s1, s2⟩
end ST
