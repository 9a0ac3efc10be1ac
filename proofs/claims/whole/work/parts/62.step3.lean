/-! one call of both, 3 -/
section ST3
variable {d G : Nat} {M : bM} {x y w : Int32}
theorem st_wash (I : INV G M) : Run 1 (d + 20) 59 [vr 7 0, .inl x] M (fun v M1 => ∃ t, v = .inl t ∧ Run 1 (d + 20) 119 [vr 8 0, .inl x] M1 (fun v' M2 => v' = .inl t ∧ INV (G + 24) M2)) := by
  obtain ⟨lt, len, τ, τd, σ, pa, ph, ka, kh, ci, cs, cn, C, A, V, s1, s2⟩ := I
  obtain ⟨K, n1, hs, hg, v1, v2, v3⟩ := id V
  have hn := K.1
  have bad : ∀ a, a < τ 7 0 → per τ a = true → x = nI a → ¬ hpB x τ = false := by
    intro a ha hp ex e
    subst ex
    rw [hpB_nI K (by omega), hp] at e
    exact absurd e (by decide)
  refine uX7_wash (d := d + 15) C V ⟨fun e => ?_, fun a ha hp ex M1 C1 E1 => ?_⟩
  · refine ⟨_, rfl, vX8_wash (d := d + 16) A V ⟨fun _ => ?_, fun a ha hp ex M2 A2 E2 => absurd e (bad a ha hp ex)⟩⟩
    exact ⟨rfl, lt, len, τ, τd, σ, pa, ph, ka, kh, ci, cs, cn, C, A, VA_mo V (by omega), s1, s2⟩
  · refine ⟨_, rfl, vX8_wash (d := d + 16) (MA_cl E1 A) V ⟨fun e => absurd e (bad a ha hp ex), fun a' ha' hp' ex' M2 A2 E2 => ?_⟩⟩
    have ea : a = a' := by rw [ex, nI_eq (by omega) (by omega)] at ex'; exact ex'
    subst ea
    exact ⟨rfl, lt, len, τ, τd, _, _, _, ka, kh, ci, cs, cn, CA_md C1 E2, A2, ⟨K, n1, OKs_li hs (by omega), by show σ.2.2 ≤ G + 24; omega, push_V (by decide) A.2.2.2.1.2.1 v1 hs hg (by omega), fun j hj => ⟨(v2 j hj).1, by have := (v2 j hj).2; omega⟩, v3⟩, s1, s2⟩
theorem st_powder (I : INV G M) : Run 1 (d + 20) 60 [vr 7 0, .inl x] M (fun v M1 => ∃ t, v = .inl t ∧ Run 1 (d + 20) 121 [vr 8 0, .inl x] M1 (fun v' M2 => v' = .inl t ∧ INV (G + 24) M2)) := by
  obtain ⟨lt, len, τ, τd, σ, pa, ph, ka, kh, ci, cs, cn, C, A, V, s1, s2⟩ := I
  obtain ⟨K, n1, hs, hg, v1, v2, v3⟩ := id V
  have hn := K.1
  have bad : ∀ a, a < τ 7 0 → per τ a = true → x = nI a → ¬ hpB x τ = false := by
    intro a ha hp ex e
    subst ex
    rw [hpB_nI K (by omega), hp] at e
    exact absurd e (by decide)
  have eqa : ∀ a a', a < τ 7 0 → a' < τ 7 0 → x = nI a → x = nI a' → a = a' := by
    intro a a' ha ha' ex ex'
    rw [ex, nI_eq (by omega) (by omega)] at ex'
    exact ex'
  refine uX7_powder (d := d + 15) C V ⟨fun e => ?_, fun a ha hp ex => ⟨fun hb => ?_, fun hb M1 C1 E1 => ?_⟩⟩
  · refine ⟨_, rfl, vX8_powder (d := d + 16) A V ⟨fun _ => ?_, fun a ha hp ex => absurd e (bad a ha hp ex)⟩⟩
    exact ⟨rfl, lt, len, τ, τd, σ, pa, ph, ka, kh, ci, cs, cn, C, A, VA_mo V (by omega), s1, s2⟩
  · refine ⟨_, rfl, vX8_powder (d := d + 16) A V ⟨fun e => absurd e (bad a ha hp ex), fun a' ha' hp' ex' => ⟨fun _ => ?_, fun hb' M2 A2 E2 => ?_⟩⟩⟩
    · exact ⟨rfl, lt, len, τ, τd, σ, pa, ph, ka, kh, ci, cs, cn, C, A, VA_mo V (by omega), s1, s2⟩
    · have := eqa a a' ha ha' ex ex'
      subst this
      rw [hb] at hb'
      exact absurd hb' (by decide)
  · refine ⟨_, rfl, vX8_powder (d := d + 16) (MA_cl E1 A) V ⟨fun e => absurd e (bad a ha hp ex), fun a' ha' hp' ex' => ⟨fun hb' => ?_, fun _ M2 A2 E2 => ?_⟩⟩⟩
    · have := eqa a a' ha ha' ex ex'
      subst this
      rw [hb] at hb'
      exact absurd hb' (by decide)
    · have := eqa a a' ha ha' ex ex'
      subst this
      exact ⟨rfl, lt, len, τ, τd, _, _, _, ka, kh, ci, cs, cn, CA_md C1 E2, A2, ⟨K, n1, ⟨hs.1, pow_l hs.2 (by omega)⟩, by show σ.2.2 ≤ G + 24; omega, push_V (by decide) A.2.2.2.1.2.1 v1 hs hg (by omega), fun j hj => ⟨(v2 j hj).1, by have := (v2 j hj).2; omega⟩, v3⟩, s1, s2⟩
theorem st_show (I : INV G M) : Run 1 (d + 20) 66 [vr 7 0, .inl x, .inl y] M (fun v M1 => ∃ t, v = .inl t ∧ Run 1 (d + 20) 129 [vr 8 0, .inl x, .inl y] M1 (fun v' M2 => v' = .inl t ∧ INV (G + 24) M2)) := by
  obtain ⟨lt, len, τ, τd, σ, pa, ph, ka, kh, ci, cs, cn, C, A, V, s1, s2⟩ := I
  obtain ⟨K, n1, hs, hg, v1, v2, v3⟩ := id V
  have hn := K.1
  have bad : ∀ i s, i < τ 7 0 → s < 10 → x = nI i → y = nI s → ¬ (hsB x (τ 7 0) = false ∨ hsB y 10 = false) := by
    intro i s hi hs' ex ey e
    subst ex ey
    rw [hsB_nI hi (by omega), hsB_nI hs' (by decide)] at e
    rcases e with e | e <;> exact absurd e (by decide)
  refine uX7_show (d := d + 17) C V ⟨fun e => ?_, fun i s hi hs' ex ey => ⟨fun f => ?_, fun f M1 C1 E1 => ?_⟩⟩
  · refine ⟨_, rfl, vX8_show (d := d + 17) A V ⟨fun _ => ?_, fun i s hi hs' ex ey => absurd e (bad i s hi hs' ex ey)⟩⟩
    exact ⟨rfl, lt, len, τ, τd, σ, pa, ph, ka, kh, ci, cs, cn, C, A, VA_mo V (by omega), s1, s2⟩
  · refine ⟨_, rfl, vX8_show (d := d + 17) A V ⟨fun e => absurd e (bad i s hi hs' ex ey), fun i' t hi' ht ex' ey' => ⟨fun _ => ?_, fun f2 => absurd f f2⟩⟩⟩
    exact ⟨rfl, lt, len, τ, τd, σ, pa, ph, ka, kh, ci, cs, cn, C, A, VA_mo V (by omega), s1, s2⟩
  · refine ⟨_, rfl, vX8_show (d := d + 17) (MA_cl E1 A) V ⟨fun e => absurd e (bad i s hi hs' ex ey), fun i' t hi' ht ex' ey' => ⟨fun f2 => absurd f2 f, fun _ M2 A2 E2 => ?_⟩⟩⟩
    have e1 : i = i' := by rw [ex, nI_eq (by omega) (by omega)] at ex'; exact ex'
    have e2 : s = t := by rw [ey, nI_eq (by omega) (by omega)] at ey'; exact ey'
    subst e1 e2
    obtain ⟨K, n1, hs, hg, v1, v2, v3⟩ := VA_mo V (show G ≤ G + 24 by omega)
    refine ⟨rfl, lt, len, τ, τd, σ, pa, ph, ka, kh, _, _, _, CA_md C1 E2, A2, ⟨K, n1, hs, hg, v1, v2, fun j hj => ?_⟩, s1, s2⟩
    unfold upN
    by_cases c : j = cn
    · rw [if_pos c, if_pos c]; exact ⟨hi, by omega⟩
    · rw [if_neg c, if_neg c]; exact v3 j (by omega)
theorem st_keep (I : INV G M) : Run 1 (d + 20) 74 [vr 7 0] M (fun v M1 => ∃ t, v = .inl t ∧ Run 1 (d + 20) 141 [vr 8 0] M1 (fun v' M2 => v' = .inl t ∧ INV (G + 24) M2)) := by
  obtain ⟨lt, len, τ, τd, σ, pa, ph, ka, kh, ci, cs, cn, C, A, V, s1, s2⟩ := I
  obtain ⟨K, n1, hs, hg, v1, v2, v3⟩ := id V
  have hn := K.1
  refine uX7_keep (d := d + 15) C ⟨fun e => ?_, fun e e' M1 C1 E1 => ?_⟩
  · refine ⟨_, rfl, vX8_keep (d := d + 19) A hn ⟨fun _ => ?_, fun e2 => absurd e e2⟩⟩
    exact ⟨rfl, lt, len, τ, τd, σ, pa, ph, ka, kh, ci, cs, cn, C, A, VA_mo V (by omega), s1, s2⟩
  · refine ⟨_, rfl, vX8_keep (d := d + 19) (MA_cl E1 A) hn ⟨fun e2 => absurd e2 e, fun _ _ M2 A2 E2 => ?_⟩⟩
    exact ⟨rfl, lt, len, τ, τd, σ, pa, ph, _, _, ci, cs, cn, CA_md C1 E2, A2, ⟨K, n1, hs, by omega, fun j hj => ⟨(v1 j hj).1, by have := (v1 j hj).2; omega⟩, push_V (by decide) (by omega) v2 hs hg (by omega), v3⟩, s1, s2⟩
theorem st_back (I : INV G M) : Run 1 (d + 20) 75 [vr 7 0] M (fun v M1 => ∃ t, v = .inl t ∧ Run 1 (d + 20) 142 [vr 8 0] M1 (fun v' M2 => v' = .inl t ∧ INV (G + 24) M2)) := by
  obtain ⟨lt, len, τ, τd, σ, pa, ph, ka, kh, ci, cs, cn, C, A, V, s1, s2⟩ := I
  obtain ⟨K, n1, hs, hg, v1, v2, v3⟩ := VA_mo V (show G ≤ G + 24 by omega)
  have hn := K.1
  refine uX7_back (d := d + 15) C ⟨fun e => ?_, fun k e M1 C1 E1 => ?_⟩
  · refine ⟨_, rfl, vX8_back (d := d + 19) A hn ⟨fun _ => ?_, fun k e2 M2 A2 E2 => by omega⟩⟩
    exact ⟨rfl, lt, len, τ, τd, σ, pa, ph, ka, kh, ci, cs, cn, C, A, VA_mo V (by omega), s1, s2⟩
  · refine ⟨_, rfl, vX8_back (d := d + 19) (MA_cl E1 A) hn ⟨fun e2 => by omega, fun k' e2 M2 A2 E2 => ?_⟩⟩
    have ek : k = k' := by omega
    subst ek
    have := v2 k (by omega)
    exact ⟨rfl, lt, len, τ, τd, _, pa, 0, ka, k, ci, cs, cn, CA_md C1 E2, A2, ⟨K, n1, this.1, this.2, fun j hj => by omega, fun j hj => v2 j (by omega), v3⟩, s1, s2⟩
end ST3
