/-! the model's calls, 11: as if -/
def go9 (τ : Nat → Nat → Nat) (i s : Nat) : Nat → Nat → (Nat → Nat) → Bool
  | 0, _, f => decide (f i = s)
  | m + 1, c, f => if c / 9 ^ m % 9 < τ 7 0 ∧ ¬ c / 9 ^ m % 9 = i then go9 τ i s m c (pmt (τ 0) f i (c / 9 ^ m % 9)) else false
theorem go9_mod {τ : Nat → Nat → Nat} {i s : Nat} (m : Nat) : ∀ c c' f, c % 9 ^ m = c' % 9 ^ m → go9 τ i s m c f = go9 τ i s m c' f := by
  induction m with
  | zero => intro c c' f _; rfl
  | succ m ih =>
    intro c c' f h
    have h1 : c / 9 ^ m % 9 = c' / 9 ^ m % 9 := by
      rw [← Nat.mod_mul_right_div_self, ← Nat.mod_mul_right_div_self, ← Nat.pow_succ, h]
    have h2 : c % 9 ^ m = c' % 9 ^ m := by
      have e : 9 ^ m ∣ 9 ^ (m + 1) := ⟨9, by rw [Nat.pow_succ]⟩
      rw [← Nat.mod_mod_of_dvd c e, h, Nat.mod_mod_of_dvd c' e]
    unfold go9
    rw [h1]
    by_cases q : c' / 9 ^ m % 9 < τ 7 0 ∧ ¬ c' / 9 ^ m % 9 = i
    · rw [if_pos q, if_pos q]; exact ih _ _ _ h2
    · rw [if_neg q, if_neg q]
theorem ffR_s {g : Nat → Option Nat} : ∀ r k c, ffR g r k = some c → ∃ o, k ≤ o ∧ o < k + r ∧ g o = some c ∧ ∀ o', k ≤ o' → o' < o → g o' = none := by
  intro r
  induction r with
  | zero => intro k c h; exact absurd h (by simp [ffR])
  | succ r ih =>
    intro k c h
    unfold ffR at h
    cases e : g k with
    | some c' =>
      rw [e] at h
      exact ⟨k, Nat.le_refl _, by omega, by rw [e]; exact h, fun o' h1 h2 => by omega⟩
    | none =>
      rw [e] at h
      obtain ⟨o, h1, h2, h3, h4⟩ := ih (k + 1) c h
      refine ⟨o, by omega, by omega, h3, fun o' h5 h6 => ?_⟩
      by_cases q : o' = k
      · rw [q]; exact e
      · exact h4 o' (by omega) h6
theorem ffR_n {g : Nat → Option Nat} : ∀ r k, ffR g r k = none → ∀ o, k ≤ o → o < k + r → g o = none := by
  intro r
  induction r with
  | zero => intro k _ o h1 h2; omega
  | succ r ih =>
    intro k h o h1 h2
    unfold ffR at h
    cases e : g k with
    | some c' => rw [e] at h; exact absurd h (by simp)
    | none =>
      rw [e] at h
      by_cases q : o = k
      · rw [q]; exact e
      · exact ih (k + 1) h o (by omega) (by omega)
theorem dig9 {m c : Nat} (h : c < 9 ^ (m + 1)) : c / 9 ^ m < 9 ∧ c / 9 ^ m % 9 = c / 9 ^ m ∧ c = c / 9 ^ m * 9 ^ m + c % 9 ^ m ∧ c % 9 ^ m < 9 ^ m := by
  have hp : 0 < 9 ^ m := Nat.pow_pos (by decide)
  have h1 : c / 9 ^ m < 9 := by
    rw [Nat.div_lt_iff_lt_mul hp, Nat.mul_comm, ← Nat.pow_succ]
    exact h
  exact ⟨h1, Nat.mod_eq_of_lt h1, by rw [Nat.mul_comm]; exact (Nat.div_add_mod c (9 ^ m)).symm, Nat.mod_lt _ hp⟩
theorem fcd_F {τ : Nat → Nat → Nat} {i s : Nat} (K : OKh τ) : ∀ m f, (∀ c, fcd τ i s m f = some c → go9 τ i s m c f = true ∧ ∀ c', c' < c → go9 τ i s m c' f = false) ∧ (fcd τ i s m f = none → ∀ c, c < 9 ^ m → go9 τ i s m c f = false) := by
  have hn := K.1
  intro m
  induction m with
  | zero =>
    intro f
    unfold fcd go9
    by_cases q : f i = s
    · rw [if_pos q]
      refine ⟨fun c h => ?_, fun h => absurd h (by simp)⟩
      injection h with h
      exact ⟨decide_eq_true q, fun c' hc => by omega⟩
    · rw [if_neg q]
      exact ⟨fun c h => absurd h (by simp), fun _ c _ => decide_eq_false q⟩
  | succ m ih =>
    intro f
    have hp : 0 < 9 ^ m := Nat.pow_pos (by decide)
    have bad : ∀ c, c < 9 ^ (m + 1) → c / 9 ^ m < τ 7 0 → (if c / 9 ^ m = i then none else (fcd τ i s m (pmt (τ 0) f i (c / 9 ^ m))).map (fun q => c / 9 ^ m * 9 ^ m + q)) = none → go9 τ i s (m + 1) c f = false := by
      intro c hc hd hg
      obtain ⟨d1, d2, d3, d4⟩ := dig9 hc
      unfold go9
      rw [d2]
      by_cases q : c / 9 ^ m = i
      · rw [if_neg (fun w => w.2 q)]
      · rw [if_neg q] at hg
        rw [if_pos ⟨hd, q⟩]
        cases e : fcd τ i s m (pmt (τ 0) f i (c / 9 ^ m)) with
        | some z => rw [e] at hg; exact absurd hg (by simp)
        | none =>
          rw [go9_mod m c (c % 9 ^ m) _ (Nat.mod_mod _ _).symm]
          exact (ih _).2 e _ d4
    constructor
    · intro c h
      have hc := fcd_lt K _ _ _ h
      unfold fcd at h
      obtain ⟨o, -, h2, h3, h4⟩ := ffR_s _ _ _ h
      by_cases q : o = i
      · rw [if_pos q] at h3; exact absurd h3 (by simp)
      · rw [if_neg q] at h3
        cases e : fcd τ i s m (pmt (τ 0) f i o) with
        | none => rw [e] at h3; exact absurd h3 (by simp)
        | some z =>
          rw [e] at h3
          have h3 : o * 9 ^ m + z = c := by simpa using h3
          have hz := fcd_lt K _ _ _ e
          have ed : c / 9 ^ m = o := by rw [← h3, Nat.add_comm, Nat.add_mul_div_right _ _ hp, Nat.div_eq_of_lt hz, Nat.zero_add]
          have ez : c % 9 ^ m = z := by rw [← h3, Nat.add_comm, Nat.add_mul_mod_self_right, Nat.mod_eq_of_lt hz]
          obtain ⟨d1, d2, d3, d4⟩ := dig9 hc
          constructor
          · unfold go9
            rw [d2, ed, if_pos ⟨by omega, q⟩, go9_mod m c z _ (by rw [ez, Nat.mod_eq_of_lt hz])]
            exact ((ih _).1 z e).1
          · intro c' hc'
            have hc2 : c' < 9 ^ (m + 1) := by omega
            obtain ⟨b1, b2, b3, b4⟩ := dig9 hc2
            have hle : c' / 9 ^ m ≤ o := by rw [← ed]; exact Nat.div_le_div_right (by omega)
            by_cases w : c' / 9 ^ m = o
            · unfold go9
              rw [b2, w, if_pos ⟨by omega, q⟩, go9_mod m c' (c' % 9 ^ m) _ (Nat.mod_mod _ _).symm]
              refine ((ih _).1 z e).2 _ ?_
              rw [w] at b3
              omega
            · exact bad c' hc2 (by omega) (h4 _ (by omega) (by omega))
    · intro h c hc
      unfold fcd at h
      obtain ⟨d1, d2, d3, d4⟩ := dig9 hc
      by_cases q : c / 9 ^ m < τ 7 0
      · exact bad c hc q (ffR_n _ _ h _ (by omega) (by omega))
      · unfold go9
        rw [d2, if_neg (fun w => q w.1)]
theorem fcd_u {τ : Nat → Nat → Nat} {i s m c : Nat} {f : Nat → Nat} (K : OKh τ) (hc : c < 9 ^ m) (h1 : go9 τ i s m c f = true) (h2 : ∀ c', c' < c → go9 τ i s m c' f = false) : fcd τ i s m f = some c := by
  cases e : fcd τ i s m f with
  | none => rw [(fcd_F K m f).2 e c hc] at h1; exact absurd h1 (by decide)
  | some z =>
    obtain ⟨a, b⟩ := (fcd_F K m f).1 z e
    have : z = c := by
      rcases Nat.lt_trichotomy z c with q | q | q
      · rw [h2 z q] at a; exact absurd a (by decide)
      · exact q
      · rw [b c q] at h1; exact absurd h1 (by decide)
    rw [this]
theorem fcd_no {τ : Nat → Nat → Nat} {i s m : Nat} {f : Nat → Nat} (K : OKh τ) (h : ∀ c, c < 9 ^ m → go9 τ i s m c f = false) : fcd τ i s m f = none := by
  cases e : fcd τ i s m f with
  | none => rfl
  | some z => exact absurd ((fcd_F K m f).1 z e).1 (by rw [h z (fcd_lt K _ _ _ e)]; decide)
