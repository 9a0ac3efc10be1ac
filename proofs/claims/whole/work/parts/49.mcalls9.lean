/-! the model's calls, 9: orders, in numbers -/
def pc6 (k : Nat) : Nat := ((List.range 6).filter (fun i => k.testBit i)).length
theorem pc6_f : ∀ k : Fin 64, ∀ d : Fin 6, (k.val ||| 2 ^ d.val) < 64 ∧ pc6 (k.val ||| 2 ^ d.val) = (if k.val.testBit d.val = true then pc6 k.val else pc6 k.val + 1) ∧ (k.val.testBit d.val = true → (k.val ||| 2 ^ d.val) = k.val) := by decide +kernel
theorem pc6_L : ∀ L : Fin 7, pc6 (2 ^ L.val - 1) = L.val ∧ ∀ k : Fin 64, k.val < 2 ^ L.val → pc6 k.val = L.val → k.val = 2 ^ L.val - 1 := by decide +kernel
theorem or_2L {k L d : Nat} (hk : k < 2 ^ L) (hd : d < L) : (k ||| 2 ^ d) < 2 ^ L := Nat.or_lt_two_pow hk (Nat.pow_lt_pow_right (by decide) hd)
def bD (L d : Nat) : Nat := if d < L then 2 ^ d else 0
def dg (L c k : Nat) : Nat := c / 6 ^ (L - 1 - k) % 6
theorem dg_lt (L c k : Nat) : dg L c k < 6 := Nat.mod_lt _ (by decide)
def mk6 (L c : Nat) : Nat → Nat
  | 0 => 0
  | k + 1 => mk6 L c k ||| bD L (dg L c k)
def sq6 (τ : Nat → Nat → Nat) (L c : Nat) (f : Nat → Nat) : Nat → (Nat → Nat)
  | 0 => f
  | k + 1 => pmt (τ 0) (sq6 τ L c f k) (τ 3 (dg L c k)) (τ 4 (dg L c k))
def od6 (L c : Nat) : Nat → Bool
  | 0 => true
  | k + 1 => od6 L c k && decide (dg L c k = k)
theorem bD_64 {k L d : Nat} (hL : L ≤ 6) (hk : k < 2 ^ L) (hd : d < 6) : (k ||| bD L d) < 2 ^ L ∧ pc6 (k ||| bD L d) ≤ pc6 k + 1 ∧ (L ≤ d → (k ||| bD L d) = k) := by
  have hk6 : k < 64 := Nat.lt_of_lt_of_le hk (show 2 ^ L ≤ 2 ^ 6 from Nat.pow_le_pow_right (by decide) hL)
  unfold bD
  by_cases c : d < L
  · rw [if_pos c]
    refine ⟨or_2L hk c, ?_, fun q => absurd q (by omega)⟩
    have := (pc6_f ⟨k, hk6⟩ ⟨d, hd⟩).2.1
    dsimp only at this
    rw [this]
    split <;> omega
  · rw [if_neg c, Nat.or_zero]
    exact ⟨hk, by omega, fun _ => rfl⟩
theorem mk6_lt {L c k : Nat} (hL : L ≤ 6) : mk6 L c k < 2 ^ L ∧ pc6 (mk6 L c k) ≤ k := by
  induction k with
  | zero => exact ⟨Nat.pow_pos (by decide), by unfold mk6; decide⟩
  | succ k ih =>
    have := bD_64 hL ih.1 (dg_lt L c k)
    unfold mk6
    exact ⟨this.1, by have := this.2.1; omega⟩
theorem mk6_ok {L c k j : Nat} (hL : L ≤ 6) (hj : j < k) (h : L ≤ dg L c j) : pc6 (mk6 L c k) + 1 ≤ k := by
  induction k with
  | zero => omega
  | succ k ih =>
    have h1 := mk6_lt (c := c) (k := k) hL
    have h2 := bD_64 hL h1.1 (dg_lt L c k)
    unfold mk6
    by_cases q : j = k
    · subst q
      rw [h2.2.2 h]
      omega
    · have := ih (by omega)
      have := h2.2.1
      omega
theorem mk6_dig {L c : Nat} (hL : L ≤ 6) (h : mk6 L c L = 2 ^ L - 1) {j : Nat} (hj : j < L) : dg L c j < L := by
  by_cases q : dg L c j < L
  · exact q
  · exfalso
    have := mk6_ok hL hj (show L ≤ dg L c j by omega)
    rw [h, (pc6_L ⟨L, by omega⟩).1] at this
    dsimp only at this
    omega
theorem od6_dig {L c k : Nat} (h : od6 L c k = true) : ∀ j, j < k → dg L c j = j := by
  induction k with
  | zero => intro j hj; omega
  | succ k ih =>
    unfold od6 at h
    rw [Bool.and_eq_true, decide_eq_true_eq] at h
    intro j hj
    by_cases q : j = k
    · rw [q]; exact h.2
    · exact ih h.1 j (by omega)
theorem sq6_od {τ : Nat → Nat → Nat} {L c : Nat} {f : Nat → Nat} {k : Nat} (h : ∀ j, j < k → dg L c j = j) : sq6 τ L c f k = odF τ f k := by
  induction k with
  | zero => rfl
  | succ k ih =>
    unfold sq6 odF
    rw [ih (fun j hj => h j (by omega)), h k (by omega)]
section PO
variable {τ : Nat → Nat → Nat} {ci cs : Nat → Nat} {cn L : Nat}
def b6 (ci cs : Nat → Nat) (cn L : Nat) (mask : Nat) (f : Nat → Nat) : Nat := if mask = 2 ^ L - 1 ∧ hld ci cs f cn = true then 1 else 0
def mc6 (τ : Nat → Nat → Nat) (ci cs : Nat → Nat) (cn L : Nat) : Nat → Nat → (Nat → Nat) → Nat
  | 0, mask, f => b6 ci cs cn L mask f
  | m + 1, mask, f => sumF (fun d => mc6 τ ci cs cn L m (mask ||| bD L d) (pmt (τ 0) f (τ 3 d) (τ 4 d))) 6
def ev6 (τ : Nat → Nat → Nat) (ci cs : Nat → Nat) (cn L : Nat) : Nat → Nat → Nat → (Nat → Nat) → Nat
  | 0, _, mask, f => b6 ci cs cn L mask f
  | m + 1, c, mask, f => ev6 τ ci cs cn L m c (mask ||| bD L (c / 6 ^ m % 6)) (pmt (τ 0) f (τ 3 (c / 6 ^ m % 6)) (τ 4 (c / 6 ^ m % 6)))
theorem sumF_c {g g' : Nat → Nat} {n : Nat} (h : ∀ i, i < n → g i = g' i) : sumF g n = sumF g' n := by
  induction n with
  | zero => rfl
  | succ n ih => unfold sumF; rw [ih (fun i hi => h i (by omega)), h n (by omega)]
theorem sumF_0 {g : Nat → Nat} {n : Nat} (h : ∀ i, i < n → g i = 0) : sumF g n = 0 := by
  induction n with
  | zero => rfl
  | succ n ih => unfold sumF; rw [ih (fun i hi => h i (by omega)), h n (by omega)]
theorem sumF_a (g : Nat → Nat) (a b : Nat) : sumF g (a + b) = sumF g a + sumF (fun i => g (a + i)) b := by
  induction b with
  | zero => rfl
  | succ b ih => rw [← Nat.add_assoc, sumF, ih, sumF, Nat.add_assoc]
theorem sumF_m (g : Nat → Nat) (n p : Nat) : sumF g (n * p) = sumF (fun d => sumF (fun i => g (d * p + i)) p) n := by
  induction n with
  | zero => rw [Nat.zero_mul]; rfl
  | succ n ih => rw [Nat.succ_mul, sumF_a, ih, sumF]
theorem ev6_mod (m : Nat) : ∀ c c' mask f, c % 6 ^ m = c' % 6 ^ m → ev6 τ ci cs cn L m c mask f = ev6 τ ci cs cn L m c' mask f := by
  induction m with
  | zero => intro c c' mask f _; rfl
  | succ m ih =>
    intro c c' mask f h
    have h1 : c / 6 ^ m % 6 = c' / 6 ^ m % 6 := by
      rw [← Nat.mod_mul_right_div_self, ← Nat.mod_mul_right_div_self, ← Nat.pow_succ, h]
    have h2 : c % 6 ^ m = c' % 6 ^ m := by
      have e : 6 ^ m ∣ 6 ^ (m + 1) := ⟨6, by rw [Nat.pow_succ]⟩
      rw [← Nat.mod_mod_of_dvd c e, h, Nat.mod_mod_of_dvd c' e]
    unfold ev6
    rw [h1]
    exact ih c c' _ _ h2
theorem ev6_sum (m : Nat) : ∀ mask f, sumF (fun c => ev6 τ ci cs cn L m c mask f) (6 ^ m) = mc6 τ ci cs cn L m mask f := by
  induction m with
  | zero =>
    intro mask f
    show sumF _ 1 = _
    unfold sumF
    show 0 + _ = _
    rw [Nat.zero_add]
    rfl
  | succ m ih =>
    intro mask f
    rw [Nat.pow_succ, Nat.mul_comm, sumF_m]
    unfold mc6
    refine sumF_c (fun d hd => ?_)
    rw [← ih]
    refine sumF_c (fun c hc => ?_)
    show ev6 τ ci cs cn L (m + 1) (d * 6 ^ m + c) mask f = _
    have e1 : (d * 6 ^ m + c) / 6 ^ m % 6 = d := by
      rw [Nat.add_comm, Nat.add_mul_div_right _ _ (Nat.pow_pos (by decide)), Nat.div_eq_of_lt hc, Nat.zero_add, Nat.mod_eq_of_lt hd]
    show ev6 τ ci cs cn L m (d * 6 ^ m + c) (mask ||| bD L ((d * 6 ^ m + c) / 6 ^ m % 6)) (pmt (τ 0) f (τ 3 ((d * 6 ^ m + c) / 6 ^ m % 6)) (τ 4 ((d * 6 ^ m + c) / 6 ^ m % 6))) = _
    rw [e1]
    exact ev6_mod m (d * 6 ^ m + c) c _ _ (by rw [Nat.add_comm, Nat.add_mul_mod_self_right])
theorem ev6_pre {c : Nat} {f : Nat → Nat} : ∀ m k, k + m = L → ev6 τ ci cs cn L m c (mk6 L c k) (sq6 τ L c f k) = b6 ci cs cn L (mk6 L c L) (sq6 τ L c f L) := by
  intro m
  induction m with
  | zero =>
    intro k hk
    have hk' : k = L := hk
    rw [hk']
    rfl
  | succ m ih =>
    intro k hk
    have e : dg L c k = c / 6 ^ m % 6 := by unfold dg; rw [show L - 1 - k = m by omega]
    rw [← ih (k + 1) (by omega)]
    show ev6 τ ci cs cn L m c (mk6 L c k ||| bD L (c / 6 ^ m % 6)) (pmt (τ 0) (sq6 τ L c f k) (τ 3 (c / 6 ^ m % 6)) (τ 4 (c / 6 ^ m % 6))) = _
    rw [← e]
    rfl
theorem mc6_0 (hL : L ≤ 6) : ∀ m mask f, mask < 2 ^ L → pc6 mask + m < L → mc6 τ ci cs cn L m mask f = 0 := by
  intro m
  induction m with
  | zero =>
    intro mask f h1 h2
    unfold mc6 b6
    rw [if_neg]
    rintro ⟨q, -⟩
    rw [q, (pc6_L ⟨L, by omega⟩).1] at h2
    dsimp only at h2
    omega
  | succ m ih =>
    intro mask f h1 h2
    unfold mc6
    refine sumF_0 (fun d hd => ih _ _ (bD_64 hL h1 hd).1 (by have := (bD_64 hL h1 hd).2.1; omega))
theorem mc6_oc (hL : L ≤ 6) : ∀ m mask f, mask < 2 ^ L → pc6 mask + m = L → mc6 τ ci cs cn L m mask f = oc τ ci cs cn L m mask f := by
  intro m
  induction m with
  | zero =>
    intro mask f h1 h2
    have h6 : mask < 64 := Nat.lt_of_lt_of_le h1 (show 2 ^ L ≤ 2 ^ 6 from Nat.pow_le_pow_right (by decide) hL)
    have e := (pc6_L ⟨L, by omega⟩).2 ⟨mask, h6⟩ h1 (by dsimp only; omega)
    dsimp only at e
    unfold mc6 b6 oc
    by_cases q : hld ci cs f cn = true
    · rw [if_pos ⟨e, q⟩, if_pos q]
    · rw [if_neg (fun w => q w.2), if_neg q]
  | succ m ih =>
    intro mask f h1 h2
    have h6 : mask < 64 := Nat.lt_of_lt_of_le h1 (show 2 ^ L ≤ 2 ^ 6 from Nat.pow_le_pow_right (by decide) hL)
    unfold mc6 oc
    have e6 : 6 = L + (6 - L) := by omega
    rw [e6, sumF_a]
    have z : sumF (fun i => mc6 τ ci cs cn L m (mask ||| bD L (L + i)) (pmt (τ 0) f (τ 3 (L + i)) (τ 4 (L + i)))) (6 - L) = 0 := by
      refine sumF_0 (fun d hd => ?_)
      rw [(bD_64 hL h1 (show L + d < 6 by omega)).2.2 (by omega)]
      exact mc6_0 hL m mask _ h1 (by omega)
    rw [z, Nat.add_zero]
    refine sumF_c (fun t ht => ?_)
    obtain ⟨f1, f2, f3⟩ := pc6_f ⟨mask, h6⟩ ⟨t, by omega⟩
    dsimp only at f1 f2 f3
    have eb : bD L t = 2 ^ t := if_pos ht
    rw [eb]
    by_cases q : mask.testBit t = true
    · rw [if_pos q, f3 q]
      exact mc6_0 hL m mask _ h1 (by omega)
    · rw [if_neg q]
      rw [if_neg q] at f2
      exact ih _ _ (or_2L h1 ht) (by omega)
theorem count6 (hL : L ≤ 6) (f : Nat → Nat) : sumF (fun c => b6 ci cs cn L (mk6 L c L) (sq6 τ L c f L)) (6 ^ L) = oc τ ci cs cn L L 0 f := by
  rw [← mc6_oc hL L 0 f (Nat.pow_pos (by decide)) (by show pc6 0 + L = L; rw [show pc6 0 = 0 by decide, Nat.zero_add]), ← ev6_sum]
  exact sumF_c (fun c _ => (ev6_pre (τ := τ) (ci := ci) (cs := cs) (cn := cn) (L := L) (c := c) (f := f) L 0 (by omega)).symm)
def an6 (τ : Nat → Nat → Nat) (ci cs : Nat → Nat) (cn L : Nat) (f : Nat → Nat) : Nat → Bool
  | 0 => false
  | c + 1 => an6 τ ci cs cn L f c || (decide (mk6 L c L = 2 ^ L - 1) && (od6 L c L && hld ci cs (sq6 τ L c f L) cn))
theorem id6 (L : Nat) (hL : L ≤ 6) : ∃ c : Nat, c < 6 ^ L ∧ mk6 L c L = 2 ^ L - 1 ∧ od6 L c L = true := by
  have : L = 0 ∨ L = 1 ∨ L = 2 ∨ L = 3 ∨ L = 4 ∨ L = 5 ∨ L = 6 := by omega
  rcases this with rfl | rfl | rfl | rfl | rfl | rfl | rfl
  · exact ⟨0, by decide +kernel⟩
  · exact ⟨0, by decide +kernel⟩
  · exact ⟨1, by decide +kernel⟩
  · exact ⟨8, by decide +kernel⟩
  · exact ⟨51, by decide +kernel⟩
  · exact ⟨310, by decide +kernel⟩
  · exact ⟨1865, by decide +kernel⟩
theorem an6_t {f : Nat → Nat} {N : Nat} : an6 τ ci cs cn L f N = true ↔ ∃ c, c < N ∧ mk6 L c L = 2 ^ L - 1 ∧ od6 L c L = true ∧ hld ci cs (sq6 τ L c f L) cn = true := by
  induction N with
  | zero => exact ⟨fun h => absurd h (by simp [an6]), fun ⟨c, h, _⟩ => absurd h (by omega)⟩
  | succ N ih =>
    unfold an6
    rw [Bool.or_eq_true, ih, Bool.and_eq_true, Bool.and_eq_true, decide_eq_true_eq]
    constructor
    · rintro (⟨c, h1, h2⟩ | h)
      · exact ⟨c, by omega, h2⟩
      · exact ⟨N, by omega, h⟩
    · rintro ⟨c, h1, h2⟩
      by_cases q : c = N
      · subst q; exact Or.inr h2
      · exact Or.inl ⟨c, by omega, h2⟩
theorem an6_eq (hL : L ≤ 6) {f : Nat → Nat} : an6 τ ci cs cn L f (6 ^ L) = hld ci cs (odF τ f L) cn := by
  rw [Bool.eq_iff_iff, an6_t]
  constructor
  · rintro ⟨c, -, -, h3, h4⟩
    rwa [sq6_od (od6_dig h3)] at h4
  · intro h
    obtain ⟨c, h1, h2, h3⟩ := id6 L hL
    exact ⟨c, h1, h2, h3, by rwa [sq6_od (od6_dig h3)]⟩
end PO
