/-! the model reads, 2: an ITEM in numbers -/
def mIt (lt : Nat → Nat) (len : Nat) (τ : Nat → Nat → Nat) (c p : Nat) : Option (Nat × (Nat → Nat → Nat)) :=
  if c = 105 then (match nmb lt len p 44 6 with
    | none => none
    | some (a, p1) => match nmb lt len p1 59 10 with
      | none => none
      | some (b, q) => if τ 7 0 < 9 then some (q, upT (upT (upT τ 0 (τ 7 0) a) 1 (τ 7 0) b) 7 0 (τ 7 0 + 1)) else none)
  else if c = 115 then (match nmb lt len p 59 12 with
    | none => none
    | some (a, q) => some (q, upT τ 10 0 a))
  else if c = 116 then (match nmb lt len p 44 12 with
    | none => none
    | some (a, p1) => match nmb lt len p1 44 (τ 7 0) with
      | none => none
      | some (b, p2) => match nmb lt len p2 59 (τ 7 0) with
        | none => none
        | some (e, q) => if τ 8 0 < 10 ∧ b ≠ e then some (q, upT (upT (upT (upT τ 2 (τ 8 0) a) 3 (τ 8 0) b) 4 (τ 8 0) e) 8 0 (τ 8 0 + 1)) else none)
  else if c = 119 then (match nmb lt len p 44 12 with
    | none => none
    | some (a, p1) => match nmb lt len p1 59 (τ 7 0) with
      | none => none
      | some (b, q) => if τ 9 0 < 4 ∧ per τ b = true then some (q, upT (upT (upT τ 5 (τ 9 0) a) 6 (τ 9 0) b) 9 0 (τ 9 0 + 1)) else none)
  else none
theorem per_lt {τ : Nat → Nat → Nat} {b : Nat} (h : per τ b = true) : b < τ 7 0 := by
  unfold per at h
  rw [Bool.and_eq_true, decide_eq_true_eq] at h
  exact h.1
theorem adI_o {τ : Nat → Nat → Nat} {c : Nat} {ns : List Nat} (h1 : ¬ c = 105) (h2 : ¬ c = 115) (h3 : ¬ c = 116) (h4 : ¬ c = 119) : adI τ c ns = none := by
  unfold adI
  split
  · rw [if_neg h1, if_neg h4]
  · rw [if_neg h3]
  · rw [if_neg h2]
  · rfl
def adM (lt : Nat → Nat) (len : Nat) (τ : Nat → Nat → Nat) (c p : Nat) : Option (Nat × (Nat → Nat → Nat)) := match rdF lt len 3 p with
  | none => none
  | some r => (adI τ c r.1).map (fun τ' => (r.2, τ'))
theorem adM_m {lt : Nat → Nat} {len : Nat} {τ : Nat → Nat → Nat} {c p : Nat} : adM lt len τ c p = mIt lt len τ c p := by
  unfold adM mIt nmb
  unfold rdF
  generalize fg lt len p = k1
  generalize tl lt len (p + k1) = t1
  generalize fv lt len p k1 = v1
  generalize p + k1 + 1 = p1
  unfold rdF
  generalize hk2 : fg lt len p1 = k2
  generalize ht2 : tl lt len (p1 + k2) = t2
  generalize hv2 : fv lt len p1 k2 = v2
  generalize hp2 : p1 + k2 + 1 = p2
  unfold rdF
  generalize hk3 : fg lt len p2 = k3
  generalize ht3 : tl lt len (p2 + k3) = t3
  generalize hv3 : fv lt len p2 k3 = v3
  generalize hp3 : p2 + k3 + 1 = p3
  have r0 : rdF lt len 0 p3 = none := rfl
  rw [r0]
  by_cases z1 : k1 = 0
  · simp [z1]
  by_cases s1 : t1 = 59
  · subst s1
    simp only [z1, if_false, if_true]
    by_cases c1 : c = 115
    · subst c1
      by_cases b1 : v1 < 12
      · simp [adI, b1]
      · simp [adI, b1]
    · by_cases c2 : c = 105
      · subst c2; simp [adI]
      · by_cases c3 : c = 116
        · subst c3; simp [adI]
        · by_cases c4 : c = 119
          · subst c4; simp [adI]
          · rw [adI_o c2 c1 c3 c4]; simp [c1, c2, c3, c4]
  by_cases u1 : t1 = 44
  rotate_right
  · by_cases c1 : c = 115
    · simp [z1, s1, u1, c1]
    · by_cases c2 : c = 105
      · simp [z1, s1, u1, c2]
      · by_cases c3 : c = 116
        · simp [z1, s1, u1, c3]
        · by_cases c4 : c = 119
          · simp [z1, s1, u1, c4]
          · simp [z1, s1, u1, c1, c2, c3, c4]
  subst u1
  simp only [z1, if_false, if_true, show ¬ (44 : Nat) = 59 by decide]
  by_cases c1 : c = 115
  · subst c1
    simp only [show ¬ (115 : Nat) = 105 by decide, if_false, if_true, false_and]
    by_cases z2 : k2 = 0
    · simp [z2]
    · by_cases s2 : t2 = 59
      · simp [z2, s2, adI]
      · by_cases u2 : t2 = 44
        · by_cases z3 : k3 = 0
          · simp [z2, u2, z3]
          · by_cases s3 : t3 = 59
            · simp [z2, u2, z3, s3, adI]
            · simp [z2, u2, z3, s3]
        · simp [z2, s2, u2]
  by_cases c2 : c = 105
  · subst c2
    by_cases b1 : v1 < 6
    · have b1' : v1 ≤ 5 := by omega
      by_cases z2 : k2 = 0
      · simp [z2, b1, hk2]
      · by_cases s2 : t2 = 59
        · by_cases b2 : v2 < 10
          · have b2' : v2 ≤ 9 := by omega
            by_cases b3 : τ 7 0 < 9
            · simp [z2, s2, adI, b1, b1', b2, b2', b3, hk2, ht2, hv2, hp2]
            · simp [z2, s2, adI, b1, b1', b2, b2', b3, hk2, ht2, hv2, hp2]
          · have b2' : ¬ v2 ≤ 9 := by omega
            simp [z2, s2, adI, b1, b1', b2, b2', hk2, ht2, hv2, hp2]
        · by_cases u2 : t2 = 44
          · by_cases z3 : k3 = 0
            · simp [z2, u2, z3, b1, hk2, ht2, hv2, hp2]
            · by_cases s3 : t3 = 59
              · simp [z2, u2, z3, s3, adI, b1, hk2, ht2, hv2, hp2]
              · simp [z2, u2, z3, s3, b1, hk2, ht2, hv2, hp2]
          · simp [z2, s2, u2, b1, hk2, ht2, hv2, hp2]
    · have b1' : ¬ v1 ≤ 5 := by omega
      by_cases z2 : k2 = 0
      · simp [z2, b1]
      · by_cases s2 : t2 = 59
        · simp [z2, s2, adI, b1, b1']
        · by_cases u2 : t2 = 44
          · by_cases z3 : k3 = 0
            · simp [z2, u2, z3, b1]
            · by_cases s3 : t3 = 59
              · simp [z2, u2, z3, s3, adI, b1]
              · simp [z2, u2, z3, s3, b1]
          · simp [z2, s2, u2, b1]
  by_cases c3 : c = 116
  · subst c3
    by_cases b1 : v1 < 12
    · by_cases z2 : k2 = 0
      · simp [z2, b1, hk2]
      · by_cases s2 : t2 = 59
        · simp [z2, s2, adI, b1, hk2, ht2, hv2, hp2]
        · by_cases u2 : t2 = 44
          · by_cases z3 : k3 = 0
            · by_cases b2 : v2 < τ 7 0
              · simp [z2, u2, z3, b1, b2, hk2, ht2, hv2, hp2, hk3]
              · simp [z2, u2, z3, b1, b2, hk2, ht2, hv2, hp2, hk3]
            · by_cases s3 : t3 = 59
              · by_cases b2 : v2 < τ 7 0
                · by_cases b3 : v3 < τ 7 0
                  · by_cases b4 : τ 8 0 < 10
                    · by_cases b5 : v2 = v3
                      · subst b5
                        simp [z2, u2, z3, s3, adI, b1, b2, b4, hk2, ht2, hv2, hp2, hk3, ht3, hv3, hp3]
                      · simp [z2, u2, z3, s3, adI, b1, b2, b3, b4, b5, hk2, ht2, hv2, hp2, hk3, ht3, hv3, hp3]
                    · simp [z2, u2, z3, s3, adI, b1, b2, b3, b4, hk2, ht2, hv2, hp2, hk3, ht3, hv3, hp3]
                  · simp [z2, u2, z3, s3, adI, b1, b2, b3, hk2, ht2, hv2, hp2, hk3, ht3, hv3, hp3]
                · simp [z2, u2, z3, s3, adI, b1, b2, hk2, ht2, hv2, hp2, hk3, ht3, hv3, hp3]
              · by_cases b2 : v2 < τ 7 0
                · simp [z2, u2, z3, s3, b1, b2, hk2, ht2, hv2, hp2, hk3, ht3, hv3, hp3]
                · simp [z2, u2, z3, s3, b1, b2, hk2, ht2, hv2, hp2, hk3, ht3, hv3, hp3]
          · simp [z2, s2, u2, b1, hk2, ht2, hv2, hp2]
    · by_cases z2 : k2 = 0
      · simp [z2, b1]
      · by_cases s2 : t2 = 59
        · simp [z2, s2, adI, b1]
        · by_cases u2 : t2 = 44
          · by_cases z3 : k3 = 0
            · simp [z2, u2, z3, b1]
            · by_cases s3 : t3 = 59
              · simp [z2, u2, z3, s3, adI, b1]
              · simp [z2, u2, z3, s3, b1]
          · simp [z2, s2, u2, b1]
  by_cases c4 : c = 119
  · subst c4
    by_cases b1 : v1 < 12
    · by_cases z2 : k2 = 0
      · simp [z2, b1, hk2]
      · by_cases s2 : t2 = 59
        · by_cases b2 : per τ v2 = true
          · have b2' := per_lt b2
            by_cases b3 : τ 9 0 < 4
            · simp [z2, s2, adI, b1, b2, b2', b3, hk2, ht2, hv2, hp2]
            · simp [z2, s2, adI, b1, b2, b2', b3, hk2, ht2, hv2, hp2]
          · by_cases b2' : v2 < τ 7 0
            · simp [z2, s2, adI, b1, b2, b2', hk2, ht2, hv2, hp2]
            · simp [z2, s2, adI, b1, b2, b2', hk2, ht2, hv2, hp2]
        · by_cases u2 : t2 = 44
          · by_cases z3 : k3 = 0
            · simp [z2, u2, z3, b1, hk2, ht2, hv2, hp2]
            · by_cases s3 : t3 = 59
              · simp [z2, u2, z3, s3, adI, b1, hk2, ht2, hv2, hp2]
              · simp [z2, u2, z3, s3, b1, hk2, ht2, hv2, hp2]
          · simp [z2, s2, u2, b1, hk2, ht2, hv2, hp2]
    · by_cases z2 : k2 = 0
      · simp [z2, b1]
      · by_cases s2 : t2 = 59
        · simp [z2, s2, adI, b1]
        · by_cases u2 : t2 = 44
          · by_cases z3 : k3 = 0
            · simp [z2, u2, z3, b1]
            · by_cases s3 : t3 = 59
              · simp [z2, u2, z3, s3, adI, b1]
              · simp [z2, u2, z3, s3, b1]
          · simp [z2, s2, u2, b1]
  · simp only [c1, c2, c3, c4, if_false, adI_o c2 c1 c3 c4, Option.map_none]
    split <;> rfl
