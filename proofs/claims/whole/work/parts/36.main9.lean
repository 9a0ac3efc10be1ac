/-! the class's calls, 9: as if; and the shades that lie in a house -/
def ffR (g : Nat → Option Nat) : Nat → Nat → Option Nat
  | 0, _ => none
  | r + 1, k => match g k with
    | some c => some c
    | none => ffR g r (k + 1)
def fcd (τ : Nat → Nat → Nat) (i s : Nat) : Nat → (Nat → Nat) → Option Nat
  | 0, f => if f i = s then some 0 else none
  | m + 1, f => ffR (fun o => if o = i then none else (fcd τ i s m (pmt (τ 0) f i o)).map (fun c => o * 9 ^ m + c)) (τ 7 0) 0
def shF (τ : Nat → Nat → Nat) (i s : Nat) (f : Nat → Nat) : Nat → Nat → Option (Nat × Nat)
  | 0, _ => none
  | r + 1, l => match fcd τ i s l f with
    | some c => some (l, c)
    | none => shF τ i s f r (l + 1)
def pAsIf (τ : Nat → Nat → Nat) (σ : sT) (x y w : Int32) : Int32 := if hpB x τ = false ∨ hsB y 10 = false ∨ w < 0 ∨ 3 < w then -1 else
  match shF τ x.toNatClampNeg y.toNatClampNeg σ.1 4 0 with
  | none => -4
  | some (l, c) => if w = 0 then nI l else if l < w.toNatClampNeg then -4 else nI (c / 9 ^ (l - w.toNatClampNeg) % 9)
theorem aln30 : aln 30 = 3 := rfl
theorem fcd_lt {τ : Nat → Nat → Nat} {i s : Nat} (K : OKh τ) : ∀ m f c, fcd τ i s m f = some c → c < 9 ^ m := by
  intro m
  induction m with
  | zero =>
    intro f c h
    unfold fcd at h
    split at h
    · injection h with h; subst h; decide
    · exact absurd h (by simp)
  | succ m ih =>
    intro f c h
    unfold fcd at h
    have hn := K.1
    have : ∀ r k, k + r ≤ 9 → ffR (fun o => if o = i then none else (fcd τ i s m (pmt (τ 0) f i o)).map (fun c => o * 9 ^ m + c)) r k = some c → c < 9 ^ (m + 1) := by
      intro r
      induction r with
      | zero => intro k _ h; exact absurd h (by simp [ffR])
      | succ r ihr =>
        intro k hk h
        unfold ffR at h
        split at h
        · rename_i c' e
          injection h with h
          subst h
          split at e
          · exact absurd e (by simp)
          · cases e2 : fcd τ i s m (pmt (τ 0) f i k) with
            | none => rw [e2] at e; exact absurd e (by simp)
            | some q =>
              rw [e2] at e
              have e : k * 9 ^ m + q = c' := by simpa using e
              have := ih _ _ e2
              subst e
              have h8 : k * 9 ^ m ≤ 8 * 9 ^ m := Nat.mul_le_mul_right _ (by omega)
              rw [Nat.pow_succ]
              omega
        · exact ihr (k + 1) (by omega) h
    exact this _ _ (by omega) h
section U10
variable {z d G : Nat} {M : bM} {lt : Nat → Nat} {len : Nat} {τ τd : Nat → Nat → Nat} {σ : sT} {pa : Nat → sT} {ph : Nat} {ka : Nat → sT} {kh : Nat} {ci cs : Nat → Nat} {cn : Nat}
theorem s30 : scr 9 30 := Or.inr (Or.inl ⟨rfl, Or.inr (Or.inl rfl)⟩)
theorem tX7_routeLeads {h i s len : Nat} (K : OKh τ) (hh : h < 2) (hi : i < τ 7 0) (hs10 : s < 10) (hl : len ≤ 3) (X : ∀ N, Eqx scr M N → Ho N h τ) : ∀ (m depth p g : Nat) (f : Nat → Nat) (N : bM) (Q : bV → bM → Prop), depth + m = len → OKs (f, p, g) → Eqx scr M N → St N 1 (f, p, g) →
    (fcd τ i s m f = none → ∀ N' p', p' < 512 → Eqx scr M N' → (∀ j, j < depth → gI N' 9 30 j = gI N 9 30 j) → St N' 1 (f, p', g) → Q (.inl (bi false)) N') →
    (∀ c, fcd τ i s m f = some c → ∀ N', Eqx scr M N' → (∀ j, j < depth → gI N' 9 30 j = gI N 9 30 j) → (∀ j, j < m → gI N' 9 30 (depth + j) = nI (c / 9 ^ (m - 1 - j) % 9)) → Q (.inl (bi true)) N') →
    Run z (d + m + 4) 84 [vr 5 1, vr 1 h, vr 4 30, .inl (nI i), .inl (nI s), .inl (nI depth), .inl (nI len)] N Q := by
  have hn := K.1
  intro m
  induction m with
  | zero =>
    intro depth p g f N Q e hs E S hN hY
    have hf : f i ≤ 9 := hs.1 i (by omega)
    have u4 : rowAt N (16 + 1) (nI i) = nI (f i) := St_rowAt (by decide) (by omega) S
    rw [rX7_routeLeads]
    simp (disch := omega) only [eX7_routeLeads_0, eX7_routeLeads_2, eX7_routeLeads_4, eX7_routeLeads_7, eX7_routeLeads_9, eX7_routeLeads_10, eX7_routeLeads_13, eX7_routeLeads_14, eX7_routeLeads_17, eX7_routeLeads_18, eX7_routeLeads_21, eX7_routeLeads_23, eX7_routeLeads_26, eX7_routeLeads_27, eX7_routeLeads_30, eX7_routeLeads_310, eX7_routeLeads_311, eX7_routeLeads_32, eX7_routeLeads_33, eX7_routeLeads_36, eX7_routeLeads_37, eX7_routeLeads_40, eX7_routeLeads_42, eX7_routeLeads_43, eX7_routeLeads_47, eX7_routeLeads_48, eX7_routeLeads_51, eX7_routeLeads_54, eX7_routeLeads_56, eX7_routeLeads_57, eX7_routeLeads_60, eX7_routeLeads_63, eX7_routeLeads_64, eX7_routeLeads_67, eX7_routeLeads_69, eX7_routeLeads_72, eX7_routeLeads_74, eX7_routeLeads_75, eX7_routeLeads_76, eX7_routeLeads_77, eX7_routeLeads_79, eX7_routeLeads_82, eX7_routeLeads_83, eX7_routeLeads_84, eX7_routeLeads_86, eX7_routeLeads_88, eX7_routeLeads_91, eX7_routeLeads_92, eX7_routeLeads_93, eX7_routeLeads_94, eX7_routeLeads_95, eX7_routeLeads_97, eX7_routeLeads_99, eX7_routeLeads_100, eX7_routeLeads_101, eX7_routeLeads_103, eX7_routeLeads_106, eX7_routeLeads_109, eX7_routeLeads_1100, eX7_routeLeads_1101, eX7_routeLeads_111, eX7_routeLeads_112, eX7_routeLeads_115, eX7_routeLeads_116, eX7_routeLeads_118, eX7_routeLeads_121, eX7_routeLeads_122, eX7_routeLeads_125, eX7_routeLeads_127, eX7_routeLeads_129, eX7_routeLeads_132, eX7_routeLeads_135, eX7_routeLeads_138, eX7_routeLeads_1390, eX7_routeLeads_1391, eX7_routeLeads_31n0, eX7_routeLeads_31n1, eX7_routeLeads_110n0, eX7_routeLeads_110n1, eX7_routeLeads_139n0, eX7_routeLeads_139n1, cnt_0, cnt_1, cnt_2, cnt_3, cnt_4, cnt_5, cnt_6, cnt_7, cnt_8, cnt_9, cnt_10, cnt_11, true_and, Nat.reduceLT, nI_leI, if_pos (show len ≤ depth by omega), lt_st (show 1 < 12 by decide), tX4_at, u4, psh_i, nI_eq]
    unfold fcd at hN hY
    by_cases c : f i = s
    · rw [if_pos c] at hY
      rw [if_pos c]
      exact hY 0 rfl N E (fun _ _ => rfl) (fun j hj => by omega)
    · rw [if_neg c] at hN
      rw [if_neg c]
      exact hN rfl N p hs.2 E (fun _ _ => rfl) S
  | succ m ih =>
    intro depth p g f N Q e hs E S hN hY
    have hf : f i ≤ 9 := hs.1 i (by omega)
    have u4 : rowAt N (16 + 1) (nI i) = nI (f i) := St_rowAt (by decide) (by omega) S
    rw [show d + (m + 1) + 4 = d + m + 4 + 1 by omega, rX7_routeLeads]
    simp (disch := omega) only [eX7_routeLeads_0, eX7_routeLeads_2, eX7_routeLeads_4, eX7_routeLeads_7, eX7_routeLeads_9, eX7_routeLeads_10, eX7_routeLeads_13, eX7_routeLeads_14, eX7_routeLeads_17, eX7_routeLeads_18, eX7_routeLeads_21, eX7_routeLeads_23, eX7_routeLeads_26, eX7_routeLeads_27, eX7_routeLeads_30, eX7_routeLeads_310, eX7_routeLeads_311, eX7_routeLeads_32, eX7_routeLeads_33, eX7_routeLeads_36, eX7_routeLeads_37, eX7_routeLeads_40, eX7_routeLeads_42, eX7_routeLeads_43, eX7_routeLeads_47, eX7_routeLeads_48, eX7_routeLeads_51, eX7_routeLeads_54, eX7_routeLeads_56, eX7_routeLeads_57, eX7_routeLeads_60, eX7_routeLeads_63, eX7_routeLeads_64, eX7_routeLeads_67, eX7_routeLeads_69, eX7_routeLeads_72, eX7_routeLeads_74, eX7_routeLeads_75, eX7_routeLeads_76, eX7_routeLeads_77, eX7_routeLeads_79, eX7_routeLeads_82, eX7_routeLeads_83, eX7_routeLeads_84, eX7_routeLeads_86, eX7_routeLeads_88, eX7_routeLeads_91, eX7_routeLeads_92, eX7_routeLeads_93, eX7_routeLeads_94, eX7_routeLeads_95, eX7_routeLeads_97, eX7_routeLeads_99, eX7_routeLeads_100, eX7_routeLeads_101, eX7_routeLeads_103, eX7_routeLeads_106, eX7_routeLeads_109, eX7_routeLeads_1100, eX7_routeLeads_1101, eX7_routeLeads_111, eX7_routeLeads_112, eX7_routeLeads_115, eX7_routeLeads_116, eX7_routeLeads_118, eX7_routeLeads_121, eX7_routeLeads_122, eX7_routeLeads_125, eX7_routeLeads_127, eX7_routeLeads_129, eX7_routeLeads_132, eX7_routeLeads_135, eX7_routeLeads_138, eX7_routeLeads_1390, eX7_routeLeads_1391, eX7_routeLeads_31n0, eX7_routeLeads_31n1, eX7_routeLeads_110n0, eX7_routeLeads_110n1, eX7_routeLeads_139n0, eX7_routeLeads_139n1, cnt_0, cnt_1, cnt_2, cnt_3, cnt_4, cnt_5, cnt_6, cnt_7, cnt_8, cnt_9, cnt_10, cnt_11, true_and, Nat.reduceLT, nI_leI, if_neg (show ¬ len ≤ depth by omega), lit_3, nI_ltI, if_pos (show depth < 3 by omega), lt_st (show 1 < 12 by decide), tX4_at, u4, psh_i, lit_0]
    unfold fcd at hN hY
    obtain ⟨R, hR⟩ : ∃ R, ffR (fun o => if o = i then none else (fcd τ i s m (pmt (τ 0) f i o)).map (fun c => o * 9 ^ m + c)) (τ 7 0) 0 = R := ⟨_, rfl⟩
    rw [hR] at hN hY
    have go : ∀ k o p' N' a9, o + k = τ 7 0 → p' < 512 → Eqx scr M N' → (∀ j, j < depth → gI N' 9 30 j = gI N 9 30 j) → St N' 1 (f, p', g) → ffR (fun o => if o = i then none else (fcd τ i s m (pmt (τ 0) f i o)).map (fun c => o * 9 ^ m + c)) k o = R → ExG z (Run z (d + m + 4)) 7 2 false none cX7_routeLeads Q 45 [vr 5 1, vr 1 h, vr 4 30, .inl (nI i), .inl (nI s), .inl (nI depth), .inl (nI len), .inl (nI (f i)), .inl (nI o), a9] [] N' := by
      intro k
      induction k with
      | zero =>
        intro o p' N' a9 eo hp E' F' S' ef
        have H1 := X N' E'
        have eo' : o = τ 7 0 := eo
        rw [eX7_routeLeads_45]
        simp (disch := omega) only [eX7_routeLeads_0, eX7_routeLeads_2, eX7_routeLeads_4, eX7_routeLeads_7, eX7_routeLeads_9, eX7_routeLeads_10, eX7_routeLeads_13, eX7_routeLeads_14, eX7_routeLeads_17, eX7_routeLeads_18, eX7_routeLeads_21, eX7_routeLeads_23, eX7_routeLeads_26, eX7_routeLeads_27, eX7_routeLeads_30, eX7_routeLeads_310, eX7_routeLeads_311, eX7_routeLeads_32, eX7_routeLeads_33, eX7_routeLeads_36, eX7_routeLeads_37, eX7_routeLeads_40, eX7_routeLeads_42, eX7_routeLeads_43, eX7_routeLeads_47, eX7_routeLeads_48, eX7_routeLeads_51, eX7_routeLeads_54, eX7_routeLeads_56, eX7_routeLeads_57, eX7_routeLeads_60, eX7_routeLeads_63, eX7_routeLeads_64, eX7_routeLeads_67, eX7_routeLeads_69, eX7_routeLeads_72, eX7_routeLeads_74, eX7_routeLeads_75, eX7_routeLeads_76, eX7_routeLeads_77, eX7_routeLeads_79, eX7_routeLeads_82, eX7_routeLeads_83, eX7_routeLeads_84, eX7_routeLeads_86, eX7_routeLeads_88, eX7_routeLeads_91, eX7_routeLeads_92, eX7_routeLeads_93, eX7_routeLeads_94, eX7_routeLeads_95, eX7_routeLeads_97, eX7_routeLeads_99, eX7_routeLeads_100, eX7_routeLeads_101, eX7_routeLeads_103, eX7_routeLeads_106, eX7_routeLeads_109, eX7_routeLeads_1100, eX7_routeLeads_1101, eX7_routeLeads_111, eX7_routeLeads_112, eX7_routeLeads_115, eX7_routeLeads_116, eX7_routeLeads_118, eX7_routeLeads_121, eX7_routeLeads_122, eX7_routeLeads_125, eX7_routeLeads_127, eX7_routeLeads_129, eX7_routeLeads_132, eX7_routeLeads_135, eX7_routeLeads_138, eX7_routeLeads_1390, eX7_routeLeads_1391, eX7_routeLeads_31n0, eX7_routeLeads_31n1, eX7_routeLeads_110n0, eX7_routeLeads_110n1, eX7_routeLeads_139n0, eX7_routeLeads_139n1, cnt_0, cnt_1, cnt_2, cnt_3, cnt_4, cnt_5, cnt_6, cnt_7, cnt_8, cnt_9, cnt_10, cnt_11, hh, true_and, Ho_n H1, nI_leI, if_pos (show τ 7 0 ≤ o by omega)]
        exact hN ef.symm N' p' hp E' F' S'
      | succ k ihk =>
        intro o p' N' a9 eo hp E' F' S' ef
        have H1 := X N' E'
        have hs' : OKs (f, p', g) := ⟨hs.1, hp⟩
        rw [eX7_routeLeads_45]
        unfold ffR at ef
        by_cases c : o = i
        · rw [if_pos c] at ef
          simp (disch := omega) only [eX7_routeLeads_0, eX7_routeLeads_2, eX7_routeLeads_4, eX7_routeLeads_7, eX7_routeLeads_9, eX7_routeLeads_10, eX7_routeLeads_13, eX7_routeLeads_14, eX7_routeLeads_17, eX7_routeLeads_18, eX7_routeLeads_21, eX7_routeLeads_23, eX7_routeLeads_26, eX7_routeLeads_27, eX7_routeLeads_30, eX7_routeLeads_310, eX7_routeLeads_311, eX7_routeLeads_32, eX7_routeLeads_33, eX7_routeLeads_36, eX7_routeLeads_37, eX7_routeLeads_40, eX7_routeLeads_42, eX7_routeLeads_43, eX7_routeLeads_47, eX7_routeLeads_48, eX7_routeLeads_51, eX7_routeLeads_54, eX7_routeLeads_56, eX7_routeLeads_57, eX7_routeLeads_60, eX7_routeLeads_63, eX7_routeLeads_64, eX7_routeLeads_67, eX7_routeLeads_69, eX7_routeLeads_72, eX7_routeLeads_74, eX7_routeLeads_75, eX7_routeLeads_76, eX7_routeLeads_77, eX7_routeLeads_79, eX7_routeLeads_82, eX7_routeLeads_83, eX7_routeLeads_84, eX7_routeLeads_86, eX7_routeLeads_88, eX7_routeLeads_91, eX7_routeLeads_92, eX7_routeLeads_93, eX7_routeLeads_94, eX7_routeLeads_95, eX7_routeLeads_97, eX7_routeLeads_99, eX7_routeLeads_100, eX7_routeLeads_101, eX7_routeLeads_103, eX7_routeLeads_106, eX7_routeLeads_109, eX7_routeLeads_1100, eX7_routeLeads_1101, eX7_routeLeads_111, eX7_routeLeads_112, eX7_routeLeads_115, eX7_routeLeads_116, eX7_routeLeads_118, eX7_routeLeads_121, eX7_routeLeads_122, eX7_routeLeads_125, eX7_routeLeads_127, eX7_routeLeads_129, eX7_routeLeads_132, eX7_routeLeads_135, eX7_routeLeads_138, eX7_routeLeads_1390, eX7_routeLeads_1391, eX7_routeLeads_31n0, eX7_routeLeads_31n1, eX7_routeLeads_110n0, eX7_routeLeads_110n1, eX7_routeLeads_139n0, eX7_routeLeads_139n1, cnt_0, cnt_1, cnt_2, cnt_3, cnt_4, cnt_5, cnt_6, cnt_7, cnt_8, cnt_9, cnt_10, cnt_11, hh, true_and, Ho_n H1, nI_leI, if_neg (show ¬ τ 7 0 ≤ o by omega), nI_eq, if_pos c, nI_1]
          exact ihk (o + 1) p' N' _ (by omega) hp E' F' S' ef
        · rw [if_neg c] at ef
          have c' : i ≠ o := fun q => c q.symm
          have u5 : rowAt N' (16 + 1) (nI o) = nI (f o) := St_rowAt (by decide) (by omega) S'
          have pr : ∀ {M : bM} {v : Int32}, rowPut M 30 (nI depth) v = sI M 9 30 depth v := rowPut_nI (by rw [aln30]; omega)
          simp (disch := omega) only [eX7_routeLeads_0, eX7_routeLeads_2, eX7_routeLeads_4, eX7_routeLeads_7, eX7_routeLeads_9, eX7_routeLeads_10, eX7_routeLeads_13, eX7_routeLeads_14, eX7_routeLeads_17, eX7_routeLeads_18, eX7_routeLeads_21, eX7_routeLeads_23, eX7_routeLeads_26, eX7_routeLeads_27, eX7_routeLeads_30, eX7_routeLeads_310, eX7_routeLeads_311, eX7_routeLeads_32, eX7_routeLeads_33, eX7_routeLeads_36, eX7_routeLeads_37, eX7_routeLeads_40, eX7_routeLeads_42, eX7_routeLeads_43, eX7_routeLeads_47, eX7_routeLeads_48, eX7_routeLeads_51, eX7_routeLeads_54, eX7_routeLeads_56, eX7_routeLeads_57, eX7_routeLeads_60, eX7_routeLeads_63, eX7_routeLeads_64, eX7_routeLeads_67, eX7_routeLeads_69, eX7_routeLeads_72, eX7_routeLeads_74, eX7_routeLeads_75, eX7_routeLeads_76, eX7_routeLeads_77, eX7_routeLeads_79, eX7_routeLeads_82, eX7_routeLeads_83, eX7_routeLeads_84, eX7_routeLeads_86, eX7_routeLeads_88, eX7_routeLeads_91, eX7_routeLeads_92, eX7_routeLeads_93, eX7_routeLeads_94, eX7_routeLeads_95, eX7_routeLeads_97, eX7_routeLeads_99, eX7_routeLeads_100, eX7_routeLeads_101, eX7_routeLeads_103, eX7_routeLeads_106, eX7_routeLeads_109, eX7_routeLeads_1100, eX7_routeLeads_1101, eX7_routeLeads_111, eX7_routeLeads_112, eX7_routeLeads_115, eX7_routeLeads_116, eX7_routeLeads_118, eX7_routeLeads_121, eX7_routeLeads_122, eX7_routeLeads_125, eX7_routeLeads_127, eX7_routeLeads_129, eX7_routeLeads_132, eX7_routeLeads_135, eX7_routeLeads_138, eX7_routeLeads_1390, eX7_routeLeads_1391, eX7_routeLeads_31n0, eX7_routeLeads_31n1, eX7_routeLeads_110n0, eX7_routeLeads_110n1, eX7_routeLeads_139n0, eX7_routeLeads_139n1, cnt_0, cnt_1, cnt_2, cnt_3, cnt_4, cnt_5, cnt_6, cnt_7, cnt_8, cnt_9, cnt_10, cnt_11, hh, true_and, Nat.reduceLT, Ho_n H1, nI_leI, if_neg (show ¬ τ 7 0 ≤ o by omega), nI_eq, if_neg c, lt_st (show 1 < 12 by decide), tX4_at, u5, psh_i, mX5_meet (show 1 < 12 by decide) hh H1 K hs' hi (show o < τ 7 0 by omega) c' S', tX4_put, pr, psh_u, lit_1, nI_add]
          have S3 : St (sI (wSt N' 1 (tcS τ i o (f, p', g))) 9 30 depth (nI o)) 1 (pmt (τ 0) f i o, p' &&& msk i o, g) := St_e (Eqx_sI (S := fun c i => c = 9 ∧ i = 30) ⟨rfl, rfl⟩) (by omega) (by omega) (St_wSt _ _ _)
          have E3 : Eqx scr M (sI (wSt N' 1 (tcS τ i o (f, p', g))) 9 30 depth (nI o)) := Eqx_tr (Eqx_tr E' scr_w (fun _ _ q => q) (fun _ _ q => q)) (Eqx_sI s30) (fun _ _ q => q) (fun _ _ q => q)
          have R3 : ∀ j, gI (sI (wSt N' 1 (tcS τ i o (f, p', g))) 9 30 depth (nI o)) 9 30 j = if j = depth then nI o else gI N' 9 30 j := by
            intro j
            rw [gI_sI]
            by_cases q : j = depth
            · rw [if_pos ⟨rfl, rfl, q⟩, if_pos q]
            · rw [if_neg (fun w => q w.2.2), if_neg q, wSt_o (by omega) (by omega)]
          refine ih (depth + 1) (p' &&& msk i o) g (pmt (τ 0) f i o) _ _ (by omega) (OKs_tc (by omega) (by omega) hs') E3 S3 (fun hf N2 p2 hp2 E2 F2 S2 => ?_) (fun cc hf N2 E2 F2 D2 => ?_)
          · rw [hf] at ef
            have p1 := mPut (v := f i) (show 1 < 12 by decide) (show i < 9 by omega) S2
            have p3 : ∀ σ, rowPut (wSt N2 1 σ) (16 + 1) (nI o) (nI (f o)) = wSt N2 1 (upN σ.1 o (f o), σ.2) := fun σ => wSt_rowPut (by decide) (by omega)
            simp (disch := omega) only [psh_i, bi_f, if_true, eX7_routeLeads_0, eX7_routeLeads_2, eX7_routeLeads_4, eX7_routeLeads_7, eX7_routeLeads_9, eX7_routeLeads_10, eX7_routeLeads_13, eX7_routeLeads_14, eX7_routeLeads_17, eX7_routeLeads_18, eX7_routeLeads_21, eX7_routeLeads_23, eX7_routeLeads_26, eX7_routeLeads_27, eX7_routeLeads_30, eX7_routeLeads_310, eX7_routeLeads_311, eX7_routeLeads_32, eX7_routeLeads_33, eX7_routeLeads_36, eX7_routeLeads_37, eX7_routeLeads_40, eX7_routeLeads_42, eX7_routeLeads_43, eX7_routeLeads_47, eX7_routeLeads_48, eX7_routeLeads_51, eX7_routeLeads_54, eX7_routeLeads_56, eX7_routeLeads_57, eX7_routeLeads_60, eX7_routeLeads_63, eX7_routeLeads_64, eX7_routeLeads_67, eX7_routeLeads_69, eX7_routeLeads_72, eX7_routeLeads_74, eX7_routeLeads_75, eX7_routeLeads_76, eX7_routeLeads_77, eX7_routeLeads_79, eX7_routeLeads_82, eX7_routeLeads_83, eX7_routeLeads_84, eX7_routeLeads_86, eX7_routeLeads_88, eX7_routeLeads_91, eX7_routeLeads_92, eX7_routeLeads_93, eX7_routeLeads_94, eX7_routeLeads_95, eX7_routeLeads_97, eX7_routeLeads_99, eX7_routeLeads_100, eX7_routeLeads_101, eX7_routeLeads_103, eX7_routeLeads_106, eX7_routeLeads_109, eX7_routeLeads_1100, eX7_routeLeads_1101, eX7_routeLeads_111, eX7_routeLeads_112, eX7_routeLeads_115, eX7_routeLeads_116, eX7_routeLeads_118, eX7_routeLeads_121, eX7_routeLeads_122, eX7_routeLeads_125, eX7_routeLeads_127, eX7_routeLeads_129, eX7_routeLeads_132, eX7_routeLeads_135, eX7_routeLeads_138, eX7_routeLeads_1390, eX7_routeLeads_1391, eX7_routeLeads_31n0, eX7_routeLeads_31n1, eX7_routeLeads_110n0, eX7_routeLeads_110n1, eX7_routeLeads_139n0, eX7_routeLeads_139n1, cnt_0, cnt_1, cnt_2, cnt_3, cnt_4, cnt_5, cnt_6, cnt_7, cnt_8, cnt_9, cnt_10, cnt_11, hh, true_and, Nat.reduceLT, lt_st (show 1 < 12 by decide), tX4_put, p1, psh_u, p3, nI_1, pm_back]
            refine ihk (o + 1) p2 _ _ (by omega) hp2 (Eqx_tr E2 scr_w (fun _ _ q => q) (fun _ _ q => q)) (fun j hj => ?_) (St_wSt _ _ _) ef
            rw [wSt_o (by omega) (by omega), F2 j (by omega), R3, if_neg (by omega)]
            exact F' j hj
          · rw [hf] at ef
            simp (disch := omega) only [psh_i, bi_t, show ((1 : Int32) = 0) = False from eq_false (by decide), if_false, eX7_routeLeads_0, eX7_routeLeads_2, eX7_routeLeads_4, eX7_routeLeads_7, eX7_routeLeads_9, eX7_routeLeads_10, eX7_routeLeads_13, eX7_routeLeads_14, eX7_routeLeads_17, eX7_routeLeads_18, eX7_routeLeads_21, eX7_routeLeads_23, eX7_routeLeads_26, eX7_routeLeads_27, eX7_routeLeads_30, eX7_routeLeads_310, eX7_routeLeads_311, eX7_routeLeads_32, eX7_routeLeads_33, eX7_routeLeads_36, eX7_routeLeads_37, eX7_routeLeads_40, eX7_routeLeads_42, eX7_routeLeads_43, eX7_routeLeads_47, eX7_routeLeads_48, eX7_routeLeads_51, eX7_routeLeads_54, eX7_routeLeads_56, eX7_routeLeads_57, eX7_routeLeads_60, eX7_routeLeads_63, eX7_routeLeads_64, eX7_routeLeads_67, eX7_routeLeads_69, eX7_routeLeads_72, eX7_routeLeads_74, eX7_routeLeads_75, eX7_routeLeads_76, eX7_routeLeads_77, eX7_routeLeads_79, eX7_routeLeads_82, eX7_routeLeads_83, eX7_routeLeads_84, eX7_routeLeads_86, eX7_routeLeads_88, eX7_routeLeads_91, eX7_routeLeads_92, eX7_routeLeads_93, eX7_routeLeads_94, eX7_routeLeads_95, eX7_routeLeads_97, eX7_routeLeads_99, eX7_routeLeads_100, eX7_routeLeads_101, eX7_routeLeads_103, eX7_routeLeads_106, eX7_routeLeads_109, eX7_routeLeads_1100, eX7_routeLeads_1101, eX7_routeLeads_111, eX7_routeLeads_112, eX7_routeLeads_115, eX7_routeLeads_116, eX7_routeLeads_118, eX7_routeLeads_121, eX7_routeLeads_122, eX7_routeLeads_125, eX7_routeLeads_127, eX7_routeLeads_129, eX7_routeLeads_132, eX7_routeLeads_135, eX7_routeLeads_138, eX7_routeLeads_1390, eX7_routeLeads_1391, eX7_routeLeads_31n0, eX7_routeLeads_31n1, eX7_routeLeads_110n0, eX7_routeLeads_110n1, eX7_routeLeads_139n0, eX7_routeLeads_139n1]
            have hc := fcd_lt K _ _ _ hf
            refine hY (o * 9 ^ m + cc) (by rw [← ef]; rfl) N2 E2 (fun j hj => ?_) (fun j hj => ?_)
            · rw [F2 j (by omega), R3, if_neg (by omega)]
              exact F' j hj
            · cases j with
              | zero =>
                rw [Nat.add_zero, F2 depth (by omega), R3, if_pos rfl]
                show nI o = nI ((o * 9 ^ m + cc) / 9 ^ m % 9)
                rw [Nat.add_comm, Nat.add_mul_div_right _ _ (Nat.pos_of_ne_zero (by simp)), Nat.div_eq_of_lt hc, Nat.zero_add, Nat.mod_eq_of_lt (by omega)]
              | succ j =>
                have := D2 j (by omega)
                rw [show depth + 1 + j = depth + (j + 1) by omega] at this
                rw [this]
                congr 1
                have hm : m = (m - 1 - j) + 1 + j := by omega
                have e9 : 9 ^ m = 9 ^ j * 9 * 9 ^ (m - 1 - j) := by
                  conv => lhs; rw [hm, Nat.pow_add, Nat.pow_succ]
                  rw [Nat.mul_comm (9 ^ (m - 1 - j) * 9), Nat.mul_comm (9 ^ (m - 1 - j)), Nat.mul_assoc]
                rw [show m + 1 - 1 - (j + 1) = m - 1 - j by omega, e9, ← Nat.mul_assoc, Nat.add_comm, Nat.add_mul_div_right _ _ (Nat.pos_of_ne_zero (by simp)), ← Nat.mul_assoc, Nat.add_mul_mod_self_right]
    exact go (τ 7 0) 0 p N _ (by omega) hs.2 E (fun _ _ => rfl) S hR
end U10
