/-! the model reads -/
/-- a number below B with its stop behind: its value, and the place behind the stop -/
def nmb (lt : Nat → Nat) (len p st B : Nat) : Option (Nat × Nat) := if fg lt len p = 0 then none else if tl lt len (p + fg lt len p) = st ∧ fv lt len p (fg lt len p) < B then some (fv lt len p (fg lt len p), p + fg lt len p + 1) else none
section M11
variable {d : Nat} {M : bM} {lt : Nat → Nat} {len n : Nat} {τ : Nat → Nat → Nat} {Q : bV → bM → Prop}
def lA (lt : Nat → Nat) (len p : Nat) : Int32 := if p < len then nI (lt p) else -1
theorem tX8_letterAt {p : Nat} (P : MPg M lt len) (hp : p < 2 ^ 30) : Run 1 (d + 1) 95 [vr 8 0, .inl (nI p)] M Q = Q (.inl (lA lt len p)) M := by
  have hl := P.2.1
  rw [rX8_letterAt]
  simp (disch := omega) only [eX8_letterAt_0, eX8_letterAt_1, eX8_letterAt_2, eX8_letterAt_8, eX8_letterAt_9, eX8_letterAt_12, eX8_letterAt_14, eX8_letterAt_17, eX8_letterAt_18, c8_, c11_0, c11_1, c11_2, c11_3, c11_4, c11_5, c11_6, c11_7, c11_8, c11_9, alm_0, alm_1, alm_2, alm_3, alm_4, alm_5, alm_6, alm_7, alm_8, alm_9, vT, true_and, P.1]
  rw [eX8_letterAt_5]
  simp (disch := omega) only [nI_leI]
  unfold lA
  by_cases c : len ≤ p
  · rw [if_pos c, if_neg (by omega)]
    simp only [eX8_letterAt_0, eX8_letterAt_1, eX8_letterAt_2, eX8_letterAt_8, eX8_letterAt_9, eX8_letterAt_12, eX8_letterAt_14, eX8_letterAt_17, eX8_letterAt_18]
  · rw [if_neg c, if_pos (by omega)]
    simp only [eX8_letterAt_0, eX8_letterAt_1, eX8_letterAt_2, eX8_letterAt_8, eX8_letterAt_9, eX8_letterAt_12, eX8_letterAt_14, eX8_letterAt_17, eX8_letterAt_18, c8_, c11_0, c11_1, c11_2, c11_3, c11_4, c11_5, c11_6, c11_7, c11_8, c11_9, alm_0, alm_1, alm_2, alm_3, alm_4, alm_5, alm_6, alm_7, alm_8, alm_9, vT, true_and]
    rw [eX8_letterAt_13]
    simp (disch := omega) only [eX8_letterAt_0, eX8_letterAt_1, eX8_letterAt_2, eX8_letterAt_8, eX8_letterAt_9, eX8_letterAt_12, eX8_letterAt_14, eX8_letterAt_17, eX8_letterAt_18, c8_, c11_0, c11_1, c11_2, c11_3, c11_4, c11_5, c11_6, c11_7, c11_8, c11_9, alm_0, alm_1, alm_2, alm_3, alm_4, alm_5, alm_6, alm_7, alm_8, alm_9, vT, true_and, nI_clamp, (P.2.2 p (by omega)).1]
theorem tX8_isFigure {p : Nat} (P : MPg M lt len) : Run 1 (d + 2) 96 [.inl (lA lt len p)] M Q = Q (.inl (bi (isF (tl lt len p)))) M := by
  rw [rX8_isFigure]
  simp only [eX8_isFigure_0, eX8_isFigure_1, eX8_isFigure_3, eX8_isFigure_5, eX8_isFigure_80, eX8_isFigure_81, eX8_isFigure_8n0, eX8_isFigure_8n1, tX8_in, psh_i]
  have e : inB (lA lt len p) 48 57 = isF (tl lt len p) := by
    unfold lA tl isF inB
    by_cases c : p < len
    · have h := (P.2.2 p c).2
      rw [if_pos c, if_pos c, show (48 : Int32) = nI 48 from rfl, show (57 : Int32) = nI 57 from rfl]
      congr 1
      · apply decide_eq_decide.mpr
        rw [nI_ltI (by omega) (by omega)]
        omega
      · apply decide_eq_decide.mpr
        rw [nI_ltI (by omega) (by omega)]
        omega
    · rw [if_neg c, if_neg c]
      decide
  rw [e]
  cases isF (tl lt len p) <;> simp only [bi_t, bi_f, eX8_isFigure_0, eX8_isFigure_1, eX8_isFigure_3, eX8_isFigure_5, eX8_isFigure_80, eX8_isFigure_81, eX8_isFigure_8n0, eX8_isFigure_8n1]
theorem lA_f {p : Nat} (P : MPg M lt len) (h : isF (tl lt len p) = true) : lA lt len p = nI (tl lt len p) ∧ 48 ≤ tl lt len p ∧ tl lt len p ≤ 57 := by
  have h2 := h
  unfold isF at h2
  rw [Bool.and_eq_true, decide_eq_true_eq, decide_eq_true_eq] at h2
  refine ⟨?_, h2⟩
  unfold lA tl
  by_cases c : p < len
  · rw [if_pos c, if_pos c]
  · unfold tl at h2
    rw [if_neg c] at h2
    omega
theorem lA_st {p st : Nat} (P : MPg M lt len) (h1 : 0 < st) (h2 : st < 128) : (lA lt len p = nI st) = (tl lt len p = st) := by
  unfold lA tl
  by_cases c : p < len
  · have h := (P.2.2 p c).2
    rw [if_pos c, if_pos c, nI_eq (by omega) (by omega)]
  · rw [if_neg c, if_neg c]
    refine propext ⟨fun q => ?_, fun q => by omega⟩
    exfalso
    have := congrArg Int32.toInt q
    rw [nI_toInt (by omega)] at this
    simp at this
theorem g11 {N : bM} {v : Int32} : gI (sI N 8 0 11 v) 8 0 11 = v := by rw [gI_sI, if_pos ⟨rfl, rfl, rfl⟩]
theorem MPg_11 {N : bM} {v : Int32} (P : MPg N lt len) : MPg (sI N 8 0 11 v) lt len := MPg_x (A := fun a => a = 99) (F := fun f => f = 11) (Mx_f rfl) (by omega) (by omega) P
theorem tX8_number {p st B : Nat} {mx : Int32} (P : MPg M lt len) (ha : gI M 8 0 11 = nI p) (hp : p < 2 ^ 20) (h1 : 0 < st) (h2 : st < 128) (hB : ∀ v, v < 100 → (mx < nI v ↔ ¬ v < B))
    (hQ : (nmb lt len p st B = none → ∀ N, Mx (fun _ => False) (fun f => f = 11) M N → Q (.inl (-1)) N) ∧ ∀ v q, nmb lt len p st B = some (v, q) → v < 100 → v < B → q ≤ p + 3 → ∀ N, Mx (fun _ => False) (fun f => f = 11) M N → gI N 8 0 11 = nI q → Q (.inl (nI v)) N) : Run 1 (d + 3) 97 [vr 8 0, .inl mx, .inl (nI st)] M Q := by
  have hv := fv_lt (lt := lt) (len := len) (p := p)
  have x1 : ∀ v, Mx (fun _ => False) (fun f => f = 11) M (sI M 8 0 11 v) := fun v => Mx_f rfl
  have x2 : ∀ v w, Mx (fun _ => False) (fun f => f = 11) M (sI (sI M 8 0 11 v) 8 0 11 w) := fun v w => Mx_tr (x1 v) (Mx_f rfl)
  have x3 : ∀ v w u, Mx (fun _ => False) (fun f => f = 11) M (sI (sI (sI M 8 0 11 v) 8 0 11 w) 8 0 11 u) := fun v w u => Mx_tr (x2 v w) (Mx_f rfl)
  have P1 : ∀ v, MPg (sI M 8 0 11 v) lt len := fun v => MPg_11 P
  have P2 : ∀ v w, MPg (sI (sI M 8 0 11 v) 8 0 11 w) lt len := fun v w => MPg_11 (P1 v)
  unfold nmb at hQ
  -- what comes behind the figures
  have tail : ∀ (N : bM) (k : Nat), MPg N lt len → Mx (fun _ => False) (fun f => f = 11) M N → gI N 8 0 11 = nI (p + k) → fg lt len p = k → 0 < k → k ≤ 2 → ExG 1 (Run 1 (d + 2)) 8 1 false none cX8_number Q 79 [vr 8 0, .inl mx, .inl (nI st), .inl (nI (fv lt len p k)), vu] [] N := by
    intro N k PN XN aN ek hk hk2
    rw [ek] at hQ hv
    rw [if_neg (by omega)] at hQ
    have XN2 : ∀ v, Mx (fun _ => False) (fun f => f = 11) M (sI N 8 0 11 v) := fun v => Mx_tr XN (Mx_f rfl)
    have good : ExG 1 (Run 1 (d + 2)) 8 1 false none cX8_number Q 101 [vr 8 0, .inl mx, .inl (nI st), .inl (nI (fv lt len p k)), vu] [.inl (1 : Int32)] N = Q (.inl (nI (fv lt len p k))) (sI N 8 0 11 (nI (p + k + 1))) := by
      simp only [eX8_number_0, eX8_number_1, eX8_number_2, eX8_number_5, eX8_number_8, eX8_number_14, eX8_number_15, eX8_number_16, eX8_number_17, eX8_number_18, eX8_number_21, eX8_number_24, eX8_number_26, eX8_number_27, eX8_number_28, eX8_number_29, eX8_number_29r, eX8_number_30, eX8_number_33, eX8_number_34, eX8_number_35, eX8_number_38, eX8_number_39, eX8_number_40, eX8_number_43, eX8_number_46, eX8_number_52, eX8_number_54, eX8_number_55, eX8_number_56, eX8_number_57, eX8_number_58, eX8_number_61, eX8_number_64, eX8_number_65, eX8_number_67, eX8_number_68, eX8_number_69, eX8_number_70, eX8_number_70r, eX8_number_71, eX8_number_74, eX8_number_75, eX8_number_76, eX8_number_79, eX8_number_80, eX8_number_81, eX8_number_84, eX8_number_87, eX8_number_91, eX8_number_92, eX8_number_96, eX8_number_97, eX8_number_100, eX8_number_101, eX8_number_103, eX8_number_104, eX8_number_104r, eX8_number_105, eX8_number_108, eX8_number_109, eX8_number_110, eX8_number_113, eX8_number_118, eX8_number_119, eX8_number_122, eX8_number_123, c8_, c11_0, c11_1, c11_2, c11_3, c11_4, c11_5, c11_6, c11_7, c11_8, c11_9, alm_0, alm_1, alm_2, alm_3, alm_4, alm_5, alm_6, alm_7, alm_8, alm_9, vT, true_and, aN, nI_1]
      rw [eX8_number_115, if_neg (by decide)]
      simp only [eX8_number_0, eX8_number_1, eX8_number_2, eX8_number_5, eX8_number_8, eX8_number_14, eX8_number_15, eX8_number_16, eX8_number_17, eX8_number_18, eX8_number_21, eX8_number_24, eX8_number_26, eX8_number_27, eX8_number_28, eX8_number_29, eX8_number_29r, eX8_number_30, eX8_number_33, eX8_number_34, eX8_number_35, eX8_number_38, eX8_number_39, eX8_number_40, eX8_number_43, eX8_number_46, eX8_number_52, eX8_number_54, eX8_number_55, eX8_number_56, eX8_number_57, eX8_number_58, eX8_number_61, eX8_number_64, eX8_number_65, eX8_number_67, eX8_number_68, eX8_number_69, eX8_number_70, eX8_number_70r, eX8_number_71, eX8_number_74, eX8_number_75, eX8_number_76, eX8_number_79, eX8_number_80, eX8_number_81, eX8_number_84, eX8_number_87, eX8_number_91, eX8_number_92, eX8_number_96, eX8_number_97, eX8_number_100, eX8_number_101, eX8_number_103, eX8_number_104, eX8_number_104r, eX8_number_105, eX8_number_108, eX8_number_109, eX8_number_110, eX8_number_113, eX8_number_118, eX8_number_119, eX8_number_122, eX8_number_123]
    have bad : ExG 1 (Run 1 (d + 2)) 8 1 false none cX8_number Q 101 [vr 8 0, .inl mx, .inl (nI st), .inl (nI (fv lt len p k)), vu] [.inl (0 : Int32)] N = Q (.inl (-1)) (sI N 8 0 11 (nI (p + k + 1))) := by
      simp only [eX8_number_0, eX8_number_1, eX8_number_2, eX8_number_5, eX8_number_8, eX8_number_14, eX8_number_15, eX8_number_16, eX8_number_17, eX8_number_18, eX8_number_21, eX8_number_24, eX8_number_26, eX8_number_27, eX8_number_28, eX8_number_29, eX8_number_29r, eX8_number_30, eX8_number_33, eX8_number_34, eX8_number_35, eX8_number_38, eX8_number_39, eX8_number_40, eX8_number_43, eX8_number_46, eX8_number_52, eX8_number_54, eX8_number_55, eX8_number_56, eX8_number_57, eX8_number_58, eX8_number_61, eX8_number_64, eX8_number_65, eX8_number_67, eX8_number_68, eX8_number_69, eX8_number_70, eX8_number_70r, eX8_number_71, eX8_number_74, eX8_number_75, eX8_number_76, eX8_number_79, eX8_number_80, eX8_number_81, eX8_number_84, eX8_number_87, eX8_number_91, eX8_number_92, eX8_number_96, eX8_number_97, eX8_number_100, eX8_number_101, eX8_number_103, eX8_number_104, eX8_number_104r, eX8_number_105, eX8_number_108, eX8_number_109, eX8_number_110, eX8_number_113, eX8_number_118, eX8_number_119, eX8_number_122, eX8_number_123, c8_, c11_0, c11_1, c11_2, c11_3, c11_4, c11_5, c11_6, c11_7, c11_8, c11_9, alm_0, alm_1, alm_2, alm_3, alm_4, alm_5, alm_6, alm_7, alm_8, alm_9, vT, true_and, aN, nI_1]
      rw [eX8_number_115, if_pos rfl]
      simp only [eX8_number_0, eX8_number_1, eX8_number_2, eX8_number_5, eX8_number_8, eX8_number_14, eX8_number_15, eX8_number_16, eX8_number_17, eX8_number_18, eX8_number_21, eX8_number_24, eX8_number_26, eX8_number_27, eX8_number_28, eX8_number_29, eX8_number_29r, eX8_number_30, eX8_number_33, eX8_number_34, eX8_number_35, eX8_number_38, eX8_number_39, eX8_number_40, eX8_number_43, eX8_number_46, eX8_number_52, eX8_number_54, eX8_number_55, eX8_number_56, eX8_number_57, eX8_number_58, eX8_number_61, eX8_number_64, eX8_number_65, eX8_number_67, eX8_number_68, eX8_number_69, eX8_number_70, eX8_number_70r, eX8_number_71, eX8_number_74, eX8_number_75, eX8_number_76, eX8_number_79, eX8_number_80, eX8_number_81, eX8_number_84, eX8_number_87, eX8_number_91, eX8_number_92, eX8_number_96, eX8_number_97, eX8_number_100, eX8_number_101, eX8_number_103, eX8_number_104, eX8_number_104r, eX8_number_105, eX8_number_108, eX8_number_109, eX8_number_110, eX8_number_113, eX8_number_118, eX8_number_119, eX8_number_122, eX8_number_123]
    simp (disch := omega) only [eX8_number_0, eX8_number_1, eX8_number_2, eX8_number_5, eX8_number_8, eX8_number_14, eX8_number_15, eX8_number_16, eX8_number_17, eX8_number_18, eX8_number_21, eX8_number_24, eX8_number_26, eX8_number_27, eX8_number_28, eX8_number_29, eX8_number_29r, eX8_number_30, eX8_number_33, eX8_number_34, eX8_number_35, eX8_number_38, eX8_number_39, eX8_number_40, eX8_number_43, eX8_number_46, eX8_number_52, eX8_number_54, eX8_number_55, eX8_number_56, eX8_number_57, eX8_number_58, eX8_number_61, eX8_number_64, eX8_number_65, eX8_number_67, eX8_number_68, eX8_number_69, eX8_number_70, eX8_number_70r, eX8_number_71, eX8_number_74, eX8_number_75, eX8_number_76, eX8_number_79, eX8_number_80, eX8_number_81, eX8_number_84, eX8_number_87, eX8_number_91, eX8_number_92, eX8_number_96, eX8_number_97, eX8_number_100, eX8_number_103, eX8_number_104, eX8_number_104r, eX8_number_105, eX8_number_108, eX8_number_109, eX8_number_110, eX8_number_113, eX8_number_118, eX8_number_119, eX8_number_122, eX8_number_123, c8_, c11_0, c11_1, c11_2, c11_3, c11_4, c11_5, c11_6, c11_7, c11_8, c11_9, alm_0, alm_1, alm_2, alm_3, alm_4, alm_5, alm_6, alm_7, alm_8, alm_9, vT, true_and, aN, tX8_letterAt PN (show p + k < 2 ^ 30 by omega), psh_i]
    rw [eX8_number_88]
    simp only [lA_st PN h1 h2]
    by_cases c1 : tl lt len (p + k) = st
    · rw [if_pos c1]
      simp only [eX8_number_0, eX8_number_1, eX8_number_2, eX8_number_5, eX8_number_8, eX8_number_14, eX8_number_15, eX8_number_16, eX8_number_17, eX8_number_18, eX8_number_21, eX8_number_24, eX8_number_26, eX8_number_27, eX8_number_28, eX8_number_29, eX8_number_29r, eX8_number_30, eX8_number_33, eX8_number_34, eX8_number_35, eX8_number_38, eX8_number_39, eX8_number_40, eX8_number_43, eX8_number_46, eX8_number_52, eX8_number_54, eX8_number_55, eX8_number_56, eX8_number_57, eX8_number_58, eX8_number_61, eX8_number_64, eX8_number_65, eX8_number_67, eX8_number_68, eX8_number_69, eX8_number_70, eX8_number_70r, eX8_number_71, eX8_number_74, eX8_number_75, eX8_number_76, eX8_number_79, eX8_number_80, eX8_number_81, eX8_number_84, eX8_number_87, eX8_number_91, eX8_number_92, eX8_number_96, eX8_number_97, eX8_number_100, eX8_number_103, eX8_number_104, eX8_number_104r, eX8_number_105, eX8_number_108, eX8_number_109, eX8_number_110, eX8_number_113, eX8_number_118, eX8_number_119, eX8_number_122, eX8_number_123]
      rw [eX8_number_93]
      by_cases c2 : fv lt len p k < B
      · rw [if_neg (fun q => (hB _ hv).mp q c2)]
        simp only [eX8_number_0, eX8_number_1, eX8_number_2, eX8_number_5, eX8_number_8, eX8_number_14, eX8_number_15, eX8_number_16, eX8_number_17, eX8_number_18, eX8_number_21, eX8_number_24, eX8_number_26, eX8_number_27, eX8_number_28, eX8_number_29, eX8_number_29r, eX8_number_30, eX8_number_33, eX8_number_34, eX8_number_35, eX8_number_38, eX8_number_39, eX8_number_40, eX8_number_43, eX8_number_46, eX8_number_52, eX8_number_54, eX8_number_55, eX8_number_56, eX8_number_57, eX8_number_58, eX8_number_61, eX8_number_64, eX8_number_65, eX8_number_67, eX8_number_68, eX8_number_69, eX8_number_70, eX8_number_70r, eX8_number_71, eX8_number_74, eX8_number_75, eX8_number_76, eX8_number_79, eX8_number_80, eX8_number_81, eX8_number_84, eX8_number_87, eX8_number_91, eX8_number_92, eX8_number_96, eX8_number_97, eX8_number_100, eX8_number_103, eX8_number_104, eX8_number_104r, eX8_number_105, eX8_number_108, eX8_number_109, eX8_number_110, eX8_number_113, eX8_number_118, eX8_number_119, eX8_number_122, eX8_number_123]
        rw [good]
        exact hQ.2 _ _ (by rw [if_pos ⟨c1, c2⟩]) hv c2 (by omega) _ (XN2 _) g11
      · rw [if_pos ((hB _ hv).mpr c2)]
        simp only [eX8_number_0, eX8_number_1, eX8_number_2, eX8_number_5, eX8_number_8, eX8_number_14, eX8_number_15, eX8_number_16, eX8_number_17, eX8_number_18, eX8_number_21, eX8_number_24, eX8_number_26, eX8_number_27, eX8_number_28, eX8_number_29, eX8_number_29r, eX8_number_30, eX8_number_33, eX8_number_34, eX8_number_35, eX8_number_38, eX8_number_39, eX8_number_40, eX8_number_43, eX8_number_46, eX8_number_52, eX8_number_54, eX8_number_55, eX8_number_56, eX8_number_57, eX8_number_58, eX8_number_61, eX8_number_64, eX8_number_65, eX8_number_67, eX8_number_68, eX8_number_69, eX8_number_70, eX8_number_70r, eX8_number_71, eX8_number_74, eX8_number_75, eX8_number_76, eX8_number_79, eX8_number_80, eX8_number_81, eX8_number_84, eX8_number_87, eX8_number_91, eX8_number_92, eX8_number_96, eX8_number_97, eX8_number_100, eX8_number_103, eX8_number_104, eX8_number_104r, eX8_number_105, eX8_number_108, eX8_number_109, eX8_number_110, eX8_number_113, eX8_number_118, eX8_number_119, eX8_number_122, eX8_number_123]
        rw [bad]
        exact hQ.1 (by rw [if_neg (fun q => c2 q.2)]) _ (XN2 _)
    · rw [if_neg c1]
      simp only [eX8_number_0, eX8_number_1, eX8_number_2, eX8_number_5, eX8_number_8, eX8_number_14, eX8_number_15, eX8_number_16, eX8_number_17, eX8_number_18, eX8_number_21, eX8_number_24, eX8_number_26, eX8_number_27, eX8_number_28, eX8_number_29, eX8_number_29r, eX8_number_30, eX8_number_33, eX8_number_34, eX8_number_35, eX8_number_38, eX8_number_39, eX8_number_40, eX8_number_43, eX8_number_46, eX8_number_52, eX8_number_54, eX8_number_55, eX8_number_56, eX8_number_57, eX8_number_58, eX8_number_61, eX8_number_64, eX8_number_65, eX8_number_67, eX8_number_68, eX8_number_69, eX8_number_70, eX8_number_70r, eX8_number_71, eX8_number_74, eX8_number_75, eX8_number_76, eX8_number_79, eX8_number_80, eX8_number_81, eX8_number_84, eX8_number_87, eX8_number_91, eX8_number_92, eX8_number_96, eX8_number_97, eX8_number_100, eX8_number_103, eX8_number_104, eX8_number_104r, eX8_number_105, eX8_number_108, eX8_number_109, eX8_number_110, eX8_number_113, eX8_number_118, eX8_number_119, eX8_number_122, eX8_number_123]
      rw [bad]
      exact hQ.1 (by rw [if_neg (fun q => c1 q.1)]) _ (XN2 _)
  rw [rX8_number]
  simp (disch := omega) only [eX8_number_0, eX8_number_1, eX8_number_2, eX8_number_5, eX8_number_8, eX8_number_14, eX8_number_15, eX8_number_16, eX8_number_17, eX8_number_18, eX8_number_21, eX8_number_24, eX8_number_26, eX8_number_27, eX8_number_28, eX8_number_29, eX8_number_29r, eX8_number_30, eX8_number_33, eX8_number_34, eX8_number_35, eX8_number_38, eX8_number_39, eX8_number_40, eX8_number_43, eX8_number_46, eX8_number_52, eX8_number_54, eX8_number_55, eX8_number_56, eX8_number_57, eX8_number_58, eX8_number_61, eX8_number_64, eX8_number_65, eX8_number_67, eX8_number_68, eX8_number_69, eX8_number_70, eX8_number_70r, eX8_number_71, eX8_number_74, eX8_number_75, eX8_number_76, eX8_number_80, eX8_number_81, eX8_number_84, eX8_number_87, eX8_number_91, eX8_number_92, eX8_number_96, eX8_number_97, eX8_number_100, eX8_number_101, eX8_number_103, eX8_number_104, eX8_number_104r, eX8_number_105, eX8_number_108, eX8_number_109, eX8_number_110, eX8_number_113, eX8_number_118, eX8_number_119, eX8_number_122, eX8_number_123, c8_, c11_0, c11_1, c11_2, c11_3, c11_4, c11_5, c11_6, c11_7, c11_8, c11_9, alm_0, alm_1, alm_2, alm_3, alm_4, alm_5, alm_6, alm_7, alm_8, alm_9, vT, true_and, ha, tX8_letterAt P (show p < 2 ^ 30 by omega), psh_i, tX8_isFigure P]
  rw [eX8_number_11]
  simp only [bi_0]
  cases f1 : isF (tl lt len p)
  · rw [if_pos rfl]
    simp only [eX8_number_0, eX8_number_1, eX8_number_2, eX8_number_5, eX8_number_8, eX8_number_14, eX8_number_15, eX8_number_16, eX8_number_17, eX8_number_18, eX8_number_21, eX8_number_24, eX8_number_26, eX8_number_27, eX8_number_28, eX8_number_29, eX8_number_29r, eX8_number_30, eX8_number_33, eX8_number_34, eX8_number_35, eX8_number_38, eX8_number_39, eX8_number_40, eX8_number_43, eX8_number_46, eX8_number_52, eX8_number_54, eX8_number_55, eX8_number_56, eX8_number_57, eX8_number_58, eX8_number_61, eX8_number_64, eX8_number_65, eX8_number_67, eX8_number_68, eX8_number_69, eX8_number_70, eX8_number_70r, eX8_number_71, eX8_number_74, eX8_number_75, eX8_number_76, eX8_number_80, eX8_number_81, eX8_number_84, eX8_number_87, eX8_number_91, eX8_number_92, eX8_number_96, eX8_number_97, eX8_number_100, eX8_number_101, eX8_number_103, eX8_number_104, eX8_number_104r, eX8_number_105, eX8_number_108, eX8_number_109, eX8_number_110, eX8_number_113, eX8_number_118, eX8_number_119, eX8_number_122, eX8_number_123]
    have e : fg lt len p = 0 := by unfold fg; rw [f1]; rfl
    exact hQ.1 (by rw [if_pos e]) M Mx_rf
  · rw [if_neg (by decide)]
    obtain ⟨l1, l2, l3⟩ := lA_f P f1
    have s1 : nI (tl lt len p) - nI 48 = nI (tl lt len p - 48) := pk_sub (by omega)
    simp (disch := omega) only [eX8_number_0, eX8_number_1, eX8_number_2, eX8_number_5, eX8_number_8, eX8_number_14, eX8_number_15, eX8_number_16, eX8_number_17, eX8_number_18, eX8_number_21, eX8_number_24, eX8_number_26, eX8_number_27, eX8_number_28, eX8_number_29, eX8_number_29r, eX8_number_30, eX8_number_33, eX8_number_34, eX8_number_35, eX8_number_38, eX8_number_39, eX8_number_40, eX8_number_43, eX8_number_46, eX8_number_52, eX8_number_54, eX8_number_55, eX8_number_56, eX8_number_57, eX8_number_58, eX8_number_61, eX8_number_64, eX8_number_65, eX8_number_67, eX8_number_68, eX8_number_69, eX8_number_70, eX8_number_70r, eX8_number_71, eX8_number_74, eX8_number_75, eX8_number_76, eX8_number_80, eX8_number_81, eX8_number_84, eX8_number_87, eX8_number_91, eX8_number_92, eX8_number_96, eX8_number_97, eX8_number_100, eX8_number_101, eX8_number_103, eX8_number_104, eX8_number_104r, eX8_number_105, eX8_number_108, eX8_number_109, eX8_number_110, eX8_number_113, eX8_number_118, eX8_number_119, eX8_number_122, eX8_number_123, c8_, c11_0, c11_1, c11_2, c11_3, c11_4, c11_5, c11_6, c11_7, c11_8, c11_9, alm_0, alm_1, alm_2, alm_3, alm_4, alm_5, alm_6, alm_7, alm_8, alm_9, vT, true_and, ha, tX8_letterAt P (show p < 2 ^ 30 by omega), psh_i, l1, lit_48, s1, nI_1, g11, tX8_letterAt (P1 _) (show p + 1 < 2 ^ 30 by omega), tX8_isFigure (P1 _)]
    rw [eX8_number_49]
    simp only [bi_0]
    cases f2 : isF (tl lt len (p + 1))
    · rw [if_pos rfl]
      have e : fg lt len p = 1 := by unfold fg; rw [f1, f2]; rfl
      have ev : fv lt len p 1 = tl lt len p - 48 := by
        show 10 * 0 + tl lt len (p + 0) - 48 = _
        rw [Nat.mul_zero, Nat.zero_add, Nat.add_zero]
      have := tail _ 1 (P1 (nI (p + 1))) (x1 _) g11 e (by decide) (by decide)
      rw [ev] at this
      exact this
    · rw [if_neg (by decide)]
      obtain ⟨m1, m2, m3⟩ := lA_f P f2
      have e : fg lt len p = 2 := by unfold fg; rw [f1, f2]; rfl
      have ev : fv lt len p 2 = 10 * (tl lt len p - 48) + tl lt len (p + 1) - 48 := by
        show 10 * (10 * 0 + tl lt len (p + 0) - 48) + tl lt len (p + 1) - 48 = _
        rw [Nat.mul_zero, Nat.zero_add, Nat.add_zero]
      have s2 : nI (10 * (tl lt len p - 48) + tl lt len (p + 1)) - nI 48 = nI (10 * (tl lt len p - 48) + tl lt len (p + 1) - 48) := pk_sub (by omega)
      have := tail _ 2 (P2 (nI (p + 1)) (nI (p + 1 + 1))) (x2 _ _) g11 e (by decide) (by decide)
      rw [ev] at this
      simp (disch := omega) only [eX8_number_0, eX8_number_1, eX8_number_2, eX8_number_5, eX8_number_8, eX8_number_14, eX8_number_15, eX8_number_16, eX8_number_17, eX8_number_18, eX8_number_21, eX8_number_24, eX8_number_26, eX8_number_27, eX8_number_28, eX8_number_29, eX8_number_29r, eX8_number_30, eX8_number_33, eX8_number_34, eX8_number_35, eX8_number_38, eX8_number_39, eX8_number_40, eX8_number_43, eX8_number_46, eX8_number_52, eX8_number_54, eX8_number_55, eX8_number_56, eX8_number_57, eX8_number_58, eX8_number_61, eX8_number_64, eX8_number_65, eX8_number_67, eX8_number_68, eX8_number_69, eX8_number_70, eX8_number_70r, eX8_number_71, eX8_number_74, eX8_number_75, eX8_number_76, eX8_number_80, eX8_number_81, eX8_number_84, eX8_number_87, eX8_number_91, eX8_number_92, eX8_number_96, eX8_number_97, eX8_number_100, eX8_number_101, eX8_number_103, eX8_number_104, eX8_number_104r, eX8_number_105, eX8_number_108, eX8_number_109, eX8_number_110, eX8_number_113, eX8_number_118, eX8_number_119, eX8_number_122, eX8_number_123, c8_, c11_0, c11_1, c11_2, c11_3, c11_4, c11_5, c11_6, c11_7, c11_8, c11_9, alm_0, alm_1, alm_2, alm_3, alm_4, alm_5, alm_6, alm_7, alm_8, alm_9, vT, true_and, g11, tX8_letterAt (P1 _) (show p + 1 < 2 ^ 30 by omega), psh_i, m1, lit_10, pk_mul, nI_add, lit_48, s2, nI_1]
      exact this
end M11
