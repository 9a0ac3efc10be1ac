/-! the first house: what the constant tells; the constructor behind its made cells -/
def lt0 : Nat → Nat := fun j => FT.getD j 0
def Zt : Nat → Nat → Nat := fun _ _ => 0
def sz0 : sT := (fun _ => 0, 0, 0)
def pz0 : Nat → sT := fun _ => sz0
def cz0 : Nat → Nat := fun _ => 0
theorem scn_go {lt : Nat → Nat} {len n : Nat} {τ τ' : Nat → Nat → Nat} {p q : Nat} {ns : List Nat} (hp : p < len) (hr : rdF lt len 3 (p + 1) = some (ns, q)) (ha : adI τ (lt p) ns = some τ') : scn lt len (n + 1) τ p = scn lt len n τ' q := by
  conv => lhs; unfold scn
  rw [if_pos hp]
  have hi : itm lt len τ p = some (q, τ') := by unfold itm; rw [hr]; dsimp only; rw [ha]; rfl
  rw [hi]
def t00 : Nat → Nat → Nat := nil0 (nil0 Zt)
def t01 : Nat → Nat → Nat := uI t00 5 0
theorem rd_0 : rdF lt0 78 3 (0 + 1) = some ([5, 0], 5) := by decide +kernel
theorem sg_0 : adI t00 (lt0 0) [5, 0] = some t01 := by
  have e : lt0 0 = 105 := by decide +kernel
  have h : t00 7 0 < 9 ∧ 5 ≤ 5 ∧ 0 ≤ 9 := by decide +kernel
  rw [e, adI_2, if_pos (show (105 : Nat) = 105 from rfl), if_pos h]
  rfl
def t02 : Nat → Nat → Nat := uI t01 3 0
theorem rd_1 : rdF lt0 78 3 (5 + 1) = some ([3, 0], 10) := by decide +kernel
theorem sg_1 : adI t01 (lt0 5) [3, 0] = some t02 := by
  have e : lt0 5 = 105 := by decide +kernel
  have h : t01 7 0 < 9 ∧ 3 ≤ 5 ∧ 0 ≤ 9 := by decide +kernel
  rw [e, adI_2, if_pos (show (105 : Nat) = 105 from rfl), if_pos h]
  rfl
def t03 : Nat → Nat → Nat := uI t02 0 0
theorem rd_2 : rdF lt0 78 3 (10 + 1) = some ([0, 0], 15) := by decide +kernel
theorem sg_2 : adI t02 (lt0 10) [0, 0] = some t03 := by
  have e : lt0 10 = 105 := by decide +kernel
  have h : t02 7 0 < 9 ∧ 0 ≤ 5 ∧ 0 ≤ 9 := by decide +kernel
  rw [e, adI_2, if_pos (show (105 : Nat) = 105 from rfl), if_pos h]
  rfl
def t04 : Nat → Nat → Nat := uI t03 1 0
theorem rd_3 : rdF lt0 78 3 (15 + 1) = some ([1, 0], 20) := by decide +kernel
theorem sg_3 : adI t03 (lt0 15) [1, 0] = some t04 := by
  have e : lt0 15 = 105 := by decide +kernel
  have h : t03 7 0 < 9 ∧ 1 ≤ 5 ∧ 0 ≤ 9 := by decide +kernel
  rw [e, adI_2, if_pos (show (105 : Nat) = 105 from rfl), if_pos h]
  rfl
def t05 : Nat → Nat → Nat := uI t04 2 0
theorem rd_4 : rdF lt0 78 3 (20 + 1) = some ([2, 0], 25) := by decide +kernel
theorem sg_4 : adI t04 (lt0 20) [2, 0] = some t05 := by
  have e : lt0 20 = 105 := by decide +kernel
  have h : t04 7 0 < 9 ∧ 2 ≤ 5 ∧ 0 ≤ 9 := by decide +kernel
  rw [e, adI_2, if_pos (show (105 : Nat) = 105 from rfl), if_pos h]
  rfl
def t06 : Nat → Nat → Nat := uI t05 4 6
theorem rd_5 : rdF lt0 78 3 (25 + 1) = some ([4, 6], 30) := by decide +kernel
theorem sg_5 : adI t05 (lt0 25) [4, 6] = some t06 := by
  have e : lt0 25 = 105 := by decide +kernel
  have h : t05 7 0 < 9 ∧ 4 ≤ 5 ∧ 6 ≤ 9 := by decide +kernel
  rw [e, adI_2, if_pos (show (105 : Nat) = 105 from rfl), if_pos h]
  rfl
def t07 : Nat → Nat → Nat := uI t06 0 0
theorem rd_6 : rdF lt0 78 3 (30 + 1) = some ([0, 0], 35) := by decide +kernel
theorem sg_6 : adI t06 (lt0 30) [0, 0] = some t07 := by
  have e : lt0 30 = 105 := by decide +kernel
  have h : t06 7 0 < 9 ∧ 0 ≤ 5 ∧ 0 ≤ 9 := by decide +kernel
  rw [e, adI_2, if_pos (show (105 : Nat) = 105 from rfl), if_pos h]
  rfl
def t08 : Nat → Nat → Nat := uT t07 0 0 1
theorem rd_7 : rdF lt0 78 3 (35 + 1) = some ([0, 0, 1], 42) := by decide +kernel
theorem sg_7 : adI t07 (lt0 35) [0, 0, 1] = some t08 := by
  have e : lt0 35 = 116 := by decide +kernel
  have h : t07 8 0 < 10 ∧ 0 < 12 ∧ 0 < t07 7 0 ∧ 1 < t07 7 0 ∧ 0 ≠ 1 := by decide +kernel
  rw [e, adI_3, if_pos (show (116 : Nat) = 116 from rfl), if_pos h]
  rfl
def t09 : Nat → Nat → Nat := uT t08 1 2 1
theorem rd_8 : rdF lt0 78 3 (42 + 1) = some ([1, 2, 1], 49) := by decide +kernel
theorem sg_8 : adI t08 (lt0 42) [1, 2, 1] = some t09 := by
  have e : lt0 42 = 116 := by decide +kernel
  have h : t08 8 0 < 10 ∧ 1 < 12 ∧ 2 < t08 7 0 ∧ 1 < t08 7 0 ∧ 2 ≠ 1 := by decide +kernel
  rw [e, adI_3, if_pos (show (116 : Nat) = 116 from rfl), if_pos h]
  rfl
def t10 : Nat → Nat → Nat := uT t09 2 3 5
theorem rd_9 : rdF lt0 78 3 (49 + 1) = some ([2, 3, 5], 56) := by decide +kernel
theorem sg_9 : adI t09 (lt0 49) [2, 3, 5] = some t10 := by
  have e : lt0 49 = 116 := by decide +kernel
  have h : t09 8 0 < 10 ∧ 2 < 12 ∧ 3 < t09 7 0 ∧ 5 < t09 7 0 ∧ 3 ≠ 5 := by decide +kernel
  rw [e, adI_3, if_pos (show (116 : Nat) = 116 from rfl), if_pos h]
  rfl
def t11 : Nat → Nat → Nat := uT t10 3 2 6
theorem rd_10 : rdF lt0 78 3 (56 + 1) = some ([3, 2, 6], 63) := by decide +kernel
theorem sg_10 : adI t10 (lt0 56) [3, 2, 6] = some t11 := by
  have e : lt0 56 = 116 := by decide +kernel
  have h : t10 8 0 < 10 ∧ 3 < 12 ∧ 2 < t10 7 0 ∧ 6 < t10 7 0 ∧ 2 ≠ 6 := by decide +kernel
  rw [e, adI_3, if_pos (show (116 : Nat) = 116 from rfl), if_pos h]
  rfl
def t12 : Nat → Nat → Nat := uT t11 4 4 5
theorem rd_11 : rdF lt0 78 3 (63 + 1) = some ([4, 4, 5], 70) := by decide +kernel
theorem sg_11 : adI t11 (lt0 63) [4, 4, 5] = some t12 := by
  have e : lt0 63 = 116 := by decide +kernel
  have h : t11 8 0 < 10 ∧ 4 < 12 ∧ 4 < t11 7 0 ∧ 5 < t11 7 0 ∧ 4 ≠ 5 := by decide +kernel
  rw [e, adI_3, if_pos (show (116 : Nat) = 116 from rfl), if_pos h]
  rfl
def t13 : Nat → Nat → Nat := uW t12 5 2
theorem rd_12 : rdF lt0 78 3 (70 + 1) = some ([5, 2], 75) := by decide +kernel
theorem sg_12 : adI t12 (lt0 70) [5, 2] = some t13 := by
  have e : lt0 70 = 119 := by decide +kernel
  have h : t12 9 0 < 4 ∧ 5 < 12 ∧ per t12 2 = true := by decide +kernel
  rw [e, adI_2, if_neg (show ¬ (119 : Nat) = 105 by decide), if_pos (show (119 : Nat) = 119 from rfl), if_pos h]
  rfl
def t14 : Nat → Nat → Nat := upT t13 10 0 7
theorem rd_13 : rdF lt0 78 3 (75 + 1) = some ([7], 78) := by decide +kernel
theorem sg_13 : adI t13 (lt0 75) [7] = some t14 := by
  have e : lt0 75 = 115 := by decide +kernel
  have h : 7 < 12 := by decide +kernel
  rw [e, adI_1, if_pos (show (115 : Nat) = 115 from rfl), if_pos h]
  rfl
theorem tl_same : t14 = t13 := funext fun j => funext fun i => by
  unfold t14 upT
  split
  · rename_i h
    rw [h.1, h.2]
    decide +kernel
  · rfl
theorem sc0_eq : scn lt0 78 200 (nil0 (nil0 Zt)) 0 = (none, t13) := by
  show scn lt0 78 (199 + 1) t00 0 = _
  rw [scn_go (by decide) rd_0 sg_0]
  show scn lt0 78 (198 + 1) t01 5 = _
  rw [scn_go (by decide) rd_1 sg_1]
  show scn lt0 78 (197 + 1) t02 10 = _
  rw [scn_go (by decide) rd_2 sg_2]
  show scn lt0 78 (196 + 1) t03 15 = _
  rw [scn_go (by decide) rd_3 sg_3]
  show scn lt0 78 (195 + 1) t04 20 = _
  rw [scn_go (by decide) rd_4 sg_4]
  show scn lt0 78 (194 + 1) t05 25 = _
  rw [scn_go (by decide) rd_5 sg_5]
  show scn lt0 78 (193 + 1) t06 30 = _
  rw [scn_go (by decide) rd_6 sg_6]
  show scn lt0 78 (192 + 1) t07 35 = _
  rw [scn_go (by decide) rd_7 sg_7]
  show scn lt0 78 (191 + 1) t08 42 = _
  rw [scn_go (by decide) rd_8 sg_8]
  show scn lt0 78 (190 + 1) t09 49 = _
  rw [scn_go (by decide) rd_9 sg_9]
  show scn lt0 78 (189 + 1) t10 56 = _
  rw [scn_go (by decide) rd_10 sg_10]
  show scn lt0 78 (188 + 1) t11 63 = _
  rw [scn_go (by decide) rd_11 sg_11]
  show scn lt0 78 (187 + 1) t12 70 = _
  rw [scn_go (by decide) rd_12 sg_12]
  show scn lt0 78 (186 + 1) t13 75 = _
  rw [scn_go (by decide) rd_13 sg_13]
  rw [tl_same]
  unfold scn
  rw [if_neg (by decide)]
/-- the memory behind all makings -/
def bM0 : bM := (fun c _ j => match c with | 1 => (match j with | 10 => 7 | _ => 0) | _ => 0, fun c i j => match c with | 7 => (match j with | 2 => 1 | _ => 0) | 10 => (match i with | 0 => 2 + j | _ => 10 + j) | _ => 0)
theorem CA0 : CA bM0 lt0 0 (nil0 Zt) (nil0 Zt) sz0 pz0 0 pz0 0 cz0 cz0 0 := by
  have Ho0 : ∀ h, Ho bM0 h (nil0 Zt) := fun h => ⟨fun _ _ => rfl, fun _ _ => rfl, fun _ _ => rfl, fun _ _ => rfl, fun _ _ => rfl, fun _ _ => rfl, fun _ _ => rfl, rfl, rfl, rfl, rfl⟩
  have P0 : Pi bM0 0 pz0 0 := ⟨fun j => 2 + j, ⟨fun j hj => ⟨rfl, by show 2 ≤ 2 + j; omega, by show 2 + j < 2 + alqc 0; omega⟩, fun i j _ _ e => by have e : 2 + i = 2 + j := e; omega⟩, rfl, Nat.zero_le _, fun j hj => absurd hj (Nat.not_lt_zero _)⟩
  have P1 : Pi bM0 1 pz0 0 := ⟨fun j => 10 + j, ⟨fun j hj => ⟨rfl, by show 10 ≤ 10 + j; omega, by show 10 + j < 10 + alqc 1; omega⟩, fun i j _ _ e => by have e : 10 + i = 10 + j := e; omega⟩, rfl, Nat.zero_le _, fun j hj => absurd hj (Nat.not_lt_zero _)⟩
  exact ⟨0, by decide, rfl, rfl, ⟨rfl, by decide, fun j hj => absurd hj (Nat.not_lt_zero _)⟩, Ho0 0, Ho0 1, ⟨fun _ _ => rfl, rfl, rfl, rfl⟩, P0, P1, ⟨rfl, by decide, fun j hj => absurd hj (Nat.not_lt_zero _)⟩⟩
theorem OK13 : OKh t13 := by unfold OKh; decide +kernel
theorem ppl13 : ¬ ppl t13 (t13 7 0) = 0 := by decide +kernel
theorem S913 : S9 t13 := by unfold S9; decide +kernel
theorem layP0 {M : bM} (C : CA M lt0 78 (nil0 Zt) (nil0 Zt) sz0 pz0 0 pz0 0 cz0 cz0 0) : Run 0 7 80 [vr 7 0] M (fun v M' => (∃ x, v = .inl x) ∧ CA M' lt0 78 t13 (nil0 Zt) (t13 1, 0, 0) pz0 0 pz0 0 cz0 cz0 0) := by
  have h : Run 0 (7 + 1) 54 [vr 7 0] M (fun _ M' => CA M' lt0 78 t13 (nil0 Zt) (t13 1, 0, 0) pz0 0 pz0 0 cz0 cz0 0) := by
    refine uX7_lay (z := 0) (d := 0) C ?_
    rw [sc0_eq]
    exact ⟨fun e => absurd ⟨rfl, ppl13⟩ e, fun _ _ M' C' _ => C'⟩
  rw [rX7_lay, eX7_lay_0, eX7_lay_1] at h
  refine Run_mono 0 7 _ _ _ _ _ (fun v M' h => ?_) h.2
  match v, h with
  | .inl x, h =>
    refine ⟨⟨x, rfl⟩, ?_⟩
    have h : ExG 0 (Run 0 7) 7 1 false none cX7_lay (fun _ M' => CA M' lt0 78 t13 (nil0 Zt) (t13 1, 0, 0) pz0 0 pz0 0 cz0 cz0 0) 4 [vr 7 0] [.inl x] M' := h
    rw [eX7_lay_4] at h
    by_cases q : x = 0
    · rw [if_pos q, eX7_lay_17, eX7_lay_19] at h
      exact h
    · rw [if_neg q, eX7_lay_7, eX7_lay_8] at h
      have h := h.2
      rw [eX7_lay_11] at h
      have h := h.2
      rw [eX7_lay_14, eX7_lay_19] at h
      exact h
  | .inr (.inl _), h =>
    rw [ExG_eq dX7_lay_4] at h
    exact h.elim
  | .inr (.inr (.inl _)), h =>
    rw [ExG_eq dX7_lay_4] at h
    exact h.elim
  | .inr (.inr (.inr ())), h =>
    rw [ExG_eq dX7_lay_4] at h
    exact h.elim
theorem inc1 (i : Nat) : nI i + Int32.ofInt 1 = nI (i + 1) := by rw [show Int32.ofInt 1 = nI 1 from rfl, nI_add]
theorem ft128 : ∀ k, k < 78 → lt0 k < 128 := by decide +kernel
/-- behind the makings: the TEXT is written, laid, wiped -/
theorem main_tail {Q : bV → bM → Prop} {V : Nat → List bV → List bV → bM → Prop} (hC : Clo 0 (Run 0 7) 7 0 false none cX7_init Q V)
    (h134 : ∀ L st M, V 136 L (vr 13 0 :: st) M → V 134 L st M) (h136 : ∀ L x M, V 139 L [.inl (nI 78), .inl x] M → V 136 L [vr 13 0, .inl x] M)
    (h146 : ∀ L st M, V 148 L (vr 13 0 :: st) M → V 146 L st M) (h149 : ∀ k L M, k < 78 → V 152 L [.inl (nI (FT.getD k 0)), vr 2 0] M → V 149 L [.inl (nI k), vr 13 0, vr 2 0] M)
    (hQ : ∀ M, CA M lt0 0 t13 (nil0 Zt) (t13 1, 0, 0) pz0 0 pz0 0 cz0 cz0 0 → Q vu M) : ∀ n i M, i + n = 78 → CA M lt0 i (nil0 Zt) (nil0 Zt) sz0 pz0 0 pz0 0 cz0 cz0 0 → V 133 [vr 7 0, .inl (nI i)] [] M := by
  intro n
  induction n with
  | zero =>
    intro i M hi C
    have hi : i = 78 := hi
    subst hi
    refine hC 133 _ _ _ _ _ dX7_init_133 ⟨trivial, h134 _ _ _ (h136 _ _ _ (hC 139 _ _ _ _ _ dX7_init_139 ⟨rfl, ?_⟩))⟩
    show (if nI 78 ≤ nI 78 then V 162 [vr 7 0, .inl (nI 78)] [] M else V 142 [vr 7 0, .inl (nI 78)] [] M)
    rw [if_pos (by decide)]
    refine hC 162 _ _ _ _ _ dX7_init_162 ⟨trivial, hC 163 _ _ _ _ _ dX7_init_163 ⟨rfl, (by decide : 0 < cnt 0 7), ?_⟩⟩
    refine Run_mono 0 7 _ _ _ _ _ (fun v M1 h => ?_) (layP0 C)
    obtain ⟨⟨x, rfl⟩, C1⟩ := h
    refine hC 166 _ _ _ _ _ dX7_init_166 ⟨trivial, hC 167 _ _ _ _ _ dX7_init_167 ⟨trivial, hC 168 _ _ _ _ _ dX7_init_168 ⟨(by decide : 0 < cnt 0 7), hC 171 _ _ _ _ _ dX7_init_171 ⟨rfl, (by decide : 0 < cnt 0 2), ?_⟩⟩⟩⟩
    show Run 0 (6 + 1) 16 [vr 2 0] M1 _
    rw [tX2_clear]
    refine hC 174 _ _ _ _ _ dX7_init_174 ⟨rfl, hQ _ ?_⟩
    exact CA_page C1 (Eqx_sI (Or.inl ⟨rfl, rfl⟩)) ⟨by rw [gI_sI, if_pos ⟨rfl, rfl, rfl⟩], by decide, fun j hj => absurd hj (Nat.not_lt_zero _)⟩
  | succ n ih =>
    intro i M hi C
    obtain ⟨h, hh, r1, r2, P, -⟩ := id C
    refine hC 133 _ _ _ _ _ dX7_init_133 ⟨trivial, h134 _ _ _ (h136 _ _ _ (hC 139 _ _ _ _ _ dX7_init_139 ⟨rfl, ?_⟩))⟩
    show (if nI 78 ≤ nI i then V 162 [vr 7 0, .inl (nI i)] [] M else V 142 [vr 7 0, .inl (nI i)] [] M)
    rw [if_neg (nI_ge (by omega) (by decide))]
    refine hC 142 _ _ _ _ _ dX7_init_142 ⟨trivial, hC 143 _ _ _ _ _ dX7_init_143 ⟨(by decide : 0 < cnt 0 7), h146 _ _ _ (hC 148 _ _ _ _ _ dX7_init_148 ⟨trivial, h149 i _ _ (by omega) (hC 152 _ _ _ _ _ dX7_init_152 ⟨rfl, (by decide : 0 < cnt 0 2), ?_⟩)⟩)⟩⟩
    show Run 0 (5 + 2) 15 [vr 2 0, .inl (nI (lt0 i))] M _
    rw [tX2_add P, if_neg (by omega)]
    refine hC 155 _ _ _ _ _ dX7_init_155 ⟨trivial, hC 156 _ _ _ _ _ dX7_init_156 ⟨trivial, hC 159 _ _ _ _ _ dX7_init_159 ⟨rfl, ?_⟩⟩⟩
    show V 133 [vr 7 0, .inl (nI i + Int32.ofInt 1)] [] _
    rw [inc1]
    refine ih (i + 1) _ (by omega) (CA_page C (Eqx_tr (Eqx_sI (Or.inr ⟨rfl, rfl⟩)) (Eqx_sI (S := gS) (Or.inl ⟨rfl, rfl⟩)) (fun _ _ q => q) (fun _ _ q => q)) ⟨by rw [gI_sI, if_pos ⟨rfl, rfl, rfl⟩], by omega, fun j hj => ?_⟩)
    rw [gI_sI, if_neg (by omega), gI_sI]
    by_cases w : j = i
    · rw [if_pos ⟨rfl, rfl, w⟩, w]
      exact ⟨rfl, ft128 i (by omega)⟩
    · rw [if_neg (by omega)]
      exact P.2.2 j (by omega)
