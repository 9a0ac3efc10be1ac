/-! the law's start: what the tables and the Statement say -/
theorem SB_to {a v : Nat} {A A' : Nat → Prop} {s : State} {H : Heap} {locs : List Loc} (h : SB a v A s s.heap) (hS : va_S A s.heap H locs) (hA : ∀ q, A' q → A q) : ∀ U : State, U.heap = H → s.WarmedH U.vm → SB a v A' U U.heap := by
  intro U hU hW
  obtain ⟨h2, h3, h4⟩ := h
  unfold SB
  rw [hU]
  exact ⟨vk_S.moved hW.alike ((h2.kept hS.2.1).narrow hA), va_Z.moved hW.alike ((h3.kept hS.2.1).narrow hA), va_Zq.moved hW.alike ((h4.kept hS.2.1).narrow hA)⟩
theorem P_perm {D : va_G} {cl : List vw_C} {ws ws' : va_W} {H : Heap} (h : ws.Perm ws') (hP : va_P D cl ws H) : va_P D cl ws' H := P_mem.mpr fun q hq => P_mem.mp hP q (h.mem_iff.mpr hq)
theorem D_perm {A : Nat → Prop} {ws ws' : va_W} (h : ws.Perm ws') (hD : va_D A ws) : va_D A ws' := D_mem.mpr ⟨(h.map Prod.fst).nodup_iff.mp (D_mem.mp hD).1, fun q hq => (D_mem.mp hD).2 q (h.mem_iff.mpr hq)⟩
theorem A_of {A : Nat → Prop} {ws : va_W} {sz : Nat} (hD : va_D A ws) (hA : ∀ q, sz ≤ q → A q) : ∀ q, va_A ws sz q → A q := by
  intro q h
  rcases h with ⟨k, e, h⟩ | h
  · exact hD.2 k _ h
  · exact hA q h
/-- the script's address beside both -/
def adS (ad : Nat → Nat → Nat) (b c i : Nat) : Nat := match c with | 12 => b | c => ad c i
set_option maxRecDepth 100000 in
theorem dirs1_lt : ∀ q ∈ dirs 1, q.1 < 12 := by decide +kernel
theorem celS {cA cQ : ClassId} {ad : Nat → Nat → Nat} {b : Nat} (M : bM) : cel 1 cA cQ (adS ad b) M = cel 1 cA cQ ad M := by
  unfold cel
  refine List.map_congr_left fun q hq => ?_
  have h := dirs1_lt q hq
  obtain ⟨c, i⟩ := q
  have h : c < 12 := h
  match c, h with
  | 0, _ => rfl
  | 1, _ => rfl
  | 2, _ => rfl
  | 3, _ => rfl
  | 4, _ => rfl
  | 5, _ => rfl
  | 6, _ => rfl
  | 7, _ => rfl
  | 8, _ => rfl
  | 9, _ => rfl
  | 10, _ => rfl
  | 11, _ => rfl
  | c + 12, h => exact absurd h (by omega)
theorem law_K {s : State} {args : Array Value} (hts : ∀ w ∈ lw_tbl, w.before args s = true) : ∃ (D : va_G) (cA cQ : ClassId), va_K D vwCl (tyK cA cQ) s := by
  have hI : ∀ w ∈ TI, w.before args s = true := fun w h => hts w (TI_in w h)
  have h0 : ∀ k : Nat, ∃ q : ClassId × (Nat → Nat), k < 9 → u_Kn s (cN k) (tT k) (nfl k) q.1 q.2 := by
    intro k
    by_cases hk : k < 9
    · have hi : (Cond.instantiable (cN k) (nfl k)).before args s = true := by
        match k, hk with
        | 0, _ => exact hI _ tx_in0
        | 1, _ => exact hI _ tx_in1
        | 2, _ => exact hI _ tx_in2
        | 3, _ => exact hI _ tx_in3
        | 4, _ => exact hI _ tx_in4
        | 5, _ => exact hI _ tx_in5
        | 6, _ => exact hI _ tx_in6
        | 7, _ => exact hI _ tx_in7
        | 8, _ => exact hI _ tx_in8
        | k + 9, h => exact absurd h (by omega)
      obtain ⟨c, iS, h⟩ := u_known (C := cN k) (T := tT k) (N := nfl k) (n := nfl k) hI (fun w h => ti_w (in_l hk w h)) hi
      exact ⟨(c, iS), fun _ => h⟩
    · exact ⟨(0, fun _ => 0), fun h => absurd h hk⟩
  obtain ⟨f, hf⟩ := Classical.axiomOfChoice h0
  obtain ⟨cA, kA, comp, a1, a2, a3⟩ := Cond.arrayClass_spec (hI _ tx_ac)
  obtain ⟨compQ, cQ, kQ, b1, b2, b3, b4, b5⟩ := Cond.arrayOver_spec (hts _ ao_in)
  refine ⟨(fun k => (f k).1, fun k => (f k).2), cA, cQ, fun c q hq => ?_, fun k q hk => ?_⟩
  · have hl : c < 9 := (List.getElem?_eq_some_iff.mp hq).1
    rw [cl_at hl] at hq
    cases hq
    exact hf c hl
  · match k, hk with
    | 0, hk =>
      cases hk
      exact ⟨fun n z => ⟨fun k h => (by cases h), kA, a2, comp, a3⟩, a1⟩
    | 1, hk =>
      cases hk
      exact ⟨fun n z => ⟨fun k h => (by cases h), kQ, b3, compQ, b4⟩, kQ, compQ, b3, b4, b1, b5⟩
theorem law_E {s : State} {args : Array Value} (hts : ∀ w ∈ lw_tbl, w.before args s = true) : EnvI s := by
  refine ⟨fun w hw => ?_, va_AO.of (hts _ ao_in)⟩
  have h := hts w (NLI_in w hw)
  obtain ⟨_, _, _, rfl⟩ := NLI_w hw
  exact va_Nw.of rfl h
abbrev tmS : Term := .string RX7 72
set_option maxRecDepth 100000 in
set_option maxHeartbeats 8000000 in
theorem nar_el : ∀ j, j < 78 → (Cond.eq (.elem (.field tmS "java/lang/String" "value" "[B") (.int (Int32.ofNat j))) (.int (FTb.getD j 0))) ∈ flatC (Jvm.Cond.and given_1 narrow_1) := by decide +kernel
set_option maxRecDepth 100000 in
theorem law_S {s : State} {args : Array Value} (hts : ∀ w ∈ lw_tbl, w.before args s = true) (hgv : (Jvm.Cond.and given_1 narrow_1).before args s = true) : ∃ a v : Nat, SB a v (fun q => s.heap.size ≤ q) s s.heap ∧ vk_R RX7 72 FTs a s := by
  have hI : ∀ w ∈ TI, w.before args s = true := fun w h => hts w (TI_in w h)
  have hs := flat_of_before _ hgv
  have hA : ∀ a : Nat, a < s.heap.size → ¬ (fun q : Nat => s.heap.size ≤ q) a := fun a h q => absurd q (by omega)
  have z1 : ∀ i, i < 1 → i = 0 := fun i h => by omega
  obtain ⟨adK, adV, h1, h2⟩ := vk_Sof (args := args) (s := s) (N := 1) (tm := fun _ => tmS) (len := [78]) (byt := [FTb]) (A := fun q => s.heap.size ≤ q)
    (fun i hi => by rw [z1 i hi]; decide)
    (fun i hi => hs _ (by decide +kernel))
    (fun i hi => hs _ (by decide +kernel))
    (fun i hi => hs _ (by decide +kernel))
    (fun i hi => by rw [z1 i hi]; exact hs _ (by decide +kernel))
    (fun i hi j hj => by
      rw [z1 i hi] at hj ⊢
      exact hs _ (nar_el j hj))
    (fun i j hi hj h => absurd ((z1 i hi).trans (z1 j hj).symm) h) hA
  refine ⟨adK 0, adV 0, ⟨⟨fun i hi => ?_, fun i j hi hj _ => (z1 i hi).trans (z1 j hj).symm⟩, va_Zof (hts _ ls1_in) (hI _ tx_itJ0) (va_eqi (hs _ (by decide +kernel))) hA, va_Zqof (hts _ ls2_in) (hI _ tx_itJ3) (hs _ (by decide +kernel)) hA⟩, vk_R.of (hts _ sr_in) (h2 0 (by decide))⟩
  have h := h1.1 0 (by decide)
  rw [z1 i hi]
  exact h
theorem df8 : ∀ j, j < 15 → defaultValue (tyX8 j) = vp_V [.null, .int 0, .null, .null, .null, .null, .int 0, .null, .int 0, .null, .int 0, .int 0, .null, .null, .null] j := fun j hj => match j, hj with | 0, _ => rfl | 1, _ => rfl | 2, _ => rfl | 3, _ => rfl | 4, _ => rfl | 5, _ => rfl | 6, _ => rfl | 7, _ => rfl | 8, _ => rfl | 9, _ => rfl | 10, _ => rfl | 11, _ => rfl | 12, _ => rfl | 13, _ => rfl | 14, _ => rfl | (k + 15), h => absurd h (by omega)
