/-! calls: the abstract machine's runs are contracts of the machine -/
set_option maxRecDepth 100000 in
theorem cT_in {own idx id n : Nat} (h : cT own idx = some (id, n)) : (own, idx, id, n) ∈ CL ∨ (own, idx, id, n) ∈ CLn := by
  unfold cT at h
  split at h
  · unfold cT0 at h; split at h <;> cases h <;> exact Or.inl (by decide)
  · unfold cT1 at h; split at h <;> cases h <;> first | exact Or.inl (by decide) | exact Or.inr (by decide)
  · unfold cT2 at h; split at h <;> cases h <;> exact Or.inl (by decide)
  · unfold cT3 at h; split at h <;> cases h <;> exact Or.inl (by decide)
  · unfold cT4 at h; split at h <;> cases h <;> exact Or.inl (by decide)
  · unfold cT5 at h; split at h <;> cases h <;> exact Or.inl (by decide)
  · unfold cT6 at h; split at h <;> cases h <;> exact Or.inl (by decide)
  · unfold cT7 at h; split at h <;> cases h <;> exact Or.inl (by decide)
  · unfold cT8 at h; split at h <;> cases h <;> exact Or.inl (by decide)
  · unfold cT9 at h; split at h <;> cases h <;> exact Or.inl (by decide)
  · unfold cT10 at h; split at h <;> cases h <;> exact Or.inl (by decide)
  · unfold cT11 at h; split at h <;> cases h <;> exact Or.inl (by decide)
  · cases h
def mtc (id : Nat) : Bool := match mt id with
  | some (own, rt, _, sta, nL, _) => decide ((yN id).cls = cN own) && (decide (nL ≤ 40) && ((own == 11 || plainName (yN id).cls) && (decide ((yN id).cls ≠ "java/lang/invoke/MethodHandle") && (decide ((yN id).cls ≠ "java/lang/invoke/VarHandle") && (decide (rt < 3) && (sta || decide (own < 9)))))))
  | none => false
set_option maxRecDepth 100000 in
theorem mtc_all : (List.range 147).all mtc = true := by decide +kernel
theorem mt_ok {id own rt nL : Nat} {lf sta : Bool} {cc : ByteArray} (hid : id < 147) (h : mt id = some (own, rt, lf, sta, nL, cc)) : (yN id).cls = cN own ∧ nL ≤ 40 ∧ (own = 11 ∨ plainName (yN id).cls = true) ∧ (yN id).cls ≠ "java/lang/invoke/MethodHandle" ∧ (yN id).cls ≠ "java/lang/invoke/VarHandle" ∧ rt < 3 ∧ (sta = true ∨ own < 9) := by
  have h1 := List.all_eq_true.mp mtc_all id (List.mem_range.mpr hid)
  unfold mtc at h1
  rw [h] at h1
  simpa only [Bool.and_eq_true, Bool.or_eq_true, decide_eq_true_eq, beq_iff_eq] using h1
def clc (q : Nat × Nat × Nat × Nat) : Bool := decide (q.2.2.1 < 147) && decide ((parseMethodDescriptor (yN q.2.2.1).desc).map (fun d => d.parameters.length) = some q.2.2.2)
set_option maxRecDepth 100000 in
theorem clc_all : (CL ++ CLn).all clc = true := by decide +kernel
theorem cl_ok {q : Nat × Nat × Nat × Nat} (h : q ∈ CL ∨ q ∈ CLn) : q.2.2.1 < 147 ∧ (parseMethodDescriptor (yN q.2.2.1).desc).map (fun d => d.parameters.length) = some q.2.2.2 := by
  have h1 := List.all_eq_true.mp clc_all q (List.mem_append.mpr h)
  unfold clc at h1
  simpa only [Bool.and_eq_true, decide_eq_true_eq] using h1
theorem cln_st : ∀ q ∈ CLn, ((mt q.2.2.1).map (fun r => r.2.2.2.1)) = some true := by decide +kernel
theorem kw_in {id own rt nL : Nat} {lf sta : Bool} {cc : ByteArray} (hid : id < 147) (h : mt id = some (own, rt, lf, sta, nL, cc)) : Cond.code (yN id) cc nL (rF rt) ∈ TW := in_k hid (by unfold kw; rw [h])
theorem mw_in {id own rt nL : Nat} {lf sta : Bool} {cc : ByteArray} (hid : id < 147) (h : mt id = some (own, rt, lf, sta, nL, cc)) : Cond.initialized (cN own) ∈ TW ∧ (sta = true → Cond.static (yN id) ∈ TW) ∧ (sta = false → Cond.instanceMethod (yN id) ∈ TW ∧ Cond.selects (cN own) (yN id) (yN id) ∈ TW) := by
  have e : mw id = .initialized (cN own) :: (match sta with | true => [.static (yN id)] | false => [.instanceMethod (yN id), .selects (cN own) (yN id) (yN id)]) := by
    unfold mw; rw [h]; rfl
  refine ⟨in_m hid (by rw [e]; exact List.mem_cons_self), fun q => in_m hid (by rw [e, q]; exact List.mem_cons_of_mem _ List.mem_cons_self), fun q => ⟨in_m hid (by rw [e, q]; exact List.mem_cons_of_mem _ List.mem_cons_self), in_m hid (by rw [e, q]; exact List.mem_cons_of_mem _ (List.mem_cons_of_mem _ List.mem_cons_self))⟩⟩
def Rm (d : Nat) : Room := { frames := d, cells := 0, slots := 0, locals := 64 * d }
def PcW (z : Nat) (D : va_G) (cA cQ : ClassId) (ad : Nat → Nat → Nat) (M : bM) (U : State) : Prop := va_P D vwCl (cel z cA cQ ad M) U.heap ∧ va_K D vwCl [(cA, .int), (cQ, .object RX5)] U ∧ ∀ w ∈ NL, va_Nw w U
def QW (z : Nat) (D : va_G) (cA cQ : ClassId) (ad : Nat → Nat → Nat) (A : Nat → Prop) (Q : bV → bM → Prop) : Array Value → State → Outcome → State → Prop := fun _ st oc t => (∃ v M', oc = .returned (rV ad v) ∧ Q v M' ∧ va_P D vwCl (cel z cA cQ ad M') t.heap) ∧ va_F A st t
def Snd (l : Launch) (z : Nat) (D : va_G) (cA cQ : ClassId) (ad : Nat → Nat → Nat) (A : Nat → Prop) (d : Nat) : Prop :=
  ∀ (id own rt : Nat) (lf sta : Bool) (nL : Nat) (cc : ByteArray), id < 147 → mt id = some (own, rt, lf, sta, nL, cc) → own ≠ 11 → ∀ (as : List bV) (M : bM) (Q : bV → bM → Prop), Run z d id as M Q →
    Met l (yN id) (.code (yN id) cc nL (rF rt) :: TW) (Rm d) (va_Pc (as.map (tr ad)) (PcW z D cA cQ ad M)) (QW z D cA cQ ad A Q) 0 0 A
theorem NL_w {w : Cond} (h : w ∈ NL) : ∃ a i y, w = .methodLinkNest a i y RX7 := by
  obtain ⟨q, -, rfl⟩ := List.mem_map.mp h
  exact ⟨_, _, _, rfl⟩
theorem PcW_blind {z : Nat} {D : va_G} {cA cQ : ClassId} {ad : Nat → Nat → Nat} {M : bM} {av : List Value} : FrameBlind (va_Pc av (PcW z D cA cQ ad M)) := by
  intro a U g mk h
  obtain ⟨h1, h2, h3, h4⟩ := h
  refine ⟨h1, h2, va_K.moved (u := U) (U := U.calling g mk a) (Vm.Alike.refl U.vm) h3, fun w hw => ?_⟩
  obtain ⟨_, _, _, rfl⟩ := NL_w hw
  exact va_Nw.same (u := U) rfl rfl (h4 _ hw)
theorem PcW_pass {z : Nat} {D : va_G} {cA cQ : ClassId} {ad : Nat → Nat → Nat} {M : bM} {H : Heap} {s : State} (hP : va_P D vwCl (cel z cA cQ ad M) H) (hK : va_K D vwCl [(cA, .int), (cQ, .object RX5)] s) (hN : ∀ w ∈ NL, va_Nw w s) : ∀ U : State, U.heap = H → s.WarmedH U.vm → PcW z D cA cQ ad M U := by
  intro U hU hW
  refine ⟨by rw [hU]; exact hP, va_K.moved hW.alike hK, fun w hw => ?_⟩
  obtain ⟨_, _, _, rfl⟩ := NL_w hw
  exact va_Nw.warmM hW (hN _ hw)
theorem cat_sum (r : List Value) : (r.map fun v => v.category).sum ≤ 2 * r.length := by
  induction r with
  | nil => exact Nat.le_refl _
  | cons a r ih =>
    rw [List.map_cons, List.sum_cons, List.length_cons]
    have : a.category ≤ 2 := by cases a <;> simp [Value.category]
    omega
theorem psh_map (ad : Nat → Nat → Nat) (v : bV) (r : List bV) : (rV ad v).toList ++ r.map (tr ad) = (psh v r).map (tr ad) := by
  match v with
  | .inl x => rfl
  | .inr (.inl q) => rfl
  | .inr (.inr (.inl x)) => rfl
  | .inr (.inr (.inr ())) => rfl
section SND2
variable {p : Program} {l : Launch} {e : Env} {R : Room} {s : State} {m : MethodId} {args : Array Value} {below : List Frame} {meth : Method} {c : Code} {cells slots : Nat} {Qf : State → Prop}
variable {z own rt nL d : Nat} {lf : Bool} {cc : ByteArray} {D : va_G} {cA cQ : ClassId} {ad : Nat → Nat → Nat} {A : Nat → Prop} {H0 : Heap} {sc : Option (Nat × (Nat → Int32))}
theorem calW {H : Heap} {locs : List Loc} {pc : Nat} {ls : Array Slot} {st0 rest : List Value} {a : Array Value} {Q : bV → bM → Prop} (hr : va_Run p l e R s m args below meth c H locs cells slots 0 0 (F0 m pc ls st0) rest (QW z D cA cQ ad A Q a) A) (hS : va_S A H0 H locs)
    (kk : ∀ (v : bV) (M' : bM) (H1 : Heap) (locs1 : List Loc), Q v M' → va_P D vwCl (cel z cA cQ ad M') H1 → va_S A H0 H1 locs1 → W p l e R s m args below meth c H1 locs1 cells slots Qf (F0 m (pc + 3) ls ((rV ad v).toList ++ rest))) : W p l e R s m args below meth c H locs cells slots Qf (F0 m pc ls st0) := by
  intro T hT X
  obtain ⟨v, st₀, t, T', L, h0, X', hL, e1, e2, ⟨⟨u, M', hv, hq, hP⟩, hz, hk⟩, st⟩ := hr T hT X
  have hv : v = rV ad u := Outcome.returned.inj hv
  subst hv
  rw [h0] at hz hk
  obtain ⟨t2, a1, b1⟩ := kk u M' T'.heap (locs ++ L) hq (by rw [e1]; exact hP)
    ⟨Nat.le_trans hS.1 (by rw [e1]; exact hz), fun q h1 h2 => by rw [e1, hk q (Nat.lt_of_lt_of_le h1 hS.1) h2]; exact hS.2.1 q h1 h2, fun q hq => by
      rcases List.mem_append.mp hq with h | h
      · exact hS.2.2 q h
      · exact hL q h⟩ T' rfl X'
  exact ⟨t2, st t2 a1, b1⟩
theorem jmp_go {pc : Nat} {off : Int} {k : Nat → Prop} (h : jmp pc off k) : ∃ t : Nat, (pc : Int) + off = (t : Int) ∧ k t := by
  unfold jmp at h
  split at h
  · rename_i t ht; exact ⟨t, ht, h⟩
  · exact h.elim
theorem swk_go {ps : List (Int × Int)} {df : Int} {x : Int32} {k : Int → Prop} (h : swk ps df x k) : (∃ a o, (a, o) ∈ ps ∧ x.toInt = a ∧ k o) ∨ ((∀ a o, (a, o) ∈ ps → ¬ x.toInt = a) ∧ k df) := by
  induction ps with
  | nil => exact Or.inr ⟨fun a o h => (by cases h), h⟩
  | cons q r ih =>
    obtain ⟨a, o⟩ := q
    unfold swk at h
    split at h
    · rename_i hc; exact Or.inl ⟨a, o, List.mem_cons_self, hc, h⟩
    · rename_i hc
      rcases ih h with ⟨a2, o2, h1, h2, h3⟩ | ⟨h1, h2⟩
      · exact Or.inl ⟨a2, o2, List.mem_cons_of_mem _ h1, h2, h3⟩
      · refine Or.inr ⟨fun a2 o2 h3 => ?_, h2⟩
        rcases List.mem_cons.mp h3 with h4 | h4
        · cases h4; exact hc
        · exact h1 a2 o2 h4
theorem swk_lk {ps : List (Int × Int)} {df : Int} {x : Int32} {k : Int → Prop} (h : swk ps df x k) : k (Op.lookupswitch.offset ps df x.toInt) := by
  induction ps with
  | nil => exact h
  | cons q r ih =>
    obtain ⟨a, o⟩ := q
    unfold swk at h
    rw [Op.lookupswitch.offset_cons]
    split at h
    · rename_i hc; rw [if_pos hc.symm]; exact h
    · rename_i hc; rw [if_neg (fun q => hc q.symm)]; exact ih h
theorem tsw_at {x : Int} : ∀ (os : List Int) (lo a o : Int), (a, o) ∈ tsw lo os → x = a → lo ≤ x ∧ x < lo + os.length ∧ os[(x - lo).toNat]? = some o := by
  intro os
  induction os with
  | nil => intro lo a o h; cases h
  | cons o1 r ih =>
    intro lo a o h hx
    unfold tsw at h
    rcases List.mem_cons.mp h with h | h
    · cases h
      subst hx
      refine ⟨Int.le_refl _, by rw [List.length_cons]; omega, ?_⟩
      rw [Int.sub_self]
      rfl
    · obtain ⟨h1, h2, h3⟩ := ih (lo + 1) a o h hx
      refine ⟨by omega, by rw [List.length_cons]; omega, ?_⟩
      rw [show (x - lo).toNat = (x - (lo + 1)).toNat + 1 by omega, List.getElem?_cons_succ]
      exact h3
theorem tsw_all {x : Int} : ∀ (os : List Int) (lo : Int), lo ≤ x → x < lo + os.length → ∃ o, (x, o) ∈ tsw lo os := by
  intro os
  induction os with
  | nil => intro lo h1 h2; simp at h2; omega
  | cons o1 r ih =>
    intro lo h1 h2
    unfold tsw
    by_cases h : x = lo
    · subst h; exact ⟨o1, List.mem_cons_self⟩
    · obtain ⟨o, ho⟩ := ih (lo + 1) (by omega) (by rw [List.length_cons] at h2; omega)
      exact ⟨o, List.mem_cons_of_mem _ ho⟩
theorem ite_t {q : Prop} [hq : Decidable q] {a b : Prop} (h : if q then a else b) (h2 : q) : a := by rw [if_pos h2] at h; exact h
theorem ite_f {q : Prop} [hq : Decidable q] {a b : Prop} (h : if q then a else b) (h2 : ¬ q) : b := by rw [if_neg h2] at h; exact h
theorem stk_eq {st r : List bV} {q : Nat × Nat} {n : Nat} (h : st.drop n = .inr (.inl q) :: r) : st.map (tr ad) = ((st.take n).reverse.map (tr ad)).reverse ++ .ref (ad q.1 q.2) :: r.map (tr ad) := by
  conv => lhs; rw [← List.take_append_drop n st, h]
  rw [List.map_append, ← List.map_reverse, List.reverse_reverse]
  rfl
theorem stk_eqS {st : List bV} {n : Nat} : st.map (tr ad) = ((st.take n).reverse.map (tr ad)).reverse ++ (st.drop n).map (tr ad) := by
  conv => lhs; rw [← List.take_append_drop n st]
  rw [List.map_append, ← List.map_reverse, List.reverse_reverse]
set_option maxRecDepth 100000 in
set_option maxHeartbeats 8000000 in
theorem VM_step (F : Fx p s m args c own cc nL z D cA cQ ad A) (hsc : Sc sc s ad A H0) (hcs : cells ≤ R.cells ∧ slots ≤ R.slots) (hR : d + 1 ≤ R.frames ∧ 64 * d + 64 ≤ R.locals) (hM : Snd l z D cA cQ ad A d) {Q : bV → bM → Prop}
    (hri : ∀ (pc : Nat) (L : List bV) (v : Int32) (M : bM), decode cc pc = .ok (.ireturn, 1) → (rt = 1 ∨ (rt = 2 ∧ (v = 0 ∨ v = 1))) → Q (vi v) M → VM p l e R s m args below meth c cells slots Qf z nL lf D cA cQ ad A H0 pc L [vi v] M)
    (hrv : ∀ (pc : Nat) (L : List bV) (M : bM), decode cc pc = .ok (.return_, 1) → rt = 0 → Q vu M → VM p l e R s m args below meth c cells slots Qf z nL lf D cA cQ ad A H0 pc L [] M)
    {pc len : Nat} {ins : Instr} {L st : List bV} {M : bM} (hd : decode cc pc = .ok (ins, len)) (h : stepI z (Run z d) own rt lf sc Q ins len pc L st M (VM p l e R s m args below meth c cells slots Qf z nL lf D cA cQ ad A H0)) :
    VM p l e R s m args below meth c cells slots Qf z nL lf D cA cQ ad A H0 pc L st M := by
  have F' := F
  obtain ⟨hx, hb, hml, hown, hts, hK, hNW, hD, hz⟩ := F
  unfold stepI at h
  split at h
  -- ifCond
  · split at h
    · rename_i cd off _ x r
      obtain ⟨rfl, h⟩ := h
      intro a1 a2 H locs ls hP hS hl
      obtain ⟨t, ht, k⟩ := jmp_go h
      cases cd
      · exact lv_if_eq hx hb hd ht (fun q => ite_t k q a1 a2 H locs ls hP hS hl) (fun q => ite_f k q a1 a2 H locs ls hP hS hl)
      · exact lv_if_ne hx hb hd ht (fun q => ite_t k q a1 a2 H locs ls hP hS hl) (fun q => ite_f k (fun h => h q) a1 a2 H locs ls hP hS hl)
      · exact lv_if_lt hx hb hd ht (fun q => ite_t k q a1 a2 H locs ls hP hS hl) (fun q => ite_f k q a1 a2 H locs ls hP hS hl)
      · exact lv_if_ge hx hb hd ht (fun q => ite_t k q a1 a2 H locs ls hP hS hl) (fun q => ite_f k q a1 a2 H locs ls hP hS hl)
      · exact lv_if_gt hx hb hd ht (fun q => ite_t k q a1 a2 H locs ls hP hS hl) (fun q => ite_f k q a1 a2 H locs ls hP hS hl)
      · exact lv_if_le hx hb hd ht (fun q => ite_t k q a1 a2 H locs ls hP hS hl) (fun q => ite_f k q a1 a2 H locs ls hP hS hl)
    · exact h.elim
  -- if_icmp
  · split at h
    · rename_i cd off _ y x r
      obtain ⟨rfl, h⟩ := h
      intro a1 a2 H locs ls hP hS hl
      obtain ⟨t, ht, k⟩ := jmp_go h
      cases cd
      · exact lv_icmp_eq hx hb hd ht (fun q => ite_t k q a1 a2 H locs ls hP hS hl) (fun q => ite_f k q a1 a2 H locs ls hP hS hl)
      · exact lv_icmp_ne hx hb hd ht (fun q => ite_t k q a1 a2 H locs ls hP hS hl) (fun q => ite_f k (fun h => h q) a1 a2 H locs ls hP hS hl)
      · exact lv_icmp_lt hx hb hd ht (fun q => ite_t k q a1 a2 H locs ls hP hS hl) (fun q => ite_f k q a1 a2 H locs ls hP hS hl)
      · exact lv_icmp_ge hx hb hd ht (fun q => ite_t k q a1 a2 H locs ls hP hS hl) (fun q => ite_f k q a1 a2 H locs ls hP hS hl)
      · exact lv_icmp_gt hx hb hd ht (fun q => ite_t k q a1 a2 H locs ls hP hS hl) (fun q => ite_f k q a1 a2 H locs ls hP hS hl)
      · exact lv_icmp_le hx hb hd ht (fun q => ite_t k q a1 a2 H locs ls hP hS hl) (fun q => ite_f k q a1 a2 H locs ls hP hS hl)
    · exact h.elim
  -- ifnull
  · split at h
    · obtain ⟨rfl, k⟩ := h
      intro a1 a2 H locs ls hP hS hl
      exact lv_ifnull hx hb hd (k a1 a2 H locs ls hP hS hl)
    · exact h.elim
  -- ifnonnull
  · split at h
    · obtain ⟨rfl, h⟩ := h
      intro a1 a2 H locs ls hP hS hl
      obtain ⟨t, ht, k⟩ := jmp_go h
      exact lv_ifnonnull hx hb hd ht (k a1 a2 H locs ls hP hS hl)
    · exact h.elim
  -- goto
  · obtain ⟨rfl, h⟩ := h
    intro a1 a2 H locs ls hP hS hl
    obtain ⟨t, ht, k⟩ := jmp_go h
    exact lv_goto hx hb hd ht (k a1 a2 H locs ls hP hS hl)
  -- tableswitch
  · rename_i df lo hi offs
    split at h
    · rename_i x r
      obtain ⟨h0, h⟩ := h
      intro a1 a2 H locs ls hP hS hl
      rcases swk_go h with ⟨a, o, h1, h2, h3⟩ | ⟨h1, h2⟩
      · obtain ⟨g1, g2, g3⟩ := tsw_at _ _ _ _ h1 h2
        obtain ⟨t, ht, k⟩ := jmp_go h3
        exact lv_tableIn hx hb hd (by omega) (by omega) (by rw [← Array.getElem?_toList]; exact g3) ht (k a1 a2 H locs ls hP hS hl)
      · obtain ⟨t, ht, k⟩ := jmp_go h2
        refine lv_tableOut hx hb hd ?_ ht (k a1 a2 H locs ls hP hS hl)
        refine Decidable.byContradiction fun q => ?_
        obtain ⟨o, ho⟩ := tsw_all (x := x.toInt) offs.toList lo (by omega) (by omega)
        exact h1 _ _ ho rfl
    · exact h.elim
  -- lookupswitch
  · split at h
    · obtain ⟨h0, h⟩ := h
      intro a1 a2 H locs ls hP hS hl
      obtain ⟨t, ht, k⟩ := jmp_go (swk_lk h)
      exact lv_lookup hx hb hd h0 rfl ht (k a1 a2 H locs ls hP hS hl)
    · exact h.elim
  -- invokevirtual
  · rename_i idx
    split at h
    · rename_i id n hct
      split at h
      · rename_i c' rt' lf' pr c1 i r hmt hdr
        obtain ⟨nL', cc'⟩ := pr
        split at h
        · rename_i hcc
          simp only [Bool.and_eq_true, decide_eq_true_eq, beq_iff_eq] at hcc
          obtain ⟨⟨hcc, hr4⟩, hn⟩ := hcc
          subst hcc
          obtain ⟨rfl, hi, h⟩ := h
          intro a1 a2 H locs ls hP hS hl
          have hcl := cT_in hct
          obtain ⟨hid, hpar⟩ := cl_ok hcl
          obtain ⟨e1, e2, e3, e4, e5, e6, e7⟩ := mt_ok hid hmt
          have hc9 : c1 < 9 := by rcases e7 with q | q; (cases q); exact q
          have hclv : (own, idx, id, n) ∈ CL := by
            rcases hcl with q | q
            · exact q
            · have := cln_st _ q
              dsimp only at this
              rw [hmt] at this
              cases this
          obtain ⟨w1, w2, w3⟩ := mw_in hid hmt
          obtain ⟨w4, w5⟩ := w3 rfl
          have hkw := kw_in hid hmt
          obtain ⟨n0, hn0, hn02⟩ := cel_get (z := z) (i := i) (Nat.lt_trans hc9 (by decide)) hi
          have he := hn02 cA cQ ad M
          rw [cont_obj hc9] at he
          have hne : c1 ≠ 11 := by omega
          have hmet := hM id c1 rt' lf' false nL' cc' hid hmt hne _ _ _ h
          have hG : GoodIn TW (wsV (cN own) idx (cN c1) (yN id) (.code (yN id) cc' nL' (rF rt') :: TW)) := TW_gi _ (by
            intro w hw
            unfold wsV at hw
            rcases List.mem_append.mp hw with q | q
            · simp only [List.mem_cons, List.not_mem_nil, or_false] at q
              rcases q with rfl | rfl | rfl | rfl
              · exact in_c hclv
              · exact w4
              · exact w5
              · exact w1
            · rcases List.mem_cons.mp q with rfl | q
              · exact hkw
              · exact q)
          refine calW (rest := r.map (tr ad)) (va_runV (b := ad c1 i) (As := (st.take n).reverse.map (tr ad)) (rest := r.map (tr ad)) ⟨hx, hb, a1.symm ▸ hml, hown, hts⟩ hmet (cwV n hts hG rfl rfl rfl ⟨e1, e4, e5, hpar⟩ ⟨hR.1, by show 8 + (nL' + 11) + 64 * d ≤ R.locals; omega⟩) ⟨PcW_blind, va_recv hK hP (cl_at hc9) he, fun U hU hW => ⟨rfl, PcW_pass hP hK hNW U hU hW⟩⟩ rfl (by rw [List.length_map, List.length_reverse, List.length_take]; omega) (by rw [hl.1, a1]) (stk_eq hdr) (lv_room (by have := cat_sum (r.map (tr ad)); rw [List.length_map] at this; omega)) hd ⟨hcs.1, hcs.2⟩) hS (fun v M' H1 locs1 k hP1 hS1 => ?_)
          have := k a1 a2 H1 locs1 ls hP1 hS1 hl
          rw [psh_map]
          exact this
        · exact h.elim
      · exact h.elim
    · exact h.elim
  -- invokestatic
  · rename_i idx
    split at h
    -- max
    · rename_i n hct
      split at h
      · rename_i y x r
        split at h
        · rename_i hr4
          have hr4 := of_decide_eq_true hr4
          obtain ⟨rfl, k⟩ := h
          intro a1 a2 H locs ls hP hS hl
          have hcl := cT_in hct
          have hclv : (own, idx, 145, n) ∈ CL := by
            rcases hcl with q | q
            · exact q
            · have := cln_st _ q
              exact absurd q (by intro q; simp [CLn] at q)
          obtain ⟨w1, w2, w3⟩ := mw_in (id := 145) (by decide) rfl
          exact va_mmax hx hb (by rw [hml, hl.1]) hown (hts _ (in_c hclv)) (hts _ (w2 rfl)) (hts _ w1) (hts _ (kw_in (id := 145) (by decide) rfl)) (by omega) (by have := cat_sum (r.map (tr ad)); rw [List.length_map] at this; omega) hcs.1 hcs.2 hd (k a1 a2 H locs ls hP hS hl)
        · exact h.elim
      · exact h.elim
    -- min
    · rename_i n hct
      split at h
      · rename_i y x r
        split at h
        · rename_i hr4
          have hr4 := of_decide_eq_true hr4
          obtain ⟨rfl, k⟩ := h
          intro a1 a2 H locs ls hP hS hl
          have hcl := cT_in hct
          have hclv : (own, idx, 146, n) ∈ CL := by
            rcases hcl with q | q
            · exact q
            · exact absurd q (by intro q; simp [CLn] at q)
          obtain ⟨w1, w2, w3⟩ := mw_in (id := 146) (by decide) rfl
          exact va_mmin hx hb (by rw [hml, hl.1]) hown (hts _ (in_c hclv)) (hts _ (w2 rfl)) (hts _ w1) (hts _ (kw_in (id := 146) (by decide) rfl)) (by omega) (by have := cat_sum (r.map (tr ad)); rw [List.length_map] at this; omega) hcs.1 hcs.2 hd (k a1 a2 H locs ls hP hS hl)
        · exact h.elim
      · exact h.elim
    · rename_i id n _ _ hct
      split at h
      · rename_i c' rt' lf' pr hmt
        obtain ⟨nL', cc'⟩ := pr
        split at h
        · rename_i hcc
          simp only [Bool.and_eq_true, decide_eq_true_eq] at hcc
          obtain ⟨hr4, hn, hc11⟩ := hcc
          obtain ⟨rfl, h⟩ := h
          intro a1 a2 H locs ls hP hS hl
          have hcl := cT_in hct
          obtain ⟨hid, hpar⟩ := cl_ok hcl
          obtain ⟨e1, e2, e3, e4, e5, e6, e7⟩ := mt_ok hid hmt
          obtain ⟨w1, w2, w3⟩ := mw_in hid hmt
          have w2 := w2 rfl
          have hkw := kw_in hid hmt
          have hmet := hM id c' rt' lf' true nL' cc' hid hmt (by omega) _ _ _ h
          have hws : ∀ w ∈ (Cond.code (yN id) cc' nL' (rF rt') :: TW), w ∈ TW := by
            intro w q
            rcases List.mem_cons.mp q with rfl | q
            · exact hkw
            · exact q
          have hroom : (Rm d).frames + 1 ≤ R.frames ∧ 8 + (nL' + 11) + (Rm d).locals ≤ R.locals := ⟨hR.1, by show 8 + (nL' + 11) + 64 * d ≤ R.locals; omega⟩
          have hlen : ((st.take n).reverse.map (tr ad)).length = n := by rw [List.length_map, List.length_reverse, List.length_take]; omega
          have hrm : 2 * (F0 m pc ls (st.map (tr ad))).monitorRoom + (((st.drop n).map (tr ad)).map fun v => v.category).sum ≤ 8 := lv_room (by have := cat_sum ((st.drop n).map (tr ad)); rw [List.length_map] at this; omega)
          rcases hcl with hclv | hclv
          · have hG : GoodIn TW (va_wsS (cN own) idx (yN id) (.code (yN id) cc' nL' (rF rt') :: TW)) := TW_gi _ (by
              intro w hw
              unfold va_wsS at hw
              rcases List.mem_append.mp hw with q | q
              · simp only [List.mem_cons, List.not_mem_nil, or_false] at q
                rcases q with rfl | rfl | rfl
                · exact in_c hclv
                · exact w2
                · rw [e1]; exact w1
              · exact hws w q)
            refine calW (rest := (st.drop n).map (tr ad)) (va_runS (As := (st.take n).reverse.map (tr ad)) (rest := (st.drop n).map (tr ad)) ⟨hx, hb, a1.symm ▸ hml, hown, hts⟩ hmet (va_cwS n hts hG rfl rfl rfl ⟨e4, e5, hpar⟩ hroom) ⟨PcW_blind, fun U hU hW => ⟨rfl, PcW_pass hP hK hNW U hU hW⟩⟩ rfl hlen (by rw [hl.1, a1]) stk_eqS hrm hd ⟨hcs.1, hcs.2⟩) hS (fun v M' H1 locs1 k hP1 hS1 => ?_)
            have := k a1 a2 H1 locs1 ls hP1 hS1 hl
            rw [psh_map]
            exact this
          · have hnl : va_Nw (.methodLinkNest (cN own) idx (yN id) RX7) s := hNW _ (List.mem_map.mpr ⟨_, hclv, rfl⟩)
            refine calW (rest := (st.drop n).map (tr ad)) (va_runSN (As := (st.take n).reverse.map (tr ad)) (rest := (st.drop n).map (tr ad)) ⟨hx, hb, a1.symm ▸ hml, hown, hts⟩ hmet ⟨va_cnB n hts (TW_gi _ hws) rfl rfl rfl hnl (by rw [e1]; exact hts _ w1) ⟨e4, e5, hpar⟩ hroom, hts _ w2, trivial⟩ ⟨PcW_blind, fun U hU hW => ⟨rfl, PcW_pass hP hK hNW U hU hW⟩⟩ rfl hlen (by rw [hl.1, a1]) stk_eqS hrm hd ⟨hcs.1, hcs.2⟩) hS (fun v M' H1 locs1 k hP1 hS1 => ?_)
            have := k a1 a2 H1 locs1 ls hP1 hS1 hl
            rw [psh_map]
            exact this
        · exact h.elim
      · exact h.elim
    · exact h.elim
  -- ireturn
  · split at h
    · split at h
      · obtain ⟨rfl, h⟩ := h
        exact hri _ _ _ _ hd (Or.inl rfl) h
      · obtain ⟨rfl, h1, h⟩ := h
        exact hri _ _ _ _ hd (Or.inr ⟨rfl, h1⟩) h
      · exact h.elim
    · exact h.elim
  -- return
  · split at h
    · split at h
      · obtain ⟨rfl, h⟩ := h
        exact hrv _ _ _ hd rfl h
      · exact h.elim
    · exact h.elim
  · split at h
    · rename_i hs
      exact VM_sx F' hsc hd hs h.1 h.2
    · exact h.elim
end SND2
/-- the abstract machine's runs are contracts -/
theorem snd_all (l : Launch) (z : Nat) (hz : z ≤ 1) (D : va_G) (cA cQ : ClassId) (ad : Nat → Nat → Nat) (A : Nat → Prop) (hD : ∀ M, va_D A (cel z cA cQ ad M)) : ∀ d, Snd l z D cA cQ ad A d := by
  intro d
  induction d with
  | zero => intro id own rt lf sta nL cc _ _ _ as M Q h; exact h.elim
  | succ d ih =>
    intro id own rt lf sta nL cc hid hmt hne as M Q h
    unfold Run at h
    rw [hmt] at h
    dsimp only at h
    split at h
    · rename_i hno
      rw [Bool.and_eq_true, decide_eq_true_eq] at hno
      obtain ⟨hno, hlen⟩ := hno
      obtain ⟨e1, e2, e3, e4, e5, e6, e7⟩ := mt_ok hid hmt
      have hpl : plainName (yN id).cls = true := e3.resolve_left hne
      refine Met.ofW (cc := cc) (maxL := nL) (ret := rF rt) hpl rfl ?_
      intro p e s m args below meth c s₁ B hml hv
      obtain ⟨rfl, hP, hK, hNW⟩ := hv
      have hx := B.exec
      have hb := B.bytes
      have hr := B.returns
      have hts0 := atoms_spec (ws := .code (yN id) cc nL (rF rt) :: TW) B.pre
      have hts : ∀ w ∈ TW, w.before (as.map (tr ad)).toArray s = true := fun w hw => hts0 w (List.mem_cons_of_mem _ hw)
      have hown : s.vm.findClass (cN own) = some m.cls := by rw [← e1]; exact findClass_of_methodNamed B.named
      have hlocks := B.notSynchronized
      have hF : Fx p s m (as.map (tr ad)).toArray c own cc nL z D cA cQ ad A := ⟨hx, hb, hml, hown, hts, hK, hNW, hD, hz⟩
      have hS : va_S A s.heap s.heap [] := va_S.rf
      have hsl : (lg_sl (as.map (tr ad))).length ≤ nL := by
        have : ∀ as : List bV, as.all noL = true → (lg_sl (as.map (tr ad))).length = as.length := by
          intro as
          induction as with
          | nil => intro _; rfl
          | cons a r ih =>
            intro h
            rw [List.all_cons, Bool.and_eq_true] at h
            have hc := tr_cat (ad := ad) h.1
            show ((if (tr ad a).category = 2 then [Slot.val (tr ad a), Slot.second] else [Slot.val (tr ad a)]) ++ lg_sl (r.map (tr ad))).length = _
            rw [hc, if_neg (by decide), List.length_append, ih h.2, List.length_cons]
            simp
            omega
        rw [this as hno]; exact hlen
      have hl := lv_entry (as.map (tr ad)) (n := nL) hsl
      rw [lg_entry_eq]
      generalize (lg_sl (as.map (tr ad)) ++ List.replicate (nL - (lg_sl (as.map (tr ad))).length) Slot.unset).toArray = ls at hl ⊢
      have hl2 := prs_entry (k := nL - as.length) hno hl
      have hsc : Sc none s ad A s.heap := fun L xs q => by cases q
      have key := h (VM p l e (Rm (d + 1)) s m (as.map (tr ad)).toArray below meth c 0 0 (MQ below (QW z D cA cQ ad A Q) (as.map (tr ad)).toArray s 0 0 A) z nL lf D cA cQ ad A s.heap) (fun pc L st M ins len hd hs => by
        refine VM_step (d := d) hF hsc ⟨Nat.le_refl _, Nat.le_refl _⟩ ⟨Nat.le_refl _, by show 64 * d + 64 ≤ 64 * (d + 1); omega⟩ ih ?_ ?_ hd hs
        · intro pc L v M hd hrt hq a1 a2 H locs ls hP hS hl
          have hn : narrow (if rt = 1 then FieldType.int else .boolean) (.int v) = .int v := by
            rcases hrt with rfl | ⟨rfl, rfl | rfl⟩ <;> rfl
          have hr' : meth.sig.returnType = some (if rt = 1 then FieldType.int else .boolean) := by
            rw [hr]
            rcases hrt with rfl | ⟨rfl, -⟩ <;> rfl
          exact W.zret hx hb hr' hn (fun t ht hW => ⟨⟨vi v, M, rfl, hq, by rw [ht]; exact hP⟩, hS.F ht⟩) hS.2.2 hd hlocks
        · intro pc L M hd hrt hq a1 a2 H locs ls hP hS hl
          subst hrt
          exact W.vret hx hb hr (fun t ht hW => ⟨⟨vu, M, rfl, hq, by rw [ht]; exact hP⟩, hS.F ht⟩) hS.2.2 hd hlocks)
      refine key ?_ ?_ s.heap [] ls hP hS hl2
      · rw [List.length_append, List.length_replicate]; omega
      · intro _ v hv
        rcases List.mem_append.mp hv with q | q
        · exact List.all_eq_true.mp hno v q
        · rw [List.eq_of_mem_replicate q]; rfl
    · exact h.elim
