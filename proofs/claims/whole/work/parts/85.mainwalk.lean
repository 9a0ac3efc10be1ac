/-! the class's own constructor: behind the makings on the abstract machine -/
theorem celD {z : Nat} {cA cQ : ClassId} {ad : Nat → Nat → Nat} {M : bM} {A : Nat → Prop} (h : va_D A (cel z cA cQ ad M)) : ∀ M', va_D A (cel z cA cQ ad M') := by
  intro M'
  have e : ∀ (i : Nat) (p : Nat × va_E), (cel z cA cQ ad M')[i]? = some p → ∃ p', (cel z cA cQ ad M)[i]? = some p' ∧ p'.1 = p.1 := by
    intro i p hp
    unfold cel at hp ⊢
    rw [List.getElem?_map] at hp ⊢
    cases hd : (dirs z)[i]? with
    | none => rw [hd] at hp; cases hp
    | some q => rw [hd] at hp; cases hp; exact ⟨_, rfl, rfl⟩
  refine ⟨fun i j p q hp hq hpq => ?_, fun k q hq => ?_⟩
  · obtain ⟨p', a1, a2⟩ := e i p hp
    obtain ⟨q', b1, b2⟩ := e j q hq
    exact h.1 i j p' q' a1 b1 (by rw [a2, b2, hpq])
  · obtain ⟨q', a1, a2⟩ := e k q hq
    rw [← a2]
    exact h.2 k q' a1
def adF (L : List (List Nat)) (c i : Nat) : Nat := (L.getD c []).getD i 0
def Good7 (M : bM) : Prop := CA M lt0 0 t13 (nil0 Zt) (t13 1, 0, 0) pz0 0 pz0 0 cz0 cz0 0
abbrev W7 (h0 : Nat) : va_W := [(h0, .inr (7, [.null, .null, .null, .null, .null, .null, .null, .null, .null, .null, .null]))]
/-- the class's constructor: its start -/
def B7 (a v h0 sz : Nat) (D : va_G) (cA cQ : ClassId) (U : State) : Prop := BI sz D cA cQ (W7 h0) U ∧ SB a v (va_A (W7 h0) sz) U U.heap ∧ vk_R RX7 72 FTs a U
theorem B7_blind {av : List Value} {a v h0 sz : Nat} {D : va_G} {cA cQ : ClassId} : FrameBlind (va_Pc av (B7 a v h0 sz D cA cQ)) := by
  intro w U g mk h
  obtain ⟨h1, h2, ⟨h3, h4, h5⟩, h6⟩ := h
  exact ⟨h1, (BI_blind (av := av) w U g mk ⟨h1, h2⟩).2, ⟨vk_S.moved (u := U) (U := U.calling g mk w) (Vm.Alike.refl U.vm) h3, va_Z.moved (u := U) (U := U.calling g mk w) (Vm.Alike.refl U.vm) h4, va_Zq.moved (u := U) (U := U.calling g mk w) (Vm.Alike.refl U.vm) h5⟩, vk_R.same (u := U) (U := U.calling g mk w) rfl h6⟩
/-- and its end: the whole world of the class -/
abbrev Q7p (h0 : Nat) (u : (Nat → Nat → Nat) × bM) : Prop := Good7 u.2 ∧ u.1 7 0 = h0
abbrev Q7a (D : va_G) (cA cQ : ClassId) (A : Nat → Prop) (u : (Nat → Nat → Nat) × bM) (t : State) : Prop := va_P D vwCl (cel 0 cA cQ u.1 u.2) t.heap ∧ va_K D vwCl (tyK cA cQ) t ∧ ∀ M, va_D A (cel 0 cA cQ u.1 M)
section MW
variable {p : Program} {l : Launch} {e : Env} {R : Room} {s : State} {m : MethodId} {args : Array Value} {below : List Frame} {meth : Method} {c : Code} {mc ms : Nat}
set_option maxHeartbeats 8000000 in
set_option maxRecDepth 100000 in
theorem main_VM {D : va_G} {cA cQ : ClassId} {ad : Nat → Nat → Nat} {A : Nat → Prop} {a v h0 : Nat} (hx : p.tables.exec = Jvm.exec) (hb : c.code = cX7_init) (hr : meth.sig.returnType = none) (hml : c.maxLocals = 2) (hown : s.vm.findClass RX7 = some m.cls) (hlocks : meth.locks = false) (hts : ∀ w ∈ TI, w.before args s = true)
    (hK : va_K D vwCl (tyK cA cQ) s) (hE : EnvI s) (hD : va_D A (cel 0 cA cQ ad bM0)) (hSB : SB a v A s s.heap) (hRR : vk_R RX7 72 FTs a s) (h13 : ad 13 0 = a) (h7 : ad 7 0 = h0) (hc : mc ≤ R.cells ∧ ms ≤ R.slots) (hR : 8 ≤ R.frames ∧ 1024 ≤ R.locals)
    {H : Heap} {locs : List Loc} {ls : Array Slot} (hP : va_P D vwCl (cel 0 cA cQ ad bM0) H) (hS : va_S A s.heap H locs) (hl : lv_has ls 2 [(1, .int (nI 0)), (0, .ref h0)]) :
    W p l e R s m args below meth c H locs mc ms (MQ below (va_Qv (Q7p h0) (Q7a D cA cQ A) A) args s mc ms A) (F0 m 133 ls []) := by
  have hDall := celD hD
  have hNW : ∀ w ∈ NL, va_Nw w s := fun w hw => hE.1 w (List.mem_append_right _ hw)
  have hF : Fx p s m args c 7 cX7_init 2 0 D cA cQ ad A := ⟨hx, hb, hml, hown, fun w hw => hts w (ti_w hw), hK, hNW, hDall, by decide⟩
  have hsc : Sc none s ad A s.heap := fun L xs q => by cases q
  have hC : Clo 0 (Run 0 7) 7 0 false none cX7_init (fun _ M => Good7 M) (VM p l e R s m args below meth c mc ms (MQ below (va_Qv (Q7p h0) (Q7a D cA cQ A) A) args s mc ms A) 0 2 false D cA cQ ad A s.heap) := by
    intro pc L st M ins len hd hs
    refine VM_step (d := 7) hF hsc hc ⟨by omega, by omega⟩ (snd_all l 0 (by decide) D cA cQ ad A hDall 7) ?_ ?_ hd hs
    · intro pc L v M hd hrt hq
      rcases hrt with h | ⟨h, -⟩ <;> cases h
    · intro pc L M hd hrt hq a1 a2 H locs ls hP hS hl
      exact W.vret hx hb hr (fun t ht hW => ⟨⟨(ad, M), rfl, ⟨hq, h7⟩, by rw [ht]; exact hP, va_K.moved hW.alike hK, hDall⟩, hS.F ht⟩) hS.2.2 hd hlocks
  refine main_tail hC ?_ ?_ ?_ ?_ (fun M h => h) 78 0 bM0 rfl CA0 rfl (fun _ v hv => ?_) H locs ls hP hS ?_
  · intro L st M k a1 a2 H locs ls hP hS hl
    have k := k a1 a2 H locs ls hP hS hl
    rw [List.map_cons] at k
    have k : W p l e R s m args below meth c H locs mc ms (MQ below (va_Qv (Q7p h0) (Q7a D cA cQ A) A) args s mc ms A) (F0 m 136 ls (.ref (ad 13 0) :: st.map (tr ad))) := k
    rw [h13] at k
    exact va_ldcS hx hb hown hRR dX7_init_134 k
  · intro L x M k a1 a2 H locs ls hP hS hl
    show W p l e R s m args below meth c H locs mc ms _ (F0 m 136 ls [.ref (ad 13 0), .int x])
    rw [h13]
    refine va_calli (A0 := A) (va_runV (As := []) (rest := [.int x]) ⟨hx, hb, hml, hown, hts⟩ (cJ_length l a v) (cwV 0 hts (giV tx_mlX7_74 tx_imJ0_length_8abf5 tx_seJ0_length_8abf5 tx_itJ0 tk_yJ0_length_8abf5) rfl rfl rfl (by decide +kernel) ⟨by show 1 + 1 ≤ R.frames; omega, by show 8 + (1 + 11) + 64 ≤ R.locals; omega⟩) ⟨SP_blind, vk_recv (i := 0) hSB.1 (by decide) hS, fun U hU hW => ⟨rfl, SB_pass hSB hS U hU hW⟩⟩ rfl rfl hl.1 rfl (lv_room (Nat.le_of_ble_eq_true rfl)) dX7_init_136 ⟨hc.1, hc.2⟩) hS (fun q _ h => h.elim) (fun _ h => h.elim) (fun r u t H1 locs1 ht hvm hw _ hz1 hk1 hS1 => ?_)
    subst hw
    exact k a1 a2 H1 locs1 ls (hP.kept (fun k x hx => hk1 x.1 ((hP k x hx).lt) (fun h => h))) hS1 hl
  · intro L st M k a1 a2 H locs ls hP hS hl
    have k := k a1 a2 H locs ls hP hS hl
    rw [List.map_cons] at k
    have k : W p l e R s m args below meth c H locs mc ms (MQ below (va_Qv (Q7p h0) (Q7a D cA cQ A) A) args s mc ms A) (F0 m 148 ls (.ref (ad 13 0) :: st.map (tr ad))) := k
    rw [h13] at k
    exact va_ldcS hx hb hown hRR dX7_init_146 k
  · intro i L M hi k a1 a2 H locs ls hP hS hl
    show W p l e R s m args below meth c H locs mc ms _ (F0 m 149 ls [.int (nI i), .ref (ad 13 0), .ref (ad 2 0)])
    rw [h13]
    refine va_calli (A0 := A) (va_runV (As := [.int (nI i)]) (rest := [.ref (ad 2 0)]) ⟨hx, hb, hml, hown, hts⟩ (cJ_charAt l a v i hi) (cwV 1 hts (giV tx_mlX7_80 tx_imJ0_charAt_5068e tx_seJ0_charAt_5068e tx_itJ0 tk_yJ0_charAt_5068e) rfl rfl rfl (by decide +kernel) ⟨by show 3 + 1 ≤ R.frames; omega, by show 8 + (2 + 11) + 192 ≤ R.locals; omega⟩) ⟨SP_blind, vk_recv (i := 0) hSB.1 (by decide) hS, fun U hU hW => ⟨rfl, SB_pass hSB hS U hU hW⟩⟩ rfl rfl hl.1 rfl (lv_room (Nat.le_of_ble_eq_true rfl)) dX7_init_149 ⟨hc.1, hc.2⟩) hS (fun q _ h => h.elim) (fun _ h => h.elim) (fun r u t H1 locs1 ht hvm hw _ hz1 hk1 hS1 => ?_)
    subst hw
    exact k a1 a2 H1 locs1 ls (hP.kept (fun k x hx => hk1 x.1 ((hP k x hx).lt) (fun h => h))) hS1 hl
  · rcases List.mem_cons.mp hv with rfl | hv
    · rfl
    · rcases List.mem_cons.mp hv with rfl | hv
      · rfl
      · cases hv
  · have e : prs ad [vr 7 0, .inl (nI 0)] = [(0, .ref (ad 7 0)), (1, .int (nI 0))] := rfl
    rw [e, h7]
    exact lv_sub hl [1, 0] rfl
end MW
