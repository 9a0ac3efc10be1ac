/-! one instruction of the abstract machine is one of the machine -/
set_option maxRecDepth 100000 in
theorem fT_in {own idx c j : Nat} (h : fT own idx = some (c, j)) : (own, idx, c, j) ∈ FL := by
  unfold fT at h
  split at h
  · unfold fT0 at h; split at h <;> cases h <;> decide
  · unfold fT1 at h; split at h <;> cases h <;> decide
  · unfold fT2 at h; split at h <;> cases h <;> decide
  · unfold fT3 at h; split at h <;> cases h <;> decide
  · unfold fT4 at h; split at h <;> cases h <;> decide
  · unfold fT5 at h; split at h <;> cases h <;> decide
  · unfold fT6 at h; split at h <;> cases h <;> decide
  · unfold fT7 at h; split at h <;> cases h <;> decide
  · unfold fT8 at h; split at h <;> cases h <;> decide
  · unfold fT9 at h; split at h <;> cases h <;> decide
  · unfold fT10 at h; split at h <;> cases h <;> decide
  · unfold fT11 at h; split at h <;> cases h <;> decide
  · cases h
theorem FL_ok : ∀ q ∈ FL, q.2.2.1 < 9 ∧ q.2.2.2 < nfl q.2.2.1 := by decide +kernel
theorem cl_at {c : Nat} (hc : c < 9) : vwCl[c]? = some (cN c, tT c, nfl c) := by
  match c, hc with
  | 0, _ => rfl
  | 1, _ => rfl
  | 2, _ => rfl
  | 3, _ => rfl
  | 4, _ => rfl
  | 5, _ => rfl
  | 6, _ => rfl
  | 7, _ => rfl
  | 8, _ => rfl
theorem in_k {id : Nat} {w : Cond} (hid : id < 147) (h : kw id = some w) : w ∈ TW := List.mem_append_left _ (List.mem_filterMap.mpr ⟨id, List.mem_range.mpr hid, h⟩)
theorem in_f {q : Nat × Nat × Nat × Nat} (h : q ∈ FL) : fw q ∈ TW := List.mem_append_right _ (List.mem_append_left _ (List.mem_map.mpr ⟨q, h, rfl⟩))
theorem in_c {q : Nat × Nat × Nat × Nat} (h : q ∈ CL) : cw q ∈ TW := List.mem_append_right _ (List.mem_append_right _ (List.mem_append_left _ (List.mem_map.mpr ⟨q, h, rfl⟩)))
theorem in_m {id : Nat} {w : Cond} (hid : id < 147) (h : w ∈ mw id) : w ∈ TW := List.mem_append_right _ (List.mem_append_right _ (List.mem_append_right _ (List.mem_append_left _ (List.mem_flatMap.mpr ⟨id, List.mem_range.mpr hid, h⟩))))
theorem in_l {c : Nat} (hc : c < 9) : ∀ w ∈ u_ws (cN c) (tT c) (nfl c), w ∈ TW := fun w h => List.mem_append_right _ (List.mem_append_right _ (List.mem_append_right _ (List.mem_append_right _ (List.mem_append_left _ (List.mem_flatMap.mpr ⟨c, List.mem_range.mpr hc, h⟩)))))
theorem in_x {w : Cond} (h : w ∈ KL) : w ∈ TW := List.mem_append_right _ (List.mem_append_right _ (List.mem_append_right _ (List.mem_append_right _ (List.mem_append_right _ h))))
theorem cI_in {own idx : Nat} {v : Int32} (h : cI own idx = some v) : Cond.constant (cN own) idx v ∈ TW := by
  unfold cI at h
  split at h <;> cases h <;> exact in_x (by decide +kernel)
theorem cJ_in {own idx : Nat} {v : Int64} (h : cJ own idx = some v) : Cond.constantLong (cN own) idx v ∈ TW := by
  unfold cJ at h
  split at h <;> cases h <;> exact in_x (by decide +kernel)
def tyT (c : Nat) : Nat → FieldType := match c with
  | 0 => tyX0
  | 1 => tyX1
  | 2 => tyX2
  | 3 => tyX3
  | 4 => tyX4
  | 5 => tyX5
  | 6 => tyX6
  | 7 => tyX7
  | _ => tyX8
theorem tyT_ok {c : Nat} (hc : c < 9) : ∀ k, k < nfl c → parseFieldDescriptor (tT c k).2.2.1 = some (tyT c k) := by
  match c, hc with
  | 0, _ => exact tyX0_ok
  | 1, _ => exact tyX1_ok
  | 2, _ => exact tyX2_ok
  | 3, _ => exact tyX3_ok
  | 4, _ => exact tyX4_ok
  | 5, _ => exact tyX5_ok
  | 6, _ => exact tyX6_ok
  | 7, _ => exact tyX7_ok
  | 8, _ => exact tyX8_ok
theorem nmT_ok {c : Nat} (hc : c < 9) : ∀ a, a < nfl c → ∀ b, b < nfl c → a ≠ b → (tT c a).2.1 ≠ (tT c b).2.1 := by
  match c, hc with
  | 0, _ => exact nmX0
  | 1, _ => exact nmX1
  | 2, _ => exact nmX2
  | 3, _ => exact nmX3
  | 4, _ => exact nmX4
  | 5, _ => exact nmX5
  | 6, _ => exact nmX6
  | 7, _ => exact nmX7
  | 8, _ => exact nmX8
theorem isI_ok0 : ∀ c : Fin 9, ∀ j : Fin 15, isI c.val j.val = true → j.val < nfl c.val → (tT c.val j.val).2.2.2 = false ∧ parseFieldDescriptor (tT c.val j.val).2.2.1 = some .int := by decide +kernel
theorem nfl_le : ∀ c : Fin 9, nfl c.val ≤ 15 := by decide
theorem isI_ok {c j : Nat} (hc : c < 9) (hj : j < nfl c) (h : isI c j = true) : (tT c j).2.2.2 = false ∧ parseFieldDescriptor (tT c j).2.2.1 = some .int :=
  isI_ok0 ⟨c, hc⟩ ⟨j, Nat.lt_of_lt_of_le hj (nfl_le ⟨c, hc⟩)⟩ h hj
theorem rd_int {M : bM} {c i j : Nat} (h : isI c j = true) : rd M c i j = vi (gI M c i j) := by
  unfold isI at h
  split at h
  · have : j = 2 := by simpa using h
    subst this; rfl
  · have : j = 7 ∨ j = 8 ∨ j = 9 ∨ j = 10 := by simp at h; omega
    rcases this with rfl | rfl | rfl | rfl <;> rfl
  · have : j = 2 ∨ j = 3 := by simpa using h
    rcases this with rfl | rfl <;> rfl
  · have : j = 1 := by simpa using h
    subst this; rfl
  · have : j = 1 ∨ j = 2 ∨ j = 3 := by simp at h; omega
    rcases this with rfl | rfl | rfl <;> rfl
  · rfl
  · have : j = 1 ∨ j = 6 ∨ j = 8 ∨ j = 10 ∨ j = 11 := by simpa [or_assoc] using h
    rcases this with rfl | rfl | rfl | rfl | rfl <;> rfl
  · cases h
/-- what stands fast while a method runs -/
def Fx (p : Program) (s : State) (m : MethodId) (args : Array Value) (c : Code) (own : Nat) (cc : ByteArray) (nL z : Nat) (D : va_G) (cA cQ : ClassId) (ad : Nat → Nat → Nat) (A : Nat → Prop) : Prop :=
  p.tables.exec = Jvm.exec ∧ c.code = cc ∧ c.maxLocals = nL ∧ s.vm.findClass (cN own) = some m.cls ∧ (∀ w ∈ TW, w.before args s = true) ∧ va_K D vwCl [(cA, .int), (cQ, .object RX5)] s ∧ (∀ w ∈ NL, va_Nw w s) ∧ (∀ M, va_D A (cel z cA cQ ad M)) ∧ z ≤ 1
/-- the script -/
def Sc (sc : Option (Nat × (Nat → Int32))) (s : State) (ad : Nat → Nat → Nat) (A : Nat → Prop) (H0 : Heap) : Prop :=
  ∀ L xs, sc = some (L, xs) → ∀ i, va_X (ad 12 i) L xs s H0 ∧ ad 12 i < H0.size ∧ ¬ A (ad 12 i)
/-- the machine, at the abstract machine's state, comes to what Qf says -/
def VM (p : Program) (l : Launch) (e : Env) (R : Room) (s : State) (m : MethodId) (args : Array Value) (below : List Frame) (meth : Method) (c : Code) (cells slots : Nat) (Qf : State → Prop) (z nL : Nat) (lf : Bool) (D : va_G) (cA cQ : ClassId) (ad : Nat → Nat → Nat) (A : Nat → Prop) (H0 : Heap) (pc : Nat) (L st : List bV) (M : bM) : Prop :=
  L.length = nL → (lf = false → ∀ v ∈ L, noL v = true) → ∀ (H : Heap) (locs : List Loc) (ls : Array Slot), va_P D vwCl (cel z cA cQ ad M) H → va_S A H0 H locs → lv_has ls nL (prs ad L) →
    W p l e R s m args below meth c H locs cells slots Qf (F0 m pc ls (st.map (tr ad)))
section SND
variable {p : Program} {l : Launch} {e : Env} {R : Room} {s : State} {m : MethodId} {args : Array Value} {below : List Frame} {meth : Method} {c : Code} {cells slots : Nat} {Qf : State → Prop}
variable {z own nL : Nat} {lf : Bool} {cc : ByteArray} {D : va_G} {cA cQ : ClassId} {ad : Nat → Nat → Nat} {A : Nat → Prop} {H0 : Heap} {sc : Option (Nat × (Nat → Int32))}
theorem VM_stA {pc' : Nat} {L L' st st' : List bV} {M M' : bM} {φ : Prop} {n : Nat} {v : bV} (hv : noL v = true) (h : stA lf L n v st M = some (φ, L', st', M')) (k : VM p l e R s m args below meth c cells slots Qf z nL lf D cA cQ ad A H0 pc' L' st' M') (hlen : L.length = nL) (hno : lf = false → ∀ v ∈ L, noL v = true) :
    st' = st ∧ M' = M ∧ n < nL ∧ ∀ (H : Heap) (locs : List Loc) (ls : Array Slot), va_P D vwCl (cel z cA cQ ad M) H → va_S A H0 H locs → lv_has ls nL ((n, tr ad v) :: (prs ad L).filter (fun q => !(q.1 == n) && !(q.1 + 1 == n && q.2.category == 2))) → W p l e R s m args below meth c H locs cells slots Qf (F0 m pc' ls (st.map (tr ad))) := by
  unfold stA at h
  split at h
  · rename_i hn
    have hn := of_decide_eq_true hn
    cases h
    exact ⟨rfl, rfl, hlen ▸ hn, fun H locs ls hP hS hl => k (by rw [List.length_set]; exact hlen) (fun q => set_noL (hno q) hv) H locs ls hP hS (prs_set hn (noP_of (hno rfl) n) hl)⟩
  · rename_i hn
    have hn := of_decide_eq_true hn
    split at h
    · rename_i hp
      cases h
      exact ⟨rfl, rfl, hlen ▸ hn, fun H locs ls hP hS hl => k (by rw [List.length_set]; exact hlen) (fun q => by cases q) H locs ls hP hS (prs_set hn hp hl)⟩
    · cases h
  · cases h
set_option maxRecDepth 100000 in
set_option maxHeartbeats 8000000 in
theorem VM_sx (F : Fx p s m args c own cc nL z D cA cQ ad A) (hsc : Sc sc s ad A H0) {pc len : Nat} {ins : Instr} {L L' st st' : List bV} {M M' : bM} {φ : Prop} (hd : decode cc pc = .ok (ins, len)) (h : sx z own lf sc ins len L st M = some (φ, L', st', M')) (hφ : φ)
    (k : VM p l e R s m args below meth c cells slots Qf z nL lf D cA cQ ad A H0 (pc + len) L' st' M') : VM p l e R s m args below meth c cells slots Qf z nL lf D cA cQ ad A H0 pc L st M := by
  obtain ⟨hx, hb, hml, hown, hts, hK, hNW, hD, hz⟩ := F
  unfold sx at h
  intro a1 a2 H locs ls hP hS hl
  split at h
  · cases h; exact lv_iconst hx hb hd rfl (k a1 a2 H locs ls hP hS hl)
  · cases h; exact lv_bipush hx hb hd rfl (k a1 a2 H locs ls hP hS hl)
  · cases h; exact lv_sipush hx hb hd rfl (k a1 a2 H locs ls hP hS hl)
  · cases h; exact lv_lconst hx hb hd rfl (k a1 a2 H locs ls hP hS hl)
  · split at h
    · rename_i hc; cases h; exact lv_ldcw hx hb hown (hts _ (cI_in hc)) hd (k a1 a2 H locs ls hP hS hl)
    · cases h
  · split at h
    · rename_i hc; cases h; exact lv_ldc2 hx hb hown (hts _ (cJ_in hc)) hd (k a1 a2 H locs ls hP hS hl)
    · cases h
  · unfold ldI at h; split at h
    · rename_i hn; cases h; exact lv_iload hx hb hd (hl.2.2 _ (prs_i hn)) (k a1 a2 H locs ls hP hS hl)
    · cases h
  · unfold ldI at h; split at h
    · rename_i hn; cases h; exact lv_iload_n hx hb hd rfl (hl.2.2 _ (prs_i hn)) (k a1 a2 H locs ls hP hS hl)
    · cases h
  · unfold ldR at h; split at h
    · rename_i hn; cases h; exact lv_aload hx hb hd (hl.2.2 _ (prs_r hn)) (k a1 a2 H locs ls hP hS hl)
    · cases h
  · unfold ldR at h; split at h
    · rename_i hn; cases h; exact lv_aload_n hx hb hd rfl (hl.2.2 _ (prs_r hn)) (k a1 a2 H locs ls hP hS hl)
    · cases h
  · unfold ldL at h; split at h
    · rename_i hn; cases h; exact lv_lload hx hb hd (hl.2.2 _ (prs_l hn)) (k a1 a2 H locs ls hP hS hl)
    · cases h
  · unfold ldL at h; split at h
    · rename_i hn; cases h; exact lv_lload_n hx hb hd rfl (hl.2.2 _ (prs_l hn)) (k a1 a2 H locs ls hP hS hl)
    · cases h
  · split at h
    · obtain ⟨rfl, rfl, hn, kk⟩ := VM_stA rfl h k a1 a2
      exact lv_istore hx hb hd hl hn rfl (fun ls' hl' => kk H locs ls' hP hS hl')
    · cases h
  · split at h
    · obtain ⟨rfl, rfl, hn, kk⟩ := VM_stA rfl h k a1 a2
      exact lv_istore_n hx hb hd rfl hl hn rfl (fun ls' hl' => kk H locs ls' hP hS hl')
    · cases h
  · split at h
    · obtain ⟨rfl, rfl, hn, kk⟩ := VM_stA rfl h k a1 a2
      exact lv_astore hx hb hd hl hn rfl (fun ls' hl' => kk H locs ls' hP hS hl')
    · cases h
  · split at h
    · obtain ⟨rfl, rfl, hn, kk⟩ := VM_stA rfl h k a1 a2
      exact lv_astore_n hx hb hd rfl hl hn rfl (fun ls' hl' => kk H locs ls' hP hS hl')
    · cases h
  · split at h
    · unfold stL at h; split at h
      · rename_i hq; cases h
        simp only [Bool.and_eq_true, decide_eq_true_eq] at hq
        exact lv_lstore hx hb hd hl (by rw [← a1]; exact hq.2.1) rfl (fun ls' hl' => k (by rw [List.length_set, List.length_set]; exact a1) (fun q => by rw [hq.1] at q; cases q) H locs ls' hP hS (prs_set2 hq.2.1 hq.2.2 hl'))
      · cases h
    · cases h
  · split at h
    · unfold stL at h; split at h
      · rename_i hq; cases h
        simp only [Bool.and_eq_true, decide_eq_true_eq] at hq
        exact lv_lstore_n hx hb hd rfl hl (by rw [← a1]; exact hq.2.1) rfl (fun ls' hl' => k (by rw [List.length_set, List.length_set]; exact a1) (fun q => by rw [hq.1] at q; cases q) H locs ls' hP hS (prs_set2 hq.2.1 hq.2.2 hl'))
      · cases h
    · cases h
  · unfold iin at h; split at h
    · rename_i hn
      obtain ⟨rfl, rfl, hn', kk⟩ := VM_stA rfl h k a1 a2
      obtain ⟨k0, hk0⟩ := List.getElem?_of_mem (prs_i (ad := ad) hn)
      exact lv_iinc hx hb hd hl hk0 rfl hn' rfl (fun ls' hl' => kk H locs ls' hP hS hl')
    · cases h
  · split at h
    · cases h; exact lv_iadd hx hb hd (k a1 a2 H locs ls hP hS hl)
    · cases h
  · split at h
    · cases h; exact lv_isub hx hb hd (k a1 a2 H locs ls hP hS hl)
    · cases h
  · split at h
    · cases h; exact lv_imul hx hb hd (k a1 a2 H locs ls hP hS hl)
    · cases h
  · split at h
    · cases h; exact lv_iand hx hb hd (k a1 a2 H locs ls hP hS hl)
    · cases h
  · split at h
    · cases h; exact lv_ior hx hb hd (k a1 a2 H locs ls hP hS hl)
    · cases h
  · split at h
    · cases h; exact lv_ixor hx hb hd (k a1 a2 H locs ls hP hS hl)
    · cases h
  · split at h
    · cases h; exact lv_idiv hx hb hd hφ (k a1 a2 H locs ls hP hS hl)
    · cases h
  · split at h
    · cases h; exact lv_irem hx hb hd hφ (k a1 a2 H locs ls hP hS hl)
    · cases h
  · split at h
    · cases h; exact lv_ishl hx hb hd (k a1 a2 H locs ls hP hS hl)
    · cases h
  · split at h
    · cases h; exact lv_ishr hx hb hd (k a1 a2 H locs ls hP hS hl)
    · cases h
  · split at h
    · cases h; exact lv_iushr hx hb hd rfl (k a1 a2 H locs ls hP hS hl)
    · cases h
  · split at h
    · cases h; exact lv_ladd hx hb hd (k a1 a2 H locs ls hP hS hl)
    · cases h
  · split at h
    · cases h; exact lv_lmul hx hb hd (k a1 a2 H locs ls hP hS hl)
    · cases h
  · split at h
    · cases h; exact lv_ldiv hx hb hd hφ (k a1 a2 H locs ls hP hS hl)
    · cases h
  · split at h
    · cases h; exact lv_lrem hx hb hd hφ (k a1 a2 H locs ls hP hS hl)
    · cases h
  · split at h
    · cases h; exact lv_i2l hx hb hd rfl (k a1 a2 H locs ls hP hS hl)
    · cases h
  · split at h
    · cases h; exact lv_l2i hx hb hd rfl (k a1 a2 H locs ls hP hS hl)
    · cases h
  · split at h
    · cases h; exact lv_dup hx hb hd rfl (k a1 a2 H locs ls hP hS hl)
    · cases h; exact lv_dup hx hb hd rfl (k a1 a2 H locs ls hP hS hl)
    · cases h
  · split at h
    · cases h; exact lv_pop hx hb hd rfl (k a1 a2 H locs ls hP hS hl)
    · cases h
  · split at h
    · cases h; exact lv_dup2_11 hx hb hd rfl rfl (k a1 a2 H locs ls hP hS hl)
    · cases h
  -- getfield
  · split at h
    · split at h
      · rename_i c1 i r _ c' j hf
        split at h
        · rename_i hcc
          have hcc : c1 = c' := by simpa using hcc
          subst hcc
          cases h
          have hfl := fT_in hf
          obtain ⟨hc9, hj⟩ := FL_ok _ hfl
          obtain ⟨n, hn, hn2⟩ := cel_get (z := z) (i := i) (Nat.lt_trans hc9 (by decide)) hφ
          have he := hn2 cA cQ ad M
          rw [cont_obj hc9] at he
          exact va_get (own := cN own) (ref := (tT c1 j).1) hx hb hts (in_l hc9) hown hK hP n he (cl_at hc9) j hj (hts _ (in_f hfl)) (fun _ q => q) (rng_get hj) hd (k a1 a2 H locs ls hP hS hl)
        · cases h
      · cases h
    · cases h
  -- putfield
  · split at h
    · split at h
      · rename_i x c1 i r _ c' j hf
        split at h
        · rename_i hcc
          rw [Bool.and_eq_true] at hcc
          obtain ⟨hcc, hI⟩ := hcc
          have hcc : c1 = c' := by simpa using hcc
          subst hcc
          cases h
          have hfl := fT_in hf
          obtain ⟨hc9, hj⟩ := FL_ok _ hfl
          obtain ⟨n, hn, hn2⟩ := cel_get (z := z) (i := i) (Nat.lt_trans hc9 (by decide)) hφ
          have he := hn2 cA cQ ad M
          rw [cont_obj hc9] at he
          obtain ⟨hfin, hde⟩ := isI_ok hc9 hj hI
          have hset : (cel z cA cQ ad M).set n (ad c1 i, .inr (c1, ((List.range (nfl c1)).map (fun j => tr ad (rd M c1 i j))).set j (.int x))) = cel z cA cQ ad (sI M c1 i j x) := by
            refine cel_set hz (q := (c1, i)) hn cont_sI ?_
            rw [cont_obj hc9]
            have hv : Value.int x = tr ad (rd (sI M c1 i j x) c1 i j) := by
              rw [rd_int hI, gI_sI, if_pos ⟨rfl, rfl, rfl⟩]
              rfl
            rw [hv]
            exact congrArg (fun q => Sum.inr (c1, q)) (rng_set (f := fun j => tr ad (rd M c1 i j)) (g := fun j' => tr ad (rd (sI M c1 i j x) c1 i j')) hj (fun j' hj' => by
              rw [rd_congr (M := sI M c1 i j x) (M' := M) (by rw [gI_sI, if_neg (fun q => hj' q.2.2)]) rfl]))
          refine va_put (own := cN own) (ref := (tT c1 j).1) hx hb hts (in_l hc9) (tyT c1) (tyT_ok hc9) (nmT_ok hc9) hown hK hP (hD M) hS n he (cl_at hc9) j hj (hts _ (in_f hfl)) (fun _ q => q) hfin (v := .int x) hde rfl rfl (by simpa using hj) hd (fun H1 locs1 hP1 _ hS1 => ?_)
          rw [hset] at hP1
          exact k a1 a2 H1 locs1 ls hP1 hS1 hl
        · cases h
      · cases h
    · split at h
      · rename_i c2 i2 c1 i r _ c' j hf
        split at h
        · rename_i hcc
          simp only [Bool.and_eq_true, Bool.or_eq_true, beq_iff_eq] at hcc
          obtain ⟨⟨hcc, hc7⟩, hj12, hc2⟩ := hcc
          subst hcc; subst hc7; subst hc2
          cases h
          have hfl := fT_in hf
          obtain ⟨hc9, hj⟩ := FL_ok _ hfl
          obtain ⟨n, hn, hn2⟩ := cel_get (z := z) (i := i) (Nat.lt_trans hc9 (by decide)) hφ
          have he := hn2 cA cQ ad M
          rw [cont_obj hc9] at he
          have hfin : (tT 7 j).2.2.2 = false ∧ parseFieldDescriptor (tT 7 j).2.2.1 = some (.object "BlueByTouch$House") := by
            rcases hj12 with rfl | rfl <;> exact ⟨by decide +kernel, by decide +kernel⟩
          have hset : (cel z cA cQ ad M).set n (ad 7 i, .inr (7, ((List.range (nfl 7)).map (fun j => tr ad (rd M 7 i j))).set j (.ref (ad 1 i2)))) = cel z cA cQ ad (sR M 7 i j i2) := by
            refine cel_set hz (q := (7, i)) hn cont_sR ?_
            rw [cont_obj hc9]
            have hv : Value.ref (ad 1 i2) = tr ad (rd (sR M 7 i j i2) 7 i j) := by
              rcases hj12 with rfl | rfl
              · show _ = Value.ref (ad 1 (gR (sR M 7 i 1 i2) 7 i 1))
                rw [gR_sR, if_pos ⟨rfl, rfl, rfl⟩]
              · show _ = Value.ref (ad 1 (gR (sR M 7 i 2 i2) 7 i 2))
                rw [gR_sR, if_pos ⟨rfl, rfl, rfl⟩]
            rw [hv]
            exact congrArg (fun q => Sum.inr (7, q)) (rng_set (f := fun j => tr ad (rd M 7 i j)) (g := fun j' => tr ad (rd (sR M 7 i j i2) 7 i j')) hj (fun j' hj' => by
              rw [rd_congr (M := sR M 7 i j i2) (M' := M) rfl (by rw [gR_sR, if_neg (fun q => hj' q.2.2)])]))
          refine va_put (own := cN own) (ref := (tT 7 j).1) hx hb hts (in_l hc9) (tyT 7) (tyT_ok hc9) (nmT_ok hc9) hown hK hP (hD M) hS n he (cl_at hc9) j hj (hts _ (in_f hfl)) (fun _ q => q) hfin.1 (v := .ref (ad 1 i2)) hfin.2 rfl rfl (by simpa using hj) hd (fun H1 locs1 hP1 _ hS1 => ?_)
          rw [hset] at hP1
          exact k a1 a2 H1 locs1 ls hP1 hS1 hl
        · cases h
      · cases h
    · cases h
  -- arraylength
  · split at h
    · split at h
      · cases h
        obtain ⟨n, hn, hn2⟩ := cel_get (z := z) (by decide) hφ
        exact va_alen hx hb hK hP n 0 (hn2 cA cQ ad M) rfl rfl hd (k a1 a2 H locs ls hP hS hl)
      · cases h
        obtain ⟨n, hn, hn2⟩ := cel_get (z := z) (by decide) hφ
        exact va_alen hx hb hK hP n 1 (hn2 cA cQ ad M) rfl rfl hd (k a1 a2 H locs ls hP hS hl)
      · cases h
        obtain ⟨n, hn, hn2⟩ := cel_get (z := z) (by decide) hφ
        exact va_alen hx hb hK hP n 0 (hn2 cA cQ ad M) rfl rfl hd (k a1 a2 H locs ls hP hS hl)
      · split at h
        · cases h
          obtain ⟨h1, h2, h3⟩ := hsc _ _ rfl _
          exact va_slen hx hb h1 h2 h3 hS hd (k a1 a2 H locs ls hP hS hl)
        · cases h
      · cases h
    · cases h
  -- iaload
  · split at h
    · split at h
      · cases h
        obtain ⟨n, hn, hn2⟩ := cel_get (z := z) (by decide) hφ.1
        exact va_iald hx hb hK hP n 0 (hn2 cA cQ ad M) rfl hφ.2 hd (k a1 a2 H locs ls hP hS hl)
      · cases h
        obtain ⟨n, hn, hn2⟩ := cel_get (z := z) (by decide) hφ.1
        exact va_iald hx hb hK hP n 0 (hn2 cA cQ ad M) rfl hφ.2 hd (k a1 a2 H locs ls hP hS hl)
      · split at h
        · cases h
          obtain ⟨h1, h2, h3⟩ := hsc _ _ rfl _
          exact va_sld hx hb h1 h2 h3 hS hφ hd (k a1 a2 H locs ls hP hS hl)
        · cases h
      · cases h
    · cases h
  -- iastore
  · split at h
    · rename_i v x c1 a r
      split at h
      · cases h
        obtain ⟨n, hn, hn2⟩ := cel_get (z := z) (by decide) hφ.1
        refine va_iast hx hb hK hP (hD M) hS n 0 (hn2 cA cQ ad M) rfl hφ.2 hd (fun H1 locs1 hP1 _ hS1 => ?_)
        rw [cel_set hz (q := (9, a)) hn (M' := sI M 9 a x.toNatClampNeg v) cont_sI (by
          show _ = Sum.inl (cA, aln a, Sum.inl (gI (sI M 9 a x.toNatClampNeg v) 9 a))
          congr 4
          funext j
          rw [gI_sI]
          simp only [true_and]
          rfl)] at hP1
        exact k a1 a2 H1 locs1 ls hP1 hS1 hl
      · cases h
        obtain ⟨n, hn, hn2⟩ := cel_get (z := z) (by decide) hφ.1
        refine va_iast hx hb hK hP (hD M) hS n 0 (hn2 cA cQ ad M) rfl hφ.2 hd (fun H1 locs1 hP1 _ hS1 => ?_)
        rw [cel_set hz (q := (11, a)) hn (M' := sI M 11 a x.toNatClampNeg v) cont_sI (by
          show _ = Sum.inl (cA, alm a, Sum.inl (gI (sI M 11 a x.toNatClampNeg v) 11 a))
          congr 4
          funext j
          rw [gI_sI]
          simp only [true_and]
          rfl)] at hP1
        exact k a1 a2 H1 locs1 ls hP1 hS1 hl
      · cases h
    · cases h
  -- aaload
  · split at h
    · split at h
      · cases h
        obtain ⟨n, hn, hn2⟩ := cel_get (z := z) (by decide) hφ.1
        exact va_aldq hx hb hK hP n 1 (hn2 cA cQ ad M) rfl hφ.2 hd (k a1 a2 H locs ls hP hS hl)
      · cases h
    · cases h
  -- aastore
  · split at h
    · rename_i c2 v x c1 a r
      split at h
      · rename_i hcc
        simp only [Bool.and_eq_true, beq_iff_eq] at hcc
        obtain ⟨hc, hc2⟩ := hcc
        subst hc; subst hc2
        cases h
        obtain ⟨n, hn, hn2⟩ := cel_get (z := z) (by decide) hφ.1
        obtain ⟨n5, hn5, hn52⟩ := cel_get (z := z) (by decide) hφ.2.1
        refine va_astq (r := (RX5, TX5, 4)) hx hb hK hP (hD M) hS n 1 n5 5 (hn2 cA cQ ad M) rfl (hn52 cA cQ ad M) rfl hφ.2.2 hd (fun H1 locs1 hP1 _ hS1 => ?_)
        rw [cel_set hz (q := (10, a)) hn (M' := sR M 10 a x.toNatClampNeg v) cont_sR (by
          show _ = Sum.inl (cQ, alq a, Sum.inr (Sum.inr (Sum.inr (Sum.inr (fun j => some (ad 5 (gR (sR M 10 a x.toNatClampNeg v) 10 a j)))))))
          congr 7
          funext j
          rw [gR_sR]
          simp only [true_and, va_up]
          split <;> rfl)] at hP1
        exact k a1 a2 H1 locs1 ls hP1 hS1 hl
      · cases h
    · cases h
  · cases h
end SND
