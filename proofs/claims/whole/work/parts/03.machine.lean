/-! AN ABSTRACT MACHINE for the methods that make no cells: values, a memory of fixed shape, one instruction -/
abbrev bV : Type := Int32 ⊕ (Nat × Nat) ⊕ Int64 ⊕ Unit
abbrev vi (x : Int32) : bV := .inl x
abbrev vr (c i : Nat) : bV := .inr (.inl (c, i))
abbrev vl (x : Int64) : bV := .inr (.inr (.inl x))
abbrev vu : bV := .inr (.inr (.inr ()))
abbrev bM : Type := (Nat → Nat → Nat → Int32) × (Nat → Nat → Nat → Nat)
def gI (M : bM) (c i j : Nat) : Int32 := M.1 c i j
def gR (M : bM) (c i j : Nat) : Nat := M.2 c i j
def sI (M : bM) (c i j : Nat) (v : Int32) : bM := (fun c' i' j' => if c' = c ∧ i' = i ∧ j' = j then v else M.1 c' i' j', M.2)
def sR (M : bM) (c i j : Nat) (v : Nat) : bM := (M.1, fun c' i' j' => if c' = c ∧ i' = i ∧ j' = j then v else M.2 c' i' j')
theorem gI_sI (M : bM) (c i j : Nat) (v : Int32) (c' i' j' : Nat) : gI (sI M c i j v) c' i' j' = if c' = c ∧ i' = i ∧ j' = j then v else gI M c' i' j' := rfl
theorem gR_sR (M : bM) (c i j : Nat) (v : Nat) (c' i' j' : Nat) : gR (sR M c i j v) c' i' j' = if c' = c ∧ i' = i ∧ j' = j then v else gR M c' i' j' := rfl
theorem gR_sI (M : bM) (c i j : Nat) (v : Int32) (c' i' j' : Nat) : gR (sI M c i j v) c' i' j' = gR M c' i' j' := rfl
theorem gI_sR (M : bM) (c i j : Nat) (v : Nat) (c' i' j' : Nat) : gI (sR M c i j v) c' i' j' = gI M c' i' j' := rfl
/-- how many cells there are of a kind (0 to 8 the objects by their classes, 9 the class's rows, 10 the rows of stands, 11 the model's rows); z: is the model there -/
def cnt (z c : Nat) : Nat := match c with
  | 0 => 1 | 1 => 2 | 2 => 1 | 3 => 2 | 4 => 32 | 5 => 12 | 6 => 1 | 7 => 1 | 8 => z | 9 => 32 | 10 => 2 | 11 => 10 * z | _ => 0
def aln (r : Nat) : Nat := [200, 3, 9, 9, 10, 10, 10, 4, 4, 9, 9, 10, 10, 10, 4, 4, 9, 9, 9, 9, 9, 9, 9, 9, 9, 9, 9, 9, 6, 6, 3, 9].getD r 0
def alm (r : Nat) : Nat := [200, 60, 60, 11, 88, 22, 6, 11, 9, 9].getD r 0
def alq (r : Nat) : Nat := [8, 2].getD r 0
/-- what a field holds -/
def rd (M : bM) (c i j : Nat) : bV := match c with
  | 0 => match j with | 0 => vr 4 28 | 1 => vr 4 29 | _ => vi (gI M 0 i j)
  | 1 => match j with | 0 => vr 4 (2 + 7 * i) | 1 => vr 4 (3 + 7 * i) | 2 => vr 4 (4 + 7 * i) | 3 => vr 4 (5 + 7 * i) | 4 => vr 4 (6 + 7 * i) | 5 => vr 4 (7 + 7 * i) | 6 => vr 4 (8 + 7 * i) | _ => vi (gI M 1 i j)
  | 2 => match j with | 0 => vr 4 0 | 1 => vr 4 1 | _ => vi (gI M 2 i j)
  | 3 => match j with | 0 => vr 10 i | _ => vi (gI M 3 i j)
  | 4 => vr 9 i
  | 5 => match j with | 0 => vr 4 (16 + i) | _ => vi (gI M 5 i j)
  | 7 => match j with | 0 => vr 2 0 | 1 => vr 1 (gR M 7 i 1) | 2 => vr 1 (gR M 7 i 2) | 3 => vr 5 0 | 4 => vr 5 1 | 5 => vr 3 0 | 6 => vr 3 1 | 7 => vr 0 0 | 8 => vr 6 0 | 9 => vr 4 30 | _ => vr 4 31
  | 8 => match j with | 0 => vr 11 0 | 2 => vr 11 1 | 3 => vr 11 2 | 4 => vr 11 3 | 5 => vr 11 4 | 7 => vr 11 5 | 9 => vr 11 6 | 12 => vr 11 7 | 13 => vr 11 8 | 14 => vr 11 9 | _ => vi (gI M 8 i j)
  | _ => vi (gI M c i j)
/-- may an int be stored there -/
def isI (c j : Nat) : Bool := match c with
  | 0 => j == 2 | 1 => decide (7 ≤ j) && decide (j < 11) | 2 => j == 2 || j == 3 | 3 => j == 1 | 5 => decide (1 ≤ j) && decide (j < 4) | 6 => decide (j < 2) | 8 => j == 1 || j == 6 || j == 8 || j == 10 || j == 11 | _ => false
def ldI (L : List bV) (n : Nat) (st : List bV) (M : bM) : Option (Prop × List bV × List bV × bM) := match L[n]? with | some (.inl x) => some (True, L, vi x :: st, M) | _ => none
def ldR (L : List bV) (n : Nat) (st : List bV) (M : bM) : Option (Prop × List bV × List bV × bM) := match L[n]? with | some (.inr (.inl q)) => some (True, L, .inr (.inl q) :: st, M) | _ => none
def ldL (L : List bV) (n : Nat) (st : List bV) (M : bM) : Option (Prop × List bV × List bV × bM) := match L[n]? with | some (.inr (.inr (.inl x))) => some (True, L, vl x :: st, M) | _ => none
def noL (v : bV) : Bool := match v with | .inr (.inr (.inl _)) => false | _ => true
def noP (L : List bV) (n : Nat) : Bool := match n with | 0 => true | m + 1 => match L[m]? with | some (.inr (.inr (.inl _))) => false | _ => true
def stA (lf : Bool) (L : List bV) (n : Nat) (v : bV) (st : List bV) (M : bM) : Option (Prop × List bV × List bV × bM) := match decide (n < L.length), lf with
  | true, false => some (True, L.set n v, st, M)
  | true, true => match noP L n with | true => some (True, L.set n v, st, M) | false => none
  | _, _ => none
def stL (lf : Bool) (L : List bV) (n : Nat) (x : Int64) (st : List bV) (M : bM) : Option (Prop × List bV × List bV × bM) := match lf && (decide (n + 1 < L.length) && noP L n) with
  | true => some (True, (L.set n (vl x)).set (n + 1) vu, st, M)
  | false => none
def iin (L : List bV) (lf : Bool) (n : Nat) (d : Int) (st : List bV) (M : bM) : Option (Prop × List bV × List bV × bM) := match L[n]? with | some (.inl x) => stA lf L n (vi (x + Int32.ofInt d)) st M | _ => none
/-- an instruction that goes on behind itself: what it asks, and what is then -/
def sx (z own : Nat) (lf : Bool) (sc : Option (Nat × (Nat → Int32))) (ins : Instr) (len : Nat) (L st : List bV) (M : bM) : Option (Prop × List bV × List bV × bM) := match ins, len with
  | .iconst n, 1 => some (True, L, vi (Int32.ofInt n) :: st, M)
  | .bipush n, 2 => some (True, L, vi (Int8.ofInt n).toInt32 :: st, M)
  | .sipush n, 3 => some (True, L, vi (Int16.ofInt n).toInt32 :: st, M)
  | .lconst n, 1 => some (True, L, vl (Int64.ofNat n) :: st, M)
  | .ldc_w i, 3 => match cI own i with | some v => some (True, L, vi v :: st, M) | none => none
  | .ldc2_w i, 3 => match cJ own i with | some v => some (True, L, vl v :: st, M) | none => none
  | .iload n, 2 => ldI L n st M
  | .iload_n n, 1 => ldI L n st M
  | .aload n, 2 => ldR L n st M
  | .aload_n n, 1 => ldR L n st M
  | .lload n, 2 => ldL L n st M
  | .lload_n n, 1 => ldL L n st M
  | .istore n, 2 => match st with | .inl x :: r => stA lf L n (vi x) r M | _ => none
  | .istore_n n, 1 => match st with | .inl x :: r => stA lf L n (vi x) r M | _ => none
  | .astore n, 2 => match st with | .inr (.inl q) :: r => stA lf L n (.inr (.inl q)) r M | _ => none
  | .astore_n n, 1 => match st with | .inr (.inl q) :: r => stA lf L n (.inr (.inl q)) r M | _ => none
  | .lstore n, 2 => match st with | .inr (.inr (.inl x)) :: r => stL lf L n x r M | _ => none
  | .lstore_n n, 1 => match st with | .inr (.inr (.inl x)) :: r => stL lf L n x r M | _ => none
  | .iinc n d, 3 => iin L lf n d st M
  | .iadd, 1 => match st with | .inl y :: .inl x :: r => some (True, L, vi (x + y) :: r, M) | _ => none
  | .isub, 1 => match st with | .inl y :: .inl x :: r => some (True, L, vi (x - y) :: r, M) | _ => none
  | .imul, 1 => match st with | .inl y :: .inl x :: r => some (True, L, vi (x * y) :: r, M) | _ => none
  | .iand, 1 => match st with | .inl y :: .inl x :: r => some (True, L, vi (x &&& y) :: r, M) | _ => none
  | .ior, 1 => match st with | .inl y :: .inl x :: r => some (True, L, vi (x ||| y) :: r, M) | _ => none
  | .ixor, 1 => match st with | .inl y :: .inl x :: r => some (True, L, vi (x ^^^ y) :: r, M) | _ => none
  | .idiv, 1 => match st with | .inl y :: .inl x :: r => some (¬ y = 0, L, vi (x / y) :: r, M) | _ => none
  | .irem, 1 => match st with | .inl y :: .inl x :: r => some (¬ y = 0, L, vi (x - x / y * y) :: r, M) | _ => none
  | .ishl, 1 => match st with | .inl y :: .inl x :: r => some (True, L, vi (x <<< (y &&& 31)) :: r, M) | _ => none
  | .ishr, 1 => match st with | .inl y :: .inl x :: r => some (True, L, vi (x >>> (y &&& 31)) :: r, M) | _ => none
  | .iushr, 1 => match st with | .inl y :: .inl x :: r => some (True, L, vi (x.toUInt32 >>> (y.toUInt32 &&& Int32.toUInt32 31)).toInt32 :: r, M) | _ => none
  | .ladd, 1 => match st with | .inr (.inr (.inl y)) :: .inr (.inr (.inl x)) :: r => some (True, L, vl (x + y) :: r, M) | _ => none
  | .lmul, 1 => match st with | .inr (.inr (.inl y)) :: .inr (.inr (.inl x)) :: r => some (True, L, vl (x * y) :: r, M) | _ => none
  | .ldiv, 1 => match st with | .inr (.inr (.inl y)) :: .inr (.inr (.inl x)) :: r => some (¬ y = 0, L, vl (x / y) :: r, M) | _ => none
  | .lrem, 1 => match st with | .inr (.inr (.inl y)) :: .inr (.inr (.inl x)) :: r => some (¬ y = 0, L, vl (x - x / y * y) :: r, M) | _ => none
  | .i2l, 1 => match st with | .inl x :: r => some (True, L, vl x.toInt64 :: r, M) | _ => none
  | .l2i, 1 => match st with | .inr (.inr (.inl x)) :: r => some (True, L, vi x.toInt32 :: r, M) | _ => none
  | .dup, 1 => match st with | .inl x :: r => some (True, L, vi x :: vi x :: r, M) | .inr (.inl q) :: r => some (True, L, .inr (.inl q) :: .inr (.inl q) :: r, M) | _ => none
  | .pop, 1 => match st with | .inl _ :: r => some (True, L, r, M) | _ => none
  | .dup2, 1 => match st with | .inl y :: .inr (.inl q) :: r => some (True, L, vi y :: .inr (.inl q) :: vi y :: .inr (.inl q) :: r, M) | _ => none
  | .getfield idx, 3 => match st with
    | .inr (.inl (c, i)) :: r => match fT own idx with
      | some (c', j) => match c == c' with | true => some (i < cnt z c, L, rd M c i j :: r, M) | false => none
      | none => none
    | _ => none
  | .putfield idx, 3 => match st with
    | .inl x :: .inr (.inl (c, i)) :: r => match fT own idx with
      | some (c', j) => match c == c' && isI c j with | true => some (i < cnt z c, L, r, sI M c i j x) | false => none
      | none => none
    | .inr (.inl (c2, i2)) :: .inr (.inl (c, i)) :: r => match fT own idx with
      | some (c', j) => match (c == c' && c == 7) && ((j == 1 || j == 2) && c2 == 1) with | true => some (i < cnt z c, L, r, sR M c i j i2) | false => none
      | none => none
    | _ => none
  | .arraylength, 1 => match st with
    | .inr (.inl (c, a)) :: r => match c with
      | 9 => some (a < cnt z 9, L, vi (nI (aln a)) :: r, M)
      | 10 => some (a < cnt z 10, L, vi (nI (alq a)) :: r, M)
      | 11 => some (a < cnt z 11, L, vi (nI (alm a)) :: r, M)
      | 12 => match sc with | some (l, _) => some (True, L, vi (nI l) :: r, M) | none => none
      | _ => none
    | _ => none
  | .iaload, 1 => match st with
    | .inl x :: .inr (.inl (c, a)) :: r => match c with
      | 9 => some (a < cnt z 9 ∧ vp_in x (aln a), L, vi (gI M 9 a x.toNatClampNeg) :: r, M)
      | 11 => some (a < cnt z 11 ∧ vp_in x (alm a), L, vi (gI M 11 a x.toNatClampNeg) :: r, M)
      | 12 => match sc with | some (l, xs) => some (vp_in x l, L, vi (xs x.toNatClampNeg) :: r, M) | none => none
      | _ => none
    | _ => none
  | .iastore, 1 => match st with
    | .inl v :: .inl x :: .inr (.inl (c, a)) :: r => match c with
      | 9 => some (a < cnt z 9 ∧ vp_in x (aln a), L, r, sI M 9 a x.toNatClampNeg v)
      | 11 => some (a < cnt z 11 ∧ vp_in x (alm a), L, r, sI M 11 a x.toNatClampNeg v)
      | _ => none
    | _ => none
  | .aaload, 1 => match st with
    | .inl x :: .inr (.inl (c, a)) :: r => match c with
      | 10 => some (a < cnt z 10 ∧ vp_in x (alq a), L, vr 5 (gR M 10 a x.toNatClampNeg) :: r, M)
      | _ => none
    | _ => none
  | .aastore, 1 => match st with
    | .inr (.inl (c2, v)) :: .inl x :: .inr (.inl (c, a)) :: r => match c == 10 && c2 == 5 with
      | true => some (a < cnt z 10 ∧ v < cnt z 5 ∧ vp_in x (alq a), L, r, sR M 10 a x.toNatClampNeg v)
      | false => none
    | _ => none
  | _, _ => none
def jmp (pc : Nat) (off : Int) (k : Nat → Prop) : Prop := match (pc : Int) + off with | .ofNat t => k t | .negSucc _ => False
def cnd (c : Jvm.ClassFile.Cond) (x y : Int32) (a b : Prop) : Prop := match c with
  | .eq => if x = y then a else b
  | .ne => if ¬ x = y then a else b
  | .lt => if x < y then a else b
  | .ge => if y ≤ x then a else b
  | .gt => if y < x then a else b
  | .le => if x ≤ y then a else b
def swk (ps : List (Int × Int)) (d : Int) (x : Int32) (k : Int → Prop) : Prop := match ps with
  | [] => k d
  | (a, o) :: r => if x.toInt = a then k o else swk r d x k
def tsw (lo : Int) : List Int → List (Int × Int)
  | [] => []
  | o :: r => (lo, o) :: tsw (lo + 1) r
def psh (v : bV) (r : List bV) : List bV := match v with | .inr (.inr (.inr _)) => r | v => v :: r
/-- one instruction: what has to hold for it to come to what k says -/
def stepI (z : Nat) (rn : Nat → List bV → bM → (bV → bM → Prop) → Prop) (own rt : Nat) (lf : Bool) (sc : Option (Nat × (Nat → Int32))) (Q : bV → bM → Prop) (ins : Instr) (len pc : Nat) (L st : List bV) (M : bM) (k : Nat → List bV → List bV → bM → Prop) : Prop := match ins with
  | .ifCond c off => match st with | .inl x :: r => len = 3 ∧ jmp pc off fun t => cnd c x 0 (k t L r M) (k (pc + 3) L r M) | _ => False
  | .if_icmp c off => match st with | .inl y :: .inl x :: r => len = 3 ∧ jmp pc off fun t => cnd c x y (k t L r M) (k (pc + 3) L r M) | _ => False
  | .ifnull _ => match st with | .inr (.inl _) :: r => len = 3 ∧ k (pc + 3) L r M | _ => False
  | .ifnonnull off => match st with | .inr (.inl _) :: r => len = 3 ∧ jmp pc off fun t => k t L r M | _ => False
  | .goto off => len = 3 ∧ jmp pc off fun t => k t L st M
  | .tableswitch d lo hi offs => match st with | .inl x :: r => (hi + 1 = lo + offs.toList.length) ∧ swk (tsw lo offs.toList) d x fun o => jmp pc o fun t => k t L r M | _ => False
  | .lookupswitch d ps => match st with | .inl x :: r => ((ps.toList.zip (ps.toList.drop 1)).all (fun (a, next) => a.1 < next.1) = true) ∧ swk ps.toList d x fun o => jmp pc o fun t => k t L r M | _ => False
  | .invokevirtual idx => match cT own idx with
    | some (id, n) => match (mt id), st.drop n with
      | some (c', _, _, false, _), .inr (.inl (c, i)) :: r => match c == c' && decide (r.length ≤ 4) && decide (n ≤ st.length) with
        | true => len = 3 ∧ i < cnt z c ∧ rn id (vr c i :: (st.take n).reverse) M fun v M' => k (pc + 3) L (psh v r) M'
        | false => False
      | _, _ => False
    | none => False
  | .invokestatic idx => match cT own idx with
    | some (145, _) => match st with
      | .inl y :: .inl x :: r => match decide (r.length ≤ 4) with
        | true => len = 3 ∧ k (pc + 3) L (vi (if x < y then y else x) :: r) M
        | false => False
      | _ => False
    | some (146, _) => match st with
      | .inl y :: .inl x :: r => match decide (r.length ≤ 4) with
        | true => len = 3 ∧ k (pc + 3) L (vi (if y < x then y else x) :: r) M
        | false => False
      | _ => False
    | some (id, n) => match (mt id) with
      | some (c', _, _, true, _) => match decide ((st.drop n).length ≤ 4) && (decide (n ≤ st.length) && decide (c' < 11)) with
        | true => len = 3 ∧ rn id (st.take n).reverse M fun v M' => k (pc + 3) L (psh v (st.drop n)) M'
        | false => False
      | _ => False
    | none => False
  | .ireturn => match st with
    | [.inl v] => match rt with
      | 1 => len = 1 ∧ Q (vi v) M
      | 2 => len = 1 ∧ (v = 0 ∨ v = 1) ∧ Q (vi v) M
      | _ => False
    | _ => False
  | .return_ => match st with
    | [] => match rt with
      | 0 => len = 1 ∧ Q vu M
      | _ => False
    | _ => False
  | ins => match sx z own lf sc ins len L st M with
    | some (φ, L', st', M') => φ ∧ k (pc + len) L' st' M'
    | none => False
theorem jmp_mono {pc : Nat} {off : Int} {k k' : Nat → Prop} (h : ∀ t, k t → k' t) : jmp pc off k → jmp pc off k' := by
  unfold jmp
  intro q
  split at q
  · exact h _ q
  · exact q
theorem ite_mo {c : Prop} [h : Decidable c] {a b a' b' : Prop} (ha : a → a') (hb : b → b') : (if c then a else b) → (if c then a' else b') := by
  by_cases q : c
  · rw [if_pos q, if_pos q]; exact ha
  · rw [if_neg q, if_neg q]; exact hb
theorem cnd_mono {c : Jvm.ClassFile.Cond} {x y : Int32} {a b a' b' : Prop} (ha : a → a') (hb : b → b') : cnd c x y a b → cnd c x y a' b' := by
  cases c <;> exact ite_mo ha hb
theorem swk_mono {ps : List (Int × Int)} {d : Int} {x : Int32} {k k' : Int → Prop} (h : ∀ t, k t → k' t) : swk ps d x k → swk ps d x k' := by
  induction ps with
  | nil => exact h d
  | cons a r ih =>
    unfold swk
    intro q
    split at q
    · rename_i c; rw [if_pos c]; exact h _ q
    · rename_i c; rw [if_neg c]; exact ih q
theorem stepI_mono {z : Nat} {rn : Nat → List bV → bM → (bV → bM → Prop) → Prop} (hrn : ∀ id as M (Q Q' : bV → bM → Prop), (∀ v M', Q v M' → Q' v M') → rn id as M Q → rn id as M Q') {own rt : Nat} {lf : Bool} {sc : Option (Nat × (Nat → Int32))} {Q Q' : bV → bM → Prop} (hQ : ∀ v M', Q v M' → Q' v M') {ins : Instr} {len pc : Nat} {L st : List bV} {M : bM} {k k' : Nat → List bV → List bV → bM → Prop} (hk : ∀ pc L st M, k pc L st M → k' pc L st M) :
    stepI z rn own rt lf sc Q ins len pc L st M k → stepI z rn own rt lf sc Q' ins len pc L st M k' := by
  unfold stepI
  intro q
  split at q
  · split at q
    · exact ⟨q.1, jmp_mono (fun _ => cnd_mono (hk _ _ _ _) (hk _ _ _ _)) q.2⟩
    · exact q
  · split at q
    · exact ⟨q.1, jmp_mono (fun _ => cnd_mono (hk _ _ _ _) (hk _ _ _ _)) q.2⟩
    · exact q
  · split at q
    · exact ⟨q.1, hk _ _ _ _ q.2⟩
    · exact q
  · split at q
    · exact ⟨q.1, jmp_mono (fun _ => hk _ _ _ _) q.2⟩
    · exact q
  · exact ⟨q.1, jmp_mono (fun _ => hk _ _ _ _) q.2⟩
  · split at q
    · exact ⟨q.1, swk_mono (fun _ => jmp_mono fun _ => hk _ _ _ _) q.2⟩
    · exact q
  · split at q
    · exact ⟨q.1, swk_mono (fun _ => jmp_mono fun _ => hk _ _ _ _) q.2⟩
    · exact q
  · split at q
    · split at q
      · split at q
        · exact ⟨q.1, q.2.1, hrn _ _ _ _ _ (fun _ _ => hk _ _ _ _) q.2.2⟩
        · exact q
      · exact q
    · exact q
  · split at q
    · split at q
      · split at q
        · exact ⟨q.1, hk _ _ _ _ q.2⟩
        · exact q
      · exact q
    · split at q
      · split at q
        · exact ⟨q.1, hk _ _ _ _ q.2⟩
        · exact q
      · exact q
    · split at q
      · split at q
        · exact ⟨q.1, hrn _ _ _ _ _ (fun _ _ => hk _ _ _ _) q.2⟩
        · exact q
      · exact q
    · exact q
  · split at q
    · split at q
      · exact ⟨q.1, hQ _ _ q.2⟩
      · exact ⟨q.1, q.2.1, hQ _ _ q.2.2⟩
      · exact q
    · exact q
  · split at q
    · split at q
      · exact ⟨q.1, hQ _ _ q.2⟩
      · exact q
    · exact q
  · split at q
    · exact ⟨q.1, hk _ _ _ _ q.2⟩
    · exact q
/-- what is closed under the instructions of a code, from behind -/
def Clo (z : Nat) (rn : Nat → List bV → bM → (bV → bM → Prop) → Prop) (own rt : Nat) (lf : Bool) (sc : Option (Nat × (Nat → Int32))) (cc : ByteArray) (Q : bV → bM → Prop) (V : Nat → List bV → List bV → bM → Prop) : Prop :=
  ∀ (pc : Nat) (L st : List bV) (M : bM) (ins : Instr) (len : Nat), decode cc pc = .ok (ins, len) → stepI z rn own rt lf sc Q ins len pc L st M V → V pc L st M
/-- it comes to an end that Q says -/
def ExG (z : Nat) (rn : Nat → List bV → bM → (bV → bM → Prop) → Prop) (own rt : Nat) (lf : Bool) (sc : Option (Nat × (Nat → Int32))) (cc : ByteArray) (Q : bV → bM → Prop) (pc : Nat) (L st : List bV) (M : bM) : Prop :=
  ∀ V : Nat → List bV → List bV → bM → Prop, Clo z rn own rt lf sc cc Q V → V pc L st M
/-- a method of that number, at most d calls deep -/
def Run (z : Nat) : Nat → Nat → List bV → bM → (bV → bM → Prop) → Prop
  | 0, _, _, _, _ => False
  | d + 1, id, as, M, Q => match mt id with
    | some (own, rt, lf, _, nL, cc) => match as.all noL && decide (as.length ≤ nL) with
      | true => ExG z (Run z d) own rt lf none cc Q 0 (as ++ List.replicate (nL - as.length) vu) [] M
      | false => False
    | none => False
theorem ExG_mono {z : Nat} {rn : Nat → List bV → bM → (bV → bM → Prop) → Prop} {own rt : Nat} {lf : Bool} {sc : Option (Nat × (Nat → Int32))} {cc : ByteArray} {Q Q' : bV → bM → Prop} (hrn : ∀ id as M (Q Q' : bV → bM → Prop), (∀ v M', Q v M' → Q' v M') → rn id as M Q → rn id as M Q') (hQ : ∀ v M', Q v M' → Q' v M') {pc : Nat} {L st : List bV} {M : bM} (h : ExG z rn own rt lf sc cc Q pc L st M) : ExG z rn own rt lf sc cc Q' pc L st M := by
  intro V hV
  exact h V (fun pc L st M ins len hd hs => hV pc L st M ins len hd (stepI_mono hrn hQ (fun _ _ _ _ q => q) hs))
theorem Run_mono (z d : Nat) : ∀ id as M (Q Q' : bV → bM → Prop), (∀ v M', Q v M' → Q' v M') → Run z d id as M Q → Run z d id as M Q' := by
  induction d with
  | zero => intro id as M Q Q' _ h; exact h
  | succ d ih =>
    intro id as M Q Q' hQ h
    unfold Run at h ⊢
    split at h
    · split at h
      · exact ExG_mono ih hQ h
      · exact h
    · exact h
abbrev Ex (z d own rt : Nat) (lf : Bool) (cc : ByteArray) (Q : bV → bM → Prop) (pc : Nat) (L st : List bV) (M : bM) : Prop := ExG z (Run z d) own rt lf none cc Q pc L st M
theorem ExG_eq {z d own rt : Nat} {lf : Bool} {sc : Option (Nat × (Nat → Int32))} {cc : ByteArray} {Q : bV → bM → Prop} {pc : Nat} {L st : List bV} {M : bM} {ins : Instr} {len : Nat} (hd : decode cc pc = .ok (ins, len)) :
    ExG z (Run z d) own rt lf sc cc Q pc L st M = stepI z (Run z d) own rt lf sc Q ins len pc L st M (ExG z (Run z d) own rt lf sc cc Q) := by
  have up : ∀ (pc : Nat) (L st : List bV) (M : bM) (ins : Instr) (len : Nat), decode cc pc = .ok (ins, len) → stepI z (Run z d) own rt lf sc Q ins len pc L st M (ExG z (Run z d) own rt lf sc cc Q) → ExG z (Run z d) own rt lf sc cc Q pc L st M := by
    intro pc L st M ins len hd h V hV
    exact hV pc L st M ins len hd (stepI_mono (Run_mono z d) (fun _ _ q => q) (fun pc L st M q => q V hV) h)
  refine propext ⟨fun h => ?_, up _ _ _ _ _ _ hd⟩
  have h2 := h (fun pc L st M => ∃ ins len, decode cc pc = .ok (ins, len) ∧ stepI z (Run z d) own rt lf sc Q ins len pc L st M (ExG z (Run z d) own rt lf sc cc Q)) (fun pc L st M ins len hd hs => ⟨ins, len, hd, stepI_mono (Run_mono z d) (fun _ _ q => q) (fun pc L st M q => by
    obtain ⟨i2, l2, a, b⟩ := q
    exact up _ _ _ _ _ _ a b) hs⟩)
  obtain ⟨i2, l2, a, b⟩ := h2
  rw [hd] at a
  cases a
  exact b
