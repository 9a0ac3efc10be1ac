/-! the abstract machine's memory as a world of cells -/
def tr (ad : Nat → Nat → Nat) (v : bV) : Value := match v with
  | .inl x => .int x
  | .inr (.inl q) => .ref (ad q.1 q.2)
  | .inr (.inr (.inl x)) => .long x
  | .inr (.inr (.inr _)) => .int 0
def rV (ad : Nat → Nat → Nat) (v : bV) : Option Value := match v with
  | .inl x => some (.int x)
  | .inr (.inl q) => some (.ref (ad q.1 q.2))
  | .inr (.inr (.inl x)) => some (.long x)
  | .inr (.inr (.inr _)) => none
def cont (cA cQ : ClassId) (ad : Nat → Nat → Nat) (M : bM) (q : Nat × Nat) : va_E := match q.1 with
  | 9 => .inl (cA, aln q.2, .inl (gI M 9 q.2))
  | 10 => .inl (cQ, alq q.2, .inr (.inr (.inr (.inr (fun j => some (ad 5 (gR M 10 q.2 j)))))))
  | 11 => .inl (cA, alm q.2, .inl (gI M 11 q.2))
  | c => .inr (c, (List.range (nfl c)).map (fun j => tr ad (rd M c q.2 j)))
def dirs (z : Nat) : List (Nat × Nat) := (List.range 12).flatMap (fun c => (List.range (cnt z c)).map (fun i => (c, i)))
def cel (z : Nat) (cA cQ : ClassId) (ad : Nat → Nat → Nat) (M : bM) : va_W := (dirs z).map (fun q => (ad q.1 q.2, cont cA cQ ad M q))
theorem mem_dirs {z c i : Nat} (hc : c < 12) (h : i < cnt z c) : (c, i) ∈ dirs z :=
  List.mem_flatMap.mpr ⟨c, List.mem_range.mpr hc, List.mem_map.mpr ⟨i, List.mem_range.mpr h, rfl⟩⟩
set_option maxRecDepth 100000 in
theorem dirs_nd0 : (dirs 0).Nodup := by decide +kernel
set_option maxRecDepth 100000 in
theorem dirs_nd1 : (dirs 1).Nodup := by decide +kernel
theorem dirs_nd {z : Nat} (hz : z ≤ 1) : (dirs z).Nodup := by
  match z, hz with
  | 0, _ => exact dirs_nd0
  | 1, _ => exact dirs_nd1
theorem cel_get {z c i : Nat} (hc : c < 12) (h : i < cnt z c) : ∃ n : Nat, (dirs z)[n]? = some (c, i) ∧ ∀ cA cQ ad M, (cel z cA cQ ad M)[n]? = some (ad c i, cont cA cQ ad M (c, i)) := by
  obtain ⟨n, hn⟩ := List.getElem?_of_mem (mem_dirs hc h)
  refine ⟨n, hn, fun cA cQ ad M => ?_⟩
  unfold cel
  rw [List.getElem?_map, hn]
  rfl
theorem nd_inj {α : Type} {l : List α} (h : l.Nodup) {i j : Nat} {a : α} (hi : l[i]? = some a) (hj : l[j]? = some a) : i = j := by
  obtain ⟨li, ei⟩ := List.getElem?_eq_some_iff.mp hi
  obtain ⟨lj, ej⟩ := List.getElem?_eq_some_iff.mp hj
  have hp := List.pairwise_iff_getElem.mp h
  rcases Nat.lt_trichotomy i j with q | q | q
  · exact absurd (ei.trans ej.symm) (hp i j li lj q)
  · exact q
  · exact absurd (ej.trans ei.symm) (hp j i lj li q)
theorem cel_set {z : Nat} (hz : z ≤ 1) {cA cQ : ClassId} {ad : Nat → Nat → Nat} {n : Nat} {q : Nat × Nat} (hn : (dirs z)[n]? = some q) {M M' : bM} (h : ∀ q', q' ≠ q → cont cA cQ ad M' q' = cont cA cQ ad M q') {e : va_E} (he : e = cont cA cQ ad M' q) : (cel z cA cQ ad M).set n (ad q.1 q.2, e) = cel z cA cQ ad M' := by
  subst he
  apply List.ext_getElem?
  intro k
  unfold cel
  rw [List.getElem?_map]
  by_cases hk : k = n
  · subst hk
    have hl : k < ((dirs z).map (fun q => (ad q.1 q.2, cont cA cQ ad M q))).length := by
      rw [List.length_map]
      exact (List.getElem?_eq_some_iff.mp hn).1
    rw [List.getElem?_set_self hl, hn]
    rfl
  · rw [List.getElem?_set_ne (Ne.symm hk), List.getElem?_map]
    cases hd : (dirs z)[k]? with
    | none => rfl
    | some q' =>
      have hq : q' ≠ q := fun e => hk (nd_inj (dirs_nd hz) (by rw [hd, e]) hn)
      show some (ad q'.1 q'.2, cont cA cQ ad M q') = some (ad q'.1 q'.2, cont cA cQ ad M' q')
      rw [h q' hq]
theorem rd_congr {M M' : bM} {c i j : Nat} (h1 : gI M c i j = gI M' c i j) (h2 : gR M c i j = gR M' c i j) : rd M c i j = rd M' c i j := by
  unfold rd
  split <;> (try split) <;> first | rfl | (rw [h1]) | (rw [h2])
theorem cont_congr {cA cQ : ClassId} {ad : Nat → Nat → Nat} {M M' : bM} {c i : Nat} (h1 : ∀ j, gI M c i j = gI M' c i j) (h2 : ∀ j, gR M c i j = gR M' c i j) : cont cA cQ ad M (c, i) = cont cA cQ ad M' (c, i) := by
  unfold cont
  dsimp only
  split
  · rw [show gI M 9 i = gI M' 9 i from funext h1]
  · rw [show (fun j => some (ad 5 (gR M 10 i j))) = (fun j => some (ad 5 (gR M' 10 i j))) from funext fun j => by rw [h2 j]]
  · rw [show gI M 11 i = gI M' 11 i from funext h1]
  · rw [List.map_congr_left fun j _ => by rw [rd_congr (h1 j) (h2 j)]]
theorem cont_sI {cA cQ : ClassId} {ad : Nat → Nat → Nat} {M : bM} {c i j : Nat} {x : Int32} : ∀ q', q' ≠ (c, i) → cont cA cQ ad (sI M c i j x) q' = cont cA cQ ad M q' := by
  rintro ⟨c', i'⟩ h
  refine cont_congr (fun j' => ?_) (fun j' => rfl)
  rw [gI_sI, if_neg]
  rintro ⟨rfl, rfl, -⟩
  exact h rfl
theorem cont_sR {cA cQ : ClassId} {ad : Nat → Nat → Nat} {M : bM} {c i j : Nat} {x : Nat} : ∀ q', q' ≠ (c, i) → cont cA cQ ad (sR M c i j x) q' = cont cA cQ ad M q' := by
  rintro ⟨c', i'⟩ h
  refine cont_congr (fun j' => rfl) (fun j' => ?_)
  rw [gR_sR, if_neg]
  rintro ⟨rfl, rfl, -⟩
  exact h rfl
theorem cont_obj {cA cQ : ClassId} {ad : Nat → Nat → Nat} {M : bM} {c i : Nat} (hc : c < 9) : cont cA cQ ad M (c, i) = .inr (c, (List.range (nfl c)).map (fun j => tr ad (rd M c i j))) := by
  unfold cont
  dsimp only
  split <;> first | omega | rfl
theorem rng_set {α : Type} {n k : Nat} {f g : Nat → α} (hk : k < n) (h : ∀ j, j ≠ k → g j = f j) : ((List.range n).map f).set k (g k) = (List.range n).map g := by
  apply List.ext_getElem?
  intro j
  by_cases hj : j = k
  · subst hj
    rw [List.getElem?_set_self (by simpa using hk), List.getElem?_map, List.getElem?_range hk]
    rfl
  · rw [List.getElem?_set_ne (Ne.symm hj), List.getElem?_map, List.getElem?_map]
    cases hr : (List.range n)[j]? with
    | none => rfl
    | some w =>
      obtain ⟨hl, hw⟩ := List.getElem?_eq_some_iff.mp hr
      rw [List.getElem_range] at hw
      subst hw
      show some (f j) = some (g j)
      rw [h j hj]
theorem rng_get {α : Type} {n k : Nat} {f : Nat → α} (hk : k < n) : ((List.range n).map f)[k]? = some (f k) := by
  rw [List.getElem?_map, List.getElem?_range hk]
  rfl
/-- the locals that are known -/
def prs (ad : Nat → Nat → Nat) (L : List bV) : List (Nat × Value) := (List.range L.length).filterMap (fun (i : Nat) => match (L[i]? : Option bV) with
  | some (.inl x) => some (i, .int x)
  | some (.inr (.inl q)) => some (i, .ref (ad q.1 q.2))
  | some (.inr (.inr (.inl x))) => some (i, .long x)
  | _ => none)
theorem prs_i {ad : Nat → Nat → Nat} {L : List bV} {n : Nat} {x : Int32} (h : L[n]? = some (.inl x)) : (n, Value.int x) ∈ prs ad L :=
  List.mem_filterMap.mpr ⟨n, List.mem_range.mpr (List.getElem?_eq_some_iff.mp h).1, by rw [h]⟩
theorem prs_r {ad : Nat → Nat → Nat} {L : List bV} {n : Nat} {q : Nat × Nat} (h : L[n]? = some (.inr (.inl q))) : (n, Value.ref (ad q.1 q.2)) ∈ prs ad L :=
  List.mem_filterMap.mpr ⟨n, List.mem_range.mpr (List.getElem?_eq_some_iff.mp h).1, by rw [h]⟩
theorem prs_l {ad : Nat → Nat → Nat} {L : List bV} {n : Nat} {x : Int64} (h : L[n]? = some (.inr (.inr (.inl x)))) : (n, Value.long x) ∈ prs ad L :=
  List.mem_filterMap.mpr ⟨n, List.mem_range.mpr (List.getElem?_eq_some_iff.mp h).1, by rw [h]⟩
theorem prs_inv {ad : Nat → Nat → Nat} {L : List bV} {n : Nat} {w : Value} (h : (n, w) ∈ prs ad L) : ∃ v, L[n]? = some v ∧ w = tr ad v ∧ v ≠ vu := by
  obtain ⟨i, hi, hw⟩ := List.mem_filterMap.mp h
  split at hw <;> cases hw
  · exact ⟨_, by assumption, rfl, fun q => by cases q⟩
  · exact ⟨_, by assumption, rfl, fun q => by cases q⟩
  · exact ⟨_, by assumption, rfl, fun q => by cases q⟩
theorem prs_of {ad : Nat → Nat → Nat} {L : List bV} {n : Nat} {v : bV} (h : L[n]? = some v) (hv : v ≠ vu) : (n, tr ad v) ∈ prs ad L := by
  match v, h with
  | .inl x, h => exact prs_i h
  | .inr (.inl q), h => exact prs_r h
  | .inr (.inr (.inl x)), h => exact prs_l h
  | .inr (.inr (.inr ())), h => exact absurd rfl hv
theorem tr_cat {ad : Nat → Nat → Nat} {v : bV} (h : noL v = true) : (tr ad v).category = 1 := by
  match v, h with
  | .inl x, _ => rfl
  | .inr (.inl q), _ => rfl
  | .inr (.inr (.inr ())), _ => rfl
/-- the locals behind a store of one slot -/
theorem prs_set {ad : Nat → Nat → Nat} {L : List bV} {n nL : Nat} {v : bV} {ls : Array Slot} (hn : n < L.length) (hp : noP L n = true)
    (h : lv_has ls nL ((n, tr ad v) :: (prs ad L).filter (fun q => !(q.1 == n) && !(q.1 + 1 == n && q.2.category == 2)))) : lv_has ls nL (prs ad (L.set n v)) := by
  refine ⟨h.1, h.2.1, fun q hq => h.2.2 q ?_⟩
  obtain ⟨i, w⟩ := q
  obtain ⟨u, hu, rfl, hu0⟩ := prs_inv hq
  by_cases hi : i = n
  · subst hi
    rw [List.getElem?_set_self hn] at hu
    cases hu
    exact List.mem_cons_self
  · rw [List.getElem?_set_ne (Ne.symm hi)] at hu
    refine List.mem_cons_of_mem _ (List.mem_filter.mpr ⟨prs_of hu hu0, ?_⟩)
    have h1 : (i == n) = false := by simpa using hi
    rw [h1]
    by_cases h2 : i + 1 = n
    · subst h2
      have h3 : noL u = true := by
        unfold noP at hp
        dsimp only at hp
        rw [hu] at hp
        match u, hp with
        | .inl x, _ => rfl
        | .inr (.inl q), _ => rfl
        | .inr (.inr (.inr ())), _ => rfl
      dsimp only
      rw [tr_cat h3]
      simp
    · have h4 : (i + 1 == n) = false := by simpa using h2
      dsimp only
      rw [h4]
      rfl
theorem noP_of {L : List bV} (h : ∀ v ∈ L, noL v = true) (n : Nat) : noP L n = true := by
  unfold noP
  cases n with
  | zero => rfl
  | succ m =>
    dsimp only
    split
    · rename_i x hx
      have := h _ (List.mem_of_getElem? hx)
      cases this
    · rfl
theorem set_noL {L : List bV} {n : Nat} {v : bV} (h : ∀ v ∈ L, noL v = true) (hv : noL v = true) : ∀ w ∈ L.set n v, noL w = true := by
  intro w hw
  rcases List.mem_or_eq_of_mem_set hw with q | q
  · exact h w q
  · rw [q]; exact hv
/-- the locals behind a store of two slots -/
theorem prs_set2 {ad : Nat → Nat → Nat} {L : List bV} {n nL : Nat} {x : Int64} {ls : Array Slot} (hn : n + 1 < L.length) (hp : noP L n = true)
    (h : lv_has ls nL ((n, Value.long x) :: (prs ad L).filter (fun q => !(q.1 == n) && (!(q.1 == n + 1) && !(q.1 + 1 == n && q.2.category == 2))))) : lv_has ls nL (prs ad ((L.set n (vl x)).set (n + 1) vu)) := by
  refine ⟨h.1, h.2.1, fun q hq => h.2.2 q ?_⟩
  obtain ⟨i, w⟩ := q
  obtain ⟨u, hu, rfl, hu0⟩ := prs_inv hq
  by_cases hi1 : i = n + 1
  · subst hi1
    rw [List.getElem?_set_self (by rw [List.length_set]; exact hn)] at hu
    cases hu
    exact absurd rfl hu0
  · rw [List.getElem?_set_ne (Ne.symm hi1)] at hu
    by_cases hi : i = n
    · subst hi
      rw [List.getElem?_set_self (by omega)] at hu
      cases hu
      exact List.mem_cons_self
    · rw [List.getElem?_set_ne (Ne.symm hi)] at hu
      refine List.mem_cons_of_mem _ (List.mem_filter.mpr ⟨prs_of hu hu0, ?_⟩)
      have h1 : (i == n) = false := by simpa using hi
      have h1' : (i == n + 1) = false := by simpa using hi1
      rw [h1, h1']
      by_cases h2 : i + 1 = n
      · subst h2
        have h3 : noL u = true := by
          unfold noP at hp
          dsimp only at hp
          rw [hu] at hp
          match u, hp with
          | .inl x, _ => rfl
          | .inr (.inl q), _ => rfl
          | .inr (.inr (.inr ())), _ => rfl
        dsimp only
        rw [tr_cat h3]
        simp
      · have h4 : (i + 1 == n) = false := by simpa using h2
        dsimp only
        rw [h4]
        rfl
/-- the entry's locals -/
theorem prs_entry {ad : Nat → Nat → Nat} {as : List bV} {k nL : Nat} {ls : Array Slot} (hno : as.all noL = true) (h : lv_has ls nL (lv_args 0 (as.map (tr ad)))) : lv_has ls nL (prs ad (as ++ List.replicate k vu)) := by
  have key : ∀ (as : List bV) (o : Nat), as.all noL = true → ∀ i v, as[i]? = some v → (o + i, tr ad v) ∈ lv_args o (as.map (tr ad)) := by
    intro as
    induction as with
    | nil => intro o _ i v h; simp at h
    | cons a r ih =>
      intro o hno i v hv
      rw [List.all_cons, Bool.and_eq_true] at hno
      simp only [List.map_cons, lv_args]
      cases i with
      | zero =>
        rw [List.getElem?_cons_zero] at hv
        cases hv
        exact List.mem_cons_self
      | succ i =>
        rw [List.getElem?_cons_succ] at hv
        have h2 : ¬ (tr ad a).category = 2 := by rw [tr_cat hno.1]; decide
        rw [if_neg h2]
        have := ih (o + 1) hno.2 i v hv
        rw [show o + (i + 1) = o + 1 + i by omega]
        exact List.mem_cons_of_mem _ this
  refine ⟨h.1, h.2.1, fun q hq => h.2.2 q ?_⟩
  obtain ⟨i, w⟩ := q
  obtain ⟨u, hu, rfl, hu0⟩ := prs_inv hq
  by_cases hi : i < as.length
  · rw [List.getElem?_append_left hi] at hu
    have := key as 0 hno i u hu
    rwa [Nat.zero_add] at this
  · rw [List.getElem?_append_right (by omega)] at hu
    exact absurd (List.eq_of_mem_replicate (List.mem_of_getElem? hu)) hu0
