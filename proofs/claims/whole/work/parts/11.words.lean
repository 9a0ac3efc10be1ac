/-! the words of the tables that the abstract machine rests on, by their places -/
def fw (q : Nat × Nat × Nat × Nat) : Cond := .fieldLink (cN q.1) q.2.1 (tT q.2.2.1 q.2.2.2).1 (tT q.2.2.1 q.2.2.2).2.1 (tT q.2.2.1 q.2.2.2).2.2.1
def cw (q : Nat × Nat × Nat × Nat) : Cond := .methodLink (cN q.1) q.2.1 (yN q.2.2.1)
def rF (rt : Nat) : Option FieldType := match rt with | 0 => none | 1 => some .int | _ => some .boolean
def kw (id : Nat) : Option Cond := match mt id with
  | some (_, rt, _, _, nL, cc) => some (.code (yN id) cc nL (rF rt))
  | none => none
def mw (id : Nat) : List Cond := match mt id with
  | some (own, _, _, sta, _, _) => .initialized (cN own) :: (match sta with | true => [.static (yN id)] | false => [.instanceMethod (yN id), .selects (cN own) (yN id) (yN id)])
  | none => []
def KL : List Cond := [.constantLong (cN 7) 274 (7919), .constantLong (cN 7) 276 (6151), .constantLong (cN 7) 278 (65521), .constantLong (cN 7) 280 (8), .constantLong (cN 8) 148 (7919), .constantLong (cN 8) 150 (6151), .constantLong (cN 8) 152 (65521), .constant (cN 10) 265 (1431655765), .constant (cN 10) 266 (858993459), .constant (cN 10) 267 (252645135)]
def TWf : List Cond := FL.map fw
def TWc : List Cond := CL.map cw
def TWm : List Cond := (List.range 147).flatMap mw
def TWl : List Cond := (List.range 9).flatMap (fun c => u_ws (cN c) (tT c) (nfl c))
def lwC (k : Nat) : List Cond := match k with | 0 => k2_sels lw_privs | 1 => tables_1_1 | 2 => tables_1_2 | 3 => tables_1_3 | _ => tables_1_4
theorem lwC_in (k : Nat) : ∀ w ∈ lwC k, w ∈ lw_tbl := by
  intro w h
  unfold lwC at h
  split at h
  · exact List.mem_append_left _ h
  · exact List.mem_append_right _ (List.mem_append_left _ h)
  · exact List.mem_append_right _ (List.mem_append_right _ (List.mem_append_left _ h))
  · exact List.mem_append_right _ (List.mem_append_right _ (List.mem_append_right _ (List.mem_append_left _ h)))
  · exact List.mem_append_right _ (List.mem_append_right _ (List.mem_append_right _ (List.mem_append_right _ h)))
theorem in_ps {ws : List Cond} {ps : List (Nat × Nat)} (h : ws = ps.filterMap (fun i => (lwC i.1)[i.2]?)) : ∀ w ∈ ws, w ∈ lw_tbl := by
  intro w hw
  rw [h] at hw
  obtain ⟨i, -, hi⟩ := List.mem_filterMap.mp hw
  exact lwC_in i.1 w (List.mem_of_getElem? hi)
theorem in_cut (n : Nat) {ws : List Cond} (h1 : ∀ w ∈ ws.take n, w ∈ lw_tbl) (h2 : ∀ w ∈ ws.drop n, w ∈ lw_tbl) : ∀ w ∈ ws, w ∈ lw_tbl := by
  intro w hw
  rw [← List.take_append_drop n ws] at hw
  rcases List.mem_append.mp hw with h | h
  · exact h1 w h
  · exact h2 w h
set_option maxRecDepth 100000 in
theorem TWf_0 : (TWf.drop 0).take 60 = ([(1, 166), (1, 167), (1, 168), (1, 125), (1, 62), (1, 65), (1, 67), (1, 70), (1, 73), (1, 76), (1, 79), (1, 90), (1, 81), (1, 84), (1, 87), (1, 41), (1, 42), (1, 43), (1, 44), (1, 151), (1, 152), (1, 36), (1, 124), (1, 127), (1, 129), (1, 131), (1, 66), (1, 83), (1, 64), (1, 86), (1, 69), (1, 71), (1, 74), (1, 89), (1, 78), (1, 80), (1, 91), (1, 182), (1, 183), (2, 104), (2, 105), (2, 106), (2, 107), (2, 108), (2, 109), (2, 110), (2, 111), (2, 112), (2, 113), (2, 114), (1, 82), (1, 63), (1, 126), (1, 68), (1, 85), (1, 77), (1, 88), (1, 130), (1, 128), (1, 72)] : List (Nat × Nat)).filterMap (fun i => (lwC i.1)[i.2]?) := by decide +kernel
set_option maxRecDepth 100000 in
theorem TWf_60 : (TWf.drop 60).take 60 = ([(1, 75), (1, 132), (1, 92), (3, 205), (3, 207), (3, 208), (3, 209), (3, 210), (3, 212), (3, 214), (3, 217), (3, 218), (3, 219), (3, 206), (3, 216), (3, 211), (3, 213), (3, 215)] : List (Nat × Nat)).filterMap (fun i => (lwC i.1)[i.2]?) := by decide +kernel
theorem TWf_end : TWf.drop 120 = [] := by decide +kernel
theorem TWf_in : ∀ w ∈ TWf, w ∈ lw_tbl := by
  have h : ∀ w ∈ TWf.drop 0, w ∈ lw_tbl := in_cut 60 (in_ps TWf_0) (by rw [List.drop_drop]; exact in_cut 60 (in_ps TWf_60) (by rw [List.drop_drop]; exact in_ps (ps := []) TWf_end))
  exact h
set_option maxRecDepth 100000 in
theorem TWc_0 : (TWc.drop 0).take 60 = ([(3, 94), (3, 111), (2, 63), (2, 47), (2, 71), (2, 48), (2, 56), (2, 67), (2, 75), (2, 55), (2, 4), (2, 16), (2, 20), (2, 32), (2, 43), (2, 24), (2, 39), (2, 28), (2, 36), (2, 193), (2, 197), (2, 201), (2, 91), (2, 87), (2, 169), (2, 173), (3, 161), (3, 4), (2, 220), (2, 217), (2, 223), (2, 227), (2, 232), (2, 236), (2, 209), (2, 213), (2, 228), (3, 0), (2, 0), (2, 8), (2, 100), (2, 143), (2, 12), (2, 163), (2, 164), (2, 165), (2, 174), (2, 175), (2, 180), (2, 181), (2, 189), (2, 205), (3, 9), (3, 14), (3, 19), (3, 29), (3, 33), (3, 41), (3, 44), (3, 49)] : List (Nat × Nat)).filterMap (fun i => (lwC i.1)[i.2]?) := by decide +kernel
set_option maxRecDepth 100000 in
theorem TWc_60 : (TWc.drop 60).take 60 = ([(3, 50), (3, 62), (3, 63), (3, 70), (3, 74), (3, 78), (3, 82), (3, 90), (3, 95), (2, 92), (3, 107), (2, 83), (3, 116), (3, 123), (3, 57), (3, 127), (3, 138), (3, 146), (3, 153), (3, 157), (3, 162), (3, 170), (2, 96), (2, 79), (3, 54), (3, 185), (3, 189), (3, 193), (3, 197), (3, 201), (4, 15), (4, 56), (4, 45), (4, 38), (4, 42), (4, 34), (4, 30), (4, 26), (4, 60), (4, 64), (4, 88), (4, 92), (4, 84), (4, 96), (4, 100), (4, 76), (4, 80), (4, 116), (4, 127), (4, 131), (4, 159), (4, 167), (4, 179), (4, 194), (2, 139), (4, 11), (2, 147), (4, 18), (2, 151), (4, 22)] : List (Nat × Nat)).filterMap (fun i => (lwC i.1)[i.2]?) := by decide +kernel
set_option maxRecDepth 100000 in
theorem TWc_120 : (TWc.drop 120).take 60 = ([(2, 155), (4, 48), (2, 159), (4, 52), (2, 176), (4, 68), (2, 185), (4, 72), (3, 5), (4, 104), (3, 10), (4, 108), (3, 15), (4, 112), (3, 25), (4, 119), (3, 37), (4, 123), (3, 45), (4, 135), (3, 58), (4, 139), (3, 66), (4, 143), (3, 86), (4, 147), (3, 99), (4, 151), (3, 103), (4, 155), (3, 112), (4, 163), (3, 119), (4, 171), (3, 130), (4, 175), (3, 134), (4, 183), (3, 142), (4, 187), (3, 166), (4, 198), (3, 171), (4, 202), (3, 175), (4, 206)] : List (Nat × Nat)).filterMap (fun i => (lwC i.1)[i.2]?) := by decide +kernel
theorem TWc_end : TWc.drop 180 = [] := by decide +kernel
theorem TWc_in : ∀ w ∈ TWc, w ∈ lw_tbl := by
  have h : ∀ w ∈ TWc.drop 0, w ∈ lw_tbl := in_cut 60 (in_ps TWc_0) (by rw [List.drop_drop]; exact in_cut 60 (in_ps TWc_60) (by rw [List.drop_drop]; exact in_cut 60 (in_ps TWc_120) (by rw [List.drop_drop]; exact in_ps (ps := []) TWc_end)))
  exact h
set_option maxRecDepth 100000 in
theorem TWm_0 : (TWm.drop 0).take 60 = ([(1, 7), (3, 96), (3, 97), (1, 7), (2, 93), (2, 94), (1, 7), (3, 91), (3, 92), (1, 7), (3, 108), (3, 109), (1, 4), (2, 17), (2, 18), (1, 4), (2, 64), (2, 65), (1, 4), (2, 72), (2, 73), (1, 4), (2, 80), (2, 81), (1, 4), (2, 233), (2, 234), (1, 4), (2, 44), (2, 45), (1, 4), (2, 50), (0, 5), (1, 4), (2, 58), (0, 6), (1, 4), (2, 69), (0, 7), (1, 4), (2, 77), (0, 8), (1, 2), (2, 144), (2, 145), (1, 2), (2, 1), (2, 2), (1, 2), (2, 101), (2, 102), (1, 2), (2, 13), (2, 14), (1, 2), (2, 22), (0, 1), (1, 2), (2, 26), (0, 2)] : List (Nat × Nat)).filterMap (fun i => (lwC i.1)[i.2]?) := by decide +kernel
set_option maxRecDepth 100000 in
theorem TWm_60 : (TWm.drop 60).take 60 = ([(1, 2), (2, 41), (0, 4), (1, 2), (2, 37), (1, 2), (2, 30), (0, 3), (1, 6), (3, 34), (3, 35), (1, 6), (2, 194), (2, 195), (1, 6), (2, 97), (2, 98), (1, 6), (2, 190), (2, 191), (1, 6), (3, 30), (3, 31), (1, 6), (2, 199), (0, 9), (1, 3), (2, 33), (2, 34), (1, 3), (2, 5), (2, 6), (1, 3), (3, 124), (3, 125), (1, 3), (2, 88), (2, 89), (1, 3), (2, 182), (2, 183), (1, 5), (2, 202), (2, 203), (1, 5), (2, 84), (2, 85), (1, 5), (2, 170), (2, 171), (1, 5), (2, 166), (2, 167), (1, 5), (3, 158), (3, 159), (1, 5), (3, 163), (3, 164), (1, 5)] : List (Nat × Nat)).filterMap (fun i => (lwC i.1)[i.2]?) := by decide +kernel
set_option maxRecDepth 100000 in
theorem TWm_120 : (TWm.drop 120).take 60 = ([(2, 214), (2, 215), (1, 5), (2, 218), (1, 5), (2, 225), (0, 11), (1, 5), (2, 229), (2, 230), (1, 5), (2, 238), (0, 12), (1, 5), (2, 206), (2, 207), (1, 5), (2, 211), (0, 10), (1, 5), (3, 2), (0, 13), (1, 8), (3, 71), (3, 72), (1, 8), (3, 79), (3, 80), (1, 8), (3, 83), (3, 84), (1, 1), (2, 140), (2, 141), (1, 1), (2, 148), (2, 149), (1, 1), (2, 152), (2, 153), (1, 1), (2, 156), (2, 157), (1, 1), (2, 160), (2, 161), (1, 1), (2, 177), (2, 178), (1, 1), (2, 186), (2, 187), (1, 1), (3, 6), (3, 7), (1, 1), (3, 11), (3, 12), (1, 1), (3, 16)] : List (Nat × Nat)).filterMap (fun i => (lwC i.1)[i.2]?) := by decide +kernel
set_option maxRecDepth 100000 in
theorem TWm_180 : (TWm.drop 180).take 60 = ([(3, 17), (1, 1), (3, 26), (3, 27), (1, 1), (3, 38), (3, 39), (1, 1), (3, 46), (3, 47), (1, 1), (3, 59), (3, 60), (1, 1), (3, 67), (3, 68), (1, 1), (3, 87), (3, 88), (1, 1), (3, 100), (3, 101), (1, 1), (3, 104), (3, 105), (1, 1), (3, 113), (3, 114), (1, 1), (3, 120), (3, 121), (1, 1), (3, 131), (3, 132), (1, 1), (3, 135), (3, 136), (1, 1), (3, 143), (3, 144), (1, 1), (3, 167), (3, 168), (1, 1), (3, 172), (3, 173), (1, 1), (3, 176), (3, 177), (1, 1), (3, 42), (1, 1), (2, 61), (1, 1), (2, 53), (1, 1), (2, 10), (0, 0), (1, 1), (3, 76)] : List (Nat × Nat)).filterMap (fun i => (lwC i.1)[i.2]?) := by decide +kernel
set_option maxRecDepth 100000 in
theorem TWm_240 : (TWm.drop 240).take 60 = ([(0, 15), (1, 1), (3, 64), (1, 1), (3, 52), (0, 14), (1, 1), (3, 55), (1, 1), (3, 117), (1, 1), (3, 140), (0, 16), (1, 1), (3, 147), (1, 1), (3, 155), (0, 17), (1, 13), (4, 16), (1, 13), (4, 58), (0, 27), (1, 13), (4, 46), (1, 13), (4, 66), (0, 29), (1, 13), (4, 12), (4, 13), (1, 13), (4, 19), (4, 20), (1, 13), (4, 40), (0, 26), (1, 13), (4, 43), (1, 13), (4, 36), (0, 25), (1, 13), (3, 187), (0, 18), (1, 13), (3, 191), (0, 19), (1, 13), (3, 195), (0, 20), (1, 13), (3, 199), (0, 21), (1, 13), (4, 32), (0, 24), (1, 13), (4, 28), (0, 23)] : List (Nat × Nat)).filterMap (fun i => (lwC i.1)[i.2]?) := by decide +kernel
set_option maxRecDepth 100000 in
theorem TWm_300 : (TWm.drop 300).take 60 = ([(1, 13), (4, 23), (4, 24), (1, 13), (3, 203), (0, 22), (1, 13), (4, 49), (4, 50), (1, 13), (4, 62), (0, 28), (1, 13), (4, 53), (4, 54), (1, 13), (4, 69), (4, 70), (1, 13), (4, 78), (0, 30), (1, 13), (4, 90), (0, 33), (1, 13), (4, 94), (0, 34), (1, 13), (4, 86), (0, 32), (1, 13), (4, 102), (0, 36), (1, 13), (4, 98), (0, 35), (1, 13), (4, 82), (0, 31), (1, 13), (4, 73), (4, 74), (1, 13), (4, 105), (4, 106), (1, 13), (4, 109), (4, 110), (1, 13), (4, 117), (1, 13), (4, 113), (4, 114), (1, 13), (4, 120), (4, 121), (1, 13), (4, 129), (0, 37), (1, 13)] : List (Nat × Nat)).filterMap (fun i => (lwC i.1)[i.2]?) := by decide +kernel
set_option maxRecDepth 100000 in
theorem TWm_360 : (TWm.drop 360).take 60 = ([(4, 133), (0, 38), (1, 13), (4, 124), (4, 125), (1, 13), (4, 136), (4, 137), (1, 13), (4, 140), (4, 141), (1, 13), (4, 144), (4, 145), (1, 13), (4, 148), (4, 149), (1, 13), (4, 152), (4, 153), (1, 13), (4, 161), (0, 39), (1, 13), (4, 156), (4, 157), (1, 13), (4, 169), (0, 40), (1, 13), (4, 164), (4, 165), (1, 13), (4, 172), (4, 173), (1, 13), (4, 181), (0, 41), (1, 13), (4, 176), (4, 177), (1, 13), (4, 184), (4, 185), (1, 13), (4, 188), (4, 189), (1, 13), (4, 196), (0, 42), (1, 13), (4, 199), (4, 200), (1, 13), (4, 203), (4, 204), (1, 13), (4, 207), (4, 208), (1, 15)] : List (Nat × Nat)).filterMap (fun i => (lwC i.1)[i.2]?) := by decide +kernel
set_option maxRecDepth 100000 in
theorem TWm_420 : (TWm.drop 420).take 60 = ([(3, 20), (1, 14), (2, 221), (1, 14), (3, 128)] : List (Nat × Nat)).filterMap (fun i => (lwC i.1)[i.2]?) := by decide +kernel
theorem TWm_end : TWm.drop 480 = [] := by decide +kernel
theorem TWm_in : ∀ w ∈ TWm, w ∈ lw_tbl := by
  have h : ∀ w ∈ TWm.drop 0, w ∈ lw_tbl := in_cut 60 (in_ps TWm_0) (by rw [List.drop_drop]; exact in_cut 60 (in_ps TWm_60) (by rw [List.drop_drop]; exact in_cut 60 (in_ps TWm_120) (by rw [List.drop_drop]; exact in_cut 60 (in_ps TWm_180) (by rw [List.drop_drop]; exact in_cut 60 (in_ps TWm_240) (by rw [List.drop_drop]; exact in_cut 60 (in_ps TWm_300) (by rw [List.drop_drop]; exact in_cut 60 (in_ps TWm_360) (by rw [List.drop_drop]; exact in_cut 60 (in_ps TWm_420) (by rw [List.drop_drop]; exact in_ps (ps := []) TWm_end))))))))
  exact h
set_option maxRecDepth 100000 in
theorem TWl_0 : (TWl.drop 0).take 60 = ([(1, 169), (1, 171), (1, 173), (1, 93), (1, 95), (1, 97), (1, 99), (1, 101), (1, 103), (1, 105), (1, 107), (1, 109), (1, 111), (1, 113), (1, 45), (1, 47), (1, 49), (1, 51), (1, 153), (1, 155), (1, 37), (1, 133), (1, 135), (1, 137), (1, 139), (1, 184), (1, 186), (2, 115), (2, 117), (2, 119), (2, 121), (2, 123), (2, 125), (2, 127), (2, 129), (2, 131), (2, 133), (2, 135), (3, 220), (3, 222), (3, 224), (3, 226), (3, 228), (3, 230), (3, 232), (3, 234), (3, 236), (3, 238), (4, 0), (4, 2), (4, 4), (4, 6), (4, 8)] : List (Nat × Nat)).filterMap (fun i => (lwC i.1)[i.2]?) := by decide +kernel
theorem TWl_end : TWl.drop 60 = [] := by decide +kernel
theorem TWl_in : ∀ w ∈ TWl, w ∈ lw_tbl := by
  have h : ∀ w ∈ TWl.drop 0, w ∈ lw_tbl := in_cut 60 (in_ps TWl_0) (by rw [List.drop_drop]; exact in_ps (ps := []) TWl_end)
  exact h
set_option maxRecDepth 100000 in
theorem KL_0 : (KL.drop 0).take 60 = ([(3, 149), (3, 150), (3, 151), (3, 152), (4, 191), (4, 192), (4, 193), (3, 22), (3, 23), (3, 24)] : List (Nat × Nat)).filterMap (fun i => (lwC i.1)[i.2]?) := by decide +kernel
theorem KL_end : KL.drop 60 = [] := by decide +kernel
theorem KL_in : ∀ w ∈ KL, w ∈ lw_tbl := by
  have h : ∀ w ∈ KL.drop 0, w ∈ lw_tbl := in_cut 60 (in_ps KL_0) (by rw [List.drop_drop]; exact in_ps (ps := []) KL_end)
  exact h
theorem kw_0 : ∀ w, kw 0 = some w → w ∈ lw_tbl := fun w h => by
  cases h
  exact lwC_in 3 _ (List.mem_of_getElem? (i := 98) rfl)
theorem kw_1 : ∀ w, kw 1 = some w → w ∈ lw_tbl := fun w h => by
  cases h
  exact lwC_in 2 _ (List.mem_of_getElem? (i := 95) rfl)
theorem kw_2 : ∀ w, kw 2 = some w → w ∈ lw_tbl := fun w h => by
  cases h
  exact lwC_in 3 _ (List.mem_of_getElem? (i := 93) rfl)
theorem kw_3 : ∀ w, kw 3 = some w → w ∈ lw_tbl := fun w h => by
  cases h
  exact lwC_in 3 _ (List.mem_of_getElem? (i := 110) rfl)
theorem kw_4 : ∀ w, kw 4 = some w → w ∈ lw_tbl := fun w h => by
  cases h
  exact lwC_in 2 _ (List.mem_of_getElem? (i := 19) rfl)
theorem kw_5 : ∀ w, kw 5 = some w → w ∈ lw_tbl := fun w h => by
  cases h
  exact lwC_in 2 _ (List.mem_of_getElem? (i := 66) rfl)
theorem kw_6 : ∀ w, kw 6 = some w → w ∈ lw_tbl := fun w h => by
  cases h
  exact lwC_in 2 _ (List.mem_of_getElem? (i := 74) rfl)
theorem kw_7 : ∀ w, kw 7 = some w → w ∈ lw_tbl := fun w h => by
  cases h
  exact lwC_in 2 _ (List.mem_of_getElem? (i := 82) rfl)
theorem kw_8 : ∀ w, kw 8 = some w → w ∈ lw_tbl := fun w h => by
  cases h
  exact lwC_in 2 _ (List.mem_of_getElem? (i := 235) rfl)
theorem kw_9 : ∀ w, kw 9 = some w → w ∈ lw_tbl := fun w h => by
  cases h
  exact lwC_in 2 _ (List.mem_of_getElem? (i := 46) rfl)
theorem kw_10 : ∀ w, kw 10 = some w → w ∈ lw_tbl := fun w h => by
  cases h
  exact lwC_in 2 _ (List.mem_of_getElem? (i := 51) rfl)
theorem kw_11 : ∀ w, kw 11 = some w → w ∈ lw_tbl := fun w h => by
  cases h
  exact lwC_in 2 _ (List.mem_of_getElem? (i := 59) rfl)
theorem kw_12 : ∀ w, kw 12 = some w → w ∈ lw_tbl := fun w h => by
  cases h
  exact lwC_in 2 _ (List.mem_of_getElem? (i := 70) rfl)
theorem kw_13 : ∀ w, kw 13 = some w → w ∈ lw_tbl := fun w h => by
  cases h
  exact lwC_in 2 _ (List.mem_of_getElem? (i := 78) rfl)
theorem kw_14 : ∀ w, kw 14 = some w → w ∈ lw_tbl := fun w h => by
  cases h
  exact lwC_in 2 _ (List.mem_of_getElem? (i := 146) rfl)
theorem kw_15 : ∀ w, kw 15 = some w → w ∈ lw_tbl := fun w h => by
  cases h
  exact lwC_in 2 _ (List.mem_of_getElem? (i := 3) rfl)
theorem kw_16 : ∀ w, kw 16 = some w → w ∈ lw_tbl := fun w h => by
  cases h
  exact lwC_in 2 _ (List.mem_of_getElem? (i := 103) rfl)
theorem kw_17 : ∀ w, kw 17 = some w → w ∈ lw_tbl := fun w h => by
  cases h
  exact lwC_in 2 _ (List.mem_of_getElem? (i := 15) rfl)
theorem kw_18 : ∀ w, kw 18 = some w → w ∈ lw_tbl := fun w h => by
  cases h
  exact lwC_in 2 _ (List.mem_of_getElem? (i := 23) rfl)
theorem kw_19 : ∀ w, kw 19 = some w → w ∈ lw_tbl := fun w h => by
  cases h
  exact lwC_in 2 _ (List.mem_of_getElem? (i := 27) rfl)
theorem kw_20 : ∀ w, kw 20 = some w → w ∈ lw_tbl := fun w h => by
  cases h
  exact lwC_in 2 _ (List.mem_of_getElem? (i := 42) rfl)
theorem kw_21 : ∀ w, kw 21 = some w → w ∈ lw_tbl := fun w h => by
  cases h
  exact lwC_in 2 _ (List.mem_of_getElem? (i := 38) rfl)
theorem kw_22 : ∀ w, kw 22 = some w → w ∈ lw_tbl := fun w h => by
  cases h
  exact lwC_in 2 _ (List.mem_of_getElem? (i := 31) rfl)
theorem kw_23 : ∀ w, kw 23 = some w → w ∈ lw_tbl := fun w h => by
  cases h
  exact lwC_in 3 _ (List.mem_of_getElem? (i := 36) rfl)
theorem kw_24 : ∀ w, kw 24 = some w → w ∈ lw_tbl := fun w h => by
  cases h
  exact lwC_in 2 _ (List.mem_of_getElem? (i := 196) rfl)
theorem kw_25 : ∀ w, kw 25 = some w → w ∈ lw_tbl := fun w h => by
  cases h
  exact lwC_in 2 _ (List.mem_of_getElem? (i := 99) rfl)
theorem kw_26 : ∀ w, kw 26 = some w → w ∈ lw_tbl := fun w h => by
  cases h
  exact lwC_in 2 _ (List.mem_of_getElem? (i := 192) rfl)
theorem kw_27 : ∀ w, kw 27 = some w → w ∈ lw_tbl := fun w h => by
  cases h
  exact lwC_in 3 _ (List.mem_of_getElem? (i := 32) rfl)
theorem kw_28 : ∀ w, kw 28 = some w → w ∈ lw_tbl := fun w h => by
  cases h
  exact lwC_in 2 _ (List.mem_of_getElem? (i := 200) rfl)
theorem kw_29 : ∀ w, kw 29 = some w → w ∈ lw_tbl := fun w h => by
  cases h
  exact lwC_in 2 _ (List.mem_of_getElem? (i := 35) rfl)
theorem kw_30 : ∀ w, kw 30 = some w → w ∈ lw_tbl := fun w h => by
  cases h
  exact lwC_in 2 _ (List.mem_of_getElem? (i := 7) rfl)
theorem kw_31 : ∀ w, kw 31 = some w → w ∈ lw_tbl := fun w h => by
  cases h
  exact lwC_in 3 _ (List.mem_of_getElem? (i := 126) rfl)
theorem kw_32 : ∀ w, kw 32 = some w → w ∈ lw_tbl := fun w h => by
  cases h
  exact lwC_in 2 _ (List.mem_of_getElem? (i := 90) rfl)
theorem kw_33 : ∀ w, kw 33 = some w → w ∈ lw_tbl := fun w h => by
  cases h
  exact lwC_in 2 _ (List.mem_of_getElem? (i := 184) rfl)
theorem kw_34 : ∀ w, kw 34 = some w → w ∈ lw_tbl := fun w h => by
  cases h
  exact lwC_in 2 _ (List.mem_of_getElem? (i := 204) rfl)
theorem kw_35 : ∀ w, kw 35 = some w → w ∈ lw_tbl := fun w h => by
  cases h
  exact lwC_in 2 _ (List.mem_of_getElem? (i := 86) rfl)
theorem kw_36 : ∀ w, kw 36 = some w → w ∈ lw_tbl := fun w h => by
  cases h
  exact lwC_in 2 _ (List.mem_of_getElem? (i := 172) rfl)
theorem kw_37 : ∀ w, kw 37 = some w → w ∈ lw_tbl := fun w h => by
  cases h
  exact lwC_in 2 _ (List.mem_of_getElem? (i := 168) rfl)
theorem kw_38 : ∀ w, kw 38 = some w → w ∈ lw_tbl := fun w h => by
  cases h
  exact lwC_in 3 _ (List.mem_of_getElem? (i := 160) rfl)
theorem kw_39 : ∀ w, kw 39 = some w → w ∈ lw_tbl := fun w h => by
  cases h
  exact lwC_in 3 _ (List.mem_of_getElem? (i := 165) rfl)
theorem kw_40 : ∀ w, kw 40 = some w → w ∈ lw_tbl := fun w h => by
  cases h
  exact lwC_in 2 _ (List.mem_of_getElem? (i := 216) rfl)
theorem kw_41 : ∀ w, kw 41 = some w → w ∈ lw_tbl := fun w h => by
  cases h
  exact lwC_in 2 _ (List.mem_of_getElem? (i := 219) rfl)
theorem kw_42 : ∀ w, kw 42 = some w → w ∈ lw_tbl := fun w h => by
  cases h
  exact lwC_in 2 _ (List.mem_of_getElem? (i := 226) rfl)
theorem kw_43 : ∀ w, kw 43 = some w → w ∈ lw_tbl := fun w h => by
  cases h
  exact lwC_in 2 _ (List.mem_of_getElem? (i := 231) rfl)
theorem kw_44 : ∀ w, kw 44 = some w → w ∈ lw_tbl := fun w h => by
  cases h
  exact lwC_in 2 _ (List.mem_of_getElem? (i := 239) rfl)
theorem kw_45 : ∀ w, kw 45 = some w → w ∈ lw_tbl := fun w h => by
  cases h
  exact lwC_in 2 _ (List.mem_of_getElem? (i := 208) rfl)
theorem kw_46 : ∀ w, kw 46 = some w → w ∈ lw_tbl := fun w h => by
  cases h
  exact lwC_in 2 _ (List.mem_of_getElem? (i := 212) rfl)
theorem kw_47 : ∀ w, kw 47 = some w → w ∈ lw_tbl := fun w h => by
  cases h
  exact lwC_in 3 _ (List.mem_of_getElem? (i := 3) rfl)
theorem kw_48 : ∀ w, kw 48 = some w → w ∈ lw_tbl := fun w h => by
  cases h
  exact lwC_in 3 _ (List.mem_of_getElem? (i := 73) rfl)
theorem kw_49 : ∀ w, kw 49 = some w → w ∈ lw_tbl := fun w h => by
  cases h
  exact lwC_in 3 _ (List.mem_of_getElem? (i := 81) rfl)
theorem kw_50 : ∀ w, kw 50 = some w → w ∈ lw_tbl := fun w h => by
  cases h
  exact lwC_in 3 _ (List.mem_of_getElem? (i := 85) rfl)
theorem kw_51 : ∀ w, kw 51 = some w → w ∈ lw_tbl := fun w h => by
  cases h
  exact lwC_in 2 _ (List.mem_of_getElem? (i := 142) rfl)
theorem kw_52 : ∀ w, kw 52 = some w → w ∈ lw_tbl := fun w h => by
  cases h
  exact lwC_in 2 _ (List.mem_of_getElem? (i := 150) rfl)
theorem kw_53 : ∀ w, kw 53 = some w → w ∈ lw_tbl := fun w h => by
  cases h
  exact lwC_in 2 _ (List.mem_of_getElem? (i := 154) rfl)
theorem kw_54 : ∀ w, kw 54 = some w → w ∈ lw_tbl := fun w h => by
  cases h
  exact lwC_in 2 _ (List.mem_of_getElem? (i := 158) rfl)
theorem kw_55 : ∀ w, kw 55 = some w → w ∈ lw_tbl := fun w h => by
  cases h
  exact lwC_in 2 _ (List.mem_of_getElem? (i := 162) rfl)
theorem kw_56 : ∀ w, kw 56 = some w → w ∈ lw_tbl := fun w h => by
  cases h
  exact lwC_in 2 _ (List.mem_of_getElem? (i := 179) rfl)
theorem kw_57 : ∀ w, kw 57 = some w → w ∈ lw_tbl := fun w h => by
  cases h
  exact lwC_in 2 _ (List.mem_of_getElem? (i := 188) rfl)
theorem kw_58 : ∀ w, kw 58 = some w → w ∈ lw_tbl := fun w h => by
  cases h
  exact lwC_in 3 _ (List.mem_of_getElem? (i := 8) rfl)
theorem kw_59 : ∀ w, kw 59 = some w → w ∈ lw_tbl := fun w h => by
  cases h
  exact lwC_in 3 _ (List.mem_of_getElem? (i := 13) rfl)
theorem kw_60 : ∀ w, kw 60 = some w → w ∈ lw_tbl := fun w h => by
  cases h
  exact lwC_in 3 _ (List.mem_of_getElem? (i := 18) rfl)
theorem kw_61 : ∀ w, kw 61 = some w → w ∈ lw_tbl := fun w h => by
  cases h
  exact lwC_in 3 _ (List.mem_of_getElem? (i := 28) rfl)
theorem kw_62 : ∀ w, kw 62 = some w → w ∈ lw_tbl := fun w h => by
  cases h
  exact lwC_in 3 _ (List.mem_of_getElem? (i := 40) rfl)
theorem kw_63 : ∀ w, kw 63 = some w → w ∈ lw_tbl := fun w h => by
  cases h
  exact lwC_in 3 _ (List.mem_of_getElem? (i := 48) rfl)
theorem kw_64 : ∀ w, kw 64 = some w → w ∈ lw_tbl := fun w h => by
  cases h
  exact lwC_in 3 _ (List.mem_of_getElem? (i := 61) rfl)
theorem kw_65 : ∀ w, kw 65 = some w → w ∈ lw_tbl := fun w h => by
  cases h
  exact lwC_in 3 _ (List.mem_of_getElem? (i := 69) rfl)
theorem kw_66 : ∀ w, kw 66 = some w → w ∈ lw_tbl := fun w h => by
  cases h
  exact lwC_in 3 _ (List.mem_of_getElem? (i := 89) rfl)
theorem kw_67 : ∀ w, kw 67 = some w → w ∈ lw_tbl := fun w h => by
  cases h
  exact lwC_in 3 _ (List.mem_of_getElem? (i := 102) rfl)
theorem kw_68 : ∀ w, kw 68 = some w → w ∈ lw_tbl := fun w h => by
  cases h
  exact lwC_in 3 _ (List.mem_of_getElem? (i := 106) rfl)
theorem kw_69 : ∀ w, kw 69 = some w → w ∈ lw_tbl := fun w h => by
  cases h
  exact lwC_in 3 _ (List.mem_of_getElem? (i := 115) rfl)
theorem kw_70 : ∀ w, kw 70 = some w → w ∈ lw_tbl := fun w h => by
  cases h
  exact lwC_in 3 _ (List.mem_of_getElem? (i := 122) rfl)
theorem kw_71 : ∀ w, kw 71 = some w → w ∈ lw_tbl := fun w h => by
  cases h
  exact lwC_in 3 _ (List.mem_of_getElem? (i := 133) rfl)
theorem kw_72 : ∀ w, kw 72 = some w → w ∈ lw_tbl := fun w h => by
  cases h
  exact lwC_in 3 _ (List.mem_of_getElem? (i := 137) rfl)
theorem kw_73 : ∀ w, kw 73 = some w → w ∈ lw_tbl := fun w h => by
  cases h
  exact lwC_in 3 _ (List.mem_of_getElem? (i := 145) rfl)
theorem kw_74 : ∀ w, kw 74 = some w → w ∈ lw_tbl := fun w h => by
  cases h
  exact lwC_in 3 _ (List.mem_of_getElem? (i := 169) rfl)
theorem kw_75 : ∀ w, kw 75 = some w → w ∈ lw_tbl := fun w h => by
  cases h
  exact lwC_in 3 _ (List.mem_of_getElem? (i := 174) rfl)
theorem kw_76 : ∀ w, kw 76 = some w → w ∈ lw_tbl := fun w h => by
  cases h
  exact lwC_in 3 _ (List.mem_of_getElem? (i := 178) rfl)
theorem kw_77 : ∀ w, kw 77 = some w → w ∈ lw_tbl := fun w h => by
  cases h
  exact lwC_in 3 _ (List.mem_of_getElem? (i := 43) rfl)
theorem kw_78 : ∀ w, kw 78 = some w → w ∈ lw_tbl := fun w h => by
  cases h
  exact lwC_in 2 _ (List.mem_of_getElem? (i := 62) rfl)
theorem kw_79 : ∀ w, kw 79 = some w → w ∈ lw_tbl := fun w h => by
  cases h
  exact lwC_in 2 _ (List.mem_of_getElem? (i := 54) rfl)
theorem kw_80 : ∀ w, kw 80 = some w → w ∈ lw_tbl := fun w h => by
  cases h
  exact lwC_in 2 _ (List.mem_of_getElem? (i := 11) rfl)
theorem kw_81 : ∀ w, kw 81 = some w → w ∈ lw_tbl := fun w h => by
  cases h
  exact lwC_in 3 _ (List.mem_of_getElem? (i := 77) rfl)
theorem kw_82 : ∀ w, kw 82 = some w → w ∈ lw_tbl := fun w h => by
  cases h
  exact lwC_in 3 _ (List.mem_of_getElem? (i := 65) rfl)
theorem kw_83 : ∀ w, kw 83 = some w → w ∈ lw_tbl := fun w h => by
  cases h
  exact lwC_in 3 _ (List.mem_of_getElem? (i := 53) rfl)
theorem kw_84 : ∀ w, kw 84 = some w → w ∈ lw_tbl := fun w h => by
  cases h
  exact lwC_in 3 _ (List.mem_of_getElem? (i := 56) rfl)
theorem kw_85 : ∀ w, kw 85 = some w → w ∈ lw_tbl := fun w h => by
  cases h
  exact lwC_in 3 _ (List.mem_of_getElem? (i := 118) rfl)
theorem kw_86 : ∀ w, kw 86 = some w → w ∈ lw_tbl := fun w h => by
  cases h
  exact lwC_in 3 _ (List.mem_of_getElem? (i := 141) rfl)
theorem kw_87 : ∀ w, kw 87 = some w → w ∈ lw_tbl := fun w h => by
  cases h
  exact lwC_in 3 _ (List.mem_of_getElem? (i := 148) rfl)
theorem kw_88 : ∀ w, kw 88 = some w → w ∈ lw_tbl := fun w h => by
  cases h
  exact lwC_in 3 _ (List.mem_of_getElem? (i := 156) rfl)
theorem kw_89 : ∀ w, kw 89 = some w → w ∈ lw_tbl := fun w h => by
  cases h
  exact lwC_in 4 _ (List.mem_of_getElem? (i := 17) rfl)
theorem kw_90 : ∀ w, kw 90 = some w → w ∈ lw_tbl := fun w h => by
  cases h
  exact lwC_in 4 _ (List.mem_of_getElem? (i := 59) rfl)
theorem kw_91 : ∀ w, kw 91 = some w → w ∈ lw_tbl := fun w h => by
  cases h
  exact lwC_in 4 _ (List.mem_of_getElem? (i := 47) rfl)
theorem kw_92 : ∀ w, kw 92 = some w → w ∈ lw_tbl := fun w h => by
  cases h
  exact lwC_in 4 _ (List.mem_of_getElem? (i := 67) rfl)
theorem kw_93 : ∀ w, kw 93 = some w → w ∈ lw_tbl := fun w h => by
  cases h
  exact lwC_in 4 _ (List.mem_of_getElem? (i := 14) rfl)
theorem kw_94 : ∀ w, kw 94 = some w → w ∈ lw_tbl := fun w h => by
  cases h
  exact lwC_in 4 _ (List.mem_of_getElem? (i := 21) rfl)
theorem kw_95 : ∀ w, kw 95 = some w → w ∈ lw_tbl := fun w h => by
  cases h
  exact lwC_in 4 _ (List.mem_of_getElem? (i := 41) rfl)
theorem kw_96 : ∀ w, kw 96 = some w → w ∈ lw_tbl := fun w h => by
  cases h
  exact lwC_in 4 _ (List.mem_of_getElem? (i := 44) rfl)
theorem kw_97 : ∀ w, kw 97 = some w → w ∈ lw_tbl := fun w h => by
  cases h
  exact lwC_in 4 _ (List.mem_of_getElem? (i := 37) rfl)
theorem kw_98 : ∀ w, kw 98 = some w → w ∈ lw_tbl := fun w h => by
  cases h
  exact lwC_in 3 _ (List.mem_of_getElem? (i := 188) rfl)
theorem kw_99 : ∀ w, kw 99 = some w → w ∈ lw_tbl := fun w h => by
  cases h
  exact lwC_in 3 _ (List.mem_of_getElem? (i := 192) rfl)
theorem kw_100 : ∀ w, kw 100 = some w → w ∈ lw_tbl := fun w h => by
  cases h
  exact lwC_in 3 _ (List.mem_of_getElem? (i := 196) rfl)
theorem kw_101 : ∀ w, kw 101 = some w → w ∈ lw_tbl := fun w h => by
  cases h
  exact lwC_in 3 _ (List.mem_of_getElem? (i := 200) rfl)
theorem kw_102 : ∀ w, kw 102 = some w → w ∈ lw_tbl := fun w h => by
  cases h
  exact lwC_in 4 _ (List.mem_of_getElem? (i := 33) rfl)
theorem kw_103 : ∀ w, kw 103 = some w → w ∈ lw_tbl := fun w h => by
  cases h
  exact lwC_in 4 _ (List.mem_of_getElem? (i := 29) rfl)
theorem kw_104 : ∀ w, kw 104 = some w → w ∈ lw_tbl := fun w h => by
  cases h
  exact lwC_in 4 _ (List.mem_of_getElem? (i := 25) rfl)
theorem kw_105 : ∀ w, kw 105 = some w → w ∈ lw_tbl := fun w h => by
  cases h
  exact lwC_in 3 _ (List.mem_of_getElem? (i := 204) rfl)
theorem kw_106 : ∀ w, kw 106 = some w → w ∈ lw_tbl := fun w h => by
  cases h
  exact lwC_in 4 _ (List.mem_of_getElem? (i := 51) rfl)
theorem kw_107 : ∀ w, kw 107 = some w → w ∈ lw_tbl := fun w h => by
  cases h
  exact lwC_in 4 _ (List.mem_of_getElem? (i := 63) rfl)
theorem kw_108 : ∀ w, kw 108 = some w → w ∈ lw_tbl := fun w h => by
  cases h
  exact lwC_in 4 _ (List.mem_of_getElem? (i := 55) rfl)
theorem kw_109 : ∀ w, kw 109 = some w → w ∈ lw_tbl := fun w h => by
  cases h
  exact lwC_in 4 _ (List.mem_of_getElem? (i := 71) rfl)
theorem kw_110 : ∀ w, kw 110 = some w → w ∈ lw_tbl := fun w h => by
  cases h
  exact lwC_in 4 _ (List.mem_of_getElem? (i := 79) rfl)
theorem kw_111 : ∀ w, kw 111 = some w → w ∈ lw_tbl := fun w h => by
  cases h
  exact lwC_in 4 _ (List.mem_of_getElem? (i := 91) rfl)
theorem kw_112 : ∀ w, kw 112 = some w → w ∈ lw_tbl := fun w h => by
  cases h
  exact lwC_in 4 _ (List.mem_of_getElem? (i := 95) rfl)
theorem kw_113 : ∀ w, kw 113 = some w → w ∈ lw_tbl := fun w h => by
  cases h
  exact lwC_in 4 _ (List.mem_of_getElem? (i := 87) rfl)
theorem kw_114 : ∀ w, kw 114 = some w → w ∈ lw_tbl := fun w h => by
  cases h
  exact lwC_in 4 _ (List.mem_of_getElem? (i := 103) rfl)
theorem kw_115 : ∀ w, kw 115 = some w → w ∈ lw_tbl := fun w h => by
  cases h
  exact lwC_in 4 _ (List.mem_of_getElem? (i := 99) rfl)
theorem kw_116 : ∀ w, kw 116 = some w → w ∈ lw_tbl := fun w h => by
  cases h
  exact lwC_in 4 _ (List.mem_of_getElem? (i := 83) rfl)
theorem kw_117 : ∀ w, kw 117 = some w → w ∈ lw_tbl := fun w h => by
  cases h
  exact lwC_in 4 _ (List.mem_of_getElem? (i := 75) rfl)
theorem kw_118 : ∀ w, kw 118 = some w → w ∈ lw_tbl := fun w h => by
  cases h
  exact lwC_in 4 _ (List.mem_of_getElem? (i := 107) rfl)
theorem kw_119 : ∀ w, kw 119 = some w → w ∈ lw_tbl := fun w h => by
  cases h
  exact lwC_in 4 _ (List.mem_of_getElem? (i := 111) rfl)
theorem kw_120 : ∀ w, kw 120 = some w → w ∈ lw_tbl := fun w h => by
  cases h
  exact lwC_in 4 _ (List.mem_of_getElem? (i := 118) rfl)
theorem kw_121 : ∀ w, kw 121 = some w → w ∈ lw_tbl := fun w h => by
  cases h
  exact lwC_in 4 _ (List.mem_of_getElem? (i := 115) rfl)
theorem kw_122 : ∀ w, kw 122 = some w → w ∈ lw_tbl := fun w h => by
  cases h
  exact lwC_in 4 _ (List.mem_of_getElem? (i := 122) rfl)
theorem kw_123 : ∀ w, kw 123 = some w → w ∈ lw_tbl := fun w h => by
  cases h
  exact lwC_in 4 _ (List.mem_of_getElem? (i := 130) rfl)
theorem kw_124 : ∀ w, kw 124 = some w → w ∈ lw_tbl := fun w h => by
  cases h
  exact lwC_in 4 _ (List.mem_of_getElem? (i := 134) rfl)
theorem kw_125 : ∀ w, kw 125 = some w → w ∈ lw_tbl := fun w h => by
  cases h
  exact lwC_in 4 _ (List.mem_of_getElem? (i := 126) rfl)
theorem kw_126 : ∀ w, kw 126 = some w → w ∈ lw_tbl := fun w h => by
  cases h
  exact lwC_in 4 _ (List.mem_of_getElem? (i := 138) rfl)
theorem kw_127 : ∀ w, kw 127 = some w → w ∈ lw_tbl := fun w h => by
  cases h
  exact lwC_in 4 _ (List.mem_of_getElem? (i := 142) rfl)
theorem kw_128 : ∀ w, kw 128 = some w → w ∈ lw_tbl := fun w h => by
  cases h
  exact lwC_in 4 _ (List.mem_of_getElem? (i := 146) rfl)
theorem kw_129 : ∀ w, kw 129 = some w → w ∈ lw_tbl := fun w h => by
  cases h
  exact lwC_in 4 _ (List.mem_of_getElem? (i := 150) rfl)
theorem kw_130 : ∀ w, kw 130 = some w → w ∈ lw_tbl := fun w h => by
  cases h
  exact lwC_in 4 _ (List.mem_of_getElem? (i := 154) rfl)
theorem kw_131 : ∀ w, kw 131 = some w → w ∈ lw_tbl := fun w h => by
  cases h
  exact lwC_in 4 _ (List.mem_of_getElem? (i := 162) rfl)
theorem kw_132 : ∀ w, kw 132 = some w → w ∈ lw_tbl := fun w h => by
  cases h
  exact lwC_in 4 _ (List.mem_of_getElem? (i := 158) rfl)
theorem kw_133 : ∀ w, kw 133 = some w → w ∈ lw_tbl := fun w h => by
  cases h
  exact lwC_in 4 _ (List.mem_of_getElem? (i := 170) rfl)
theorem kw_134 : ∀ w, kw 134 = some w → w ∈ lw_tbl := fun w h => by
  cases h
  exact lwC_in 4 _ (List.mem_of_getElem? (i := 166) rfl)
theorem kw_135 : ∀ w, kw 135 = some w → w ∈ lw_tbl := fun w h => by
  cases h
  exact lwC_in 4 _ (List.mem_of_getElem? (i := 174) rfl)
theorem kw_136 : ∀ w, kw 136 = some w → w ∈ lw_tbl := fun w h => by
  cases h
  exact lwC_in 4 _ (List.mem_of_getElem? (i := 182) rfl)
theorem kw_137 : ∀ w, kw 137 = some w → w ∈ lw_tbl := fun w h => by
  cases h
  exact lwC_in 4 _ (List.mem_of_getElem? (i := 178) rfl)
theorem kw_138 : ∀ w, kw 138 = some w → w ∈ lw_tbl := fun w h => by
  cases h
  exact lwC_in 4 _ (List.mem_of_getElem? (i := 186) rfl)
theorem kw_139 : ∀ w, kw 139 = some w → w ∈ lw_tbl := fun w h => by
  cases h
  exact lwC_in 4 _ (List.mem_of_getElem? (i := 190) rfl)
theorem kw_140 : ∀ w, kw 140 = some w → w ∈ lw_tbl := fun w h => by
  cases h
  exact lwC_in 4 _ (List.mem_of_getElem? (i := 197) rfl)
theorem kw_141 : ∀ w, kw 141 = some w → w ∈ lw_tbl := fun w h => by
  cases h
  exact lwC_in 4 _ (List.mem_of_getElem? (i := 201) rfl)
theorem kw_142 : ∀ w, kw 142 = some w → w ∈ lw_tbl := fun w h => by
  cases h
  exact lwC_in 4 _ (List.mem_of_getElem? (i := 205) rfl)
theorem kw_143 : ∀ w, kw 143 = some w → w ∈ lw_tbl := fun w h => by
  cases h
  exact lwC_in 4 _ (List.mem_of_getElem? (i := 209) rfl)
theorem kw_144 : ∀ w, kw 144 = some w → w ∈ lw_tbl := fun w h => by
  cases h
  exact lwC_in 3 _ (List.mem_of_getElem? (i := 21) rfl)
theorem kw_145 : ∀ w, kw 145 = some w → w ∈ lw_tbl := fun w h => by
  cases h
  exact lwC_in 2 _ (List.mem_of_getElem? (i := 222) rfl)
theorem kw_146 : ∀ w, kw 146 = some w → w ∈ lw_tbl := fun w h => by
  cases h
  exact lwC_in 3 _ (List.mem_of_getElem? (i := 129) rfl)
def TWk : List Cond := (List.range 147).filterMap kw
theorem TWk_in : ∀ w ∈ TWk, w ∈ lw_tbl := by
  intro w hw
  obtain ⟨k, hk, hkw⟩ := List.mem_filterMap.mp hw
  have hk := List.mem_range.mp hk
  match k, hk, hkw with
  | 0, _, h => exact kw_0 w h
  | 1, _, h => exact kw_1 w h
  | 2, _, h => exact kw_2 w h
  | 3, _, h => exact kw_3 w h
  | 4, _, h => exact kw_4 w h
  | 5, _, h => exact kw_5 w h
  | 6, _, h => exact kw_6 w h
  | 7, _, h => exact kw_7 w h
  | 8, _, h => exact kw_8 w h
  | 9, _, h => exact kw_9 w h
  | 10, _, h => exact kw_10 w h
  | 11, _, h => exact kw_11 w h
  | 12, _, h => exact kw_12 w h
  | 13, _, h => exact kw_13 w h
  | 14, _, h => exact kw_14 w h
  | 15, _, h => exact kw_15 w h
  | 16, _, h => exact kw_16 w h
  | 17, _, h => exact kw_17 w h
  | 18, _, h => exact kw_18 w h
  | 19, _, h => exact kw_19 w h
  | 20, _, h => exact kw_20 w h
  | 21, _, h => exact kw_21 w h
  | 22, _, h => exact kw_22 w h
  | 23, _, h => exact kw_23 w h
  | 24, _, h => exact kw_24 w h
  | 25, _, h => exact kw_25 w h
  | 26, _, h => exact kw_26 w h
  | 27, _, h => exact kw_27 w h
  | 28, _, h => exact kw_28 w h
  | 29, _, h => exact kw_29 w h
  | 30, _, h => exact kw_30 w h
  | 31, _, h => exact kw_31 w h
  | 32, _, h => exact kw_32 w h
  | 33, _, h => exact kw_33 w h
  | 34, _, h => exact kw_34 w h
  | 35, _, h => exact kw_35 w h
  | 36, _, h => exact kw_36 w h
  | 37, _, h => exact kw_37 w h
  | 38, _, h => exact kw_38 w h
  | 39, _, h => exact kw_39 w h
  | 40, _, h => exact kw_40 w h
  | 41, _, h => exact kw_41 w h
  | 42, _, h => exact kw_42 w h
  | 43, _, h => exact kw_43 w h
  | 44, _, h => exact kw_44 w h
  | 45, _, h => exact kw_45 w h
  | 46, _, h => exact kw_46 w h
  | 47, _, h => exact kw_47 w h
  | 48, _, h => exact kw_48 w h
  | 49, _, h => exact kw_49 w h
  | 50, _, h => exact kw_50 w h
  | 51, _, h => exact kw_51 w h
  | 52, _, h => exact kw_52 w h
  | 53, _, h => exact kw_53 w h
  | 54, _, h => exact kw_54 w h
  | 55, _, h => exact kw_55 w h
  | 56, _, h => exact kw_56 w h
  | 57, _, h => exact kw_57 w h
  | 58, _, h => exact kw_58 w h
  | 59, _, h => exact kw_59 w h
  | 60, _, h => exact kw_60 w h
  | 61, _, h => exact kw_61 w h
  | 62, _, h => exact kw_62 w h
  | 63, _, h => exact kw_63 w h
  | 64, _, h => exact kw_64 w h
  | 65, _, h => exact kw_65 w h
  | 66, _, h => exact kw_66 w h
  | 67, _, h => exact kw_67 w h
  | 68, _, h => exact kw_68 w h
  | 69, _, h => exact kw_69 w h
  | 70, _, h => exact kw_70 w h
  | 71, _, h => exact kw_71 w h
  | 72, _, h => exact kw_72 w h
  | 73, _, h => exact kw_73 w h
  | 74, _, h => exact kw_74 w h
  | 75, _, h => exact kw_75 w h
  | 76, _, h => exact kw_76 w h
  | 77, _, h => exact kw_77 w h
  | 78, _, h => exact kw_78 w h
  | 79, _, h => exact kw_79 w h
  | 80, _, h => exact kw_80 w h
  | 81, _, h => exact kw_81 w h
  | 82, _, h => exact kw_82 w h
  | 83, _, h => exact kw_83 w h
  | 84, _, h => exact kw_84 w h
  | 85, _, h => exact kw_85 w h
  | 86, _, h => exact kw_86 w h
  | 87, _, h => exact kw_87 w h
  | 88, _, h => exact kw_88 w h
  | 89, _, h => exact kw_89 w h
  | 90, _, h => exact kw_90 w h
  | 91, _, h => exact kw_91 w h
  | 92, _, h => exact kw_92 w h
  | 93, _, h => exact kw_93 w h
  | 94, _, h => exact kw_94 w h
  | 95, _, h => exact kw_95 w h
  | 96, _, h => exact kw_96 w h
  | 97, _, h => exact kw_97 w h
  | 98, _, h => exact kw_98 w h
  | 99, _, h => exact kw_99 w h
  | 100, _, h => exact kw_100 w h
  | 101, _, h => exact kw_101 w h
  | 102, _, h => exact kw_102 w h
  | 103, _, h => exact kw_103 w h
  | 104, _, h => exact kw_104 w h
  | 105, _, h => exact kw_105 w h
  | 106, _, h => exact kw_106 w h
  | 107, _, h => exact kw_107 w h
  | 108, _, h => exact kw_108 w h
  | 109, _, h => exact kw_109 w h
  | 110, _, h => exact kw_110 w h
  | 111, _, h => exact kw_111 w h
  | 112, _, h => exact kw_112 w h
  | 113, _, h => exact kw_113 w h
  | 114, _, h => exact kw_114 w h
  | 115, _, h => exact kw_115 w h
  | 116, _, h => exact kw_116 w h
  | 117, _, h => exact kw_117 w h
  | 118, _, h => exact kw_118 w h
  | 119, _, h => exact kw_119 w h
  | 120, _, h => exact kw_120 w h
  | 121, _, h => exact kw_121 w h
  | 122, _, h => exact kw_122 w h
  | 123, _, h => exact kw_123 w h
  | 124, _, h => exact kw_124 w h
  | 125, _, h => exact kw_125 w h
  | 126, _, h => exact kw_126 w h
  | 127, _, h => exact kw_127 w h
  | 128, _, h => exact kw_128 w h
  | 129, _, h => exact kw_129 w h
  | 130, _, h => exact kw_130 w h
  | 131, _, h => exact kw_131 w h
  | 132, _, h => exact kw_132 w h
  | 133, _, h => exact kw_133 w h
  | 134, _, h => exact kw_134 w h
  | 135, _, h => exact kw_135 w h
  | 136, _, h => exact kw_136 w h
  | 137, _, h => exact kw_137 w h
  | 138, _, h => exact kw_138 w h
  | 139, _, h => exact kw_139 w h
  | 140, _, h => exact kw_140 w h
  | 141, _, h => exact kw_141 w h
  | 142, _, h => exact kw_142 w h
  | 143, _, h => exact kw_143 w h
  | 144, _, h => exact kw_144 w h
  | 145, _, h => exact kw_145 w h
  | 146, _, h => exact kw_146 w h
  | k + 147, hk, _ => exact absurd hk (by omega)
def TW : List Cond := TWk ++ (TWf ++ (TWc ++ (TWm ++ (TWl ++ KL))))
theorem TW_in : ∀ w ∈ TW, w ∈ lw_tbl := by
  intro w hw
  unfold TW at hw
  rcases List.mem_append.mp hw with h | hw
  · exact TWk_in w h
  rcases List.mem_append.mp hw with h | hw
  · exact TWf_in w h
  rcases List.mem_append.mp hw with h | hw
  · exact TWc_in w h
  rcases List.mem_append.mp hw with h | hw
  · exact TWm_in w h
  rcases List.mem_append.mp hw with h | h
  · exact TWl_in w h
  · exact KL_in w h
set_option maxRecDepth 100000 in
theorem TW_good : TW.all goodWord = true := by decide +kernel
theorem TW_gi (ws : List Cond) (h : ∀ w ∈ ws, w ∈ TW) : GoodIn TW ws := fun w hw => ⟨h w hw, good_of_word (List.all_eq_true.mp TW_good w (h w hw))⟩
/-- the two links of nest mates -/
def NL : List Cond := CLn.map (fun q => .methodLinkNest (cN q.1) q.2.1 (yN q.2.2.1) RX7)
set_option maxRecDepth 100000 in
theorem NL_0 : (NL.drop 0).take 60 = ([(2, 52), (2, 60)] : List (Nat × Nat)).filterMap (fun i => (lwC i.1)[i.2]?) := by decide +kernel
theorem NL_end : NL.drop 60 = [] := by decide +kernel
theorem NL_in : ∀ w ∈ NL, w ∈ lw_tbl := by
  have h : ∀ w ∈ NL.drop 0, w ∈ lw_tbl := in_cut 60 (in_ps NL_0) (by rw [List.drop_drop]; exact in_ps (ps := []) NL_end)
  exact h
