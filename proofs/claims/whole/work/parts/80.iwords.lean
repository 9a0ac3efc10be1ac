/-! words that the constructors, String's members and the law's start rest on, by their places -/
def XI : List Cond := [.methodLink RX0 3 objectInit, .methodLink RX1 3 objectInit, .methodLink RX2 3 objectInit, .methodLink RX3 1 objectInit, .methodLink RX4 1 objectInit, .methodLink RX5 3 objectInit, .methodLink RX6 3 objectInit, .methodLink RX7 1 objectInit, .methodLink RX8 1 objectInit, .instanceMethod objectInit, .classLink RX0 9 RX4, .classLink RX1 9 RX4, .classLink RX2 9 RX4, .classLink RX5 9 RX4, .classLink RX3 7 RX5, .classLink RX7 7 RX2, .classLink RX7 16 RX1, .classLink RX7 26 RX5, .classLink RX7 36 RX3, .classLink RX7 48 RX0, .classLink RX7 55 RX6, .classLink RX7 62 RX4, .classLink RL 7 RX7, .classLink RL 10 RX8, .instantiable RX0 3, .instantiable RX1 11, .instantiable RX2 4, .instantiable RX3 2, .instantiable RX4 1, .instantiable RX5 4, .instantiable RX6 2, .instantiable RX7 11, .instantiable RX8 15, .initialized RX0, .initialized RX1, .initialized RX2, .initialized RX3, .initialized RX4, .initialized RX5, .initialized RX6, .initialized RX7, .initialized RX8, .initialized RJ0, .initialized RJ1, .initialized RJ3, .arrayClass .int, .methodLink RX0 11 yX4_init, .methodLink RX1 11 yX4_init, .methodLink RX2 11 yX4_init, .methodLink RX5 11 yX4_init, .methodLink RX7 38 yX3_init, .methodLink RX7 64 yX4_init, .methodLink RL 9 yX7_init, .methodLink RL 12 yX8_init, .methodLink RX7 74 yJ0_length_8abf5, .methodLink RX7 80 yJ0_charAt_5068e, .methodLink RJ0 335 yJ0_coder_7d493, .methodLink RJ0 492 yJ0_isLatin1_aae02, .methodLink RJ0 495 yJ1_charAt_3b067, .methodLink RJ1 9 yJ0_checkIndex_df160, .methodLink RJ0 1059 yJ3_checkIndex_8e157, .instanceMethod yX0_init, .instanceMethod yX1_init, .instanceMethod yX2_init, .instanceMethod yX3_init, .instanceMethod yX4_init, .instanceMethod yX5_init, .instanceMethod yX6_init, .instanceMethod yX7_init, .instanceMethod yX8_init, .instanceMethod yJ0_length_8abf5, .instanceMethod yJ0_charAt_5068e, .instanceMethod yJ0_coder_7d493, .instanceMethod yJ0_isLatin1_aae02, .selects RJ0 yJ0_length_8abf5 yJ0_length_8abf5, .selects RJ0 yJ0_charAt_5068e yJ0_charAt_5068e, .selects RJ0 yJ0_coder_7d493 yJ0_coder_7d493, .selects RJ0 yJ0_isLatin1_aae02 yJ0_isLatin1_aae02, .static yJ1_charAt_3b067, .static yJ0_checkIndex_df160, .static yJ3_checkIndex_8e157, .fieldLink RJ0 9 "java/lang/String" "value" "[B", .fieldLink RJ0 15 "java/lang/String" "coder" "B", .fieldLink RJ0 38 "java/lang/String" "COMPACT_STRINGS" "Z", .fieldLink RJ0 1053 "jdk/internal/util/Preconditions" "SIOOBE_FORMATTER" "Ljava/util/function/BiFunction;"]
set_option maxRecDepth 100000 in
theorem XI_0 : (XI.drop 0).take 60 = ([(1, 163), (1, 59), (1, 29), (1, 147), (1, 35), (1, 121), (1, 181), (1, 21), (3, 184), (1, 22), (1, 164), (1, 60), (1, 30), (1, 122), (1, 148), (1, 24), (1, 54), (1, 116), (1, 142), (1, 158), (1, 176), (1, 189), (1, 16), (3, 179), (1, 159), (1, 55), (1, 25), (1, 143), (1, 31), (1, 117), (1, 177), (1, 17), (3, 180), (1, 7), (1, 4), (1, 2), (1, 6), (1, 3), (1, 5), (1, 8), (1, 1), (1, 13), (1, 9), (1, 10), (1, 11), (1, 40), (1, 165), (1, 61), (1, 32), (1, 123), (1, 144), (1, 190), (1, 18), (3, 181), (1, 192), (1, 202), (1, 196), (1, 206), (1, 210), (1, 213)] : List (Nat × Nat)).filterMap (fun i => (lwC i.1)[i.2]?) := by decide +kernel
set_option maxRecDepth 100000 in
theorem XI_60 : (XI.drop 60).take 60 = ([(1, 218), (1, 161), (1, 57), (1, 27), (1, 145), (1, 33), (1, 119), (1, 179), (1, 19), (3, 182), (1, 193), (1, 203), (1, 197), (1, 207), (1, 194), (1, 204), (1, 198), (1, 208), (1, 211), (1, 214), (1, 219), (4, 210), (4, 211), (1, 200), (1, 216)] : List (Nat × Nat)).filterMap (fun i => (lwC i.1)[i.2]?) := by decide +kernel
theorem XI_end : XI.drop 120 = [] := by decide +kernel
theorem XI_in : ∀ w ∈ XI, w ∈ lw_tbl := by
  have h : ∀ w ∈ XI.drop 0, w ∈ lw_tbl := in_cut 60 (in_ps XI_0) (by rw [List.drop_drop]; exact in_cut 60 (in_ps XI_60) (by rw [List.drop_drop]; exact in_ps (ps := []) XI_end))
  exact h
theorem ki_0 : (Cond.code objectInit ⟨#[0xb1]⟩ 1 none) ∈ lw_tbl := lwC_in 1 _ (List.mem_of_getElem? (i := 23) rfl)
theorem ki_1 : (Cond.code yX0_init cX0_init 1 none) ∈ lw_tbl := lwC_in 1 _ (List.mem_of_getElem? (i := 162) rfl)
theorem ki_2 : (Cond.code yX1_init cX1_init 1 none) ∈ lw_tbl := lwC_in 1 _ (List.mem_of_getElem? (i := 58) rfl)
theorem ki_3 : (Cond.code yX2_init cX2_init 1 none) ∈ lw_tbl := lwC_in 1 _ (List.mem_of_getElem? (i := 28) rfl)
theorem ki_4 : (Cond.code yX3_init cX3_init 3 none) ∈ lw_tbl := lwC_in 1 _ (List.mem_of_getElem? (i := 146) rfl)
theorem ki_5 : (Cond.code yX4_init cX4_init 2 none) ∈ lw_tbl := lwC_in 1 _ (List.mem_of_getElem? (i := 34) rfl)
theorem ki_6 : (Cond.code yX5_init cX5_init 1 none) ∈ lw_tbl := lwC_in 1 _ (List.mem_of_getElem? (i := 120) rfl)
theorem ki_7 : (Cond.code yX6_init cX6_init 1 none) ∈ lw_tbl := lwC_in 1 _ (List.mem_of_getElem? (i := 180) rfl)
theorem ki_8 : (Cond.code yX7_init cX7_init 2 none) ∈ lw_tbl := lwC_in 1 _ (List.mem_of_getElem? (i := 20) rfl)
theorem ki_9 : (Cond.code yX8_init cX8_init 1 none) ∈ lw_tbl := lwC_in 3 _ (List.mem_of_getElem? (i := 183) rfl)
theorem ki_10 : (Cond.code yJ0_length_8abf5 cJ0_length_8abf5 1 (some .int)) ∈ lw_tbl := lwC_in 1 _ (List.mem_of_getElem? (i := 195) rfl)
theorem ki_11 : (Cond.code yJ0_charAt_5068e cJ0_charAt_5068e 2 (some .char)) ∈ lw_tbl := lwC_in 1 _ (List.mem_of_getElem? (i := 205) rfl)
theorem ki_12 : (Cond.code yJ0_coder_7d493 cJ0_coder_7d493 1 (some .byte)) ∈ lw_tbl := lwC_in 1 _ (List.mem_of_getElem? (i := 199) rfl)
theorem ki_13 : (Cond.code yJ0_isLatin1_aae02 cJ0_isLatin1_aae02 1 (some .boolean)) ∈ lw_tbl := lwC_in 1 _ (List.mem_of_getElem? (i := 209) rfl)
theorem ki_14 : (Cond.code yJ0_checkIndex_df160 cJ0_checkIndex_df160 2 none) ∈ lw_tbl := lwC_in 1 _ (List.mem_of_getElem? (i := 215) rfl)
theorem ki_15 : (Cond.code yJ1_charAt_3b067 cJ1_charAt_3b067 2 (some .char)) ∈ lw_tbl := lwC_in 1 _ (List.mem_of_getElem? (i := 212) rfl)
theorem ki_16 : (Cond.code yJ3_checkIndex_8e157 cJ3_checkIndex_8e157 3 (some .int)) ∈ lw_tbl := lwC_in 1 _ (List.mem_of_getElem? (i := 220) rfl)
def KI : List Cond := [.code objectInit ⟨#[0xb1]⟩ 1 none, .code yX0_init cX0_init 1 none, .code yX1_init cX1_init 1 none, .code yX2_init cX2_init 1 none, .code yX3_init cX3_init 3 none, .code yX4_init cX4_init 2 none, .code yX5_init cX5_init 1 none, .code yX6_init cX6_init 1 none, .code yX7_init cX7_init 2 none, .code yX8_init cX8_init 1 none, .code yJ0_length_8abf5 cJ0_length_8abf5 1 (some .int), .code yJ0_charAt_5068e cJ0_charAt_5068e 2 (some .char), .code yJ0_coder_7d493 cJ0_coder_7d493 1 (some .byte), .code yJ0_isLatin1_aae02 cJ0_isLatin1_aae02 1 (some .boolean), .code yJ0_checkIndex_df160 cJ0_checkIndex_df160 2 none, .code yJ1_charAt_3b067 cJ1_charAt_3b067 2 (some .char), .code yJ3_checkIndex_8e157 cJ3_checkIndex_8e157 3 (some .int)]
theorem KI_in : ∀ w ∈ KI, w ∈ lw_tbl := List.forall_mem_cons.mpr ⟨ki_0, List.forall_mem_cons.mpr ⟨ki_1, List.forall_mem_cons.mpr ⟨ki_2, List.forall_mem_cons.mpr ⟨ki_3, List.forall_mem_cons.mpr ⟨ki_4, List.forall_mem_cons.mpr ⟨ki_5, List.forall_mem_cons.mpr ⟨ki_6, List.forall_mem_cons.mpr ⟨ki_7, List.forall_mem_cons.mpr ⟨ki_8, List.forall_mem_cons.mpr ⟨ki_9, List.forall_mem_cons.mpr ⟨ki_10, List.forall_mem_cons.mpr ⟨ki_11, List.forall_mem_cons.mpr ⟨ki_12, List.forall_mem_cons.mpr ⟨ki_13, List.forall_mem_cons.mpr ⟨ki_14, List.forall_mem_cons.mpr ⟨ki_15, List.forall_mem_cons.mpr ⟨ki_16, fun _ h => absurd h List.not_mem_nil⟩⟩⟩⟩⟩⟩⟩⟩⟩⟩⟩⟩⟩⟩⟩⟩⟩
def TI : List Cond := KI ++ (XI ++ TW)
theorem TI_in : ∀ w ∈ TI, w ∈ lw_tbl := by
  intro w hw
  unfold TI at hw
  rcases List.mem_append.mp hw with h | hw
  · exact KI_in w h
  rcases List.mem_append.mp hw with h | hw
  · exact XI_in w h
  · exact TW_in w hw
set_option maxRecDepth 100000 in
theorem KI_good : KI.all goodWord = true := by decide +kernel
set_option maxRecDepth 100000 in
theorem XI_good : XI.all goodWord = true := by decide +kernel
theorem TI_gi (ws : List Cond) (h : ∀ w ∈ ws, w ∈ TI) : GoodIn TI ws := fun w hw => ⟨h w hw, good_of_word (by
  rcases List.mem_append.mp (h w hw) with q | q
  · exact List.all_eq_true.mp KI_good w q
  rcases List.mem_append.mp q with q | q
  · exact List.all_eq_true.mp XI_good w q
  · exact List.all_eq_true.mp TW_good w q)⟩
theorem ti_k {w : Cond} (h : w ∈ KI) : w ∈ TI := List.mem_append_left _ h
theorem ti_x {w : Cond} (h : w ∈ XI) : w ∈ TI := List.mem_append_right _ (List.mem_append_left _ h)
theorem ti_w {w : Cond} (h : w ∈ TW) : w ∈ TI := List.mem_append_right _ (List.mem_append_right _ h)
theorem tk_objectInit : (Cond.code objectInit ⟨#[0xb1]⟩ 1 none) ∈ TI := ti_k (List.mem_of_getElem? (i := 0) rfl)
theorem tk_yX0_init : (Cond.code yX0_init cX0_init 1 none) ∈ TI := ti_k (List.mem_of_getElem? (i := 1) rfl)
theorem tk_yX1_init : (Cond.code yX1_init cX1_init 1 none) ∈ TI := ti_k (List.mem_of_getElem? (i := 2) rfl)
theorem tk_yX2_init : (Cond.code yX2_init cX2_init 1 none) ∈ TI := ti_k (List.mem_of_getElem? (i := 3) rfl)
theorem tk_yX3_init : (Cond.code yX3_init cX3_init 3 none) ∈ TI := ti_k (List.mem_of_getElem? (i := 4) rfl)
theorem tk_yX4_init : (Cond.code yX4_init cX4_init 2 none) ∈ TI := ti_k (List.mem_of_getElem? (i := 5) rfl)
theorem tk_yX5_init : (Cond.code yX5_init cX5_init 1 none) ∈ TI := ti_k (List.mem_of_getElem? (i := 6) rfl)
theorem tk_yX6_init : (Cond.code yX6_init cX6_init 1 none) ∈ TI := ti_k (List.mem_of_getElem? (i := 7) rfl)
theorem tk_yX7_init : (Cond.code yX7_init cX7_init 2 none) ∈ TI := ti_k (List.mem_of_getElem? (i := 8) rfl)
theorem tk_yX8_init : (Cond.code yX8_init cX8_init 1 none) ∈ TI := ti_k (List.mem_of_getElem? (i := 9) rfl)
theorem tk_yJ0_length_8abf5 : (Cond.code yJ0_length_8abf5 cJ0_length_8abf5 1 (some .int)) ∈ TI := ti_k (List.mem_of_getElem? (i := 10) rfl)
theorem tk_yJ0_charAt_5068e : (Cond.code yJ0_charAt_5068e cJ0_charAt_5068e 2 (some .char)) ∈ TI := ti_k (List.mem_of_getElem? (i := 11) rfl)
theorem tk_yJ0_coder_7d493 : (Cond.code yJ0_coder_7d493 cJ0_coder_7d493 1 (some .byte)) ∈ TI := ti_k (List.mem_of_getElem? (i := 12) rfl)
theorem tk_yJ0_isLatin1_aae02 : (Cond.code yJ0_isLatin1_aae02 cJ0_isLatin1_aae02 1 (some .boolean)) ∈ TI := ti_k (List.mem_of_getElem? (i := 13) rfl)
theorem tk_yJ0_checkIndex_df160 : (Cond.code yJ0_checkIndex_df160 cJ0_checkIndex_df160 2 none) ∈ TI := ti_k (List.mem_of_getElem? (i := 14) rfl)
theorem tk_yJ1_charAt_3b067 : (Cond.code yJ1_charAt_3b067 cJ1_charAt_3b067 2 (some .char)) ∈ TI := ti_k (List.mem_of_getElem? (i := 15) rfl)
theorem tk_yJ3_checkIndex_8e157 : (Cond.code yJ3_checkIndex_8e157 cJ3_checkIndex_8e157 3 (some .int)) ∈ TI := ti_k (List.mem_of_getElem? (i := 16) rfl)
theorem tx_oi0 : (Cond.methodLink RX0 3 objectInit) ∈ TI := ti_x (List.mem_of_getElem? (i := 0) rfl)
theorem tx_oi1 : (Cond.methodLink RX1 3 objectInit) ∈ TI := ti_x (List.mem_of_getElem? (i := 1) rfl)
theorem tx_oi2 : (Cond.methodLink RX2 3 objectInit) ∈ TI := ti_x (List.mem_of_getElem? (i := 2) rfl)
theorem tx_oi3 : (Cond.methodLink RX3 1 objectInit) ∈ TI := ti_x (List.mem_of_getElem? (i := 3) rfl)
theorem tx_oi4 : (Cond.methodLink RX4 1 objectInit) ∈ TI := ti_x (List.mem_of_getElem? (i := 4) rfl)
theorem tx_oi5 : (Cond.methodLink RX5 3 objectInit) ∈ TI := ti_x (List.mem_of_getElem? (i := 5) rfl)
theorem tx_oi6 : (Cond.methodLink RX6 3 objectInit) ∈ TI := ti_x (List.mem_of_getElem? (i := 6) rfl)
theorem tx_oi7 : (Cond.methodLink RX7 1 objectInit) ∈ TI := ti_x (List.mem_of_getElem? (i := 7) rfl)
theorem tx_oi8 : (Cond.methodLink RX8 1 objectInit) ∈ TI := ti_x (List.mem_of_getElem? (i := 8) rfl)
theorem tx_oim : (Cond.instanceMethod objectInit) ∈ TI := ti_x (List.mem_of_getElem? (i := 9) rfl)
theorem tx_clX0_9 : (Cond.classLink RX0 9 RX4) ∈ TI := ti_x (List.mem_of_getElem? (i := 10) rfl)
theorem tx_clX1_9 : (Cond.classLink RX1 9 RX4) ∈ TI := ti_x (List.mem_of_getElem? (i := 11) rfl)
theorem tx_clX2_9 : (Cond.classLink RX2 9 RX4) ∈ TI := ti_x (List.mem_of_getElem? (i := 12) rfl)
theorem tx_clX5_9 : (Cond.classLink RX5 9 RX4) ∈ TI := ti_x (List.mem_of_getElem? (i := 13) rfl)
theorem tx_clX3_7 : (Cond.classLink RX3 7 RX5) ∈ TI := ti_x (List.mem_of_getElem? (i := 14) rfl)
theorem tx_clX7_7 : (Cond.classLink RX7 7 RX2) ∈ TI := ti_x (List.mem_of_getElem? (i := 15) rfl)
theorem tx_clX7_16 : (Cond.classLink RX7 16 RX1) ∈ TI := ti_x (List.mem_of_getElem? (i := 16) rfl)
theorem tx_clX7_26 : (Cond.classLink RX7 26 RX5) ∈ TI := ti_x (List.mem_of_getElem? (i := 17) rfl)
theorem tx_clX7_36 : (Cond.classLink RX7 36 RX3) ∈ TI := ti_x (List.mem_of_getElem? (i := 18) rfl)
theorem tx_clX7_48 : (Cond.classLink RX7 48 RX0) ∈ TI := ti_x (List.mem_of_getElem? (i := 19) rfl)
theorem tx_clX7_55 : (Cond.classLink RX7 55 RX6) ∈ TI := ti_x (List.mem_of_getElem? (i := 20) rfl)
theorem tx_clX7_62 : (Cond.classLink RX7 62 RX4) ∈ TI := ti_x (List.mem_of_getElem? (i := 21) rfl)
theorem tx_clL_7 : (Cond.classLink RL 7 RX7) ∈ TI := ti_x (List.mem_of_getElem? (i := 22) rfl)
theorem tx_clL_10 : (Cond.classLink RL 10 RX8) ∈ TI := ti_x (List.mem_of_getElem? (i := 23) rfl)
theorem tx_in0 : (Cond.instantiable RX0 3) ∈ TI := ti_x (List.mem_of_getElem? (i := 24) rfl)
theorem tx_in1 : (Cond.instantiable RX1 11) ∈ TI := ti_x (List.mem_of_getElem? (i := 25) rfl)
theorem tx_in2 : (Cond.instantiable RX2 4) ∈ TI := ti_x (List.mem_of_getElem? (i := 26) rfl)
theorem tx_in3 : (Cond.instantiable RX3 2) ∈ TI := ti_x (List.mem_of_getElem? (i := 27) rfl)
theorem tx_in4 : (Cond.instantiable RX4 1) ∈ TI := ti_x (List.mem_of_getElem? (i := 28) rfl)
theorem tx_in5 : (Cond.instantiable RX5 4) ∈ TI := ti_x (List.mem_of_getElem? (i := 29) rfl)
theorem tx_in6 : (Cond.instantiable RX6 2) ∈ TI := ti_x (List.mem_of_getElem? (i := 30) rfl)
theorem tx_in7 : (Cond.instantiable RX7 11) ∈ TI := ti_x (List.mem_of_getElem? (i := 31) rfl)
theorem tx_in8 : (Cond.instantiable RX8 15) ∈ TI := ti_x (List.mem_of_getElem? (i := 32) rfl)
theorem tx_itX0 : (Cond.initialized RX0) ∈ TI := ti_x (List.mem_of_getElem? (i := 33) rfl)
theorem tx_itX1 : (Cond.initialized RX1) ∈ TI := ti_x (List.mem_of_getElem? (i := 34) rfl)
theorem tx_itX2 : (Cond.initialized RX2) ∈ TI := ti_x (List.mem_of_getElem? (i := 35) rfl)
theorem tx_itX3 : (Cond.initialized RX3) ∈ TI := ti_x (List.mem_of_getElem? (i := 36) rfl)
theorem tx_itX4 : (Cond.initialized RX4) ∈ TI := ti_x (List.mem_of_getElem? (i := 37) rfl)
theorem tx_itX5 : (Cond.initialized RX5) ∈ TI := ti_x (List.mem_of_getElem? (i := 38) rfl)
theorem tx_itX6 : (Cond.initialized RX6) ∈ TI := ti_x (List.mem_of_getElem? (i := 39) rfl)
theorem tx_itX7 : (Cond.initialized RX7) ∈ TI := ti_x (List.mem_of_getElem? (i := 40) rfl)
theorem tx_itX8 : (Cond.initialized RX8) ∈ TI := ti_x (List.mem_of_getElem? (i := 41) rfl)
theorem tx_itJ0 : (Cond.initialized RJ0) ∈ TI := ti_x (List.mem_of_getElem? (i := 42) rfl)
theorem tx_itJ1 : (Cond.initialized RJ1) ∈ TI := ti_x (List.mem_of_getElem? (i := 43) rfl)
theorem tx_itJ3 : (Cond.initialized RJ3) ∈ TI := ti_x (List.mem_of_getElem? (i := 44) rfl)
theorem tx_ac : (Cond.arrayClass .int) ∈ TI := ti_x (List.mem_of_getElem? (i := 45) rfl)
theorem tx_mlX0_11 : (Cond.methodLink RX0 11 yX4_init) ∈ TI := ti_x (List.mem_of_getElem? (i := 46) rfl)
theorem tx_mlX1_11 : (Cond.methodLink RX1 11 yX4_init) ∈ TI := ti_x (List.mem_of_getElem? (i := 47) rfl)
theorem tx_mlX2_11 : (Cond.methodLink RX2 11 yX4_init) ∈ TI := ti_x (List.mem_of_getElem? (i := 48) rfl)
theorem tx_mlX5_11 : (Cond.methodLink RX5 11 yX4_init) ∈ TI := ti_x (List.mem_of_getElem? (i := 49) rfl)
theorem tx_mlX7_38 : (Cond.methodLink RX7 38 yX3_init) ∈ TI := ti_x (List.mem_of_getElem? (i := 50) rfl)
theorem tx_mlX7_64 : (Cond.methodLink RX7 64 yX4_init) ∈ TI := ti_x (List.mem_of_getElem? (i := 51) rfl)
theorem tx_mlL_9 : (Cond.methodLink RL 9 yX7_init) ∈ TI := ti_x (List.mem_of_getElem? (i := 52) rfl)
theorem tx_mlL_12 : (Cond.methodLink RL 12 yX8_init) ∈ TI := ti_x (List.mem_of_getElem? (i := 53) rfl)
theorem tx_mlX7_74 : (Cond.methodLink RX7 74 yJ0_length_8abf5) ∈ TI := ti_x (List.mem_of_getElem? (i := 54) rfl)
theorem tx_mlX7_80 : (Cond.methodLink RX7 80 yJ0_charAt_5068e) ∈ TI := ti_x (List.mem_of_getElem? (i := 55) rfl)
theorem tx_mlJ0_335 : (Cond.methodLink RJ0 335 yJ0_coder_7d493) ∈ TI := ti_x (List.mem_of_getElem? (i := 56) rfl)
theorem tx_mlJ0_492 : (Cond.methodLink RJ0 492 yJ0_isLatin1_aae02) ∈ TI := ti_x (List.mem_of_getElem? (i := 57) rfl)
theorem tx_mlJ0_495 : (Cond.methodLink RJ0 495 yJ1_charAt_3b067) ∈ TI := ti_x (List.mem_of_getElem? (i := 58) rfl)
theorem tx_mlJ1_9 : (Cond.methodLink RJ1 9 yJ0_checkIndex_df160) ∈ TI := ti_x (List.mem_of_getElem? (i := 59) rfl)
theorem tx_mlJ0_1059 : (Cond.methodLink RJ0 1059 yJ3_checkIndex_8e157) ∈ TI := ti_x (List.mem_of_getElem? (i := 60) rfl)
theorem tx_imX0_init : (Cond.instanceMethod yX0_init) ∈ TI := ti_x (List.mem_of_getElem? (i := 61) rfl)
theorem tx_imX1_init : (Cond.instanceMethod yX1_init) ∈ TI := ti_x (List.mem_of_getElem? (i := 62) rfl)
theorem tx_imX2_init : (Cond.instanceMethod yX2_init) ∈ TI := ti_x (List.mem_of_getElem? (i := 63) rfl)
theorem tx_imX3_init : (Cond.instanceMethod yX3_init) ∈ TI := ti_x (List.mem_of_getElem? (i := 64) rfl)
theorem tx_imX4_init : (Cond.instanceMethod yX4_init) ∈ TI := ti_x (List.mem_of_getElem? (i := 65) rfl)
theorem tx_imX5_init : (Cond.instanceMethod yX5_init) ∈ TI := ti_x (List.mem_of_getElem? (i := 66) rfl)
theorem tx_imX6_init : (Cond.instanceMethod yX6_init) ∈ TI := ti_x (List.mem_of_getElem? (i := 67) rfl)
theorem tx_imX7_init : (Cond.instanceMethod yX7_init) ∈ TI := ti_x (List.mem_of_getElem? (i := 68) rfl)
theorem tx_imX8_init : (Cond.instanceMethod yX8_init) ∈ TI := ti_x (List.mem_of_getElem? (i := 69) rfl)
theorem tx_imJ0_length_8abf5 : (Cond.instanceMethod yJ0_length_8abf5) ∈ TI := ti_x (List.mem_of_getElem? (i := 70) rfl)
theorem tx_imJ0_charAt_5068e : (Cond.instanceMethod yJ0_charAt_5068e) ∈ TI := ti_x (List.mem_of_getElem? (i := 71) rfl)
theorem tx_imJ0_coder_7d493 : (Cond.instanceMethod yJ0_coder_7d493) ∈ TI := ti_x (List.mem_of_getElem? (i := 72) rfl)
theorem tx_imJ0_isLatin1_aae02 : (Cond.instanceMethod yJ0_isLatin1_aae02) ∈ TI := ti_x (List.mem_of_getElem? (i := 73) rfl)
theorem tx_seJ0_length_8abf5 : (Cond.selects RJ0 yJ0_length_8abf5 yJ0_length_8abf5) ∈ TI := ti_x (List.mem_of_getElem? (i := 74) rfl)
theorem tx_seJ0_charAt_5068e : (Cond.selects RJ0 yJ0_charAt_5068e yJ0_charAt_5068e) ∈ TI := ti_x (List.mem_of_getElem? (i := 75) rfl)
theorem tx_seJ0_coder_7d493 : (Cond.selects RJ0 yJ0_coder_7d493 yJ0_coder_7d493) ∈ TI := ti_x (List.mem_of_getElem? (i := 76) rfl)
theorem tx_seJ0_isLatin1_aae02 : (Cond.selects RJ0 yJ0_isLatin1_aae02 yJ0_isLatin1_aae02) ∈ TI := ti_x (List.mem_of_getElem? (i := 77) rfl)
theorem tx_stJ1_charAt_3b067 : (Cond.static yJ1_charAt_3b067) ∈ TI := ti_x (List.mem_of_getElem? (i := 78) rfl)
theorem tx_stJ0_checkIndex_df160 : (Cond.static yJ0_checkIndex_df160) ∈ TI := ti_x (List.mem_of_getElem? (i := 79) rfl)
theorem tx_stJ3_checkIndex_8e157 : (Cond.static yJ3_checkIndex_8e157) ∈ TI := ti_x (List.mem_of_getElem? (i := 80) rfl)
theorem tx_flJ0_9 : (Cond.fieldLink RJ0 9 "java/lang/String" "value" "[B") ∈ TI := ti_x (List.mem_of_getElem? (i := 81) rfl)
theorem tx_flJ0_15 : (Cond.fieldLink RJ0 15 "java/lang/String" "coder" "B") ∈ TI := ti_x (List.mem_of_getElem? (i := 82) rfl)
theorem tx_flJ0_38 : (Cond.fieldLink RJ0 38 "java/lang/String" "COMPACT_STRINGS" "Z") ∈ TI := ti_x (List.mem_of_getElem? (i := 83) rfl)
theorem tx_flJ0_1053 : (Cond.fieldLink RJ0 1053 "jdk/internal/util/Preconditions" "SIOOBE_FORMATTER" "Ljava/util/function/BiFunction;") ∈ TI := ti_x (List.mem_of_getElem? (i := 84) rfl)
/-- links of nest mates: constructors, and the two of NL -/
def NLI : List Cond := [.methodLinkNest RX7 9 yX2_init RX7, .methodLinkNest RX7 18 yX1_init RX7, .methodLinkNest RX7 28 yX5_init RX7, .methodLinkNest RX7 50 yX0_init RX7, .methodLinkNest RX7 57 yX6_init RX7, .methodLinkNest RX3 15 yX5_init RX7] ++ NL
theorem ni_0 : (Cond.methodLinkNest RX7 9 yX2_init RX7) ∈ lw_tbl := lwC_in 1 _ (List.mem_of_getElem? (i := 26) rfl)
theorem nn_X7_9 : (Cond.methodLinkNest RX7 9 yX2_init RX7) ∈ NLI := List.mem_of_getElem? (i := 0) rfl
theorem ni_1 : (Cond.methodLinkNest RX7 18 yX1_init RX7) ∈ lw_tbl := lwC_in 1 _ (List.mem_of_getElem? (i := 56) rfl)
theorem nn_X7_18 : (Cond.methodLinkNest RX7 18 yX1_init RX7) ∈ NLI := List.mem_of_getElem? (i := 1) rfl
theorem ni_2 : (Cond.methodLinkNest RX7 28 yX5_init RX7) ∈ lw_tbl := lwC_in 1 _ (List.mem_of_getElem? (i := 118) rfl)
theorem nn_X7_28 : (Cond.methodLinkNest RX7 28 yX5_init RX7) ∈ NLI := List.mem_of_getElem? (i := 2) rfl
theorem ni_3 : (Cond.methodLinkNest RX7 50 yX0_init RX7) ∈ lw_tbl := lwC_in 1 _ (List.mem_of_getElem? (i := 160) rfl)
theorem nn_X7_50 : (Cond.methodLinkNest RX7 50 yX0_init RX7) ∈ NLI := List.mem_of_getElem? (i := 3) rfl
theorem ni_4 : (Cond.methodLinkNest RX7 57 yX6_init RX7) ∈ lw_tbl := lwC_in 1 _ (List.mem_of_getElem? (i := 178) rfl)
theorem nn_X7_57 : (Cond.methodLinkNest RX7 57 yX6_init RX7) ∈ NLI := List.mem_of_getElem? (i := 4) rfl
theorem ni_5 : (Cond.methodLinkNest RX3 15 yX5_init RX7) ∈ lw_tbl := lwC_in 1 _ (List.mem_of_getElem? (i := 150) rfl)
theorem nn_X3_15 : (Cond.methodLinkNest RX3 15 yX5_init RX7) ∈ NLI := List.mem_of_getElem? (i := 5) rfl
theorem NLI_in : ∀ w ∈ NLI, w ∈ lw_tbl := by
  intro w hw
  rcases List.mem_append.mp hw with h | h
  · revert w
    exact fun w _ h => (List.forall_mem_cons.mpr ⟨ni_0, List.forall_mem_cons.mpr ⟨ni_1, List.forall_mem_cons.mpr ⟨ni_2, List.forall_mem_cons.mpr ⟨ni_3, List.forall_mem_cons.mpr ⟨ni_4, List.forall_mem_cons.mpr ⟨ni_5, fun _ h => absurd h List.not_mem_nil⟩⟩⟩⟩⟩⟩) w h
  · exact NL_in w h
theorem ao_in : (Cond.arrayOver (.object RX5)) ∈ lw_tbl := lwC_in 1 _ (List.mem_of_getElem? (i := 149) rfl)
theorem sr_in : (Cond.stringRef RX7 72 "i5,0;i3,0;i0,0;i1,0;i2,0;i4,6;i0,0;t0,0,1;t1,2,1;t2,3,5;t3,2,6;t4,4,5;w5,2;s7;") ∈ lw_tbl := lwC_in 1 _ (List.mem_of_getElem? (i := 191) rfl)
theorem ls1_in : (Cond.laysStatic "java/lang/String" "COMPACT_STRINGS" "Z") ∈ lw_tbl := lwC_in 1 _ (List.mem_of_getElem? (i := 201) rfl)
theorem ls2_in : (Cond.laysStatic "jdk/internal/util/Preconditions" "SIOOBE_FORMATTER" "Ljava/util/function/BiFunction;") ∈ lw_tbl := lwC_in 1 _ (List.mem_of_getElem? (i := 217) rfl)
/-- what else stands fast: nest mates' links, the class of Stand[] -/
def EnvI (U : State) : Prop := (∀ w ∈ NLI, va_Nw w U) ∧ va_AO RX5 U
theorem NLI_w {w : Cond} (h : w ∈ NLI) : ∃ a i y, w = .methodLinkNest a i y RX7 := by
  rcases List.mem_append.mp h with h | h
  · simp only [List.mem_cons, List.not_mem_nil, or_false] at h
    rcases h with rfl | rfl | rfl | rfl | rfl | rfl <;> exact ⟨_, _, _, rfl⟩
  · exact NL_w h
theorem EnvI_call {a : Array Value} {U : State} {g : JFrame} {mk : MethodId} (h : EnvI U) : EnvI (U.calling g mk a) := by
  refine ⟨fun w hw => ?_, va_AO.moved (u := U) (U := U.calling g mk a) (Vm.Alike.refl U.vm) h.2⟩
  obtain ⟨_, _, _, rfl⟩ := NLI_w hw
  exact va_Nw.same (u := U) rfl rfl (h.1 _ hw)
theorem EnvI_warm {s U : State} (hW : s.WarmedH U.vm) (h : EnvI s) : EnvI U := by
  refine ⟨fun w hw => ?_, va_AO.moved hW.alike h.2⟩
  obtain ⟨_, _, _, rfl⟩ := NLI_w hw
  exact va_Nw.warmM hW (h.1 _ hw)
abbrev tyK (cA cQ : ClassId) : List (ClassId × FieldType) := [(cA, .int), (cQ, .object RX5)]
/-- a constructor's start -/
def BI (sz : Nat) (D : va_G) (cA cQ : ClassId) (W : va_W) (U : State) : Prop := U.heap.size = sz ∧ va_P D vwCl W U.heap ∧ va_K D vwCl (tyK cA cQ) U ∧ va_D (fun _ => True) W ∧ EnvI U
theorem BI_blind {av : List Value} {sz : Nat} {D : va_G} {cA cQ : ClassId} {W : va_W} : FrameBlind (va_Pc av (BI sz D cA cQ W)) := by
  intro a U g mk h
  obtain ⟨h1, h2, h3, h4, h5, h6⟩ := h
  exact ⟨h1, h2, h3, va_K.moved (u := U) (U := U.calling g mk a) (Vm.Alike.refl U.vm) h4, h5, EnvI_call h6⟩
theorem BI_pass {D : va_G} {cA cQ : ClassId} {W : va_W} {H : Heap} {s : State} {A : Nat → Prop} (hP : va_P D vwCl W H) (hK : va_K D vwCl (tyK cA cQ) s) (hD : va_D A W) (hE : EnvI s) : ∀ U : State, U.heap = H → s.WarmedH U.vm → BI H.size D cA cQ W U := by
  intro U hU hW
  exact ⟨by rw [hU], by rw [hU]; exact hP, va_K.moved hW.alike hK, hD.weaken (fun _ _ _ _ => trivial), EnvI_warm hW hE⟩
/-- a constructor's end: the cells that it leaves, at addresses u -/
def atI (D : va_G) (cA cQ : ClassId) (A : Nat → Prop) (F : (Nat → Nat) → va_W) (u : Nat → Nat) (t : State) : Prop := va_P D vwCl (F u) t.heap ∧ va_K D vwCl (tyK cA cQ) t ∧ va_D A (F u)
/-- there is one class of int arrays -/
theorem arr_same {D : va_G} {cA cQ c2 : ClassId} {s : State} (hK : va_K D vwCl (tyK cA cQ ++ [(c2, .int)]) s) : c2 = cA := by
  have h0 := (hK.2 0 (cA, .int) rfl).2
  have h2 := (hK.2 2 (c2, .int) rfl).2
  have h0 : s.vm.findClass ("[" ++ FieldType.int.toString) = some cA := h0
  have h2 : s.vm.findClass ("[" ++ FieldType.int.toString) = some c2 := h2
  exact Option.some.inj (h2.symm.trans h0)
theorem arq_same {D : va_G} {cA cQ c2 : ClassId} {s : State} (hK : va_K D vwCl (tyK cA cQ ++ [(c2, .object RX5)]) s) : c2 = cQ := by
  obtain ⟨_, _, _, _, _, h0⟩ := (hK.2 1 (cQ, .object RX5) rfl).2
  obtain ⟨_, _, _, _, _, h2⟩ := (hK.2 2 (c2, .object RX5) rfl).2
  exact Option.some.inj (h2.symm.trans h0)
theorem K_cut {D : va_G} {cA cQ : ClassId} {tys : List (ClassId × FieldType)} {s : State} (hK : va_K D vwCl (tyK cA cQ ++ tys) s) : va_K D vwCl (tyK cA cQ) s := hK.sub [0, 1] rfl
/-- an array of references, its places told anew -/
theorem P_arr {D : va_G} {cl : List vw_C} {ws : va_W} {H : Heap} {k q n : Nat} {cQ : ClassId} {f g : Nat → Option Nat} (hP : va_P D cl ws H) (hk : ws[k]? = some (q, .inl (cQ, n, .inr (.inr (.inr (.inr f)))))) (h : ∀ j, j < n → f j = g j) : va_P D cl (ws.set k (q, .inl (cQ, n, .inr (.inr (.inr (.inr g)))))) H := by
  intro i x hx
  by_cases hi : i = k
  · subst hi
    rw [List.getElem?_set_self (List.getElem?_eq_some_iff.mp hk).1] at hx
    cases hx
    have h0 := hP i _ hk
    have e : vp_cell cQ (n, .inr (.inr (.inr (.inr f)))) = vp_cell cQ (n, .inr (.inr (.inr (.inr g)))) := by
      unfold vp_cell
      dsimp only
      unfold arrV
      congr 1
      congr 1
      funext j
      exact congrArg va_rf (h j.val j.isLt)
    show H[q]? = some (vp_cell cQ (n, .inr (.inr (.inr (.inr g)))))
    rw [← e]
    exact h0
  · rw [List.getElem?_set_ne (Ne.symm hi)] at hx
    exact hP i x hx
