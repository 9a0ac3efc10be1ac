/-! the law's loop -/
section LW
variable {d sl : Nat} {sx : Nat → Int32} {Q : bV → bM → Prop}
theorem lw_write {k G : Nat} {M : bM} (hk : k + 4 ≤ sl) (hs : sl ≤ 4096) (hG : G < 2 ^ 27) (I : INV G M) (h8 : ∀ M', INV (G + 24) M' → ExG 1 (Run 1 (d + 20)) 9 2 false (some (sl, sx)) cL_law Q 800 [vr 12 0, vr 7 0, vr 8 0, .inl (nI k)] [] M') : ExG 1 (Run 1 (d + 20)) 9 2 false (some (sl, sx)) cL_law Q 152 [vr 12 0, vr 7 0, vr 8 0, .inl (nI k)] [] M := by
  simp (disch := omega) only [eL_law_152, eL_law_153, eL_law_154, eL_law_155, eL_law_156, eL_law_157, eL_law_158, eL_law_161, eL_law_162, eL_law_163, eL_law_164, eL_law_165, eL_law_166, eL_law_167, eL_law_170, lit_1, cnt_7, Nat.lt_add_one, c8_, true_and, vT, nI_clamp, nI_add]
  refine Run_mono _ _ _ _ _ _ _ (fun v M1 h => ?_) (st_write (d := d) I)
  obtain ⟨t, rfl, h⟩ := h
  simp (disch := omega) only [psh_i, eL_law_152, eL_law_153, eL_law_154, eL_law_155, eL_law_156, eL_law_157, eL_law_158, eL_law_161, eL_law_162, eL_law_163, eL_law_164, eL_law_165, eL_law_166, eL_law_167, eL_law_170, lit_1, c8_, true_and, vT, nI_clamp, nI_add]
  refine Run_mono _ _ _ _ _ _ _ (fun v' M2 h2 => ?_) h
  obtain ⟨rfl, h2⟩ := h2
  simp only [psh_i, eL_law_152, eL_law_153, eL_law_154, eL_law_155, eL_law_156, eL_law_157, eL_law_158, eL_law_161, eL_law_162, eL_law_163, eL_law_164, eL_law_165, eL_law_166, eL_law_167, eL_law_170, if_true]
  exact h8 M2 h2
theorem lw_wipe {k G : Nat} {M : bM} (hk : k + 4 ≤ sl) (hs : sl ≤ 4096) (hG : G < 2 ^ 27) (I : INV G M) (h8 : ∀ M', INV (G + 24) M' → ExG 1 (Run 1 (d + 20)) 9 2 false (some (sl, sx)) cL_law Q 800 [vr 12 0, vr 7 0, vr 8 0, .inl (nI k)] [] M') : ExG 1 (Run 1 (d + 20)) 9 2 false (some (sl, sx)) cL_law Q 175 [vr 12 0, vr 7 0, vr 8 0, .inl (nI k)] [] M := by
  simp (disch := omega) only [eL_law_175, eL_law_176, eL_law_179, eL_law_180, eL_law_183, cnt_7, Nat.lt_add_one, c8_, true_and, vT, nI_clamp, nI_add]
  refine Run_mono _ _ _ _ _ _ _ (fun v M1 h => ?_) (st_wipe (d := d) I)
  obtain ⟨t, rfl, h⟩ := h
  simp (disch := omega) only [psh_i, eL_law_175, eL_law_176, eL_law_179, eL_law_180, eL_law_183, c8_, true_and, vT, nI_clamp, nI_add]
  refine Run_mono _ _ _ _ _ _ _ (fun v' M2 h2 => ?_) h
  obtain ⟨rfl, h2⟩ := h2
  simp only [psh_i, eL_law_175, eL_law_176, eL_law_179, eL_law_180, eL_law_183, if_true]
  exact h8 M2 h2
theorem lw_fault {k G : Nat} {M : bM} (hk : k + 4 ≤ sl) (hs : sl ≤ 4096) (hG : G < 2 ^ 27) (I : INV G M) (h8 : ∀ M', INV (G + 24) M' → ExG 1 (Run 1 (d + 20)) 9 2 false (some (sl, sx)) cL_law Q 800 [vr 12 0, vr 7 0, vr 8 0, .inl (nI k)] [] M') : ExG 1 (Run 1 (d + 20)) 9 2 false (some (sl, sx)) cL_law Q 188 [vr 12 0, vr 7 0, vr 8 0, .inl (nI k)] [] M := by
  simp (disch := omega) only [eL_law_188, eL_law_189, eL_law_192, eL_law_193, eL_law_196, cnt_7, Nat.lt_add_one, c8_, true_and, vT, nI_clamp, nI_add]
  refine Run_mono _ _ _ _ _ _ _ (fun v M1 h => ?_) (st_fault (d := d) I)
  obtain ⟨t, rfl, h⟩ := h
  simp (disch := omega) only [psh_i, eL_law_188, eL_law_189, eL_law_192, eL_law_193, eL_law_196, c8_, true_and, vT, nI_clamp, nI_add]
  refine Run_mono _ _ _ _ _ _ _ (fun v' M2 h2 => ?_) h
  obtain ⟨rfl, h2⟩ := h2
  simp only [psh_i, eL_law_188, eL_law_189, eL_law_192, eL_law_193, eL_law_196, if_true]
  exact h8 M2 h2
theorem lw_lay {k G : Nat} {M : bM} (hk : k + 4 ≤ sl) (hs : sl ≤ 4096) (hG : G < 2 ^ 27) (I : INV G M) (h8 : ∀ M', INV (G + 24) M' → ExG 1 (Run 1 (d + 20)) 9 2 false (some (sl, sx)) cL_law Q 800 [vr 12 0, vr 7 0, vr 8 0, .inl (nI k)] [] M') : ExG 1 (Run 1 (d + 20)) 9 2 false (some (sl, sx)) cL_law Q 201 [vr 12 0, vr 7 0, vr 8 0, .inl (nI k)] [] M := by
  simp (disch := omega) only [eL_law_201, eL_law_202, eL_law_205, eL_law_206, eL_law_209, cnt_7, Nat.lt_add_one, c8_, true_and, vT, nI_clamp, nI_add]
  refine Run_mono _ _ _ _ _ _ _ (fun v M1 h => ?_) (st_lay (d := d) I)
  obtain ⟨t, rfl, h⟩ := h
  simp (disch := omega) only [psh_i, eL_law_201, eL_law_202, eL_law_205, eL_law_206, eL_law_209, c8_, true_and, vT, nI_clamp, nI_add]
  refine Run_mono _ _ _ _ _ _ _ (fun v' M2 h2 => ?_) h
  obtain ⟨rfl, h2⟩ := h2
  simp only [psh_i, eL_law_201, eL_law_202, eL_law_205, eL_law_206, eL_law_209, if_true]
  exact h8 M2 h2
theorem lw_item {k G : Nat} {M : bM} (hk : k + 4 ≤ sl) (hs : sl ≤ 4096) (hG : G < 2 ^ 27) (I : INV G M) (h8 : ∀ M', INV (G + 24) M' → ExG 1 (Run 1 (d + 20)) 9 2 false (some (sl, sx)) cL_law Q 800 [vr 12 0, vr 7 0, vr 8 0, .inl (nI k)] [] M') : ExG 1 (Run 1 (d + 20)) 9 2 false (some (sl, sx)) cL_law Q 214 [vr 12 0, vr 7 0, vr 8 0, .inl (nI k)] [] M := by
  simp (disch := omega) only [eL_law_214, eL_law_215, eL_law_216, eL_law_217, eL_law_218, eL_law_219, eL_law_220, eL_law_221, eL_law_222, eL_law_223, eL_law_224, eL_law_225, eL_law_228, eL_law_229, eL_law_230, eL_law_231, eL_law_232, eL_law_233, eL_law_234, eL_law_235, eL_law_236, eL_law_237, eL_law_238, eL_law_239, eL_law_242, lit_1, lit_2, cnt_7, Nat.lt_add_one, c8_, true_and, vT, nI_clamp, nI_add]
  refine Run_mono _ _ _ _ _ _ _ (fun v M1 h => ?_) (st_item (d := d) I)
  obtain ⟨t, rfl, h⟩ := h
  simp (disch := omega) only [psh_i, eL_law_214, eL_law_215, eL_law_216, eL_law_217, eL_law_218, eL_law_219, eL_law_220, eL_law_221, eL_law_222, eL_law_223, eL_law_224, eL_law_225, eL_law_228, eL_law_229, eL_law_230, eL_law_231, eL_law_232, eL_law_233, eL_law_234, eL_law_235, eL_law_236, eL_law_237, eL_law_238, eL_law_239, eL_law_242, lit_1, lit_2, c8_, true_and, vT, nI_clamp, nI_add]
  refine Run_mono _ _ _ _ _ _ _ (fun v' M2 h2 => ?_) h
  obtain ⟨rfl, h2⟩ := h2
  simp only [psh_i, eL_law_214, eL_law_215, eL_law_216, eL_law_217, eL_law_218, eL_law_219, eL_law_220, eL_law_221, eL_law_222, eL_law_223, eL_law_224, eL_law_225, eL_law_228, eL_law_229, eL_law_230, eL_law_231, eL_law_232, eL_law_233, eL_law_234, eL_law_235, eL_law_236, eL_law_237, eL_law_238, eL_law_239, eL_law_242, if_true]
  exact h8 M2 h2
theorem lw_hour {k G : Nat} {M : bM} (hk : k + 4 ≤ sl) (hs : sl ≤ 4096) (hG : G < 2 ^ 27) (I : INV G M) (h8 : ∀ M', INV (G + 24) M' → ExG 1 (Run 1 (d + 20)) 9 2 false (some (sl, sx)) cL_law Q 800 [vr 12 0, vr 7 0, vr 8 0, .inl (nI k)] [] M') : ExG 1 (Run 1 (d + 20)) 9 2 false (some (sl, sx)) cL_law Q 247 [vr 12 0, vr 7 0, vr 8 0, .inl (nI k)] [] M := by
  simp (disch := omega) only [eL_law_247, eL_law_248, eL_law_249, eL_law_250, eL_law_251, eL_law_252, eL_law_253, eL_law_254, eL_law_255, eL_law_256, eL_law_257, eL_law_258, eL_law_261, eL_law_262, eL_law_263, eL_law_264, eL_law_265, eL_law_266, eL_law_267, eL_law_268, eL_law_269, eL_law_270, eL_law_271, eL_law_272, eL_law_275, lit_1, lit_2, cnt_7, Nat.lt_add_one, c8_, true_and, vT, nI_clamp, nI_add]
  refine Run_mono _ _ _ _ _ _ _ (fun v M1 h => ?_) (st_hour (d := d) I)
  obtain ⟨t, rfl, h⟩ := h
  simp (disch := omega) only [psh_i, eL_law_247, eL_law_248, eL_law_249, eL_law_250, eL_law_251, eL_law_252, eL_law_253, eL_law_254, eL_law_255, eL_law_256, eL_law_257, eL_law_258, eL_law_261, eL_law_262, eL_law_263, eL_law_264, eL_law_265, eL_law_266, eL_law_267, eL_law_268, eL_law_269, eL_law_270, eL_law_271, eL_law_272, eL_law_275, lit_1, lit_2, c8_, true_and, vT, nI_clamp, nI_add]
  refine Run_mono _ _ _ _ _ _ _ (fun v' M2 h2 => ?_) h
  obtain ⟨rfl, h2⟩ := h2
  simp only [psh_i, eL_law_247, eL_law_248, eL_law_249, eL_law_250, eL_law_251, eL_law_252, eL_law_253, eL_law_254, eL_law_255, eL_law_256, eL_law_257, eL_law_258, eL_law_261, eL_law_262, eL_law_263, eL_law_264, eL_law_265, eL_law_266, eL_law_267, eL_law_268, eL_law_269, eL_law_270, eL_law_271, eL_law_272, eL_law_275, if_true]
  exact h8 M2 h2
theorem lw_pass {k G : Nat} {M : bM} (hk : k + 4 ≤ sl) (hs : sl ≤ 4096) (hG : G < 2 ^ 27) (I : INV G M) (h8 : ∀ M', INV (G + 24) M' → ExG 1 (Run 1 (d + 20)) 9 2 false (some (sl, sx)) cL_law Q 800 [vr 12 0, vr 7 0, vr 8 0, .inl (nI k)] [] M') : ExG 1 (Run 1 (d + 20)) 9 2 false (some (sl, sx)) cL_law Q 280 [vr 12 0, vr 7 0, vr 8 0, .inl (nI k)] [] M := by
  simp (disch := omega) only [eL_law_280, eL_law_281, eL_law_282, eL_law_283, eL_law_284, eL_law_285, eL_law_286, eL_law_289, eL_law_290, eL_law_291, eL_law_292, eL_law_293, eL_law_294, eL_law_295, eL_law_298, lit_1, cnt_7, Nat.lt_add_one, c8_, true_and, vT, nI_clamp, nI_add]
  refine Run_mono _ _ _ _ _ _ _ (fun v M1 h => ?_) (st_pass (d := d) hG I)
  obtain ⟨t, rfl, h⟩ := h
  simp (disch := omega) only [psh_i, eL_law_280, eL_law_281, eL_law_282, eL_law_283, eL_law_284, eL_law_285, eL_law_286, eL_law_289, eL_law_290, eL_law_291, eL_law_292, eL_law_293, eL_law_294, eL_law_295, eL_law_298, lit_1, c8_, true_and, vT, nI_clamp, nI_add]
  refine Run_mono _ _ _ _ _ _ _ (fun v' M2 h2 => ?_) h
  obtain ⟨rfl, h2⟩ := h2
  simp only [psh_i, eL_law_280, eL_law_281, eL_law_282, eL_law_283, eL_law_284, eL_law_285, eL_law_286, eL_law_289, eL_law_290, eL_law_291, eL_law_292, eL_law_293, eL_law_294, eL_law_295, eL_law_298, if_true]
  exact h8 M2 h2
theorem lw_touch {k G : Nat} {M : bM} (hk : k + 4 ≤ sl) (hs : sl ≤ 4096) (hG : G < 2 ^ 27) (I : INV G M) (h8 : ∀ M', INV (G + 24) M' → ExG 1 (Run 1 (d + 20)) 9 2 false (some (sl, sx)) cL_law Q 800 [vr 12 0, vr 7 0, vr 8 0, .inl (nI k)] [] M') : ExG 1 (Run 1 (d + 20)) 9 2 false (some (sl, sx)) cL_law Q 303 [vr 12 0, vr 7 0, vr 8 0, .inl (nI k)] [] M := by
  simp (disch := omega) only [eL_law_303, eL_law_304, eL_law_305, eL_law_306, eL_law_307, eL_law_308, eL_law_309, eL_law_310, eL_law_311, eL_law_312, eL_law_313, eL_law_314, eL_law_317, eL_law_318, eL_law_319, eL_law_320, eL_law_321, eL_law_322, eL_law_323, eL_law_324, eL_law_325, eL_law_326, eL_law_327, eL_law_328, eL_law_331, lit_1, lit_2, cnt_7, Nat.lt_add_one, c8_, true_and, vT, nI_clamp, nI_add]
  refine Run_mono _ _ _ _ _ _ _ (fun v M1 h => ?_) (st_touch (d := d) I)
  obtain ⟨t, rfl, h⟩ := h
  simp (disch := omega) only [psh_i, eL_law_303, eL_law_304, eL_law_305, eL_law_306, eL_law_307, eL_law_308, eL_law_309, eL_law_310, eL_law_311, eL_law_312, eL_law_313, eL_law_314, eL_law_317, eL_law_318, eL_law_319, eL_law_320, eL_law_321, eL_law_322, eL_law_323, eL_law_324, eL_law_325, eL_law_326, eL_law_327, eL_law_328, eL_law_331, lit_1, lit_2, c8_, true_and, vT, nI_clamp, nI_add]
  refine Run_mono _ _ _ _ _ _ _ (fun v' M2 h2 => ?_) h
  obtain ⟨rfl, h2⟩ := h2
  simp only [psh_i, eL_law_303, eL_law_304, eL_law_305, eL_law_306, eL_law_307, eL_law_308, eL_law_309, eL_law_310, eL_law_311, eL_law_312, eL_law_313, eL_law_314, eL_law_317, eL_law_318, eL_law_319, eL_law_320, eL_law_321, eL_law_322, eL_law_323, eL_law_324, eL_law_325, eL_law_326, eL_law_327, eL_law_328, eL_law_331, if_true]
  exact h8 M2 h2
theorem lw_wash {k G : Nat} {M : bM} (hk : k + 4 ≤ sl) (hs : sl ≤ 4096) (hG : G < 2 ^ 27) (I : INV G M) (h8 : ∀ M', INV (G + 24) M' → ExG 1 (Run 1 (d + 20)) 9 2 false (some (sl, sx)) cL_law Q 800 [vr 12 0, vr 7 0, vr 8 0, .inl (nI k)] [] M') : ExG 1 (Run 1 (d + 20)) 9 2 false (some (sl, sx)) cL_law Q 336 [vr 12 0, vr 7 0, vr 8 0, .inl (nI k)] [] M := by
  simp (disch := omega) only [eL_law_336, eL_law_337, eL_law_338, eL_law_339, eL_law_340, eL_law_341, eL_law_342, eL_law_345, eL_law_346, eL_law_347, eL_law_348, eL_law_349, eL_law_350, eL_law_351, eL_law_354, lit_1, cnt_7, Nat.lt_add_one, c8_, true_and, vT, nI_clamp, nI_add]
  refine Run_mono _ _ _ _ _ _ _ (fun v M1 h => ?_) (st_wash (d := d) I)
  obtain ⟨t, rfl, h⟩ := h
  simp (disch := omega) only [psh_i, eL_law_336, eL_law_337, eL_law_338, eL_law_339, eL_law_340, eL_law_341, eL_law_342, eL_law_345, eL_law_346, eL_law_347, eL_law_348, eL_law_349, eL_law_350, eL_law_351, eL_law_354, lit_1, c8_, true_and, vT, nI_clamp, nI_add]
  refine Run_mono _ _ _ _ _ _ _ (fun v' M2 h2 => ?_) h
  obtain ⟨rfl, h2⟩ := h2
  simp only [psh_i, eL_law_336, eL_law_337, eL_law_338, eL_law_339, eL_law_340, eL_law_341, eL_law_342, eL_law_345, eL_law_346, eL_law_347, eL_law_348, eL_law_349, eL_law_350, eL_law_351, eL_law_354, if_true]
  exact h8 M2 h2
theorem lw_powder {k G : Nat} {M : bM} (hk : k + 4 ≤ sl) (hs : sl ≤ 4096) (hG : G < 2 ^ 27) (I : INV G M) (h8 : ∀ M', INV (G + 24) M' → ExG 1 (Run 1 (d + 20)) 9 2 false (some (sl, sx)) cL_law Q 800 [vr 12 0, vr 7 0, vr 8 0, .inl (nI k)] [] M') : ExG 1 (Run 1 (d + 20)) 9 2 false (some (sl, sx)) cL_law Q 359 [vr 12 0, vr 7 0, vr 8 0, .inl (nI k)] [] M := by
  simp (disch := omega) only [eL_law_359, eL_law_360, eL_law_361, eL_law_362, eL_law_363, eL_law_364, eL_law_365, eL_law_368, eL_law_369, eL_law_370, eL_law_371, eL_law_372, eL_law_373, eL_law_374, eL_law_377, lit_1, cnt_7, Nat.lt_add_one, c8_, true_and, vT, nI_clamp, nI_add]
  refine Run_mono _ _ _ _ _ _ _ (fun v M1 h => ?_) (st_powder (d := d) I)
  obtain ⟨t, rfl, h⟩ := h
  simp (disch := omega) only [psh_i, eL_law_359, eL_law_360, eL_law_361, eL_law_362, eL_law_363, eL_law_364, eL_law_365, eL_law_368, eL_law_369, eL_law_370, eL_law_371, eL_law_372, eL_law_373, eL_law_374, eL_law_377, lit_1, c8_, true_and, vT, nI_clamp, nI_add]
  refine Run_mono _ _ _ _ _ _ _ (fun v' M2 h2 => ?_) h
  obtain ⟨rfl, h2⟩ := h2
  simp only [psh_i, eL_law_359, eL_law_360, eL_law_361, eL_law_362, eL_law_363, eL_law_364, eL_law_365, eL_law_368, eL_law_369, eL_law_370, eL_law_371, eL_law_372, eL_law_373, eL_law_374, eL_law_377, if_true]
  exact h8 M2 h2
theorem lw_undo {k G : Nat} {M : bM} (hk : k + 4 ≤ sl) (hs : sl ≤ 4096) (hG : G < 2 ^ 27) (I : INV G M) (h8 : ∀ M', INV (G + 24) M' → ExG 1 (Run 1 (d + 20)) 9 2 false (some (sl, sx)) cL_law Q 800 [vr 12 0, vr 7 0, vr 8 0, .inl (nI k)] [] M') : ExG 1 (Run 1 (d + 20)) 9 2 false (some (sl, sx)) cL_law Q 382 [vr 12 0, vr 7 0, vr 8 0, .inl (nI k)] [] M := by
  simp (disch := omega) only [eL_law_382, eL_law_383, eL_law_386, eL_law_387, eL_law_390, cnt_7, Nat.lt_add_one, c8_, true_and, vT, nI_clamp, nI_add]
  refine Run_mono _ _ _ _ _ _ _ (fun v M1 h => ?_) (st_undo (d := d) I)
  obtain ⟨t, rfl, h⟩ := h
  simp (disch := omega) only [psh_i, eL_law_382, eL_law_383, eL_law_386, eL_law_387, eL_law_390, c8_, true_and, vT, nI_clamp, nI_add]
  refine Run_mono _ _ _ _ _ _ _ (fun v' M2 h2 => ?_) h
  obtain ⟨rfl, h2⟩ := h2
  simp only [psh_i, eL_law_382, eL_law_383, eL_law_386, eL_law_387, eL_law_390, if_true]
  exact h8 M2 h2
theorem lw_behind {k G : Nat} {M : bM} (hk : k + 4 ≤ sl) (hs : sl ≤ 4096) (hG : G < 2 ^ 27) (I : INV G M) (h8 : ∀ M', INV (G + 24) M' → ExG 1 (Run 1 (d + 20)) 9 2 false (some (sl, sx)) cL_law Q 800 [vr 12 0, vr 7 0, vr 8 0, .inl (nI k)] [] M') : ExG 1 (Run 1 (d + 20)) 9 2 false (some (sl, sx)) cL_law Q 395 [vr 12 0, vr 7 0, vr 8 0, .inl (nI k)] [] M := by
  simp (disch := omega) only [eL_law_395, eL_law_396, eL_law_397, eL_law_398, eL_law_399, eL_law_400, eL_law_401, eL_law_402, eL_law_403, eL_law_404, eL_law_405, eL_law_406, eL_law_407, eL_law_408, eL_law_409, eL_law_410, eL_law_411, eL_law_414, eL_law_415, eL_law_416, eL_law_417, eL_law_418, eL_law_419, eL_law_420, eL_law_421, eL_law_422, eL_law_423, eL_law_424, eL_law_425, eL_law_426, eL_law_427, eL_law_428, eL_law_429, eL_law_430, eL_law_433, lit_1, lit_2, lit_3, cnt_7, Nat.lt_add_one, c8_, true_and, vT, nI_clamp, nI_add]
  refine Run_mono _ _ _ _ _ _ _ (fun v M1 h => ?_) (st_behind (d := d) hG I)
  obtain ⟨t, rfl, h⟩ := h
  simp (disch := omega) only [psh_i, eL_law_395, eL_law_396, eL_law_397, eL_law_398, eL_law_399, eL_law_400, eL_law_401, eL_law_402, eL_law_403, eL_law_404, eL_law_405, eL_law_406, eL_law_407, eL_law_408, eL_law_409, eL_law_410, eL_law_411, eL_law_414, eL_law_415, eL_law_416, eL_law_417, eL_law_418, eL_law_419, eL_law_420, eL_law_421, eL_law_422, eL_law_423, eL_law_424, eL_law_425, eL_law_426, eL_law_427, eL_law_428, eL_law_429, eL_law_430, eL_law_433, lit_1, lit_2, lit_3, c8_, true_and, vT, nI_clamp, nI_add]
  refine Run_mono _ _ _ _ _ _ _ (fun v' M2 h2 => ?_) h
  obtain ⟨rfl, h2⟩ := h2
  simp only [psh_i, eL_law_395, eL_law_396, eL_law_397, eL_law_398, eL_law_399, eL_law_400, eL_law_401, eL_law_402, eL_law_403, eL_law_404, eL_law_405, eL_law_406, eL_law_407, eL_law_408, eL_law_409, eL_law_410, eL_law_411, eL_law_414, eL_law_415, eL_law_416, eL_law_417, eL_law_418, eL_law_419, eL_law_420, eL_law_421, eL_law_422, eL_law_423, eL_law_424, eL_law_425, eL_law_426, eL_law_427, eL_law_428, eL_law_429, eL_law_430, eL_law_433, if_true]
  exact h8 M2 h2
theorem lw_asIf {k G : Nat} {M : bM} (hk : k + 4 ≤ sl) (hs : sl ≤ 4096) (hG : G < 2 ^ 27) (I : INV G M) (h8 : ∀ M', INV (G + 24) M' → ExG 1 (Run 1 (d + 20)) 9 2 false (some (sl, sx)) cL_law Q 800 [vr 12 0, vr 7 0, vr 8 0, .inl (nI k)] [] M') : ExG 1 (Run 1 (d + 20)) 9 2 false (some (sl, sx)) cL_law Q 438 [vr 12 0, vr 7 0, vr 8 0, .inl (nI k)] [] M := by
  simp (disch := omega) only [eL_law_438, eL_law_439, eL_law_440, eL_law_441, eL_law_442, eL_law_443, eL_law_444, eL_law_445, eL_law_446, eL_law_447, eL_law_448, eL_law_449, eL_law_450, eL_law_451, eL_law_452, eL_law_453, eL_law_454, eL_law_457, eL_law_458, eL_law_459, eL_law_460, eL_law_461, eL_law_462, eL_law_463, eL_law_464, eL_law_465, eL_law_466, eL_law_467, eL_law_468, eL_law_469, eL_law_470, eL_law_471, eL_law_472, eL_law_473, eL_law_476, lit_1, lit_2, lit_3, cnt_7, Nat.lt_add_one, c8_, true_and, vT, nI_clamp, nI_add]
  refine Run_mono _ _ _ _ _ _ _ (fun v M1 h => ?_) (st_asIf (d := d) I)
  obtain ⟨t, rfl, h⟩ := h
  simp (disch := omega) only [psh_i, eL_law_438, eL_law_439, eL_law_440, eL_law_441, eL_law_442, eL_law_443, eL_law_444, eL_law_445, eL_law_446, eL_law_447, eL_law_448, eL_law_449, eL_law_450, eL_law_451, eL_law_452, eL_law_453, eL_law_454, eL_law_457, eL_law_458, eL_law_459, eL_law_460, eL_law_461, eL_law_462, eL_law_463, eL_law_464, eL_law_465, eL_law_466, eL_law_467, eL_law_468, eL_law_469, eL_law_470, eL_law_471, eL_law_472, eL_law_473, eL_law_476, lit_1, lit_2, lit_3, c8_, true_and, vT, nI_clamp, nI_add]
  refine Run_mono _ _ _ _ _ _ _ (fun v' M2 h2 => ?_) h
  obtain ⟨rfl, h2⟩ := h2
  simp only [psh_i, eL_law_438, eL_law_439, eL_law_440, eL_law_441, eL_law_442, eL_law_443, eL_law_444, eL_law_445, eL_law_446, eL_law_447, eL_law_448, eL_law_449, eL_law_450, eL_law_451, eL_law_452, eL_law_453, eL_law_454, eL_law_457, eL_law_458, eL_law_459, eL_law_460, eL_law_461, eL_law_462, eL_law_463, eL_law_464, eL_law_465, eL_law_466, eL_law_467, eL_law_468, eL_law_469, eL_law_470, eL_law_471, eL_law_472, eL_law_473, eL_law_476, if_true]
  exact h8 M2 h2
theorem lw_soap {k G : Nat} {M : bM} (hk : k + 4 ≤ sl) (hs : sl ≤ 4096) (hG : G < 2 ^ 27) (I : INV G M) (h8 : ∀ M', INV (G + 24) M' → ExG 1 (Run 1 (d + 20)) 9 2 false (some (sl, sx)) cL_law Q 800 [vr 12 0, vr 7 0, vr 8 0, .inl (nI k)] [] M') : ExG 1 (Run 1 (d + 20)) 9 2 false (some (sl, sx)) cL_law Q 481 [vr 12 0, vr 7 0, vr 8 0, .inl (nI k)] [] M := by
  simp (disch := omega) only [eL_law_481, eL_law_482, eL_law_483, eL_law_484, eL_law_485, eL_law_486, eL_law_487, eL_law_490, eL_law_491, eL_law_492, eL_law_493, eL_law_494, eL_law_495, eL_law_496, eL_law_499, lit_1, cnt_7, Nat.lt_add_one, c8_, true_and, vT, nI_clamp, nI_add]
  refine Run_mono _ _ _ _ _ _ _ (fun v M1 h => ?_) (st_soap (d := d) I)
  obtain ⟨t, rfl, h⟩ := h
  simp (disch := omega) only [psh_i, eL_law_481, eL_law_482, eL_law_483, eL_law_484, eL_law_485, eL_law_486, eL_law_487, eL_law_490, eL_law_491, eL_law_492, eL_law_493, eL_law_494, eL_law_495, eL_law_496, eL_law_499, lit_1, c8_, true_and, vT, nI_clamp, nI_add]
  refine Run_mono _ _ _ _ _ _ _ (fun v' M2 h2 => ?_) h
  obtain ⟨rfl, h2⟩ := h2
  simp only [psh_i, eL_law_481, eL_law_482, eL_law_483, eL_law_484, eL_law_485, eL_law_486, eL_law_487, eL_law_490, eL_law_491, eL_law_492, eL_law_493, eL_law_494, eL_law_495, eL_law_496, eL_law_499, if_true]
  exact h8 M2 h2
theorem lw_alike {k G : Nat} {M : bM} (hk : k + 4 ≤ sl) (hs : sl ≤ 4096) (hG : G < 2 ^ 27) (I : INV G M) (h8 : ∀ M', INV (G + 24) M' → ExG 1 (Run 1 (d + 20)) 9 2 false (some (sl, sx)) cL_law Q 800 [vr 12 0, vr 7 0, vr 8 0, .inl (nI k)] [] M') : ExG 1 (Run 1 (d + 20)) 9 2 false (some (sl, sx)) cL_law Q 504 [vr 12 0, vr 7 0, vr 8 0, .inl (nI k)] [] M := by
  simp (disch := omega) only [eL_law_504, eL_law_505, eL_law_506, eL_law_507, eL_law_508, eL_law_509, eL_law_510, eL_law_513, eL_law_514, eL_law_515, eL_law_516, eL_law_517, eL_law_518, eL_law_519, eL_law_522, lit_1, cnt_7, Nat.lt_add_one, c8_, true_and, vT, nI_clamp, nI_add]
  refine Run_mono _ _ _ _ _ _ _ (fun v M1 h => ?_) (st_alike (d := d) I)
  obtain ⟨t, rfl, h⟩ := h
  simp (disch := omega) only [psh_i, eL_law_504, eL_law_505, eL_law_506, eL_law_507, eL_law_508, eL_law_509, eL_law_510, eL_law_513, eL_law_514, eL_law_515, eL_law_516, eL_law_517, eL_law_518, eL_law_519, eL_law_522, lit_1, c8_, true_and, vT, nI_clamp, nI_add]
  refine Run_mono _ _ _ _ _ _ _ (fun v' M2 h2 => ?_) h
  obtain ⟨rfl, h2⟩ := h2
  simp only [psh_i, eL_law_504, eL_law_505, eL_law_506, eL_law_507, eL_law_508, eL_law_509, eL_law_510, eL_law_513, eL_law_514, eL_law_515, eL_law_516, eL_law_517, eL_law_518, eL_law_519, eL_law_522, if_true]
  exact h8 M2 h2
theorem lw_show {k G : Nat} {M : bM} (hk : k + 4 ≤ sl) (hs : sl ≤ 4096) (hG : G < 2 ^ 27) (I : INV G M) (h8 : ∀ M', INV (G + 24) M' → ExG 1 (Run 1 (d + 20)) 9 2 false (some (sl, sx)) cL_law Q 800 [vr 12 0, vr 7 0, vr 8 0, .inl (nI k)] [] M') : ExG 1 (Run 1 (d + 20)) 9 2 false (some (sl, sx)) cL_law Q 527 [vr 12 0, vr 7 0, vr 8 0, .inl (nI k)] [] M := by
  simp (disch := omega) only [eL_law_527, eL_law_528, eL_law_529, eL_law_530, eL_law_531, eL_law_532, eL_law_533, eL_law_534, eL_law_535, eL_law_536, eL_law_537, eL_law_538, eL_law_541, eL_law_542, eL_law_543, eL_law_544, eL_law_545, eL_law_546, eL_law_547, eL_law_548, eL_law_549, eL_law_550, eL_law_551, eL_law_552, eL_law_555, lit_1, lit_2, cnt_7, Nat.lt_add_one, c8_, true_and, vT, nI_clamp, nI_add]
  refine Run_mono _ _ _ _ _ _ _ (fun v M1 h => ?_) (st_show (d := d) I)
  obtain ⟨t, rfl, h⟩ := h
  simp (disch := omega) only [psh_i, eL_law_527, eL_law_528, eL_law_529, eL_law_530, eL_law_531, eL_law_532, eL_law_533, eL_law_534, eL_law_535, eL_law_536, eL_law_537, eL_law_538, eL_law_541, eL_law_542, eL_law_543, eL_law_544, eL_law_545, eL_law_546, eL_law_547, eL_law_548, eL_law_549, eL_law_550, eL_law_551, eL_law_552, eL_law_555, lit_1, lit_2, c8_, true_and, vT, nI_clamp, nI_add]
  refine Run_mono _ _ _ _ _ _ _ (fun v' M2 h2 => ?_) h
  obtain ⟨rfl, h2⟩ := h2
  simp only [psh_i, eL_law_527, eL_law_528, eL_law_529, eL_law_530, eL_law_531, eL_law_532, eL_law_533, eL_law_534, eL_law_535, eL_law_536, eL_law_537, eL_law_538, eL_law_541, eL_law_542, eL_law_543, eL_law_544, eL_law_545, eL_law_546, eL_law_547, eL_law_548, eL_law_549, eL_law_550, eL_law_551, eL_law_552, eL_law_555, if_true]
  exact h8 M2 h2
theorem lw_forget {k G : Nat} {M : bM} (hk : k + 4 ≤ sl) (hs : sl ≤ 4096) (hG : G < 2 ^ 27) (I : INV G M) (h8 : ∀ M', INV (G + 24) M' → ExG 1 (Run 1 (d + 20)) 9 2 false (some (sl, sx)) cL_law Q 800 [vr 12 0, vr 7 0, vr 8 0, .inl (nI k)] [] M') : ExG 1 (Run 1 (d + 20)) 9 2 false (some (sl, sx)) cL_law Q 560 [vr 12 0, vr 7 0, vr 8 0, .inl (nI k)] [] M := by
  simp (disch := omega) only [eL_law_560, eL_law_561, eL_law_564, eL_law_565, eL_law_568, cnt_7, Nat.lt_add_one, c8_, true_and, vT, nI_clamp, nI_add]
  refine Run_mono _ _ _ _ _ _ _ (fun v M1 h => ?_) (st_forget (d := d) I)
  obtain ⟨t, rfl, h⟩ := h
  simp (disch := omega) only [psh_i, eL_law_560, eL_law_561, eL_law_564, eL_law_565, eL_law_568, c8_, true_and, vT, nI_clamp, nI_add]
  refine Run_mono _ _ _ _ _ _ _ (fun v' M2 h2 => ?_) h
  obtain ⟨rfl, h2⟩ := h2
  simp only [psh_i, eL_law_560, eL_law_561, eL_law_564, eL_law_565, eL_law_568, if_true]
  exact h8 M2 h2
theorem lw_touched {k G : Nat} {M : bM} (hk : k + 4 ≤ sl) (hs : sl ≤ 4096) (hG : G < 2 ^ 27) (I : INV G M) (h8 : ∀ M', INV (G + 24) M' → ExG 1 (Run 1 (d + 20)) 9 2 false (some (sl, sx)) cL_law Q 800 [vr 12 0, vr 7 0, vr 8 0, .inl (nI k)] [] M') : ExG 1 (Run 1 (d + 20)) 9 2 false (some (sl, sx)) cL_law Q 573 [vr 12 0, vr 7 0, vr 8 0, .inl (nI k)] [] M := by
  simp (disch := omega) only [eL_law_573, eL_law_574, eL_law_575, eL_law_576, eL_law_577, eL_law_578, eL_law_579, eL_law_582, eL_law_583, eL_law_584, eL_law_585, eL_law_586, eL_law_587, eL_law_588, eL_law_591, lit_1, cnt_7, Nat.lt_add_one, c8_, true_and, vT, nI_clamp, nI_add]
  refine Run_mono _ _ _ _ _ _ _ (fun v M1 h => ?_) (st_touched (d := d) I)
  obtain ⟨t, rfl, h⟩ := h
  simp (disch := omega) only [psh_i, eL_law_573, eL_law_574, eL_law_575, eL_law_576, eL_law_577, eL_law_578, eL_law_579, eL_law_582, eL_law_583, eL_law_584, eL_law_585, eL_law_586, eL_law_587, eL_law_588, eL_law_591, lit_1, c8_, true_and, vT, nI_clamp, nI_add]
  refine Run_mono _ _ _ _ _ _ _ (fun v' M2 h2 => ?_) h
  obtain ⟨rfl, h2⟩ := h2
  simp only [psh_i, eL_law_573, eL_law_574, eL_law_575, eL_law_576, eL_law_577, eL_law_578, eL_law_579, eL_law_582, eL_law_583, eL_law_584, eL_law_585, eL_law_586, eL_law_587, eL_law_588, eL_law_591, if_true]
  exact h8 M2 h2
theorem lw_order {k G : Nat} {M : bM} (hk : k + 4 ≤ sl) (hs : sl ≤ 4096) (hG : G < 2 ^ 27) (I : INV G M) (h8 : ∀ M', INV (G + 24) M' → ExG 1 (Run 1 (d + 20)) 9 2 false (some (sl, sx)) cL_law Q 800 [vr 12 0, vr 7 0, vr 8 0, .inl (nI k)] [] M') : ExG 1 (Run 1 (d + 20)) 9 2 false (some (sl, sx)) cL_law Q 596 [vr 12 0, vr 7 0, vr 8 0, .inl (nI k)] [] M := by
  simp (disch := omega) only [eL_law_596, eL_law_597, eL_law_598, eL_law_599, eL_law_600, eL_law_601, eL_law_602, eL_law_605, eL_law_606, eL_law_607, eL_law_608, eL_law_609, eL_law_610, eL_law_611, eL_law_614, lit_1, cnt_7, Nat.lt_add_one, c8_, true_and, vT, nI_clamp, nI_add]
  refine Run_mono _ _ _ _ _ _ _ (fun v M1 h => ?_) (st_order (d := d) I)
  obtain ⟨t, rfl, h⟩ := h
  simp (disch := omega) only [psh_i, eL_law_596, eL_law_597, eL_law_598, eL_law_599, eL_law_600, eL_law_601, eL_law_602, eL_law_605, eL_law_606, eL_law_607, eL_law_608, eL_law_609, eL_law_610, eL_law_611, eL_law_614, lit_1, c8_, true_and, vT, nI_clamp, nI_add]
  refine Run_mono _ _ _ _ _ _ _ (fun v' M2 h2 => ?_) h
  obtain ⟨rfl, h2⟩ := h2
  simp only [psh_i, eL_law_596, eL_law_597, eL_law_598, eL_law_599, eL_law_600, eL_law_601, eL_law_602, eL_law_605, eL_law_606, eL_law_607, eL_law_608, eL_law_609, eL_law_610, eL_law_611, eL_law_614, if_true]
  exact h8 M2 h2
theorem lw_box {k G : Nat} {M : bM} (hk : k + 4 ≤ sl) (hs : sl ≤ 4096) (hG : G < 2 ^ 27) (I : INV G M) (h8 : ∀ M', INV (G + 24) M' → ExG 1 (Run 1 (d + 20)) 9 2 false (some (sl, sx)) cL_law Q 800 [vr 12 0, vr 7 0, vr 8 0, .inl (nI k)] [] M') : ExG 1 (Run 1 (d + 20)) 9 2 false (some (sl, sx)) cL_law Q 619 [vr 12 0, vr 7 0, vr 8 0, .inl (nI k)] [] M := by
  simp (disch := omega) only [eL_law_619, eL_law_620, eL_law_623, eL_law_624, eL_law_627, cnt_7, Nat.lt_add_one, c8_, true_and, vT, nI_clamp, nI_add]
  refine Run_mono _ _ _ _ _ _ _ (fun v M1 h => ?_) (st_box (d := d) hG I)
  obtain ⟨t, rfl, h⟩ := h
  simp (disch := omega) only [psh_i, eL_law_619, eL_law_620, eL_law_623, eL_law_624, eL_law_627, c8_, true_and, vT, nI_clamp, nI_add]
  refine Run_mono _ _ _ _ _ _ _ (fun v' M2 h2 => ?_) h
  obtain ⟨rfl, h2⟩ := h2
  simp only [psh_i, eL_law_619, eL_law_620, eL_law_623, eL_law_624, eL_law_627, if_true]
  exact h8 M2 h2
theorem lw_from {k G : Nat} {M : bM} (hk : k + 4 ≤ sl) (hs : sl ≤ 4096) (hG : G < 2 ^ 27) (I : INV G M) (h8 : ∀ M', INV (G + 24) M' → ExG 1 (Run 1 (d + 20)) 9 2 false (some (sl, sx)) cL_law Q 800 [vr 12 0, vr 7 0, vr 8 0, .inl (nI k)] [] M') : ExG 1 (Run 1 (d + 20)) 9 2 false (some (sl, sx)) cL_law Q 632 [vr 12 0, vr 7 0, vr 8 0, .inl (nI k)] [] M := by
  simp (disch := omega) only [eL_law_632, eL_law_633, eL_law_634, eL_law_635, eL_law_636, eL_law_637, eL_law_638, eL_law_639, eL_law_640, eL_law_641, eL_law_642, eL_law_643, eL_law_646, eL_law_647, eL_law_648, eL_law_649, eL_law_650, eL_law_651, eL_law_652, eL_law_653, eL_law_654, eL_law_655, eL_law_656, eL_law_657, eL_law_660, lit_1, lit_2, cnt_7, Nat.lt_add_one, c8_, true_and, vT, nI_clamp, nI_add]
  refine Run_mono _ _ _ _ _ _ _ (fun v M1 h => ?_) (st_from (d := d) I)
  obtain ⟨t, rfl, h⟩ := h
  simp (disch := omega) only [psh_i, eL_law_632, eL_law_633, eL_law_634, eL_law_635, eL_law_636, eL_law_637, eL_law_638, eL_law_639, eL_law_640, eL_law_641, eL_law_642, eL_law_643, eL_law_646, eL_law_647, eL_law_648, eL_law_649, eL_law_650, eL_law_651, eL_law_652, eL_law_653, eL_law_654, eL_law_655, eL_law_656, eL_law_657, eL_law_660, lit_1, lit_2, c8_, true_and, vT, nI_clamp, nI_add]
  refine Run_mono _ _ _ _ _ _ _ (fun v' M2 h2 => ?_) h
  obtain ⟨rfl, h2⟩ := h2
  simp only [psh_i, eL_law_632, eL_law_633, eL_law_634, eL_law_635, eL_law_636, eL_law_637, eL_law_638, eL_law_639, eL_law_640, eL_law_641, eL_law_642, eL_law_643, eL_law_646, eL_law_647, eL_law_648, eL_law_649, eL_law_650, eL_law_651, eL_law_652, eL_law_653, eL_law_654, eL_law_655, eL_law_656, eL_law_657, eL_law_660, if_true]
  exact h8 M2 h2
theorem lw_led {k G : Nat} {M : bM} (hk : k + 4 ≤ sl) (hs : sl ≤ 4096) (hG : G < 2 ^ 27) (I : INV G M) (h8 : ∀ M', INV (G + 24) M' → ExG 1 (Run 1 (d + 20)) 9 2 false (some (sl, sx)) cL_law Q 800 [vr 12 0, vr 7 0, vr 8 0, .inl (nI k)] [] M') : ExG 1 (Run 1 (d + 20)) 9 2 false (some (sl, sx)) cL_law Q 665 [vr 12 0, vr 7 0, vr 8 0, .inl (nI k)] [] M := by
  simp (disch := omega) only [eL_law_665, eL_law_666, eL_law_667, eL_law_668, eL_law_669, eL_law_670, eL_law_671, eL_law_672, eL_law_673, eL_law_674, eL_law_675, eL_law_676, eL_law_677, eL_law_678, eL_law_679, eL_law_680, eL_law_681, eL_law_684, eL_law_685, eL_law_686, eL_law_687, eL_law_688, eL_law_689, eL_law_690, eL_law_691, eL_law_692, eL_law_693, eL_law_694, eL_law_695, eL_law_696, eL_law_697, eL_law_698, eL_law_699, eL_law_700, eL_law_703, lit_1, lit_2, lit_3, cnt_7, Nat.lt_add_one, c8_, true_and, vT, nI_clamp, nI_add]
  refine Run_mono _ _ _ _ _ _ _ (fun v M1 h => ?_) (st_led (d := d) I)
  obtain ⟨t, rfl, h⟩ := h
  simp (disch := omega) only [psh_i, eL_law_665, eL_law_666, eL_law_667, eL_law_668, eL_law_669, eL_law_670, eL_law_671, eL_law_672, eL_law_673, eL_law_674, eL_law_675, eL_law_676, eL_law_677, eL_law_678, eL_law_679, eL_law_680, eL_law_681, eL_law_684, eL_law_685, eL_law_686, eL_law_687, eL_law_688, eL_law_689, eL_law_690, eL_law_691, eL_law_692, eL_law_693, eL_law_694, eL_law_695, eL_law_696, eL_law_697, eL_law_698, eL_law_699, eL_law_700, eL_law_703, lit_1, lit_2, lit_3, c8_, true_and, vT, nI_clamp, nI_add]
  refine Run_mono _ _ _ _ _ _ _ (fun v' M2 h2 => ?_) h
  obtain ⟨rfl, h2⟩ := h2
  simp only [psh_i, eL_law_665, eL_law_666, eL_law_667, eL_law_668, eL_law_669, eL_law_670, eL_law_671, eL_law_672, eL_law_673, eL_law_674, eL_law_675, eL_law_676, eL_law_677, eL_law_678, eL_law_679, eL_law_680, eL_law_681, eL_law_684, eL_law_685, eL_law_686, eL_law_687, eL_law_688, eL_law_689, eL_law_690, eL_law_691, eL_law_692, eL_law_693, eL_law_694, eL_law_695, eL_law_696, eL_law_697, eL_law_698, eL_law_699, eL_law_700, eL_law_703, if_true]
  exact h8 M2 h2
theorem lw_dogs {k G : Nat} {M : bM} (hk : k + 4 ≤ sl) (hs : sl ≤ 4096) (hG : G < 2 ^ 27) (I : INV G M) (h8 : ∀ M', INV (G + 24) M' → ExG 1 (Run 1 (d + 20)) 9 2 false (some (sl, sx)) cL_law Q 800 [vr 12 0, vr 7 0, vr 8 0, .inl (nI k)] [] M') : ExG 1 (Run 1 (d + 20)) 9 2 false (some (sl, sx)) cL_law Q 708 [vr 12 0, vr 7 0, vr 8 0, .inl (nI k)] [] M := by
  simp (disch := omega) only [eL_law_708, eL_law_709, eL_law_710, eL_law_711, eL_law_712, eL_law_713, eL_law_714, eL_law_715, eL_law_716, eL_law_717, eL_law_718, eL_law_719, eL_law_720, eL_law_721, eL_law_722, eL_law_723, eL_law_724, eL_law_727, eL_law_728, eL_law_729, eL_law_730, eL_law_731, eL_law_732, eL_law_733, eL_law_734, eL_law_735, eL_law_736, eL_law_737, eL_law_738, eL_law_739, eL_law_740, eL_law_741, eL_law_742, eL_law_743, eL_law_746, lit_1, lit_2, lit_3, cnt_7, Nat.lt_add_one, c8_, true_and, vT, nI_clamp, nI_add]
  refine Run_mono _ _ _ _ _ _ _ (fun v M1 h => ?_) (st_dogs (d := d) hG I)
  obtain ⟨t, rfl, h⟩ := h
  simp (disch := omega) only [psh_i, eL_law_708, eL_law_709, eL_law_710, eL_law_711, eL_law_712, eL_law_713, eL_law_714, eL_law_715, eL_law_716, eL_law_717, eL_law_718, eL_law_719, eL_law_720, eL_law_721, eL_law_722, eL_law_723, eL_law_724, eL_law_727, eL_law_728, eL_law_729, eL_law_730, eL_law_731, eL_law_732, eL_law_733, eL_law_734, eL_law_735, eL_law_736, eL_law_737, eL_law_738, eL_law_739, eL_law_740, eL_law_741, eL_law_742, eL_law_743, eL_law_746, lit_1, lit_2, lit_3, c8_, true_and, vT, nI_clamp, nI_add]
  refine Run_mono _ _ _ _ _ _ _ (fun v' M2 h2 => ?_) h
  obtain ⟨rfl, h2⟩ := h2
  simp only [psh_i, eL_law_708, eL_law_709, eL_law_710, eL_law_711, eL_law_712, eL_law_713, eL_law_714, eL_law_715, eL_law_716, eL_law_717, eL_law_718, eL_law_719, eL_law_720, eL_law_721, eL_law_722, eL_law_723, eL_law_724, eL_law_727, eL_law_728, eL_law_729, eL_law_730, eL_law_731, eL_law_732, eL_law_733, eL_law_734, eL_law_735, eL_law_736, eL_law_737, eL_law_738, eL_law_739, eL_law_740, eL_law_741, eL_law_742, eL_law_743, eL_law_746, if_true]
  exact h8 M2 h2
theorem lw_keep {k G : Nat} {M : bM} (hk : k + 4 ≤ sl) (hs : sl ≤ 4096) (hG : G < 2 ^ 27) (I : INV G M) (h8 : ∀ M', INV (G + 24) M' → ExG 1 (Run 1 (d + 20)) 9 2 false (some (sl, sx)) cL_law Q 800 [vr 12 0, vr 7 0, vr 8 0, .inl (nI k)] [] M') : ExG 1 (Run 1 (d + 20)) 9 2 false (some (sl, sx)) cL_law Q 751 [vr 12 0, vr 7 0, vr 8 0, .inl (nI k)] [] M := by
  simp (disch := omega) only [eL_law_751, eL_law_752, eL_law_755, eL_law_756, eL_law_759, cnt_7, Nat.lt_add_one, c8_, true_and, vT, nI_clamp, nI_add]
  refine Run_mono _ _ _ _ _ _ _ (fun v M1 h => ?_) (st_keep (d := d) I)
  obtain ⟨t, rfl, h⟩ := h
  simp (disch := omega) only [psh_i, eL_law_751, eL_law_752, eL_law_755, eL_law_756, eL_law_759, c8_, true_and, vT, nI_clamp, nI_add]
  refine Run_mono _ _ _ _ _ _ _ (fun v' M2 h2 => ?_) h
  obtain ⟨rfl, h2⟩ := h2
  simp only [psh_i, eL_law_751, eL_law_752, eL_law_755, eL_law_756, eL_law_759, if_true]
  exact h8 M2 h2
theorem lw_back {k G : Nat} {M : bM} (hk : k + 4 ≤ sl) (hs : sl ≤ 4096) (hG : G < 2 ^ 27) (I : INV G M) (h8 : ∀ M', INV (G + 24) M' → ExG 1 (Run 1 (d + 20)) 9 2 false (some (sl, sx)) cL_law Q 800 [vr 12 0, vr 7 0, vr 8 0, .inl (nI k)] [] M') : ExG 1 (Run 1 (d + 20)) 9 2 false (some (sl, sx)) cL_law Q 764 [vr 12 0, vr 7 0, vr 8 0, .inl (nI k)] [] M := by
  simp (disch := omega) only [eL_law_764, eL_law_765, eL_law_768, eL_law_769, eL_law_772, cnt_7, Nat.lt_add_one, c8_, true_and, vT, nI_clamp, nI_add]
  refine Run_mono _ _ _ _ _ _ _ (fun v M1 h => ?_) (st_back (d := d) I)
  obtain ⟨t, rfl, h⟩ := h
  simp (disch := omega) only [psh_i, eL_law_764, eL_law_765, eL_law_768, eL_law_769, eL_law_772, c8_, true_and, vT, nI_clamp, nI_add]
  refine Run_mono _ _ _ _ _ _ _ (fun v' M2 h2 => ?_) h
  obtain ⟨rfl, h2⟩ := h2
  simp only [psh_i, eL_law_764, eL_law_765, eL_law_768, eL_law_769, eL_law_772, if_true]
  exact h8 M2 h2
theorem lw_count {k G : Nat} {M : bM} (hk : k + 4 ≤ sl) (hs : sl ≤ 4096) (hG : G < 2 ^ 27) (I : INV G M) (h8 : ∀ M', INV (G + 24) M' → ExG 1 (Run 1 (d + 20)) 9 2 false (some (sl, sx)) cL_law Q 800 [vr 12 0, vr 7 0, vr 8 0, .inl (nI k)] [] M') : ExG 1 (Run 1 (d + 20)) 9 2 false (some (sl, sx)) cL_law Q 777 [vr 12 0, vr 7 0, vr 8 0, .inl (nI k)] [] M := by
  simp (disch := omega) only [eL_law_777, eL_law_778, eL_law_779, eL_law_780, eL_law_781, eL_law_782, eL_law_783, eL_law_786, eL_law_787, eL_law_788, eL_law_789, eL_law_790, eL_law_791, eL_law_792, eL_law_795, lit_1, cnt_7, Nat.lt_add_one, c8_, true_and, vT, nI_clamp, nI_add]
  refine Run_mono _ _ _ _ _ _ _ (fun v M1 h => ?_) (st_count (d := d) hG I)
  obtain ⟨t, rfl, h⟩ := h
  simp (disch := omega) only [psh_i, eL_law_777, eL_law_778, eL_law_779, eL_law_780, eL_law_781, eL_law_782, eL_law_783, eL_law_786, eL_law_787, eL_law_788, eL_law_789, eL_law_790, eL_law_791, eL_law_792, eL_law_795, lit_1, c8_, true_and, vT, nI_clamp, nI_add]
  refine Run_mono _ _ _ _ _ _ _ (fun v' M2 h2 => ?_) h
  obtain ⟨rfl, h2⟩ := h2
  simp only [psh_i, eL_law_777, eL_law_778, eL_law_779, eL_law_780, eL_law_781, eL_law_782, eL_law_783, eL_law_786, eL_law_787, eL_law_788, eL_law_789, eL_law_790, eL_law_791, eL_law_792, eL_law_795, if_true]
  exact h8 M2 h2
end LW
