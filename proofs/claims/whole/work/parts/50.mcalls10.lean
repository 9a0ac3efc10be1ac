/-! the model's calls, 10: order -/
theorem pow6 {L k : Nat} (h : k < L) : 6 ^ (L - k) / 6 = 6 ^ (L - 1 - k) := by
  rw [show L - k = (L - 1 - k) + 1 by omega, Nat.pow_succ, Nat.mul_div_cancel _ (by decide)]
theorem pow6_b {k : Nat} (h : k ≤ 6) : 6 ^ k ≤ 46656 := Nat.pow_le_pow_right (n := 6) (j := 6) (by decide) h
theorem pow6_p (k : Nat) : 0 < 6 ^ k := Nat.pow_pos (by decide)
section M9
variable {d G : Nat} {M : bM} {lt : Nat → Nat} {len n : Nat} {τ : Nat → Nat → Nat} {σ : sT} {pa : Nat → sT} {ph : Nat} {ka : Nat → sT} {kh : Nat} {ci cs : Nat → Nat} {cn : Nat} {Q : bV → bM → Prop}
theorem tX8_asLaid {p g : Nat} {f : Nat → Nat} {N : bM} (R : TR M N) (T : MT M 1 τ) (hn : τ 7 0 ≤ 9) (S : MS N (τ 7 0) (f, p, g)) (hQ : ∀ N', TR M N' → MS N' (τ 7 0) (τ 1, p, g) → Q vu N') : Run 1 (d + 1) 133 [vr 8 0] N Q := by
  have e9 : (9 : Int32) = nI 9 := rfl
  rw [rX8_asLaid]
  have up : ExG 1 (Run 1 d) 8 0 false none cX8_asLaid Q 2 [vr 8 0, .inl (nI 0)] [] (aset N 3 0 0 (fun j => gI N 11 1 (13 + j))) = Q vu (aset N 3 0 9 (fun j => gI N 11 1 (13 + j))) := by
    refine (eq_up (fun i => ExG 1 (Run 1 d) 8 0 false none cX8_asLaid Q 2 [vr 8 0, .inl (nI i)] [] (aset N 3 0 i (fun j => gI N 11 1 (13 + j)))) (Nat.zero_le 9) (fun i _ hi => ?_)).trans ?_
    · have e3 : gI (aset N 3 0 i (fun j => gI N 11 1 (13 + j))) 11 1 (13 + i) = gI N 11 1 (13 + i) := by rw [gI_aset, if_neg (by omega)]
      rw [eX8_asLaid_2]
      simp (disch := omega) only [eX8_asLaid_0, eX8_asLaid_1, eX8_asLaid_3, eX8_asLaid_5, eX8_asLaid_8, eX8_asLaid_9, eX8_asLaid_12, eX8_asLaid_13, eX8_asLaid_14, eX8_asLaid_17, eX8_asLaid_19, eX8_asLaid_20, eX8_asLaid_21, eX8_asLaid_22, eX8_asLaid_23, eX8_asLaid_26, eX8_asLaid_29, c8_, c11_0, c11_1, c11_2, c11_3, c11_4, c11_5, c11_6, c11_7, c11_8, c11_9, alm_0, alm_1, alm_2, alm_3, alm_4, alm_5, alm_6, alm_7, alm_8, alm_9, vT, true_and, e9, lit_13, nI_add, nI_leI, if_neg (show ¬ 9 ≤ i by omega), nI_clamp, nI_1, e3]
      have := aset_s N 3 0 i (fun j => gI N 11 1 (13 + j)) (v := gI N 11 1 (13 + i)) (by rw [Nat.zero_add])
      rw [Nat.zero_add] at this
      rw [this]
    · rw [eX8_asLaid_2]
      simp (disch := omega) only [eX8_asLaid_0, eX8_asLaid_1, eX8_asLaid_3, eX8_asLaid_5, eX8_asLaid_8, eX8_asLaid_9, eX8_asLaid_12, eX8_asLaid_13, eX8_asLaid_14, eX8_asLaid_17, eX8_asLaid_19, eX8_asLaid_20, eX8_asLaid_21, eX8_asLaid_22, eX8_asLaid_23, eX8_asLaid_26, eX8_asLaid_29, c8_, c11_0, c11_1, c11_2, c11_3, c11_4, c11_5, c11_6, c11_7, c11_8, c11_9, alm_0, alm_1, alm_2, alm_3, alm_4, alm_5, alm_6, alm_7, alm_8, alm_9, vT, true_and, e9, nI_leI, Nat.le_refl, if_true]
  rw [aset_0] at up
  simp only [eX8_asLaid_0, eX8_asLaid_1, eX8_asLaid_3, eX8_asLaid_5, eX8_asLaid_8, eX8_asLaid_9, eX8_asLaid_12, eX8_asLaid_13, eX8_asLaid_14, eX8_asLaid_17, eX8_asLaid_19, eX8_asLaid_20, eX8_asLaid_21, eX8_asLaid_22, eX8_asLaid_23, eX8_asLaid_26, eX8_asLaid_29, lit_0]
  rw [up]
  have TN := TR_T R T
  refine hQ _ (TR_n R (Mx_as rfl)) ⟨fun i hi => ?_, ?_, ?_⟩
  · rw [gI_aset, if_pos ⟨rfl, rfl, by omega, by omega⟩]
    exact TN.2.2.2.2.2.1 i hi
  · rw [gI_aset, if_neg (by omega)]; exact S.2.1
  · rw [gI_aset, if_neg (by omega)]; exact S.2.2
def bN (b : Bool) : Nat := if b = true then 1 else 0
theorem bi_N (b : Bool) : bi b = nI (bN b) := by cases b <;> rfl
theorem vX8_order {x : Int32} (C : MA M lt len τ σ pa ph ka kh ci cs cn) (V : VA G τ σ pa ph ka kh ci cs cn) (h9 : S9 τ)
    (hQ : ∀ M', MA M' lt len τ σ pa ph ka kh ci cs cn → Eqx mdS M M' → Q (.inl (pOrder τ ci cs cn x)) M') : Run 1 (d + 3) 134 [vr 8 0, .inl x] M Q := by
  obtain ⟨P, T, S, P0, P1, L⟩ := id C
  obtain ⟨K, n1, hs, hg, -, -, vc⟩ := V
  have hn := K.1
  have ht := K.2.1
  have e1 : ∀ x, inB x 0 1 = eiB x := fun x => ei_in
  rw [rX8_order]
  simp only [eX8_order_0, eX8_order_1, eX8_order_2, eX8_order_3, eX8_order_6, eX8_order_9, eX8_order_10, eX8_order_11, eX8_order_12, eX8_order_15, eX8_order_16, eX8_order_19, eX8_order_20, eX8_order_21, eX8_order_26, eX8_order_27, eX8_order_30, eX8_order_31, eX8_order_32, eX8_order_35, eX8_order_37, eX8_order_38, eX8_order_39, eX8_order_40, eX8_order_41, eX8_order_45, eX8_order_46, eX8_order_49, eX8_order_50, eX8_order_52, eX8_order_53, eX8_order_54, eX8_order_57, eX8_order_60, eX8_order_61, eX8_order_63, eX8_order_64, eX8_order_66, eX8_order_67, eX8_order_71, eX8_order_72, eX8_order_75, eX8_order_76, eX8_order_78, eX8_order_79, eX8_order_81, eX8_order_82, eX8_order_84, eX8_order_85, eX8_order_89, eX8_order_90, eX8_order_93, eX8_order_95, eX8_order_97, eX8_order_98, eX8_order_100, eX8_order_102, eX8_order_104, eX8_order_105, eX8_order_107, eX8_order_108, eX8_order_110, eX8_order_112, eX8_order_114, eX8_order_115, eX8_order_118, eX8_order_119, eX8_order_121, eX8_order_122, eX8_order_125, eX8_order_126, eX8_order_127, eX8_order_131, eX8_order_134, eX8_order_136, eX8_order_138, eX8_order_141, eX8_order_142, eX8_order_145, eX8_order_146, eX8_order_148, eX8_order_151, eX8_order_154, eX8_order_156, eX8_order_157, eX8_order_158, eX8_order_159, eX8_order_160, eX8_order_164, eX8_order_165, eX8_order_168, eX8_order_169, eX8_order_171, eX8_order_172, eX8_order_176, eX8_order_177, eX8_order_180, eX8_order_182, eX8_order_184, eX8_order_185, eX8_order_187, eX8_order_189, eX8_order_191, eX8_order_192, eX8_order_194, eX8_order_195, eX8_order_197, eX8_order_198, eX8_order_199, eX8_order_202, eX8_order_204, eX8_order_206, eX8_order_207, eX8_order_208, eX8_order_209, eX8_order_212, eX8_order_214, eX8_order_216, eX8_order_217, eX8_order_218, eX8_order_221, eX8_order_222, eX8_order_225, eX8_order_228, eX8_order_230, eX8_order_231, eX8_order_237, eX8_order_238, eX8_order_241, eX8_order_242, eX8_order_243, eX8_order_245, eX8_order_250, eX8_order_252, eX8_order_255, eX8_order_256, eX8_order_259, eX8_order_262, eX8_order_263, eX8_order_266, eX8_order_267, eX8_order_269, eX8_order_272, eX8_order_275, eX8_order_276, eX8_order_279, eX8_order_280, eX8_order_283, eX8_order_285, eX8_order_288, eX8_order_290, eX8_order_293, eX8_order_294, eX8_order_297, eX8_order_298, c8_, c11_0, c11_1, c11_2, c11_3, c11_4, c11_5, c11_6, c11_7, c11_8, c11_9, alm_0, alm_1, alm_2, alm_3, alm_4, alm_5, alm_6, alm_7, alm_8, alm_9, vT, true_and, tX8_in, e1, psh_i, bi_0]
  unfold pOrder at hQ
  by_cases c1 : eiB x = false
  · rw [if_pos c1] at hQ ⊢
    exact hQ M C Eqx_rf
  rw [if_neg c1] at hQ ⊢
  refine tX8_holds (fun N R hN => ?_)
  have SN : MS N (τ 7 0) σ := MS_h hn (fun j _ => hN j) S
  have hLd : ∃ LL, oT τ = LL ∧ LL ≤ 6 ∧ LL ≤ τ 8 0 ∧ LL = min (τ 8 0) 6 := ⟨oT τ, rfl, Nat.min_le_right _ _, Nat.min_le_left _ _, rfl⟩
  obtain ⟨LL, hLL, hL6, hL8, hLm⟩ := hLd
  rw [hLL] at hQ
  have hp6 := pow6_b hL6
  have hp0 := pow6_p LL
  -- from the loop's end
  have fin : ∀ N p a7 a8 a9 a10 a11, TR M N → ExG 1 (Run 1 (d + 2)) 8 1 false none cX8_order Q 275 [vr 8 0, .inl x, .inl (nI LL), .inl (nI (6 ^ LL)), .inl (nI (oc τ ci cs cn LL LL 0 (τ 1))), .inl (bi (hld ci cs (odF τ (τ 1) LL) cn)), .inl (nI p), a7, a8, a9, a10, a11] [] N := by
    intro N p a7 a8 a9 a10 a11 R
    simp only [eX8_order_0, eX8_order_1, eX8_order_2, eX8_order_3, eX8_order_6, eX8_order_9, eX8_order_10, eX8_order_11, eX8_order_12, eX8_order_15, eX8_order_16, eX8_order_19, eX8_order_20, eX8_order_21, eX8_order_26, eX8_order_27, eX8_order_30, eX8_order_31, eX8_order_32, eX8_order_35, eX8_order_37, eX8_order_38, eX8_order_39, eX8_order_40, eX8_order_41, eX8_order_45, eX8_order_46, eX8_order_49, eX8_order_50, eX8_order_52, eX8_order_53, eX8_order_54, eX8_order_57, eX8_order_60, eX8_order_61, eX8_order_63, eX8_order_64, eX8_order_66, eX8_order_67, eX8_order_71, eX8_order_72, eX8_order_75, eX8_order_76, eX8_order_78, eX8_order_79, eX8_order_81, eX8_order_82, eX8_order_84, eX8_order_85, eX8_order_89, eX8_order_90, eX8_order_93, eX8_order_95, eX8_order_97, eX8_order_98, eX8_order_100, eX8_order_102, eX8_order_104, eX8_order_105, eX8_order_107, eX8_order_108, eX8_order_110, eX8_order_112, eX8_order_114, eX8_order_115, eX8_order_118, eX8_order_119, eX8_order_121, eX8_order_122, eX8_order_125, eX8_order_126, eX8_order_127, eX8_order_131, eX8_order_134, eX8_order_136, eX8_order_138, eX8_order_141, eX8_order_142, eX8_order_145, eX8_order_146, eX8_order_148, eX8_order_151, eX8_order_154, eX8_order_156, eX8_order_157, eX8_order_158, eX8_order_159, eX8_order_160, eX8_order_164, eX8_order_165, eX8_order_168, eX8_order_169, eX8_order_171, eX8_order_172, eX8_order_176, eX8_order_177, eX8_order_180, eX8_order_182, eX8_order_184, eX8_order_185, eX8_order_187, eX8_order_189, eX8_order_191, eX8_order_192, eX8_order_194, eX8_order_195, eX8_order_197, eX8_order_198, eX8_order_199, eX8_order_202, eX8_order_204, eX8_order_206, eX8_order_207, eX8_order_208, eX8_order_209, eX8_order_212, eX8_order_214, eX8_order_216, eX8_order_217, eX8_order_218, eX8_order_221, eX8_order_222, eX8_order_225, eX8_order_228, eX8_order_230, eX8_order_231, eX8_order_237, eX8_order_238, eX8_order_241, eX8_order_242, eX8_order_243, eX8_order_245, eX8_order_250, eX8_order_252, eX8_order_255, eX8_order_256, eX8_order_259, eX8_order_262, eX8_order_263, eX8_order_266, eX8_order_267, eX8_order_269, eX8_order_272, eX8_order_275, eX8_order_276, eX8_order_279, eX8_order_280, eX8_order_283, eX8_order_285, eX8_order_288, eX8_order_290, eX8_order_293, eX8_order_294, eX8_order_297, eX8_order_298, c8_, c11_0, c11_1, c11_2, c11_3, c11_4, c11_5, c11_6, c11_7, c11_8, c11_9, alm_0, alm_1, alm_2, alm_3, alm_4, alm_5, alm_6, alm_7, alm_8, alm_9, vT, true_and]
    refine tX8_lets R (fun N' R' h' => ?_)
    have hQ := hQ N' (TR_A C hn R' h') (Mx_E R'.1)
    simp only [psh_u, eX8_order_0, eX8_order_1, eX8_order_2, eX8_order_3, eX8_order_6, eX8_order_9, eX8_order_10, eX8_order_11, eX8_order_12, eX8_order_15, eX8_order_16, eX8_order_19, eX8_order_20, eX8_order_21, eX8_order_26, eX8_order_27, eX8_order_30, eX8_order_31, eX8_order_32, eX8_order_35, eX8_order_37, eX8_order_38, eX8_order_39, eX8_order_40, eX8_order_41, eX8_order_45, eX8_order_46, eX8_order_49, eX8_order_50, eX8_order_52, eX8_order_53, eX8_order_54, eX8_order_57, eX8_order_60, eX8_order_61, eX8_order_63, eX8_order_64, eX8_order_66, eX8_order_67, eX8_order_71, eX8_order_72, eX8_order_75, eX8_order_76, eX8_order_78, eX8_order_79, eX8_order_81, eX8_order_82, eX8_order_84, eX8_order_85, eX8_order_89, eX8_order_90, eX8_order_93, eX8_order_95, eX8_order_97, eX8_order_98, eX8_order_100, eX8_order_102, eX8_order_104, eX8_order_105, eX8_order_107, eX8_order_108, eX8_order_110, eX8_order_112, eX8_order_114, eX8_order_115, eX8_order_118, eX8_order_119, eX8_order_121, eX8_order_122, eX8_order_125, eX8_order_126, eX8_order_127, eX8_order_131, eX8_order_134, eX8_order_136, eX8_order_138, eX8_order_141, eX8_order_142, eX8_order_145, eX8_order_146, eX8_order_148, eX8_order_151, eX8_order_154, eX8_order_156, eX8_order_157, eX8_order_158, eX8_order_159, eX8_order_160, eX8_order_164, eX8_order_165, eX8_order_168, eX8_order_169, eX8_order_171, eX8_order_172, eX8_order_176, eX8_order_177, eX8_order_180, eX8_order_182, eX8_order_184, eX8_order_185, eX8_order_187, eX8_order_189, eX8_order_191, eX8_order_192, eX8_order_194, eX8_order_195, eX8_order_197, eX8_order_198, eX8_order_199, eX8_order_202, eX8_order_204, eX8_order_206, eX8_order_207, eX8_order_208, eX8_order_209, eX8_order_212, eX8_order_214, eX8_order_216, eX8_order_217, eX8_order_218, eX8_order_221, eX8_order_222, eX8_order_225, eX8_order_228, eX8_order_230, eX8_order_231, eX8_order_237, eX8_order_238, eX8_order_241, eX8_order_242, eX8_order_243, eX8_order_245, eX8_order_250, eX8_order_252, eX8_order_255, eX8_order_256, eX8_order_259, eX8_order_262, eX8_order_263, eX8_order_266, eX8_order_267, eX8_order_269, eX8_order_272, eX8_order_275, eX8_order_276, eX8_order_279, eX8_order_280, eX8_order_283, eX8_order_285, eX8_order_288, eX8_order_290, eX8_order_293, eX8_order_294, eX8_order_297, eX8_order_298, bi_0]
    by_cases c2 : x = 0
    · rw [if_pos c2] at hQ ⊢
      exact hQ
    · rw [if_neg c2] at hQ ⊢
      cases hc : hld ci cs (odF τ (τ 1) LL) cn
      · rw [hc] at hQ
        rw [if_pos rfl]
        exact hQ
      · rw [hc] at hQ
        rw [if_neg (by decide)]
        exact hQ
  have digs : ∀ c, c < 6 ^ LL → ∀ (N : bM) (v4 v5 : bV) , (∀ a11 a8 a10, ExG 1 (Run 1 (d + 2)) 8 1 false none cX8_order Q 154 [vr 8 0, .inl x, .inl (nI LL), .inl (nI (6 ^ LL)), v4, v5, .inl (nI c), .inl (nI (mk6 LL c LL)), a8, .inl (bi (od6 LL c LL)), a10, a11] [] N) → ∀ r k a11, k + r = LL → ExG 1 (Run 1 (d + 2)) 8 1 false none cX8_order Q 87 [vr 8 0, .inl x, .inl (nI LL), .inl (nI (6 ^ LL)), v4, v5, .inl (nI c), .inl (nI (mk6 LL c k)), .inl (nI (6 ^ (LL - k))), .inl (bi (od6 LL c k)), .inl (nI k), a11] [] N := by
    intro c hc N v4 v5 hf r
    induction r with
    | zero =>
      intro k a11 ek
      have ek' : k = LL := ek
      subst ek'
      rw [eX8_order_87]
      simp (disch := omega) only [eX8_order_89, eX8_order_90, nI_leI, Nat.le_refl, if_true]
      exact hf _ _ _
    | succ r ih =>
      intro k a11 ek
      have nx := ih (k + 1)
      have hm := mk6_lt (c := c) (k := k) hL6
      have hm6 : mk6 LL c k < 512 := Nat.lt_of_lt_of_le hm.1 (Nat.le_trans (show 2 ^ LL ≤ 2 ^ 6 from Nat.pow_le_pow_right (by decide) hL6) (by decide))
      have hq1 := pow6_b (show LL - k ≤ 6 by omega)
      have hq2 := pow6_b (show LL - 1 - k ≤ 6 by omega)
      have hq3 := pow6_p (LL - 1 - k)
      have d1 : nI (6 ^ (LL - k)) / nI 6 = nI (6 ^ (LL - 1 - k)) := by rw [pk_div (by omega) (by decide) (by decide), pow6 (by omega)]
      have d2 : nI c / nI (6 ^ (LL - 1 - k)) = nI (c / 6 ^ (LL - 1 - k)) := pk_div (by omega) hq3 (by omega)
      have hcd : c / 6 ^ (LL - 1 - k) ≤ c := Nat.div_le_self _ _
      have d3 : nI (c / 6 ^ (LL - 1 - k)) - nI (c / 6 ^ (LL - 1 - k)) / nI 6 * nI 6 = nI (dg LL c k) := rem_nI (by omega) (by decide) (by decide)
      have hdg := dg_lt LL c k
      rw [eX8_order_87]
      simp (disch := omega) only [eX8_order_89, eX8_order_90, nI_leI, if_neg (show ¬ LL ≤ k by omega)]
      simp (disch := omega) only [eX8_order_0, eX8_order_1, eX8_order_2, eX8_order_3, eX8_order_6, eX8_order_9, eX8_order_10, eX8_order_11, eX8_order_12, eX8_order_15, eX8_order_16, eX8_order_19, eX8_order_20, eX8_order_21, eX8_order_26, eX8_order_27, eX8_order_30, eX8_order_31, eX8_order_32, eX8_order_35, eX8_order_37, eX8_order_38, eX8_order_39, eX8_order_40, eX8_order_41, eX8_order_45, eX8_order_46, eX8_order_49, eX8_order_50, eX8_order_52, eX8_order_53, eX8_order_54, eX8_order_57, eX8_order_60, eX8_order_61, eX8_order_63, eX8_order_64, eX8_order_66, eX8_order_67, eX8_order_71, eX8_order_72, eX8_order_75, eX8_order_76, eX8_order_78, eX8_order_79, eX8_order_81, eX8_order_82, eX8_order_84, eX8_order_85, eX8_order_89, eX8_order_90, eX8_order_93, eX8_order_95, eX8_order_97, eX8_order_98, eX8_order_100, eX8_order_102, eX8_order_104, eX8_order_105, eX8_order_107, eX8_order_108, eX8_order_110, eX8_order_112, eX8_order_114, eX8_order_118, eX8_order_119, eX8_order_121, eX8_order_122, eX8_order_125, eX8_order_126, eX8_order_127, eX8_order_131, eX8_order_134, eX8_order_136, eX8_order_138, eX8_order_141, eX8_order_142, eX8_order_145, eX8_order_146, eX8_order_148, eX8_order_151, eX8_order_156, eX8_order_157, eX8_order_158, eX8_order_159, eX8_order_160, eX8_order_164, eX8_order_165, eX8_order_168, eX8_order_169, eX8_order_171, eX8_order_172, eX8_order_176, eX8_order_177, eX8_order_180, eX8_order_182, eX8_order_184, eX8_order_185, eX8_order_187, eX8_order_189, eX8_order_191, eX8_order_192, eX8_order_194, eX8_order_195, eX8_order_197, eX8_order_198, eX8_order_199, eX8_order_202, eX8_order_204, eX8_order_206, eX8_order_207, eX8_order_208, eX8_order_209, eX8_order_212, eX8_order_214, eX8_order_216, eX8_order_217, eX8_order_218, eX8_order_221, eX8_order_222, eX8_order_225, eX8_order_230, eX8_order_231, eX8_order_237, eX8_order_238, eX8_order_241, eX8_order_242, eX8_order_243, eX8_order_245, eX8_order_250, eX8_order_252, eX8_order_255, eX8_order_256, eX8_order_259, eX8_order_262, eX8_order_263, eX8_order_266, eX8_order_267, eX8_order_269, eX8_order_272, eX8_order_275, eX8_order_276, eX8_order_279, eX8_order_280, eX8_order_283, eX8_order_285, eX8_order_288, eX8_order_290, eX8_order_293, eX8_order_294, eX8_order_297, eX8_order_298, lit_6, lit_0, nI_eq, Nat.reduceEqDiff, not_false_iff, true_and, d1, d2, show ¬ 6 ^ (LL - 1 - k) = 0 by omega, d3]
      have nx2 : ∀ _ : bV, ExG 1 (Run 1 (d + 2)) 8 1 false none cX8_order Q 129 [vr 8 0, .inl x, .inl (nI LL), .inl (nI (6 ^ LL)), v4, v5, .inl (nI c), .inl (nI (mk6 LL c (k + 1))), .inl (nI (6 ^ (LL - (k + 1)))), .inl (bi (od6 LL c k)), .inl (nI k), .inl (nI (dg LL c k))] [] N := by
        intro _
        have nx := nx (.inl (nI (dg LL c k))) (by omega)
        rw [od6] at nx
        simp only [eX8_order_129]
        rw [eX8_order_131]
        simp only [bi_0]
        cases ho : od6 LL c k
        · rw [ho, Bool.false_and] at nx
          rw [if_pos rfl]
          simp only [eX8_order_145, eX8_order_146, eX8_order_148, eX8_order_151, nI_1]
          exact nx
        · rw [ho, Bool.true_and] at nx
          rw [if_neg (by decide), eX8_order_134, eX8_order_136, eX8_order_138]
          simp (disch := omega) only [nI_eq]
          by_cases c3 : dg LL c k = k
          · rw [decide_eq_true c3] at nx
            rw [if_pos c3]
            simp only [eX8_order_141, eX8_order_142, eX8_order_146, eX8_order_148, eX8_order_151, nI_1]
            exact nx
          · rw [decide_eq_false c3] at nx
            rw [if_neg c3]
            simp only [eX8_order_145, eX8_order_146, eX8_order_148, eX8_order_151, nI_1]
            exact nx
      rw [mk6, show LL - (k + 1) = LL - 1 - k by omega] at nx2
      rw [eX8_order_115]
      simp (disch := omega) only [nI_leI]
      unfold bD at nx2
      by_cases c2 : dg LL c k < LL
      · rw [if_pos c2] at nx2
        rw [if_neg (by omega)]
        simp (disch := omega) only [eX8_order_0, eX8_order_1, eX8_order_2, eX8_order_3, eX8_order_6, eX8_order_9, eX8_order_10, eX8_order_11, eX8_order_12, eX8_order_15, eX8_order_16, eX8_order_19, eX8_order_20, eX8_order_21, eX8_order_26, eX8_order_27, eX8_order_30, eX8_order_31, eX8_order_32, eX8_order_35, eX8_order_37, eX8_order_38, eX8_order_39, eX8_order_40, eX8_order_41, eX8_order_45, eX8_order_46, eX8_order_49, eX8_order_50, eX8_order_52, eX8_order_53, eX8_order_54, eX8_order_57, eX8_order_60, eX8_order_61, eX8_order_63, eX8_order_64, eX8_order_66, eX8_order_67, eX8_order_71, eX8_order_72, eX8_order_75, eX8_order_76, eX8_order_78, eX8_order_79, eX8_order_81, eX8_order_82, eX8_order_84, eX8_order_85, eX8_order_89, eX8_order_90, eX8_order_93, eX8_order_95, eX8_order_97, eX8_order_98, eX8_order_100, eX8_order_102, eX8_order_104, eX8_order_105, eX8_order_107, eX8_order_108, eX8_order_110, eX8_order_112, eX8_order_114, eX8_order_118, eX8_order_119, eX8_order_121, eX8_order_122, eX8_order_125, eX8_order_126, eX8_order_127, eX8_order_131, eX8_order_134, eX8_order_136, eX8_order_138, eX8_order_141, eX8_order_142, eX8_order_145, eX8_order_146, eX8_order_148, eX8_order_151, eX8_order_156, eX8_order_157, eX8_order_158, eX8_order_159, eX8_order_160, eX8_order_164, eX8_order_165, eX8_order_168, eX8_order_169, eX8_order_171, eX8_order_172, eX8_order_176, eX8_order_177, eX8_order_180, eX8_order_182, eX8_order_184, eX8_order_185, eX8_order_187, eX8_order_189, eX8_order_191, eX8_order_192, eX8_order_194, eX8_order_195, eX8_order_197, eX8_order_198, eX8_order_199, eX8_order_202, eX8_order_204, eX8_order_206, eX8_order_207, eX8_order_208, eX8_order_209, eX8_order_212, eX8_order_214, eX8_order_216, eX8_order_217, eX8_order_218, eX8_order_221, eX8_order_222, eX8_order_225, eX8_order_230, eX8_order_231, eX8_order_237, eX8_order_238, eX8_order_241, eX8_order_242, eX8_order_243, eX8_order_245, eX8_order_250, eX8_order_252, eX8_order_255, eX8_order_256, eX8_order_259, eX8_order_262, eX8_order_263, eX8_order_266, eX8_order_267, eX8_order_269, eX8_order_272, eX8_order_275, eX8_order_276, eX8_order_279, eX8_order_280, eX8_order_283, eX8_order_285, eX8_order_288, eX8_order_290, eX8_order_293, eX8_order_294, eX8_order_297, eX8_order_298, sh_t, (nI_or hm6 (sh_l (show dg LL c k < 9 by omega))).1]
        exact nx2 vu
      · rw [if_neg c2, Nat.or_zero] at nx2
        rw [if_pos (by omega)]
        simp only [eX8_order_0, eX8_order_1, eX8_order_2, eX8_order_3, eX8_order_6, eX8_order_9, eX8_order_10, eX8_order_11, eX8_order_12, eX8_order_15, eX8_order_16, eX8_order_19, eX8_order_20, eX8_order_21, eX8_order_26, eX8_order_27, eX8_order_30, eX8_order_31, eX8_order_32, eX8_order_35, eX8_order_37, eX8_order_38, eX8_order_39, eX8_order_40, eX8_order_41, eX8_order_45, eX8_order_46, eX8_order_49, eX8_order_50, eX8_order_52, eX8_order_53, eX8_order_54, eX8_order_57, eX8_order_60, eX8_order_61, eX8_order_63, eX8_order_64, eX8_order_66, eX8_order_67, eX8_order_71, eX8_order_72, eX8_order_75, eX8_order_76, eX8_order_78, eX8_order_79, eX8_order_81, eX8_order_82, eX8_order_84, eX8_order_85, eX8_order_89, eX8_order_90, eX8_order_93, eX8_order_95, eX8_order_97, eX8_order_98, eX8_order_100, eX8_order_102, eX8_order_104, eX8_order_105, eX8_order_107, eX8_order_108, eX8_order_110, eX8_order_112, eX8_order_114, eX8_order_118, eX8_order_119, eX8_order_121, eX8_order_122, eX8_order_125, eX8_order_126, eX8_order_127, eX8_order_131, eX8_order_134, eX8_order_136, eX8_order_138, eX8_order_141, eX8_order_142, eX8_order_145, eX8_order_146, eX8_order_148, eX8_order_151, eX8_order_156, eX8_order_157, eX8_order_158, eX8_order_159, eX8_order_160, eX8_order_164, eX8_order_165, eX8_order_168, eX8_order_169, eX8_order_171, eX8_order_172, eX8_order_176, eX8_order_177, eX8_order_180, eX8_order_182, eX8_order_184, eX8_order_185, eX8_order_187, eX8_order_189, eX8_order_191, eX8_order_192, eX8_order_194, eX8_order_195, eX8_order_197, eX8_order_198, eX8_order_199, eX8_order_202, eX8_order_204, eX8_order_206, eX8_order_207, eX8_order_208, eX8_order_209, eX8_order_212, eX8_order_214, eX8_order_216, eX8_order_217, eX8_order_218, eX8_order_221, eX8_order_222, eX8_order_225, eX8_order_230, eX8_order_231, eX8_order_237, eX8_order_238, eX8_order_241, eX8_order_242, eX8_order_243, eX8_order_245, eX8_order_250, eX8_order_252, eX8_order_255, eX8_order_256, eX8_order_259, eX8_order_262, eX8_order_263, eX8_order_266, eX8_order_267, eX8_order_269, eX8_order_272, eX8_order_275, eX8_order_276, eX8_order_279, eX8_order_280, eX8_order_283, eX8_order_285, eX8_order_288, eX8_order_290, eX8_order_293, eX8_order_294, eX8_order_297, eX8_order_298, show nI (mk6 LL c k) ||| 0 = nI (mk6 LL c k) from Int32.or_zero]
        exact nx2 vu
  sorry
end M9
