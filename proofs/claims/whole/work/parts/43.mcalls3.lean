/-! the model's calls, 3: what can be undone, what is kept -/
theorem MI_put {M : bM} {a k n : Nat} {σ : sT} (hn : n ≤ 9) (S : MS M n σ) : MI (aset M a (11 * k) 11 (fun j => gI M 11 3 (j - 11 * k))) a (11 * k) n σ := by
  refine ⟨fun i hi => ?_, ?_, ?_⟩
  · rw [gI_aset, if_pos ⟨rfl, rfl, by omega, by omega⟩, show 11 * k + i - 11 * k = i by omega]; exact S.1 i hi
  · rw [gI_aset, if_pos ⟨rfl, rfl, by omega, by omega⟩, show 11 * k + 9 - 11 * k = 9 by omega]; exact S.2.1
  · rw [gI_aset, if_pos ⟨rfl, rfl, by omega, by omega⟩, show 11 * k + 10 - 11 * k = 10 by omega]; exact S.2.2
theorem MI_stay {M : bM} {a j k n : Nat} {f : Nat → Int32} {ρ : sT} (hn : n ≤ 9) (hj : j < k) (H : MI M a (11 * j) n ρ) : MI (aset M a (11 * k) 11 f) a (11 * j) n ρ := by
  refine ⟨fun i hi => ?_, ?_, ?_⟩
  · rw [gI_aset, if_neg (by omega)]; exact H.1 i hi
  · rw [gI_aset, if_neg (by omega)]; exact H.2.1
  · rw [gI_aset, if_neg (by omega)]; exact H.2.2
theorem MS_get {M : bM} {a k n : Nat} {ρ : sT} (hn : n ≤ 9) (H : MI M a (11 * k) n ρ) : MS (aset M 3 0 11 (fun j => gI M 11 a (11 * k + j))) n ρ := by
  refine ⟨fun i hi => ?_, ?_, ?_⟩
  · rw [gI_aset, if_pos ⟨rfl, rfl, by omega, by omega⟩]; exact H.1 i hi
  · rw [gI_aset, if_pos ⟨rfl, rfl, by omega, by omega⟩]; exact H.2.1
  · rw [gI_aset, if_pos ⟨rfl, rfl, by omega, by omega⟩]; exact H.2.2
theorem MI_shift {M : bM} {j n : Nat} {ρ : sT} (hn : n ≤ 9) (hj : j < 7) (H : MI M 4 (11 * (j + 1)) n ρ) : MI (aset M 4 0 77 (fun j => gI M 11 4 (j + 11))) 4 (11 * j) n ρ := by
  refine ⟨fun i hi => ?_, ?_, ?_⟩
  · rw [gI_aset, if_pos ⟨rfl, rfl, by omega, by omega⟩, show 11 * j + i + 11 = 11 * (j + 1) + i by omega]; exact H.1 i hi
  · rw [gI_aset, if_pos ⟨rfl, rfl, by omega, by omega⟩, show 11 * j + 9 + 11 = 11 * (j + 1) + 9 by omega]; exact H.2.1
  · rw [gI_aset, if_pos ⟨rfl, rfl, by omega, by omega⟩, show 11 * j + 10 + 11 = 11 * (j + 1) + 10 by omega]; exact H.2.2
theorem l77 : (77 : Int32) = nI 77 := rfl
section M3
variable {d G : Nat} {M : bM} {lt : Nat → Nat} {len n : Nat} {τ : Nat → Nat → Nat} {σ : sT} {pa : Nat → sT} {ph : Nat} {ka : Nat → sT} {kh : Nat} {ci cs : Nat → Nat} {cn : Nat} {Q : bV → bM → Prop}
theorem tX8_keeps0 {x1 : bV} (hn : n ≤ 9) (S : MS M n σ) (P0 : MIs M 6 4 n pa ph 8) (hh : ph < 8) (hQ : ∀ M', Mx (fun a => a = 4) (fun f => f = 6) M M' → MIs M' 6 4 n (fun j => if j = ph then σ else pa j) (ph + 1) 8 → Q vu M') : ExG 1 (Run 1 d) 8 0 false none cX8_keeps Q 48 [vr 8 0, x1] [] M := by
  have x1 : ∀ i, Mx (fun a => a = 4) (fun f => f = 6) M (aset M 4 (11 * ph) i (fun j => gI M 11 3 (j - 11 * ph))) := fun i => Mx_as rfl
  have e8 : ∀ i, gI (aset M 4 (11 * ph) i (fun j => gI M 11 3 (j - 11 * ph))) 8 0 6 = nI ph := fun i => by rw [gI_aset, if_neg (by omega)]; exact P0.1
  simp only [eX8_keeps_0, eX8_keeps_1, eX8_keeps_4, eX8_keeps_6, eX8_keeps_9, eX8_keeps_10, eX8_keeps_12, eX8_keeps_14, eX8_keeps_17, eX8_keeps_18, eX8_keeps_21, eX8_keeps_22, eX8_keeps_23, eX8_keeps_26, eX8_keeps_27, eX8_keeps_29, eX8_keeps_30, eX8_keeps_31, eX8_keeps_32, eX8_keeps_35, eX8_keeps_38, eX8_keeps_39, eX8_keeps_39r, eX8_keeps_40, eX8_keeps_43, eX8_keeps_44, eX8_keeps_45, eX8_keeps_48, eX8_keeps_49, eX8_keeps_51, eX8_keeps_53, eX8_keeps_56, eX8_keeps_57, eX8_keeps_60, eX8_keeps_62, eX8_keeps_63, eX8_keeps_66, eX8_keeps_67, eX8_keeps_68, eX8_keeps_69, eX8_keeps_70, eX8_keeps_73, eX8_keeps_74, eX8_keeps_75, eX8_keeps_76, eX8_keeps_79, eX8_keeps_82, eX8_keeps_83, eX8_keeps_83r, eX8_keeps_84, eX8_keeps_87, eX8_keeps_88, eX8_keeps_89, eX8_keeps_92, lit_0]
  have up : ExG 1 (Run 1 d) 8 0 false none cX8_keeps Q 50 [vr 8 0, .inl (nI 0)] [] (aset M 4 (11 * ph) 0 (fun j => gI M 11 3 (j - 11 * ph))) = Q vu (sI (aset M 4 (11 * ph) 11 (fun j => gI M 11 3 (j - 11 * ph))) 8 0 6 (nI (ph + 1))) := by
    refine (eq_up (fun i => ExG 1 (Run 1 d) 8 0 false none cX8_keeps Q 50 [vr 8 0, .inl (nI i)] [] (aset M 4 (11 * ph) i (fun j => gI M 11 3 (j - 11 * ph)))) (Nat.zero_le 11) (fun i _ hi => ?_)).trans ?_
    · have e3 : gI (aset M 4 (11 * ph) i (fun j => gI M 11 3 (j - 11 * ph))) 11 3 i = gI M 11 3 i := by rw [gI_aset, if_neg (by omega)]
      rw [eX8_keeps_50]
      simp (disch := omega) only [eX8_keeps_0, eX8_keeps_1, eX8_keeps_4, eX8_keeps_6, eX8_keeps_9, eX8_keeps_10, eX8_keeps_12, eX8_keeps_14, eX8_keeps_17, eX8_keeps_18, eX8_keeps_21, eX8_keeps_22, eX8_keeps_23, eX8_keeps_26, eX8_keeps_27, eX8_keeps_29, eX8_keeps_30, eX8_keeps_31, eX8_keeps_32, eX8_keeps_35, eX8_keeps_38, eX8_keeps_39, eX8_keeps_39r, eX8_keeps_40, eX8_keeps_43, eX8_keeps_44, eX8_keeps_45, eX8_keeps_48, eX8_keeps_49, eX8_keeps_51, eX8_keeps_53, eX8_keeps_56, eX8_keeps_57, eX8_keeps_60, eX8_keeps_62, eX8_keeps_63, eX8_keeps_66, eX8_keeps_67, eX8_keeps_68, eX8_keeps_69, eX8_keeps_70, eX8_keeps_73, eX8_keeps_74, eX8_keeps_75, eX8_keeps_76, eX8_keeps_79, eX8_keeps_82, eX8_keeps_83, eX8_keeps_83r, eX8_keeps_84, eX8_keeps_87, eX8_keeps_88, eX8_keeps_89, eX8_keeps_92, c8_, c11_0, c11_1, c11_2, c11_3, c11_4, c11_5, c11_6, c11_7, c11_8, c11_9, alm_0, alm_1, alm_2, alm_3, alm_4, alm_5, alm_6, alm_7, alm_8, alm_9, vT, true_and, lit_11, nI_leI, if_neg (show ¬ 11 ≤ i by omega), e8, pk_mul, nI_add, nI_clamp, nI_1, e3]
      rw [aset_s _ _ _ _ _ (by rw [show 11 * ph + i - 11 * ph = i by omega])]
    · rw [eX8_keeps_50]
      simp (disch := omega) only [eX8_keeps_0, eX8_keeps_1, eX8_keeps_4, eX8_keeps_6, eX8_keeps_9, eX8_keeps_10, eX8_keeps_12, eX8_keeps_14, eX8_keeps_17, eX8_keeps_18, eX8_keeps_21, eX8_keeps_22, eX8_keeps_23, eX8_keeps_26, eX8_keeps_27, eX8_keeps_29, eX8_keeps_30, eX8_keeps_31, eX8_keeps_32, eX8_keeps_35, eX8_keeps_38, eX8_keeps_39, eX8_keeps_39r, eX8_keeps_40, eX8_keeps_43, eX8_keeps_44, eX8_keeps_45, eX8_keeps_48, eX8_keeps_49, eX8_keeps_51, eX8_keeps_53, eX8_keeps_56, eX8_keeps_57, eX8_keeps_60, eX8_keeps_62, eX8_keeps_63, eX8_keeps_66, eX8_keeps_67, eX8_keeps_68, eX8_keeps_69, eX8_keeps_70, eX8_keeps_73, eX8_keeps_74, eX8_keeps_75, eX8_keeps_76, eX8_keeps_79, eX8_keeps_82, eX8_keeps_83, eX8_keeps_83r, eX8_keeps_84, eX8_keeps_87, eX8_keeps_88, eX8_keeps_89, eX8_keeps_92, c8_, c11_0, c11_1, c11_2, c11_3, c11_4, c11_5, c11_6, c11_7, c11_8, c11_9, alm_0, alm_1, alm_2, alm_3, alm_4, alm_5, alm_6, alm_7, alm_8, alm_9, vT, true_and, lit_11, nI_leI, Nat.le_refl, if_true, e8, nI_1]
  rw [aset_0] at up
  rw [up]
  have x2 : Mx (fun a => a = 4) (fun f => f = 6) M (sI (aset M 4 (11 * ph) 11 (fun j => gI M 11 3 (j - 11 * ph))) 8 0 6 (nI (ph + 1))) := Mx_tr (x1 11) (Mx_f rfl)
  refine hQ _ x2 ⟨by rw [gI_sI, if_pos ⟨rfl, rfl, rfl⟩], by omega, fun j hj => ?_⟩
  have xf : Mx (fun a => a = 99) (fun f => f = 6) (aset M 4 (11 * ph) 11 (fun j => gI M 11 3 (j - 11 * ph))) (sI (aset M 4 (11 * ph) 11 (fun j => gI M 11 3 (j - 11 * ph))) 8 0 6 (nI (ph + 1))) := Mx_f rfl
  refine MI_x xf (by omega) ?_
  by_cases q : j = ph
  · subst q
    simp only [if_true]
    exact MI_put hn S
  · simp only [if_neg q]
    exact MI_stay hn (by omega) (P0.2.2 j (by omega))
theorem tX8_keeps (hn : n ≤ 9) (S : MS M n σ) (P0 : MIs M 6 4 n pa ph 8) (hQ : ∀ M', Mx (fun a => a = 4) (fun f => f = 6) M M' → MIs M' 6 4 n (pushP 8 pa ph σ) (pushH 8 ph) 8 → Q vu M') : Run 1 (d + 1) 110 [vr 8 0] M Q := by
  have hh := P0.2.1
  rw [rX8_keeps]
  by_cases q : ph = 8
  · have e8 : ∀ i, gI (aset M 4 0 i (fun j => gI M 11 4 (j + 11))) 8 0 6 = nI 8 := fun i => by rw [gI_aset, if_neg (by omega), P0.1, q]
    have up : ExG 1 (Run 1 d) 8 0 false none cX8_keeps Q 11 [vr 8 0, .inl (nI 0)] [] M = ExG 1 (Run 1 d) 8 0 false none cX8_keeps Q 48 [vr 8 0, .inl (nI 77)] [] (sI (aset M 4 0 77 (fun j => gI M 11 4 (j + 11))) 8 0 6 (nI 7)) := by
      have := (eq_up (fun i => ExG 1 (Run 1 d) 8 0 false none cX8_keeps Q 11 [vr 8 0, .inl (nI i)] [] (aset M 4 0 i (fun j => gI M 11 4 (j + 11)))) (Nat.zero_le 77) (fun i _ hi => by
        have e3 : gI (aset M 4 0 i (fun j => gI M 11 4 (j + 11))) 11 4 (i + 11) = gI M 11 4 (i + 11) := by rw [gI_aset, if_neg (by omega)]
        show ExG 1 (Run 1 d) 8 0 false none cX8_keeps Q 11 [vr 8 0, .inl (nI i)] [] (aset M 4 0 i (fun j => gI M 11 4 (j + 11))) = _
        rw [eX8_keeps_11]
        simp (disch := omega) only [eX8_keeps_0, eX8_keeps_1, eX8_keeps_4, eX8_keeps_6, eX8_keeps_9, eX8_keeps_10, eX8_keeps_12, eX8_keeps_14, eX8_keeps_17, eX8_keeps_18, eX8_keeps_21, eX8_keeps_22, eX8_keeps_23, eX8_keeps_26, eX8_keeps_27, eX8_keeps_29, eX8_keeps_30, eX8_keeps_31, eX8_keeps_32, eX8_keeps_35, eX8_keeps_38, eX8_keeps_39, eX8_keeps_39r, eX8_keeps_40, eX8_keeps_43, eX8_keeps_44, eX8_keeps_45, eX8_keeps_49, eX8_keeps_50, eX8_keeps_51, eX8_keeps_53, eX8_keeps_56, eX8_keeps_57, eX8_keeps_60, eX8_keeps_62, eX8_keeps_63, eX8_keeps_66, eX8_keeps_67, eX8_keeps_68, eX8_keeps_69, eX8_keeps_70, eX8_keeps_73, eX8_keeps_74, eX8_keeps_75, eX8_keeps_76, eX8_keeps_79, eX8_keeps_82, eX8_keeps_83, eX8_keeps_83r, eX8_keeps_84, eX8_keeps_87, eX8_keeps_88, eX8_keeps_89, eX8_keeps_92, c8_, c11_0, c11_1, c11_2, c11_3, c11_4, c11_5, c11_6, c11_7, c11_8, c11_9, alm_0, alm_1, alm_2, alm_3, alm_4, alm_5, alm_6, alm_7, alm_8, alm_9, vT, true_and, lit_11, l77, nI_leI, if_neg (show ¬ 77 ≤ i by omega), nI_add, nI_clamp, nI_1, e3]
        have := aset_s M 4 0 i (fun j => gI M 11 4 (j + 11)) (v := gI M 11 4 (i + 11)) (by rw [Nat.zero_add])
        rw [Nat.zero_add] at this
        rw [this])).trans (by
        show ExG 1 (Run 1 d) 8 0 false none cX8_keeps Q 11 [vr 8 0, .inl (nI 77)] [] (aset M 4 0 77 (fun j => gI M 11 4 (j + 11))) = ExG 1 (Run 1 d) 8 0 false none cX8_keeps Q 48 [vr 8 0, .inl (nI 77)] [] (sI (aset M 4 0 77 (fun j => gI M 11 4 (j + 11))) 8 0 6 (nI 7))
        have e7 : nI 8 - nI 1 = nI 7 := pk_sub (a := 8) (b := 1) (by decide)
        rw [eX8_keeps_11]
        simp (disch := omega) only [eX8_keeps_0, eX8_keeps_1, eX8_keeps_4, eX8_keeps_6, eX8_keeps_9, eX8_keeps_10, eX8_keeps_12, eX8_keeps_14, eX8_keeps_17, eX8_keeps_18, eX8_keeps_21, eX8_keeps_22, eX8_keeps_23, eX8_keeps_26, eX8_keeps_27, eX8_keeps_29, eX8_keeps_30, eX8_keeps_31, eX8_keeps_32, eX8_keeps_35, eX8_keeps_38, eX8_keeps_39, eX8_keeps_39r, eX8_keeps_40, eX8_keeps_43, eX8_keeps_44, eX8_keeps_45, eX8_keeps_49, eX8_keeps_50, eX8_keeps_51, eX8_keeps_53, eX8_keeps_56, eX8_keeps_57, eX8_keeps_60, eX8_keeps_62, eX8_keeps_63, eX8_keeps_66, eX8_keeps_67, eX8_keeps_68, eX8_keeps_69, eX8_keeps_70, eX8_keeps_73, eX8_keeps_74, eX8_keeps_75, eX8_keeps_76, eX8_keeps_79, eX8_keeps_82, eX8_keeps_83, eX8_keeps_83r, eX8_keeps_84, eX8_keeps_87, eX8_keeps_88, eX8_keeps_89, eX8_keeps_92, c8_, c11_0, c11_1, c11_2, c11_3, c11_4, c11_5, c11_6, c11_7, c11_8, c11_9, alm_0, alm_1, alm_2, alm_3, alm_4, alm_5, alm_6, alm_7, alm_8, alm_9, vT, true_and, l77, nI_leI, Nat.le_refl, if_true, e8, lit_1, e7])
      rwa [aset_0] at this
    simp (disch := omega) only [eX8_keeps_0, eX8_keeps_1, eX8_keeps_4, eX8_keeps_6, eX8_keeps_9, eX8_keeps_10, eX8_keeps_12, eX8_keeps_14, eX8_keeps_17, eX8_keeps_18, eX8_keeps_21, eX8_keeps_22, eX8_keeps_23, eX8_keeps_26, eX8_keeps_27, eX8_keeps_29, eX8_keeps_30, eX8_keeps_31, eX8_keeps_32, eX8_keeps_35, eX8_keeps_38, eX8_keeps_39, eX8_keeps_39r, eX8_keeps_40, eX8_keeps_43, eX8_keeps_44, eX8_keeps_45, eX8_keeps_49, eX8_keeps_50, eX8_keeps_51, eX8_keeps_53, eX8_keeps_56, eX8_keeps_57, eX8_keeps_60, eX8_keeps_62, eX8_keeps_63, eX8_keeps_66, eX8_keeps_67, eX8_keeps_68, eX8_keeps_69, eX8_keeps_70, eX8_keeps_73, eX8_keeps_74, eX8_keeps_75, eX8_keeps_76, eX8_keeps_79, eX8_keeps_82, eX8_keeps_83, eX8_keeps_83r, eX8_keeps_84, eX8_keeps_87, eX8_keeps_88, eX8_keeps_89, eX8_keeps_92, c8_, c11_0, c11_1, c11_2, c11_3, c11_4, c11_5, c11_6, c11_7, c11_8, c11_9, alm_0, alm_1, alm_2, alm_3, alm_4, alm_5, alm_6, alm_7, alm_8, alm_9, vT, true_and, P0.1, q, eq_i8, if_true, lit_0]
    rw [up]
    have xs : Mx (fun a => a = 4) (fun f => f = 6) M (sI (aset M 4 0 77 (fun j => gI M 11 4 (j + 11))) 8 0 6 (nI 7)) := Mx_tr (Mx_as rfl) (Mx_f rfl)
    have xf : Mx (fun a => a = 99) (fun f => f = 6) (aset M 4 0 77 (fun j => gI M 11 4 (j + 11))) (sI (aset M 4 0 77 (fun j => gI M 11 4 (j + 11))) 8 0 6 (nI 7)) := Mx_f rfl
    have P7 : MIs (sI (aset M 4 0 77 (fun j => gI M 11 4 (j + 11))) 8 0 6 (nI 7)) 6 4 n (fun j => pa (j + 1)) 7 8 := ⟨by rw [gI_sI, if_pos ⟨rfl, rfl, rfl⟩], by decide, fun j hj => MI_x xf (by omega) (MI_shift hn hj (P0.2.2 (j + 1) (by omega)))⟩
    refine tX8_keeps0 hn (MS_x xs (by omega) S) P7 (by decide) (fun M' x' P' => hQ M' (Mx_tr xs x') ?_)
    unfold pushP pushH
    rw [if_pos q, if_pos q]
    exact P'
  · simp (disch := omega) only [eX8_keeps_0, eX8_keeps_1, eX8_keeps_4, eX8_keeps_6, eX8_keeps_9, eX8_keeps_10, eX8_keeps_12, eX8_keeps_14, eX8_keeps_17, eX8_keeps_18, eX8_keeps_21, eX8_keeps_22, eX8_keeps_23, eX8_keeps_26, eX8_keeps_27, eX8_keeps_29, eX8_keeps_30, eX8_keeps_31, eX8_keeps_32, eX8_keeps_35, eX8_keeps_38, eX8_keeps_39, eX8_keeps_39r, eX8_keeps_40, eX8_keeps_43, eX8_keeps_44, eX8_keeps_45, eX8_keeps_49, eX8_keeps_50, eX8_keeps_51, eX8_keeps_53, eX8_keeps_56, eX8_keeps_57, eX8_keeps_60, eX8_keeps_62, eX8_keeps_63, eX8_keeps_66, eX8_keeps_67, eX8_keeps_68, eX8_keeps_69, eX8_keeps_70, eX8_keeps_73, eX8_keeps_74, eX8_keeps_75, eX8_keeps_76, eX8_keeps_79, eX8_keeps_82, eX8_keeps_83, eX8_keeps_83r, eX8_keeps_84, eX8_keeps_87, eX8_keeps_88, eX8_keeps_89, eX8_keeps_92, c8_, c11_0, c11_1, c11_2, c11_3, c11_4, c11_5, c11_6, c11_7, c11_8, c11_9, alm_0, alm_1, alm_2, alm_3, alm_4, alm_5, alm_6, alm_7, alm_8, alm_9, vT, true_and, P0.1, eq_i8, nI_eq, if_neg q]
    refine tX8_keeps0 hn S P0 (by omega) (fun M' x' P' => hQ M' x' ?_)
    unfold pushP pushH
    rw [if_neg q, if_neg q]
    exact P'
theorem tX8_ones {p : Nat} (hp : p < 512) : Run 1 (d + 1) 120 [.inl (nI p)] M Q = Q (.inl (nI (bcN p))) M := by
  have e9 : (9 : Int32) = nI 9 := rfl
  have key : ∀ p : Fin 512, ((List.range 9).foldl (fun s i => s + (if p.val.testBit i = true then 1 else 0)) 0) = bcN p.val := by decide +kernel
  have st : ∀ k, k ≤ 9 → ExG 1 (Run 1 d) 8 1 false none cX8_ones Q 4 [.inl (nI p), .inl (nI 0), .inl (nI 0)] [] M = ExG 1 (Run 1 d) 8 1 false none cX8_ones Q 4 [.inl (nI p), .inl (nI ((List.range k).foldl (fun s i => s + (if p.testBit i = true then 1 else 0)) 0)), .inl (nI k)] [] M := by
    intro k
    induction k with
    | zero => intro _; rfl
    | succ k ih =>
      intro hk
      rw [ih (by omega), eX8_ones_4]
      simp (disch := omega) only [eX8_ones_0, eX8_ones_1, eX8_ones_2, eX8_ones_3, eX8_ones_5, eX8_ones_7, eX8_ones_10, eX8_ones_11, eX8_ones_12, eX8_ones_13, eX8_ones_14, eX8_ones_15, eX8_ones_16, eX8_ones_17, eX8_ones_18, eX8_ones_21, eX8_ones_24, eX8_ones_25, e9, nI_leI, if_neg (show ¬ 9 ≤ k by omega), pow_s hp (show k < 9 by omega), nI_1]
      rw [List.range_succ, List.foldl_append]
      cases h : p.testBit k
      · rw [bi_f1, nI_add]
        simp only [List.foldl_cons, List.foldl_nil, h, if_false, Bool.false_eq_true]
      · rw [bi_t1, nI_add]
        simp only [List.foldl_cons, List.foldl_nil, h, if_true]
  rw [rX8_ones]
  simp only [eX8_ones_0, eX8_ones_1, eX8_ones_2, eX8_ones_3, eX8_ones_5, eX8_ones_7, eX8_ones_10, eX8_ones_11, eX8_ones_12, eX8_ones_13, eX8_ones_14, eX8_ones_15, eX8_ones_16, eX8_ones_17, eX8_ones_18, eX8_ones_21, eX8_ones_24, eX8_ones_25, lit_0]
  rw [st 9 (Nat.le_refl 9), eX8_ones_4]
  simp (disch := omega) only [eX8_ones_0, eX8_ones_1, eX8_ones_2, eX8_ones_3, eX8_ones_5, eX8_ones_7, eX8_ones_10, eX8_ones_11, eX8_ones_12, eX8_ones_13, eX8_ones_14, eX8_ones_15, eX8_ones_16, eX8_ones_17, eX8_ones_18, eX8_ones_21, eX8_ones_24, eX8_ones_25, e9, nI_leI, Nat.le_refl, if_true]
  rw [key ⟨p, hp⟩]
theorem MA_now {M' : bM} {σ' : sT} {pa' : Nat → sT} {ph' : Nat} (C : MA M lt len τ σ pa ph ka kh ci cs cn) (e : Mx (fun a => a = 3 ∨ a = 4 ∨ 7 ≤ a) (fun f => f = 6 ∨ f = 11) M M') (S' : MS M' (τ 7 0) σ') (P' : MIs M' 6 4 (τ 7 0) pa' ph' 8) : MA M' lt len τ σ' pa' ph' ka kh ci cs cn := by
  obtain ⟨P, T, S, P0, P1, L⟩ := C
  exact ⟨MPg_x e (by omega) (by omega) P, MT_x e (by omega) T, S', P', MIs_x e (by omega) (by omega) P1, MCl_x e (by omega) (by omega) L⟩
theorem Mx_n {A F : Nat → Prop} {M M1 : bM} {N : Nat} {σ : sT} (h : Mx (fun a => a = 4) (fun f => f = 6) M M1) (hA : ∀ a, (a = 3 ∨ a = 4) → A a) (hF : F 6) : Mx A F M (wMs M1 N σ) :=
  Mx_tr (Mx_mo h (fun a q => hA a (Or.inr q)) (fun f q => by subst q; exact hF)) (Mx_w (hA 3 (Or.inl rfl)))
theorem nw4 : ∀ a, (a = 3 ∨ a = 4) → (a = 3 ∨ a = 4 ∨ 7 ≤ a) := fun a q => by omega
theorem MIs_w {N : Nat} {σ' : sT} {f a cap h : Nat} {img : Nat → sT} (ha : a ≠ 3) (H : MIs M f a n img h cap) : MIs (wMs M N σ') f a n img h cap := MIs_x (A := fun a => a = 3) (F := fun _ => False) (Mx_w rfl) ha (fun q => q) H
theorem vX8_touch {x y : Int32} (C : MA M lt len τ σ pa ph ka kh ci cs cn) (V : VA G τ σ pa ph ka kh ci cs cn)
    (hQ : ((hsB x (τ 7 0) = false ∨ hsB y (τ 7 0) = false ∨ x = y) → Q (.inl (-1)) M) ∧ ∀ a b, a < τ 7 0 → b < τ 7 0 → a ≠ b → x = nI a → y = nI b → ∀ M', MA M' lt len τ (tcS τ a b σ) (pushP 8 pa ph σ) (pushH 8 ph) ka kh ci cs cn → Eqx mdS M M' → Q (.inl (nI (pmr (τ 0) σ.1 a b))) M') : Run 1 (d + 3) 118 [vr 8 0, .inl x, .inl y] M Q := by
  obtain ⟨P, T, S, P0, P1, L⟩ := id C
  obtain ⟨K, n1, hs, hg, -⟩ := V
  have hn := K.1
  rw [rX8_touch]
  simp only [eX8_touch_0, eX8_touch_1, eX8_touch_2, eX8_touch_5, eX8_touch_8, eX8_touch_9, eX8_touch_10, eX8_touch_13, eX8_touch_16, eX8_touch_17, eX8_touch_18, eX8_touch_21, eX8_touch_22, eX8_touch_23, eX8_touch_24, eX8_touch_27, eX8_touch_28, eX8_touch_29, eX8_touch_30, eX8_touch_33, c8_, c11_0, c11_1, c11_2, c11_3, c11_4, c11_5, c11_6, c11_7, c11_8, c11_9, alm_0, alm_1, alm_2, alm_3, alm_4, alm_5, alm_6, alm_7, alm_8, alm_9, vT, true_and, tX8_isItem T K n1, psh_i, bi_0]
  rcases hsB_cases x (n := τ 7 0) (by omega) with ⟨a, ha, rfl, e⟩ | e
  · rcases hsB_cases y (n := τ 7 0) (by omega) with ⟨b, hb, rfl, e2⟩ | e2
    · rw [e, e2, if_neg (by decide), if_neg (by decide)]
      by_cases c : nI a = nI b
      · rw [if_pos c]
        exact hQ.1 (Or.inr (Or.inr c))
      · rw [if_neg c]
        have hab : a ≠ b := fun q => c (congrArg nI q)
        refine tX8_keeps hn S P0 (fun M1 x1 P' => ?_)
        have S1 := MS_x x1 (by omega) S
        have T1 := MT_x x1 (by omega) T
        simp only [psh_u, eX8_touch_0, eX8_touch_1, eX8_touch_2, eX8_touch_5, eX8_touch_8, eX8_touch_9, eX8_touch_10, eX8_touch_13, eX8_touch_16, eX8_touch_17, eX8_touch_18, eX8_touch_21, eX8_touch_22, eX8_touch_23, eX8_touch_24, eX8_touch_27, eX8_touch_28, eX8_touch_29, eX8_touch_30, eX8_touch_33, c8_, c11_0, c11_1, c11_2, c11_3, c11_4, c11_5, c11_6, c11_7, c11_8, c11_9, alm_0, alm_1, alm_2, alm_3, alm_4, alm_5, alm_6, alm_7, alm_8, alm_9, vT, true_and, tX8_touches T1 K hs ha hb hab S1, psh_i]
        have xx : Mx (fun a => a = 3 ∨ a = 4 ∨ 7 ≤ a) (fun f => f = 6 ∨ f = 11) M (wMs M1 (τ 7 0) (tcS τ a b σ)) := Mx_n x1 nw4 (Or.inl rfl)
        exact hQ.2 a b ha hb hab rfl rfl _ (MA_now C xx (MS_w hn) (MIs_w (by decide) P')) (Mx_E xx)
    · rw [e, e2, if_neg (by decide), if_pos rfl]
      exact hQ.1 (Or.inr (Or.inl e2))
  · rw [e, if_pos rfl]
    exact hQ.1 (Or.inl e)
end M3
