/-! the class's calls, 1 -/
def pItem (τ : Nat → Nat → Nat) (σ : sT) (x w : Int32) : Int32 := if hsB x (τ 7 0) = false then -1 else
  if w.toInt = 0 then nI (τ 0 x.toNatClampNeg) else if w.toInt = 1 then nI (σ.1 x.toNatClampNeg) else if w.toInt = 2 then nI (sn σ x.toNatClampNeg) else
  if w.toInt = 3 then bi (per τ x.toNatClampNeg) else if w.toInt = 4 then bi (σ.2.1.testBit x.toNatClampNeg) else -1
def pHour (τ : Nat → Nat → Nat) (x w : Int32) : Int32 := if hsB x 12 = false then -1 else
  if w.toInt = 0 then nI (cnE (τ 2) x.toNatClampNeg (τ 8 0)) else if w.toInt = 1 then nI (cnE (τ 5) x.toNatClampNeg (τ 9 0)) else -1
def bcN (p : Nat) : Nat := ((List.range 9).filter (fun i => p.testBit i)).length
section U1
variable {z d G : Nat} {M : bM} {lt : Nat → Nat} {len : Nat} {τ τd : Nat → Nat → Nat} {σ : sT} {pa : Nat → sT} {ph : Nat} {ka : Nat → sT} {kh : Nat} {ci cs : Nat → Nat} {cn : Nat} {Q : bV → bM → Prop}
theorem if_same {α : Type} {c : Prop} [h : Decidable c] {a b r : α} (h1 : c → a = r) (h2 : ¬ c → b = r) : (if c then a else b) = r := by
  by_cases q : c
  · rw [if_pos q]; exact h1 q
  · rw [if_neg q]; exact h2 q
theorem uX7_write {x : Int32} (C : CA M lt len τ τd σ pa ph ka kh ci cs cn)
    (hQ : ((x < 32 ∨ 126 < x) → Q (.inl (-1)) M) ∧ (¬ (x < 32 ∨ 126 < x) → (len = 200 → Q (.inl (-3)) M) ∧ (¬ len = 200 → ∀ M', CA M' (upN lt len x.toNatClampNeg) (len + 1) τ τd σ pa ph ka kh ci cs cn → Eqx clS M M' → Q (.inl (nI (len + 1))) M'))) : Run z (d + 3) 51 [vr 7 0, .inl x] M Q := by
  obtain ⟨h, hh, r1, r2, P, H1, H2, S, P0, P1, L⟩ := id C
  rw [rX7_write]
  by_cases a : x < 32
  · have := hQ.1 (Or.inl a)
    simp only [eX7_write_0, eX7_write_1, eX7_write_3, eX7_write_6, eX7_write_7, eX7_write_9, eX7_write_12, eX7_write_13, eX7_write_14, eX7_write_15, eX7_write_18, eX7_write_19, eX7_write_22, eX7_write_25, eX7_write_26, eX7_write_29, eX7_write_32, eX7_write_35, eX7_write_37, if_pos a]
    exact this
  · by_cases b : 126 < x
    · have := hQ.1 (Or.inr b)
      have b2 : ¬ x ≤ 126 := by rw [Int32.not_le]; exact b
      simp only [eX7_write_0, eX7_write_1, eX7_write_3, eX7_write_6, eX7_write_7, eX7_write_9, eX7_write_12, eX7_write_13, eX7_write_14, eX7_write_15, eX7_write_18, eX7_write_19, eX7_write_22, eX7_write_25, eX7_write_26, eX7_write_29, eX7_write_32, eX7_write_35, eX7_write_37, if_neg a, if_neg b2]
      exact this
    · have hQ := hQ.2 (by rintro (q | q); exact a q; exact b q)
      have b2 : x ≤ 126 := by rw [← Int32.not_lt]; exact b
      obtain ⟨v, hv, rfl⟩ : ∃ v, v < 127 ∧ x = nI v := by
        rcases pk_ix x (n := 127) (by decide) with q | q | ⟨j, hj, rfl⟩
        · exfalso
          rw [Int32.lt_iff_toInt_lt] at a q
          simp at a q
          omega
        · exfalso
          rw [Int32.le_iff_toInt_le, nI_toInt (by decide)] at q
          rw [Int32.le_iff_toInt_le] at b2
          simp at b2
          omega
        · exact ⟨j, hj, rfl⟩
      simp only [eX7_write_0, eX7_write_1, eX7_write_3, eX7_write_6, eX7_write_7, eX7_write_9, eX7_write_12, eX7_write_13, eX7_write_14, eX7_write_15, eX7_write_18, eX7_write_19, eX7_write_22, eX7_write_25, eX7_write_26, eX7_write_29, eX7_write_32, eX7_write_35, eX7_write_37, cnt_0, cnt_1, cnt_2, cnt_3, cnt_4, cnt_5, cnt_6, cnt_7, cnt_8, cnt_9, cnt_10, cnt_11, true_and, Nat.lt_add_one, if_neg a, if_pos b2, tX2_add P]
      by_cases q : len = 200
      · rw [if_pos q]
        simp only [psh_i, bi_f, eX7_write_0, eX7_write_1, eX7_write_3, eX7_write_6, eX7_write_7, eX7_write_9, eX7_write_12, eX7_write_13, eX7_write_14, eX7_write_15, eX7_write_18, eX7_write_19, eX7_write_22, eX7_write_25, eX7_write_26, eX7_write_29, eX7_write_32, eX7_write_35, eX7_write_37, if_true]
        exact hQ.1 q
      · rw [if_neg q]
        have P' : Pg (sI (sI M 9 0 len (nI v)) 2 0 2 (nI (len + 1))) (upN lt len v) (len + 1) := by
          have := P.2.1
          refine ⟨by rw [gI_sI, if_pos ⟨rfl, rfl, rfl⟩], by omega, fun j hj => ?_⟩
          rw [gI_sI, if_neg (by omega), gI_sI]
          unfold upN
          by_cases w : j = len
          · rw [if_pos ⟨rfl, rfl, w⟩, if_pos w]; exact ⟨rfl, by omega⟩
          · rw [if_neg (by omega), if_neg w]; exact P.2.2 j (by omega)
        have E : Eqx gS M (sI (sI M 9 0 len (nI v)) 2 0 2 (nI (len + 1))) := Eqx_tr (Eqx_sI (Or.inr ⟨rfl, rfl⟩)) (Eqx_sI (S := gS) (Or.inl ⟨rfl, rfl⟩)) (fun _ _ q => q) (fun _ _ q => q)
        have := hQ.2 q _ (by rw [nI_clamp (by omega)]; exact CA_page C E P') (Eqx_mo E (fun c i q => by unfold gS at q; unfold clS; omega))
        simp only [psh_i, bi_t, eX7_write_0, eX7_write_1, eX7_write_3, eX7_write_6, eX7_write_7, eX7_write_9, eX7_write_12, eX7_write_13, eX7_write_14, eX7_write_15, eX7_write_18, eX7_write_19, eX7_write_22, eX7_write_25, eX7_write_26, eX7_write_29, eX7_write_32, eX7_write_35, eX7_write_37, cnt_0, cnt_1, cnt_2, cnt_3, cnt_4, cnt_5, cnt_6, cnt_7, cnt_8, cnt_9, cnt_10, cnt_11, true_and, Nat.lt_add_one, show ((1 : Int32) = 0) = False from eq_false (by decide), if_false, tX2_length P']
        exact this
theorem uX7_wipe (C : CA M lt len τ τd σ pa ph ka kh ci cs cn) (hQ : ∀ M', CA M' lt 0 τ τd σ pa ph ka kh ci cs cn → Eqx clS M M' → Q (.inl (nI len)) M') : Run z (d + 2) 52 [vr 7 0] M Q := by
  obtain ⟨h, hh, r1, r2, P, H1, H2, S, P0, P1, L⟩ := id C
  rw [rX7_wipe]
  simp only [eX7_wipe_0, eX7_wipe_1, eX7_wipe_4, eX7_wipe_7, eX7_wipe_8, eX7_wipe_9, eX7_wipe_12, eX7_wipe_15, eX7_wipe_16, cnt_0, cnt_1, cnt_2, cnt_3, cnt_4, cnt_5, cnt_6, cnt_7, cnt_8, cnt_9, cnt_10, cnt_11, true_and, Nat.lt_add_one, tX2_length P, psh_i, tX2_clear, psh_u]
  have E : Eqx gS M (sI M 2 0 2 (nI 0)) := Eqx_sI (Or.inl ⟨rfl, rfl⟩)
  exact hQ _ (CA_page C E ⟨by rw [gI_sI, if_pos ⟨rfl, rfl, rfl⟩], by decide, fun j hj => by omega⟩) (Eqx_mo E (fun c i q => by unfold gS at q; unfold clS; omega))
theorem uX7_fault (C : CA M lt len τ τd σ pa ph ka kh ci cs cn) (hQ : ∀ M', CA M' lt len τ (scn lt len 200 (nil0 τd) 0).2 σ pa ph ka kh ci cs cn → Eqx clS M M' → Q (.inl (fR (scn lt len 200 (nil0 τd) 0).1)) M') : Run z (d + 7) 53 [vr 7 0] M Q := by
  obtain ⟨h, hh, r1, r2, P, H1, H2, S, P0, P1, L⟩ := id C
  rw [rX7_fault]
  simp only [eX7_fault_0, eX7_fault_1, eX7_fault_4, eX7_fault_5, eX7_fault_8, eX7_fault_11, cnt_0, cnt_1, cnt_2, cnt_3, cnt_4, cnt_5, cnt_6, cnt_7, cnt_8, cnt_9, cnt_10, cnt_11, true_and, Nat.lt_add_one, r2]
  refine tX2_readInto (h := 1 - h) (by omega) P H2 (fun M' P' E H' K' => ?_)
  simp only [psh_i, eX7_fault_0, eX7_fault_1, eX7_fault_4, eX7_fault_5, eX7_fault_8, eX7_fault_11]
  exact hQ M' (CA_draft hh r1 C E P' H') (Eqx_mo E (fun c i q => by unfold rS hS fS at q; unfold clS; omega))
theorem uX7_item {x w : Int32} (C : CA M lt len τ τd σ pa ph ka kh ci cs cn) (V : VA G τ σ pa ph ka kh ci cs cn) (hQ : Q (.inl (pItem τ σ x w)) M) : Run z (d + 4) 55 [vr 7 0, .inl x, .inl w] M Q := by
  obtain ⟨h, hh, r1, r2, P, H1, H2, S, P0, P1, L⟩ := id C
  obtain ⟨K, n1, hs, hg, -⟩ := V
  have hn := K.1
  rw [rX7_item]
  simp only [eX7_item_0, eX7_item_1, eX7_item_4, eX7_item_5, eX7_item_8, eX7_item_11, eX7_item_12, eX7_item_13, eX7_item_14, eX7_item_48, eX7_item_49, eX7_item_52, eX7_item_55, eX7_item_56, eX7_item_59, eX7_item_60, eX7_item_61, eX7_item_64, eX7_item_67, eX7_item_68, eX7_item_71, eX7_item_72, eX7_item_73, eX7_item_76, eX7_item_77, eX7_item_80, eX7_item_81, eX7_item_82, eX7_item_85, eX7_item_86, eX7_item_89, eX7_item_92, eX7_item_93, eX7_item_96, eX7_item_97, eX7_item_98, eX7_item_99, eX7_item_102, eX7_item_103, eX7_item_106, eX7_item_109, eX7_item_110, eX7_item_113, eX7_item_114, eX7_item_115, eX7_item_116, cnt_0, cnt_1, cnt_2, cnt_3, cnt_4, cnt_5, cnt_6, cnt_7, cnt_8, cnt_9, cnt_10, cnt_11, true_and, Nat.lt_add_one, r1, hh, tX1_has hh H1, psh_i, bi_0]
  unfold pItem at hQ
  rcases hsB_cases x (n := τ 7 0) (by omega) with ⟨j, hj, rfl, e⟩ | e
  · rw [e, if_neg (by decide), nI_clamp (by omega)] at hQ
    rw [e, if_neg (by decide)]
    have s0 : rowAt M (16 + 0) (nI j) = nI (σ.1 j) := St_rowAt (by decide) (by omega) S
    simp (disch := omega) only [lt_h0, true_and, tX4_at, Ho_k hh H1, psh_i, eX7_item_0, eX7_item_1, eX7_item_4, eX7_item_5, eX7_item_8, eX7_item_11, eX7_item_12, eX7_item_13, eX7_item_14, eX7_item_48, eX7_item_49, eX7_item_52, eX7_item_55, eX7_item_56, eX7_item_59, eX7_item_60, eX7_item_61, eX7_item_64, eX7_item_67, eX7_item_68, eX7_item_71, eX7_item_72, eX7_item_73, eX7_item_76, eX7_item_77, eX7_item_80, eX7_item_81, eX7_item_82, eX7_item_85, eX7_item_86, eX7_item_89, eX7_item_92, eX7_item_93, eX7_item_96, eX7_item_97, eX7_item_98, eX7_item_99, eX7_item_102, eX7_item_103, eX7_item_106, eX7_item_109, eX7_item_110, eX7_item_113, eX7_item_114, eX7_item_115, eX7_item_116, Nat.reduceLT, s0, mX5_seen (show 0 < 12 by decide) (show j < 9 by omega) hs S, tX1_hasPerson hh H1 K, hpB_nI K, bi_0, mX5_isPowdered (show 0 < 12 by decide) (show j < 9 by omega) hs S, Nat.reduceAdd]
    rw [show ∀ b : Bool, (if b = false then Q (.inl 0) M else Q (.inl 1) M) = Q (.inl (bi b)) M from fun b => by cases b <;> rfl, show ∀ b : Bool, (if b = false then Q (.inl 0) M else Q (.inl 1) M) = Q (.inl (bi b)) M from fun b => by cases b <;> rfl]
    revert hQ
    repeat (split; exact id)
    exact id
  · rw [if_pos e] at hQ
    rw [if_pos e]
    exact hQ
theorem uX7_hour {x w : Int32} (C : CA M lt len τ τd σ pa ph ka kh ci cs cn) (V : VA G τ σ pa ph ka kh ci cs cn) (hQ : Q (.inl (pHour τ x w)) M) : Run z (d + 3) 56 [vr 7 0, .inl x, .inl w] M Q := by
  obtain ⟨h, hh, r1, r2, P, H1, H2, S, P0, P1, L⟩ := id C
  obtain ⟨K, n1, hs, hg, -⟩ := V
  rw [rX7_hour]
  simp only [eX7_hour_0, eX7_hour_1, eX7_hour_4, eX7_hour_7, eX7_hour_8, eX7_hour_9, eX7_hour_10, eX7_hour_36, eX7_hour_37, eX7_hour_40, eX7_hour_43, eX7_hour_44, eX7_hour_45, eX7_hour_48, eX7_hour_51, eX7_hour_54, eX7_hour_55, eX7_hour_56, eX7_hour_59, eX7_hour_62, eX7_hour_63, eX7_hour_64, eX7_hour_67, eX7_hour_70, eX7_hour_73, eX7_hour_74, eX7_hour_75, cnt_0, cnt_1, cnt_2, cnt_3, cnt_4, cnt_5, cnt_6, cnt_7, cnt_8, cnt_9, cnt_10, cnt_11, true_and, Nat.lt_add_one, r1, hh, tX7_isHour, psh_i, bi_0]
  unfold pHour at hQ
  rcases hsB_cases x (n := 12) (by decide) with ⟨j, hj, rfl, e⟩ | e
  · rw [e, if_neg (by decide), nI_clamp (by omega)] at hQ
    rw [e, if_neg (by decide), Ho_t H1, Ho_wn H1]
    have t1 := fun Q => tX4_times (z := z) (d := d + 1) (r := 4 + 7 * h) (v := j) (n := τ 8 0) (M := M) (f := τ 2) (Q := Q) (by omega) (fun i hi => ⟨H1.2.2.1 i (by have := K.2.1; omega), by have := (K.2.2.2.2.2.2.1 i hi).1; omega⟩) (by rw [aln_h2 hh]; exact K.2.1) (by omega)
    have t2 := fun Q => tX4_times (z := z) (d := d + 1) (r := 7 + 7 * h) (v := j) (n := τ 9 0) (M := M) (f := τ 5) (Q := Q) (by omega) (fun i hi => ⟨H1.2.2.2.2.2.1 i (by have := K.2.2.1; omega), by have := (K.2.2.2.2.2.2.2 i hi).1; omega⟩) (by rw [aln_h5 hh]; exact K.2.2.1) (by omega)
    simp only [lt_h2 hh, lt_h5 hh, true_and, t1, t2, psh_i, eX7_hour_0, eX7_hour_1, eX7_hour_4, eX7_hour_7, eX7_hour_8, eX7_hour_9, eX7_hour_10, eX7_hour_36, eX7_hour_37, eX7_hour_40, eX7_hour_43, eX7_hour_44, eX7_hour_45, eX7_hour_48, eX7_hour_51, eX7_hour_54, eX7_hour_55, eX7_hour_56, eX7_hour_59, eX7_hour_62, eX7_hour_63, eX7_hour_64, eX7_hour_67, eX7_hour_70, eX7_hour_73, eX7_hour_74, eX7_hour_75]
    revert hQ
    repeat (split; exact id)
    exact id
  · rw [if_pos e] at hQ
    rw [if_pos e]
    exact hQ
end U1
