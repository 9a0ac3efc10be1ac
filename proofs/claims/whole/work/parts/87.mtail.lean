/-! the model's constructor: behind its makings -/
theorem dX8_init_0 : decode cX8_init 0 = .ok (.aload_n 0, 1) := by decide +kernel
theorem dX8_init_1 : decode cX8_init 1 = .ok (.invokespecial 1, 3) := by decide +kernel
theorem dX8_init_4 : decode cX8_init 4 = .ok (.aload_n 0, 1) := by decide +kernel
theorem dX8_init_5 : decode cX8_init 5 = .ok (.sipush 200, 3) := by decide +kernel
theorem dX8_init_8 : decode cX8_init 8 = .ok (.newarray .int, 2) := by decide +kernel
theorem dX8_init_10 : decode cX8_init 10 = .ok (.putfield 7, 3) := by decide +kernel
theorem dX8_init_13 : decode cX8_init 13 = .ok (.aload_n 0, 1) := by decide +kernel
theorem dX8_init_14 : decode cX8_init 14 = .ok (.bipush 60, 2) := by decide +kernel
theorem dX8_init_16 : decode cX8_init 16 = .ok (.newarray .int, 2) := by decide +kernel
theorem dX8_init_18 : decode cX8_init 18 = .ok (.putfield 13, 3) := by decide +kernel
theorem dX8_init_21 : decode cX8_init 21 = .ok (.aload_n 0, 1) := by decide +kernel
theorem dX8_init_22 : decode cX8_init 22 = .ok (.bipush 60, 2) := by decide +kernel
theorem dX8_init_24 : decode cX8_init 24 = .ok (.newarray .int, 2) := by decide +kernel
theorem dX8_init_26 : decode cX8_init 26 = .ok (.putfield 16, 3) := by decide +kernel
theorem dX8_init_29 : decode cX8_init 29 = .ok (.aload_n 0, 1) := by decide +kernel
theorem dX8_init_30 : decode cX8_init 30 = .ok (.bipush 11, 2) := by decide +kernel
theorem dX8_init_32 : decode cX8_init 32 = .ok (.newarray .int, 2) := by decide +kernel
theorem dX8_init_34 : decode cX8_init 34 = .ok (.putfield 19, 3) := by decide +kernel
theorem dX8_init_37 : decode cX8_init 37 = .ok (.aload_n 0, 1) := by decide +kernel
theorem dX8_init_38 : decode cX8_init 38 = .ok (.bipush 88, 2) := by decide +kernel
theorem dX8_init_40 : decode cX8_init 40 = .ok (.newarray .int, 2) := by decide +kernel
theorem dX8_init_42 : decode cX8_init 42 = .ok (.putfield 22, 3) := by decide +kernel
theorem dX8_init_45 : decode cX8_init 45 = .ok (.aload_n 0, 1) := by decide +kernel
theorem dX8_init_46 : decode cX8_init 46 = .ok (.bipush 22, 2) := by decide +kernel
theorem dX8_init_48 : decode cX8_init 48 = .ok (.newarray .int, 2) := by decide +kernel
theorem dX8_init_50 : decode cX8_init 50 = .ok (.putfield 25, 3) := by decide +kernel
theorem dX8_init_53 : decode cX8_init 53 = .ok (.aload_n 0, 1) := by decide +kernel
theorem dX8_init_54 : decode cX8_init 54 = .ok (.bipush 6, 2) := by decide +kernel
theorem dX8_init_56 : decode cX8_init 56 = .ok (.newarray .int, 2) := by decide +kernel
theorem dX8_init_58 : decode cX8_init 58 = .ok (.putfield 28, 3) := by decide +kernel
theorem dX8_init_61 : decode cX8_init 61 = .ok (.aload_n 0, 1) := by decide +kernel
theorem dX8_init_62 : decode cX8_init 62 = .ok (.bipush 11, 2) := by decide +kernel
theorem dX8_init_64 : decode cX8_init 64 = .ok (.newarray .int, 2) := by decide +kernel
theorem dX8_init_66 : decode cX8_init 66 = .ok (.putfield 31, 3) := by decide +kernel
theorem dX8_init_69 : decode cX8_init 69 = .ok (.aload_n 0, 1) := by decide +kernel
theorem dX8_init_70 : decode cX8_init 70 = .ok (.bipush 9, 2) := by decide +kernel
theorem dX8_init_72 : decode cX8_init 72 = .ok (.newarray .int, 2) := by decide +kernel
theorem dX8_init_74 : decode cX8_init 74 = .ok (.putfield 34, 3) := by decide +kernel
theorem dX8_init_77 : decode cX8_init 77 = .ok (.aload_n 0, 1) := by decide +kernel
theorem dX8_init_78 : decode cX8_init 78 = .ok (.bipush 9, 2) := by decide +kernel
theorem dX8_init_80 : decode cX8_init 80 = .ok (.newarray .int, 2) := by decide +kernel
theorem dX8_init_82 : decode cX8_init 82 = .ok (.putfield 37, 3) := by decide +kernel
theorem dX8_init_85 : decode cX8_init 85 = .ok (.aload_n 0, 1) := by decide +kernel
theorem dX8_init_86 : decode cX8_init 86 = .ok (.invokevirtual 40, 3) := by decide +kernel
theorem dX8_init_89 : decode cX8_init 89 = .ok (.aload_n 0, 1) := by decide +kernel
theorem dX8_init_90 : decode cX8_init 90 = .ok (.iconst 5, 1) := by decide +kernel
theorem dX8_init_91 : decode cX8_init 91 = .ok (.iconst 0, 1) := by decide +kernel
theorem dX8_init_92 : decode cX8_init 92 = .ok (.invokevirtual 43, 3) := by decide +kernel
theorem dX8_init_95 : decode cX8_init 95 = .ok (.aload_n 0, 1) := by decide +kernel
theorem dX8_init_96 : decode cX8_init 96 = .ok (.iconst 3, 1) := by decide +kernel
theorem dX8_init_97 : decode cX8_init 97 = .ok (.iconst 0, 1) := by decide +kernel
theorem dX8_init_98 : decode cX8_init 98 = .ok (.invokevirtual 43, 3) := by decide +kernel
theorem dX8_init_101 : decode cX8_init 101 = .ok (.aload_n 0, 1) := by decide +kernel
theorem dX8_init_102 : decode cX8_init 102 = .ok (.iconst 0, 1) := by decide +kernel
theorem dX8_init_103 : decode cX8_init 103 = .ok (.iconst 0, 1) := by decide +kernel
theorem dX8_init_104 : decode cX8_init 104 = .ok (.invokevirtual 43, 3) := by decide +kernel
theorem dX8_init_107 : decode cX8_init 107 = .ok (.aload_n 0, 1) := by decide +kernel
theorem dX8_init_108 : decode cX8_init 108 = .ok (.iconst 1, 1) := by decide +kernel
theorem dX8_init_109 : decode cX8_init 109 = .ok (.iconst 0, 1) := by decide +kernel
theorem dX8_init_110 : decode cX8_init 110 = .ok (.invokevirtual 43, 3) := by decide +kernel
theorem dX8_init_113 : decode cX8_init 113 = .ok (.aload_n 0, 1) := by decide +kernel
theorem dX8_init_114 : decode cX8_init 114 = .ok (.iconst 2, 1) := by decide +kernel
theorem dX8_init_115 : decode cX8_init 115 = .ok (.iconst 0, 1) := by decide +kernel
theorem dX8_init_116 : decode cX8_init 116 = .ok (.invokevirtual 43, 3) := by decide +kernel
theorem dX8_init_119 : decode cX8_init 119 = .ok (.aload_n 0, 1) := by decide +kernel
theorem dX8_init_120 : decode cX8_init 120 = .ok (.iconst 4, 1) := by decide +kernel
theorem dX8_init_121 : decode cX8_init 121 = .ok (.bipush 6, 2) := by decide +kernel
theorem dX8_init_123 : decode cX8_init 123 = .ok (.invokevirtual 43, 3) := by decide +kernel
theorem dX8_init_126 : decode cX8_init 126 = .ok (.aload_n 0, 1) := by decide +kernel
theorem dX8_init_127 : decode cX8_init 127 = .ok (.iconst 0, 1) := by decide +kernel
theorem dX8_init_128 : decode cX8_init 128 = .ok (.iconst 0, 1) := by decide +kernel
theorem dX8_init_129 : decode cX8_init 129 = .ok (.invokevirtual 43, 3) := by decide +kernel
theorem dX8_init_132 : decode cX8_init 132 = .ok (.aload_n 0, 1) := by decide +kernel
theorem dX8_init_133 : decode cX8_init 133 = .ok (.iconst 0, 1) := by decide +kernel
theorem dX8_init_134 : decode cX8_init 134 = .ok (.iconst 0, 1) := by decide +kernel
theorem dX8_init_135 : decode cX8_init 135 = .ok (.iconst 1, 1) := by decide +kernel
theorem dX8_init_136 : decode cX8_init 136 = .ok (.invokevirtual 47, 3) := by decide +kernel
theorem dX8_init_139 : decode cX8_init 139 = .ok (.aload_n 0, 1) := by decide +kernel
theorem dX8_init_140 : decode cX8_init 140 = .ok (.iconst 1, 1) := by decide +kernel
theorem dX8_init_141 : decode cX8_init 141 = .ok (.iconst 2, 1) := by decide +kernel
theorem dX8_init_142 : decode cX8_init 142 = .ok (.iconst 1, 1) := by decide +kernel
theorem dX8_init_143 : decode cX8_init 143 = .ok (.invokevirtual 47, 3) := by decide +kernel
theorem dX8_init_146 : decode cX8_init 146 = .ok (.aload_n 0, 1) := by decide +kernel
theorem dX8_init_147 : decode cX8_init 147 = .ok (.iconst 2, 1) := by decide +kernel
theorem dX8_init_148 : decode cX8_init 148 = .ok (.iconst 3, 1) := by decide +kernel
theorem dX8_init_149 : decode cX8_init 149 = .ok (.iconst 5, 1) := by decide +kernel
theorem dX8_init_150 : decode cX8_init 150 = .ok (.invokevirtual 47, 3) := by decide +kernel
theorem dX8_init_153 : decode cX8_init 153 = .ok (.aload_n 0, 1) := by decide +kernel
theorem dX8_init_154 : decode cX8_init 154 = .ok (.iconst 3, 1) := by decide +kernel
theorem dX8_init_155 : decode cX8_init 155 = .ok (.iconst 2, 1) := by decide +kernel
theorem dX8_init_156 : decode cX8_init 156 = .ok (.bipush 6, 2) := by decide +kernel
theorem dX8_init_158 : decode cX8_init 158 = .ok (.invokevirtual 47, 3) := by decide +kernel
theorem dX8_init_161 : decode cX8_init 161 = .ok (.aload_n 0, 1) := by decide +kernel
theorem dX8_init_162 : decode cX8_init 162 = .ok (.iconst 4, 1) := by decide +kernel
theorem dX8_init_163 : decode cX8_init 163 = .ok (.iconst 4, 1) := by decide +kernel
theorem dX8_init_164 : decode cX8_init 164 = .ok (.iconst 5, 1) := by decide +kernel
theorem dX8_init_165 : decode cX8_init 165 = .ok (.invokevirtual 47, 3) := by decide +kernel
theorem dX8_init_168 : decode cX8_init 168 = .ok (.aload_n 0, 1) := by decide +kernel
theorem dX8_init_169 : decode cX8_init 169 = .ok (.iconst 5, 1) := by decide +kernel
theorem dX8_init_170 : decode cX8_init 170 = .ok (.iconst 2, 1) := by decide +kernel
theorem dX8_init_171 : decode cX8_init 171 = .ok (.invokevirtual 51, 3) := by decide +kernel
theorem dX8_init_174 : decode cX8_init 174 = .ok (.aload_n 0, 1) := by decide +kernel
theorem dX8_init_175 : decode cX8_init 175 = .ok (.invokevirtual 54, 3) := by decide +kernel
theorem dX8_init_178 : decode cX8_init 178 = .ok (.return_, 1) := by decide +kernel
/-- the model's cells are new -/
def M8 (M : bM) : bM := (fun c i j => match c with | 8 => 0 | 11 => 0 | c => gI M c i j, M.2)
theorem M8_e (M : bM) : Eqx mdS M (M8 M) := by
  intro c i j h
  refine ⟨?_, rfl⟩
  match c, h with
  | 8, h => exact absurd (Or.inl rfl) h
  | 11, h => exact absurd (Or.inr rfl) h
  | 0, _ => rfl
  | 1, _ => rfl
  | 2, _ => rfl
  | 3, _ => rfl
  | 4, _ => rfl
  | 5, _ => rfl
  | 6, _ => rfl
  | 7, _ => rfl
  | 9, _ => rfl
  | 10, _ => rfl
  | c + 12, _ => rfl
theorem MA8 (M : bM) : MA (M8 M) lt0 0 Zt sz0 pz0 0 pz0 0 cz0 cz0 0 :=
  ⟨⟨rfl, by decide, fun j hj => absurd hj (Nat.not_lt_zero _)⟩, ⟨rfl, rfl, rfl, rfl, fun i hi => absurd hi (Nat.not_lt_zero _), fun i hi => absurd hi (Nat.not_lt_zero _), fun i hi => absurd hi (Nat.not_lt_zero _), fun i hi => absurd hi (Nat.not_lt_zero _)⟩, ⟨fun i hi => absurd hi (Nat.not_lt_zero _), rfl, rfl⟩, ⟨rfl, by decide, fun i hi => absurd hi (Nat.not_lt_zero _)⟩, ⟨rfl, by decide, fun i hi => absurd hi (Nat.not_lt_zero _)⟩, ⟨rfl, by decide, fun i hi => absurd hi (Nat.not_lt_zero _)⟩⟩
theorem S90 : S9 (nil0 Zt) := fun i _ => by show 0 ≤ 9; decide
theorem model_tail {Q : bV → bM → Prop} {V : Nat → List bV → List bV → bM → Prop} (hC : Clo 1 (Run 1 2) 8 0 false none cX8_init Q V) (hQ : ∀ M, INV 0 M → Q vu M) {M : bM} (C : CA M lt0 0 t13 (nil0 Zt) (t13 1, 0, 0) pz0 0 pz0 0 cz0 cz0 0) (A : MA M lt0 0 Zt sz0 pz0 0 pz0 0 cz0 cz0 0) : V 85 [vr 8 0] [] M := by
  have k8 : 0 < cnt 1 8 := by decide
  refine hC 85 _ _ _ _ _ dX8_init_85 ⟨trivial, hC 86 _ _ _ _ _ dX8_init_86 ⟨rfl, k8, ?_⟩⟩
  show Run 1 (1 + 1) 98 [vr 8 0] M _
  refine tX8_begins (τd := nil0 Zt) (fun N0 x0 T0 => ?_)
  have T0 : MT N0 2 t00 := T0
  have C0 := CA_md C (Mx_E x0)
  have A0 := MA_r A x0
  show V 89 [vr 8 0] [] N0
  refine hC 89 _ _ _ _ _ dX8_init_89 ⟨trivial, hC 90 _ _ _ _ _ dX8_init_90 ⟨trivial, hC 91 _ _ _ _ _ dX8_init_91 ⟨trivial, hC 92 _ _ _ _ _ dX8_init_92 ⟨rfl, k8, ?_⟩⟩⟩⟩
  show Run 1 (1 + 1) 99 [vr 8 0, .inl (nI 5), .inl (nI 0)] N0 _
  refine tX8_itemOf T0 (by decide +kernel) (by decide +kernel) (by decide +kernel) (fun N1 x1 T1 => ?_)
  have T1 : MT N1 2 t01 := T1
  have C1 := CA_md C0 (Mx_E x1)
  have A1 := MA_r A0 (Mx_mo x1 (fun _ q => q) (fun _ q => q.elim))
  show V 95 [vr 8 0] [] N1
  refine hC 95 _ _ _ _ _ dX8_init_95 ⟨trivial, hC 96 _ _ _ _ _ dX8_init_96 ⟨trivial, hC 97 _ _ _ _ _ dX8_init_97 ⟨trivial, hC 98 _ _ _ _ _ dX8_init_98 ⟨rfl, k8, ?_⟩⟩⟩⟩
  show Run 1 (1 + 1) 99 [vr 8 0, .inl (nI 3), .inl (nI 0)] N1 _
  refine tX8_itemOf T1 (by decide +kernel) (by decide +kernel) (by decide +kernel) (fun N2 x2 T2 => ?_)
  have T2 : MT N2 2 t02 := T2
  have C2 := CA_md C1 (Mx_E x2)
  have A2 := MA_r A1 (Mx_mo x2 (fun _ q => q) (fun _ q => q.elim))
  show V 101 [vr 8 0] [] N2
  refine hC 101 _ _ _ _ _ dX8_init_101 ⟨trivial, hC 102 _ _ _ _ _ dX8_init_102 ⟨trivial, hC 103 _ _ _ _ _ dX8_init_103 ⟨trivial, hC 104 _ _ _ _ _ dX8_init_104 ⟨rfl, k8, ?_⟩⟩⟩⟩
  show Run 1 (1 + 1) 99 [vr 8 0, .inl (nI 0), .inl (nI 0)] N2 _
  refine tX8_itemOf T2 (by decide +kernel) (by decide +kernel) (by decide +kernel) (fun N3 x3 T3 => ?_)
  have T3 : MT N3 2 t03 := T3
  have C3 := CA_md C2 (Mx_E x3)
  have A3 := MA_r A2 (Mx_mo x3 (fun _ q => q) (fun _ q => q.elim))
  show V 107 [vr 8 0] [] N3
  refine hC 107 _ _ _ _ _ dX8_init_107 ⟨trivial, hC 108 _ _ _ _ _ dX8_init_108 ⟨trivial, hC 109 _ _ _ _ _ dX8_init_109 ⟨trivial, hC 110 _ _ _ _ _ dX8_init_110 ⟨rfl, k8, ?_⟩⟩⟩⟩
  show Run 1 (1 + 1) 99 [vr 8 0, .inl (nI 1), .inl (nI 0)] N3 _
  refine tX8_itemOf T3 (by decide +kernel) (by decide +kernel) (by decide +kernel) (fun N4 x4 T4 => ?_)
  have T4 : MT N4 2 t04 := T4
  have C4 := CA_md C3 (Mx_E x4)
  have A4 := MA_r A3 (Mx_mo x4 (fun _ q => q) (fun _ q => q.elim))
  show V 113 [vr 8 0] [] N4
  refine hC 113 _ _ _ _ _ dX8_init_113 ⟨trivial, hC 114 _ _ _ _ _ dX8_init_114 ⟨trivial, hC 115 _ _ _ _ _ dX8_init_115 ⟨trivial, hC 116 _ _ _ _ _ dX8_init_116 ⟨rfl, k8, ?_⟩⟩⟩⟩
  show Run 1 (1 + 1) 99 [vr 8 0, .inl (nI 2), .inl (nI 0)] N4 _
  refine tX8_itemOf T4 (by decide +kernel) (by decide +kernel) (by decide +kernel) (fun N5 x5 T5 => ?_)
  have T5 : MT N5 2 t05 := T5
  have C5 := CA_md C4 (Mx_E x5)
  have A5 := MA_r A4 (Mx_mo x5 (fun _ q => q) (fun _ q => q.elim))
  show V 119 [vr 8 0] [] N5
  refine hC 119 _ _ _ _ _ dX8_init_119 ⟨trivial, hC 120 _ _ _ _ _ dX8_init_120 ⟨trivial, hC 121 _ _ _ _ _ dX8_init_121 ⟨trivial, hC 123 _ _ _ _ _ dX8_init_123 ⟨rfl, k8, ?_⟩⟩⟩⟩
  show Run 1 (1 + 1) 99 [vr 8 0, .inl (nI 4), .inl (nI 6)] N5 _
  refine tX8_itemOf T5 (by decide +kernel) (by decide +kernel) (by decide +kernel) (fun N6 x6 T6 => ?_)
  have T6 : MT N6 2 t06 := T6
  have C6 := CA_md C5 (Mx_E x6)
  have A6 := MA_r A5 (Mx_mo x6 (fun _ q => q) (fun _ q => q.elim))
  show V 126 [vr 8 0] [] N6
  refine hC 126 _ _ _ _ _ dX8_init_126 ⟨trivial, hC 127 _ _ _ _ _ dX8_init_127 ⟨trivial, hC 128 _ _ _ _ _ dX8_init_128 ⟨trivial, hC 129 _ _ _ _ _ dX8_init_129 ⟨rfl, k8, ?_⟩⟩⟩⟩
  show Run 1 (1 + 1) 99 [vr 8 0, .inl (nI 0), .inl (nI 0)] N6 _
  refine tX8_itemOf T6 (by decide +kernel) (by decide +kernel) (by decide +kernel) (fun N7 x7 T7 => ?_)
  have T7 : MT N7 2 t07 := T7
  have C7 := CA_md C6 (Mx_E x7)
  have A7 := MA_r A6 (Mx_mo x7 (fun _ q => q) (fun _ q => q.elim))
  show V 132 [vr 8 0] [] N7
  refine hC 132 _ _ _ _ _ dX8_init_132 ⟨trivial, hC 133 _ _ _ _ _ dX8_init_133 ⟨trivial, hC 134 _ _ _ _ _ dX8_init_134 ⟨trivial, hC 135 _ _ _ _ _ dX8_init_135 ⟨trivial, hC 136 _ _ _ _ _ dX8_init_136 ⟨rfl, k8, ?_⟩⟩⟩⟩⟩
  show Run 1 (1 + 1) 100 [vr 8 0, .inl (nI 0), .inl (nI 0), .inl (nI 1)] N7 _
  refine tX8_touchOf T7 (by decide +kernel) (by decide +kernel) (by decide +kernel) (fun N8 x8 T8 => ?_)
  have T8 : MT N8 2 t08 := T8
  have C8 := CA_md C7 (Mx_E x8)
  have A8 := MA_r A7 (Mx_mo x8 (fun _ q => q) (fun _ q => q.elim))
  show V 139 [vr 8 0] [] N8
  refine hC 139 _ _ _ _ _ dX8_init_139 ⟨trivial, hC 140 _ _ _ _ _ dX8_init_140 ⟨trivial, hC 141 _ _ _ _ _ dX8_init_141 ⟨trivial, hC 142 _ _ _ _ _ dX8_init_142 ⟨trivial, hC 143 _ _ _ _ _ dX8_init_143 ⟨rfl, k8, ?_⟩⟩⟩⟩⟩
  show Run 1 (1 + 1) 100 [vr 8 0, .inl (nI 1), .inl (nI 2), .inl (nI 1)] N8 _
  refine tX8_touchOf T8 (by decide +kernel) (by decide +kernel) (by decide +kernel) (fun N9 x9 T9 => ?_)
  have T9 : MT N9 2 t09 := T9
  have C9 := CA_md C8 (Mx_E x9)
  have A9 := MA_r A8 (Mx_mo x9 (fun _ q => q) (fun _ q => q.elim))
  show V 146 [vr 8 0] [] N9
  refine hC 146 _ _ _ _ _ dX8_init_146 ⟨trivial, hC 147 _ _ _ _ _ dX8_init_147 ⟨trivial, hC 148 _ _ _ _ _ dX8_init_148 ⟨trivial, hC 149 _ _ _ _ _ dX8_init_149 ⟨trivial, hC 150 _ _ _ _ _ dX8_init_150 ⟨rfl, k8, ?_⟩⟩⟩⟩⟩
  show Run 1 (1 + 1) 100 [vr 8 0, .inl (nI 2), .inl (nI 3), .inl (nI 5)] N9 _
  refine tX8_touchOf T9 (by decide +kernel) (by decide +kernel) (by decide +kernel) (fun N10 x10 T10 => ?_)
  have T10 : MT N10 2 t10 := T10
  have C10 := CA_md C9 (Mx_E x10)
  have A10 := MA_r A9 (Mx_mo x10 (fun _ q => q) (fun _ q => q.elim))
  show V 153 [vr 8 0] [] N10
  refine hC 153 _ _ _ _ _ dX8_init_153 ⟨trivial, hC 154 _ _ _ _ _ dX8_init_154 ⟨trivial, hC 155 _ _ _ _ _ dX8_init_155 ⟨trivial, hC 156 _ _ _ _ _ dX8_init_156 ⟨trivial, hC 158 _ _ _ _ _ dX8_init_158 ⟨rfl, k8, ?_⟩⟩⟩⟩⟩
  show Run 1 (1 + 1) 100 [vr 8 0, .inl (nI 3), .inl (nI 2), .inl (nI 6)] N10 _
  refine tX8_touchOf T10 (by decide +kernel) (by decide +kernel) (by decide +kernel) (fun N11 x11 T11 => ?_)
  have T11 : MT N11 2 t11 := T11
  have C11 := CA_md C10 (Mx_E x11)
  have A11 := MA_r A10 (Mx_mo x11 (fun _ q => q) (fun _ q => q.elim))
  show V 161 [vr 8 0] [] N11
  refine hC 161 _ _ _ _ _ dX8_init_161 ⟨trivial, hC 162 _ _ _ _ _ dX8_init_162 ⟨trivial, hC 163 _ _ _ _ _ dX8_init_163 ⟨trivial, hC 164 _ _ _ _ _ dX8_init_164 ⟨trivial, hC 165 _ _ _ _ _ dX8_init_165 ⟨rfl, k8, ?_⟩⟩⟩⟩⟩
  show Run 1 (1 + 1) 100 [vr 8 0, .inl (nI 4), .inl (nI 4), .inl (nI 5)] N11 _
  refine tX8_touchOf T11 (by decide +kernel) (by decide +kernel) (by decide +kernel) (fun N12 x12 T12 => ?_)
  have T12 : MT N12 2 t12 := T12
  have C12 := CA_md C11 (Mx_E x12)
  have A12 := MA_r A11 (Mx_mo x12 (fun _ q => q) (fun _ q => q.elim))
  show V 168 [vr 8 0] [] N12
  refine hC 168 _ _ _ _ _ dX8_init_168 ⟨trivial, hC 169 _ _ _ _ _ dX8_init_169 ⟨trivial, hC 170 _ _ _ _ _ dX8_init_170 ⟨trivial, hC 171 _ _ _ _ _ dX8_init_171 ⟨rfl, k8, ?_⟩⟩⟩⟩
  show Run 1 (1 + 1) 101 [vr 8 0, .inl (nI 5), .inl (nI 2)] N12 _
  refine tX8_washOf T12 (by decide +kernel) (by decide +kernel) (by decide +kernel) (fun N13 x13 T13 => ?_)
  have T13 : MT N13 2 t13 := T13
  have C13 := CA_md C12 (Mx_E x13)
  have A13 := MA_r A12 (Mx_mo x13 (fun _ q => q) (fun _ q => q.elim))
  show V 174 [vr 8 0] [] N13
  refine hC 174 _ _ _ _ _ dX8_init_174 ⟨trivial, hC 175 _ _ _ _ _ dX8_init_175 ⟨rfl, k8, ?_⟩⟩
  show Run 1 (1 + 1) 105 [vr 8 0] N13 _
  refine tX8_lays A13 T13 OK13 (fun M1 A1 E1 => ?_)
  show V 178 [vr 8 0] [] M1
  exact hC 178 _ _ _ _ _ dX8_init_178 ⟨rfl, hQ _ ⟨lt0, 0, t13, nil0 Zt, (t13 1, 0, 0), pz0, 0, pz0, 0, cz0, cz0, 0, CA_md C13 E1, A1, ⟨OK13, by decide +kernel, ⟨S913, (by decide : 0 < 512)⟩, Nat.le_refl 0, fun j hj => absurd hj (Nat.not_lt_zero _), fun j hj => absurd hj (Nat.not_lt_zero _), fun j hj => absurd hj (Nat.not_lt_zero _)⟩, S913, S90⟩⟩
/-- the addresses of both -/
def adB (ad : Nat → Nat → Nat) (h0 : Nat) (L : List Nat) (c i : Nat) : Nat := match c with | 8 => h0 | 11 => L.getD i 0 | c => ad c i
set_option maxRecDepth 100000 in
theorem dirs01 : (dirs 1).Perm ((8, 0) :: (dirs 0 ++ [(11, 0), (11, 1), (11, 2), (11, 3), (11, 4), (11, 5), (11, 6), (11, 7), (11, 8), (11, 9)])) := List.isPerm_iff.mp (by decide +kernel)
set_option maxRecDepth 100000 in
theorem dirs0_ne : ∀ q ∈ dirs 0, q.1 ≠ 8 ∧ q.1 ≠ 11 ∧ q.1 < 12 := by decide +kernel
theorem cont8 {cA cQ : ClassId} {ad : Nat → Nat → Nat} {h0 : Nat} {L : List Nat} {M : bM} : ∀ q ∈ dirs 0, cont cA cQ (adB ad h0 L) (M8 M) q = cont cA cQ ad M q ∧ adB ad h0 L q.1 q.2 = ad q.1 q.2 := by
  intro q hq
  obtain ⟨h1, h2, h3⟩ := dirs0_ne q hq
  obtain ⟨c, i⟩ := q
  have h1 : c ≠ 8 := h1
  have h2 : c ≠ 11 := h2
  have h3 : c < 12 := h3
  match c, h1, h2, h3 with
  | 0, _, _, _ => exact ⟨rfl, rfl⟩
  | 1, _, _, _ => exact ⟨rfl, rfl⟩
  | 2, _, _, _ => exact ⟨rfl, rfl⟩
  | 3, _, _, _ => exact ⟨rfl, rfl⟩
  | 4, _, _, _ => exact ⟨rfl, rfl⟩
  | 5, _, _, _ => exact ⟨rfl, rfl⟩
  | 6, _, _, _ => exact ⟨rfl, rfl⟩
  | 7, _, _, _ => exact ⟨rfl, rfl⟩
  | 8, h, _, _ => exact absurd rfl h
  | 9, _, _, _ => exact ⟨rfl, rfl⟩
  | 10, _, _, _ => exact ⟨rfl, rfl⟩
  | 11, _, h, _ => exact absurd rfl h
  | c + 12, _, _, h => exact absurd h (by omega)
theorem P_mem {D : va_G} {cl : List vw_C} {ws : va_W} {H : Heap} : va_P D cl ws H ↔ ∀ q ∈ ws, va_at D cl q H :=
  ⟨fun h q hq => by
    obtain ⟨k, hk⟩ := List.getElem?_of_mem hq
    exact h k q hk, fun h k q hk => h q (List.mem_of_getElem? hk)⟩
theorem D_mem {A : Nat → Prop} {ws : va_W} : va_D A ws ↔ (ws.map Prod.fst).Nodup ∧ ∀ q ∈ ws, A q.1 := by
  constructor
  · intro h
    refine ⟨?_, fun q hq => ?_⟩
    · rw [List.Nodup, List.pairwise_iff_getElem]
      intro i j hi hj hij he
      rw [List.getElem_map, List.getElem_map] at he
      rw [List.length_map] at hi hj
      have := h.1 i j _ _ (List.getElem?_eq_getElem hi) (List.getElem?_eq_getElem hj) he
      omega
    · obtain ⟨k, hk⟩ := List.getElem?_of_mem hq
      exact h.2 k q hk
  · intro h
    refine ⟨fun i j p q hp hq he => ?_, fun k q hk => h.2 q (List.mem_of_getElem? hk)⟩
    have e1 : (ws.map Prod.fst)[i]? = some p.1 := by rw [List.getElem?_map, hp]; rfl
    have e2 : (ws.map Prod.fst)[j]? = some p.1 := by rw [List.getElem?_map, hq, he]; rfl
    exact nd_inj h.1 e1 e2
abbrev wa (cA : ClassId) (q n : Nat) : Nat × va_E := (q, .inl (cA, n, .inl (fun _ => 0)))
abbrev W8o (h0 q0 q1 q2 q3 q4 q5 q6 q7 q8 q9 : Nat) : Nat × va_E := (h0, .inr (8, [.ref q0, .int 0, .ref q1, .ref q2, .ref q3, .ref q4, .int 0, .ref q5, .int 0, .ref q6, .int 0, .int 0, .ref q7, .ref q8, .ref q9]))
/-- the cells of both, out of the class's and the model's new ones -/
theorem cel1_of {D : va_G} {cA cQ : ClassId} {ad : Nat → Nat → Nat} {A : Nat → Prop} {M : bM} {H : Heap} {h0 q0 q1 q2 q3 q4 q5 q6 q7 q8 q9 : Nat} {X : va_W}
    (hX : X.Perm (W8o h0 q0 q1 q2 q3 q4 q5 q6 q7 q8 q9 :: (cel 0 cA cQ ad M ++ [wa cA q0 200, wa cA q1 60, wa cA q2 60, wa cA q3 11, wa cA q4 88, wa cA q5 22, wa cA q6 6, wa cA q7 11, wa cA q8 9, wa cA q9 9]))) (hP : va_P D vwCl X H) (hD : va_D A X) :
    va_P D vwCl (cel 1 cA cQ (adB ad h0 [q0, q1, q2, q3, q4, q5, q6, q7, q8, q9]) (M8 M)) H ∧ va_D A (cel 1 cA cQ (adB ad h0 [q0, q1, q2, q3, q4, q5, q6, q7, q8, q9]) (M8 M)) := by
  have hc : (cel 1 cA cQ (adB ad h0 [q0, q1, q2, q3, q4, q5, q6, q7, q8, q9]) (M8 M)).Perm X := by
    refine List.Perm.trans ?_ hX.symm
    have h1 := dirs01.map (fun q => (adB ad h0 [q0, q1, q2, q3, q4, q5, q6, q7, q8, q9] q.1 q.2, cont cA cQ (adB ad h0 [q0, q1, q2, q3, q4, q5, q6, q7, q8, q9]) (M8 M) q))
    refine h1.trans ?_
    rw [List.map_cons, List.map_append]
    have e : (dirs 0).map (fun q => (adB ad h0 [q0, q1, q2, q3, q4, q5, q6, q7, q8, q9] q.1 q.2, cont cA cQ (adB ad h0 [q0, q1, q2, q3, q4, q5, q6, q7, q8, q9]) (M8 M) q)) = cel 0 cA cQ ad M := by
      unfold cel
      refine List.map_congr_left fun q hq => ?_
      obtain ⟨a, b⟩ := cont8 (cA := cA) (cQ := cQ) (ad := ad) (h0 := h0) (L := [q0, q1, q2, q3, q4, q5, q6, q7, q8, q9]) (M := M) q hq
      rw [a, b]
    rw [e]
    exact List.Perm.refl _
  refine ⟨P_mem.mpr fun q hq => P_mem.mp hP q (hc.mem_iff.mp hq), D_mem.mpr ⟨?_, fun q hq => (D_mem.mp hD).2 q (hc.mem_iff.mp hq)⟩⟩
  exact (hc.map Prod.fst).nodup_iff.mpr (D_mem.mp hD).1
abbrev W8 (h0 : Nat) (W0 : va_W) : va_W := (h0, .inr (8, [.null, .int 0, .null, .null, .null, .null, .int 0, .null, .int 0, .null, .int 0, .int 0, .null, .null, .null])) :: W0
abbrev Q8p (h0 k7 : Nat) (u : (Nat → Nat → Nat) × bM) : Prop := INV 0 u.2 ∧ u.1 8 0 = h0 ∧ u.1 7 0 = k7
abbrev Q8a (D : va_G) (cA cQ : ClassId) (A : Nat → Prop) (u : (Nat → Nat → Nat) × bM) (t : State) : Prop := va_P D vwCl (cel 1 cA cQ u.1 u.2) t.heap ∧ va_K D vwCl (tyK cA cQ) t ∧ ∀ M, va_D A (cel 1 cA cQ u.1 M)
section MW8
variable {p : Program} {l : Launch} {e : Env} {R : Room} {s : State} {m : MethodId} {args : Array Value} {below : List Frame} {meth : Method} {c : Code} {mc ms : Nat}
set_option maxHeartbeats 8000000 in
set_option maxRecDepth 100000 in
theorem model_VM {D : va_G} {cA cQ : ClassId} {ad : Nat → Nat → Nat} {A : Nat → Prop} {h0 k7 : Nat} {M : bM} (hG : Good7 M) (hx : p.tables.exec = Jvm.exec) (hb : c.code = cX8_init) (hr : meth.sig.returnType = none) (hml : c.maxLocals = 1) (hown : s.vm.findClass RX8 = some m.cls) (hlocks : meth.locks = false) (hts : ∀ w ∈ TI, w.before args s = true)
    (hK : va_K D vwCl (tyK cA cQ) s) (hE : EnvI s) (hD : va_D A (cel 1 cA cQ ad (M8 M))) (h8 : ad 8 0 = h0) (h7 : ad 7 0 = k7) (hc : mc ≤ R.cells ∧ ms ≤ R.slots) (hR : 8 ≤ R.frames ∧ 1024 ≤ R.locals)
    {H : Heap} {locs : List Loc} {ls : Array Slot} (hP : va_P D vwCl (cel 1 cA cQ ad (M8 M)) H) (hS : va_S A s.heap H locs) (hl : lv_has ls 1 [(0, .ref h0)]) :
    W p l e R s m args below meth c H locs mc ms (MQ below (va_Qv (Q8p h0 k7) (Q8a D cA cQ A) A) args s mc ms A) (F0 m 85 ls []) := by
  have hDall := celD hD
  have hNW : ∀ w ∈ NL, va_Nw w s := fun w hw => hE.1 w (List.mem_append_right _ hw)
  have hF : Fx p s m args c 8 cX8_init 1 1 D cA cQ ad A := ⟨hx, hb, hml, hown, fun w hw => hts w (ti_w hw), hK, hNW, hDall, by decide⟩
  have hsc : Sc none s ad A s.heap := fun L xs q => by cases q
  have hC : Clo 1 (Run 1 2) 8 0 false none cX8_init (fun _ M => INV 0 M) (VM p l e R s m args below meth c mc ms (MQ below (va_Qv (Q8p h0 k7) (Q8a D cA cQ A) A) args s mc ms A) 1 1 false D cA cQ ad A s.heap) := by
    intro pc L st M ins len hd hs
    refine VM_step (d := 2) hF hsc hc ⟨by omega, by omega⟩ (snd_all l 1 (by decide) D cA cQ ad A hDall 2) ?_ ?_ hd hs
    · intro pc L v M hd hrt hq
      rcases hrt with h | ⟨h, -⟩ <;> cases h
    · intro pc L M hd hrt hq a1 a2 H locs ls hP hS hl
      exact W.vret hx hb hr (fun t ht hW => ⟨⟨(ad, M), rfl, ⟨hq, h8, h7⟩, by rw [ht]; exact hP, va_K.moved hW.alike hK, hDall⟩, hS.F ht⟩) hS.2.2 hd hlocks
  refine model_tail hC (fun M h => h) (CA_md hG (M8_e M)) (MA8 M) rfl (fun _ v hv => ?_) H locs ls hP hS ?_
  · rcases List.mem_cons.mp hv with rfl | hv
    · rfl
    · cases hv
  · have e : prs ad [vr 8 0] = [(0, .ref (ad 8 0))] := rfl
    rw [e, h8]
    exact hl
end MW8
