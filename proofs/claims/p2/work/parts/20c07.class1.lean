set_option maxHeartbeats 4000000 in
set_option maxRecDepth 100000 in
theorem r_X1_reckon (l : Launch) (dC : Nat → ClassId) (dI : Nat → Nat → Nat) (L : List Nat) (kd : Nat → Nat) (tys : List (ClassId × FieldType)) (f0 : Nat → va_E) (sz : Nat) (hWT : WT L kd tys f0) (a0_ : Nat) (ma0_ : a0_ ∈ L) (ka0_ : kd a0_ = 1) (x1_ : Int32) (x2_ : Int32) (x3_ : Int32) : Met l yX1_reckon (.code yX1_reckon cX1_reckon 4 (some .int) :: lw_g) ({ frames := 0, cells := 0, slots := 0, locals := 0 }) (va_Pc [.ref a0_, .int x1_, .int x2_, .int x3_] (P3 (dC, dI) L tys f0 sz)) (va_Qi (fun (r : Int32) (f : Nat → va_E) => (True)) (Q3 (dC, dI) L kd tys [(1, 15), (1, 17)] [] f0 sz) (pA L sz)) 0 0 (pA L sz) := by
  refine Met.ofW (cc := cX1_reckon) (maxL := 4) (ret := (some .int)) (by decide) rfl ?_
  intro p e s m args below meth c s₁ B hml hv
  obtain ⟨rfl, hsz, hP, hK, hD0⟩ := hv
  have hx := B.exec
  have hb := B.bytes
  have hr := B.returns
  have hts := atoms_spec (ws := (.code yX1_reckon cX1_reckon 4 (some .int) :: lw_g)) B.pre
  have hown : s.vm.findClass RX1 = some m.cls := findClass_of_methodNamed B.named
  have hlocks := B.notSynchronized
  subst hsz
  have g : G3 (dC, dI) L kd tys s f0 [(1, 15), (1, 17)] [] f0 s.heap [] [] := G3.start hP hD0 hWT Fs.nil
  have hl := lv_entry ([.ref a0_, .int x1_, .int x2_, .int x3_]) (n := 4) (Nat.le_of_ble_eq_true rfl)
  rw [lg_entry_eq]
  generalize (lg_sl ([.ref a0_, .int x1_, .int x2_, .int x3_]) ++ List.replicate (4 - (lg_sl ([.ref a0_, .int x1_, .int x2_, .int x3_])).length) Slot.unset).toArray = ls at hl ⊢
  have hl : lv_has ls 4 [(0, .ref a0_), (1, .int x1_), (2, .int x2_), (3, .int x3_)] := hl
  refine W_q (fun Q hQ => ?_)
  refine lv_iload_n hx hb dX1_reckon_0 rfl (lv_at hl 1 rfl) ?_
  by_cases e_1 : x1_ = 42
  · refine lv_topi (fun z_2 ez_2 => ?_)
    obtain rfl : z_2 = 42 := ez_2.trans e_1
    have kb_42 : bd 42 42 (42 : Int32) := ⟨by decide, by decide⟩
    have b_3 : bd 42 42 x1_ := eqX (eq_f e_1) (bdT x1_) kb_42 (by decide)
    refine lv_lookup (off := 91) (tgt := 92) hx hb dX1_reckon_1 (by decide) (by decide) (by decide) ?_
    refine lv_iload_n hx hb dX1_reckon_92 rfl (lv_at hl 2 rfl) ?_
    refine lv_iload_n hx hb dX1_reckon_93 rfl (lv_at hl 3 rfl) ?_
    refine lv_imul hx hb dX1_reckon_94 ?_
    refine lv_topi (fun y_4 ey_4 => ?_)
    subst hQ
    exact W.iret (v := y_4) hx hb hr (fun t ht hW => ⟨⟨_, _, rfl, trivial, q3_of g hK ht hW⟩, g.2.2.1.F ht⟩) g.2.2.1.2.2 dX1_reckon_95
  by_cases e_5 : x1_ = 43
  · refine lv_topi (fun z_6 ez_6 => ?_)
    obtain rfl : z_6 = 43 := ez_6.trans e_5
    have kb_43 : bd 43 43 (43 : Int32) := ⟨by decide, by decide⟩
    have b_7 : bd 43 43 x1_ := eqX (eq_f e_5) (bdT x1_) kb_43 (by decide)
    refine lv_lookup (off := 83) (tgt := 84) hx hb dX1_reckon_1 (by decide) (by decide) (by decide) ?_
    refine lv_iload_n hx hb dX1_reckon_84 rfl (lv_at hl 2 rfl) ?_
    refine lv_iload_n hx hb dX1_reckon_85 rfl (lv_at hl 3 rfl) ?_
    refine lv_iadd hx hb dX1_reckon_86 ?_
    refine lv_topi (fun y_8 ey_8 => ?_)
    subst hQ
    exact W.iret (v := y_8) hx hb hr (fun t ht hW => ⟨⟨_, _, rfl, trivial, q3_of g hK ht hW⟩, g.2.2.1.F ht⟩) g.2.2.1.2.2 dX1_reckon_87
  by_cases e_9 : x1_ = 45
  · refine lv_topi (fun z_10 ez_10 => ?_)
    obtain rfl : z_10 = 45 := ez_10.trans e_9
    have kb_45 : bd 45 45 (45 : Int32) := ⟨by decide, by decide⟩
    have b_11 : bd 45 45 x1_ := eqX (eq_f e_9) (bdT x1_) kb_45 (by decide)
    refine lv_lookup (off := 87) (tgt := 88) hx hb dX1_reckon_1 (by decide) (by decide) (by decide) ?_
    refine lv_iload_n hx hb dX1_reckon_88 rfl (lv_at hl 2 rfl) ?_
    refine lv_iload_n hx hb dX1_reckon_89 rfl (lv_at hl 3 rfl) ?_
    refine lv_isub hx hb dX1_reckon_90 ?_
    refine lv_topi (fun y_12 ey_12 => ?_)
    subst hQ
    exact W.iret (v := y_12) hx hb hr (fun t ht hW => ⟨⟨_, _, rfl, trivial, q3_of g hK ht hW⟩, g.2.2.1.F ht⟩) g.2.2.1.2.2 dX1_reckon_91
  by_cases e_13 : x1_ = 60
  · refine lv_topi (fun z_14 ez_14 => ?_)
    obtain rfl : z_14 = 60 := ez_14.trans e_13
    have kb_60 : bd 60 60 (60 : Int32) := ⟨by decide, by decide⟩
    have b_15 : bd 60 60 x1_ := eqX (eq_f e_13) (bdT x1_) kb_60 (by decide)
    refine lv_lookup (off := 95) (tgt := 96) hx hb dX1_reckon_1 (by decide) (by decide) (by decide) ?_
    refine lv_iload_n hx hb dX1_reckon_96 rfl (lv_at hl 2 rfl) ?_
    refine lv_iload_n hx hb dX1_reckon_97 rfl (lv_at hl 3 rfl) ?_
    refine lv_icmp_ge (tgt := 105) hx hb dX1_reckon_98 (by decide) (fun c_16 => ?_) (fun c_16 => ?_)
    · have fc_16 := le_f c_16
      refine lv_iconst (v := 0) hx hb dX1_reckon_105 (by decide) ?_
      subst hQ
      exact W.iret (v := 0) hx hb hr (fun t ht hW => ⟨⟨_, _, rfl, trivial, q3_of g hK ht hW⟩, g.2.2.1.F ht⟩) g.2.2.1.2.2 dX1_reckon_106
    · have fc_16 := nle_f c_16
      have b_17 : bd (-2147483648) 2147483646 x2_ := ltL fc_16 (bdT x2_) (bdT x3_) (by decide)
      have b_18 : bd (-2147483647) 2147483647 x3_ := ltR fc_16 (bdT x2_) (bdT x3_) (by decide)
      refine lv_iconst (v := 1) hx hb dX1_reckon_101 (by decide) ?_
      refine lv_goto (tgt := 106) hx hb dX1_reckon_102 (by decide) ?_
      subst hQ
      exact W.iret (v := 1) hx hb hr (fun t ht hW => ⟨⟨_, _, rfl, trivial, q3_of g hK ht hW⟩, g.2.2.1.F ht⟩) g.2.2.1.2.2 dX1_reckon_106
  by_cases e_19 : x1_ = 62
  · refine lv_topi (fun z_20 ez_20 => ?_)
    obtain rfl : z_20 = 62 := ez_20.trans e_19
    have kb_62 : bd 62 62 (62 : Int32) := ⟨by decide, by decide⟩
    have b_21 : bd 62 62 x1_ := eqX (eq_f e_19) (bdT x1_) kb_62 (by decide)
    refine lv_lookup (off := 106) (tgt := 107) hx hb dX1_reckon_1 (by decide) (by decide) (by decide) ?_
    refine lv_iload_n hx hb dX1_reckon_107 rfl (lv_at hl 2 rfl) ?_
    refine lv_iload_n hx hb dX1_reckon_108 rfl (lv_at hl 3 rfl) ?_
    refine lv_icmp_le (tgt := 116) hx hb dX1_reckon_109 (by decide) (fun c_22 => ?_) (fun c_22 => ?_)
    · have fc_22 := le_f c_22
      refine lv_iconst (v := 0) hx hb dX1_reckon_116 (by decide) ?_
      subst hQ
      exact W.iret (v := 0) hx hb hr (fun t ht hW => ⟨⟨_, _, rfl, trivial, q3_of g hK ht hW⟩, g.2.2.1.F ht⟩) g.2.2.1.2.2 dX1_reckon_117
    · have fc_22 := nle_f c_22
      have b_23 : bd (-2147483648) 2147483646 x3_ := ltL fc_22 (bdT x3_) (bdT x2_) (by decide)
      have b_24 : bd (-2147483647) 2147483647 x2_ := ltR fc_22 (bdT x3_) (bdT x2_) (by decide)
      refine lv_iconst (v := 1) hx hb dX1_reckon_112 (by decide) ?_
      refine lv_goto (tgt := 117) hx hb dX1_reckon_113 (by decide) ?_
      subst hQ
      exact W.iret (v := 1) hx hb hr (fun t ht hW => ⟨⟨_, _, rfl, trivial, q3_of g hK ht hW⟩, g.2.2.1.F ht⟩) g.2.2.1.2.2 dX1_reckon_117
  by_cases e_25 : x1_ = 201
  · refine lv_topi (fun z_26 ez_26 => ?_)
    obtain rfl : z_26 = 201 := ez_26.trans e_25
    have kb_201 : bd 201 201 (201 : Int32) := ⟨by decide, by decide⟩
    have b_27 : bd 201 201 x1_ := eqX (eq_f e_25) (bdT x1_) kb_201 (by decide)
    refine lv_lookup (off := 117) (tgt := 118) hx hb dX1_reckon_1 (by decide) (by decide) (by decide) ?_
    refine lv_iload_n hx hb dX1_reckon_118 rfl (lv_at hl 2 rfl) ?_
    refine lv_iload_n hx hb dX1_reckon_119 rfl (lv_at hl 3 rfl) ?_
    refine lv_icmp_ne (tgt := 127) hx hb dX1_reckon_120 (by decide) (fun c_28 => ?_) (fun c_28 => ?_)
    · have fc_28 := neq_f c_28
      refine lv_iconst (v := 0) hx hb dX1_reckon_127 (by decide) ?_
      subst hQ
      exact W.iret (v := 0) hx hb hr (fun t ht hW => ⟨⟨_, _, rfl, trivial, q3_of g hK ht hW⟩, g.2.2.1.F ht⟩) g.2.2.1.2.2 dX1_reckon_128
    · have fc_28 := eq_f c_28
      refine lv_iconst (v := 1) hx hb dX1_reckon_123 (by decide) ?_
      refine lv_goto (tgt := 128) hx hb dX1_reckon_124 (by decide) ?_
      subst hQ
      exact W.iret (v := 1) hx hb hr (fun t ht hW => ⟨⟨_, _, rfl, trivial, q3_of g hK ht hW⟩, g.2.2.1.F ht⟩) g.2.2.1.2.2 dX1_reckon_128
  by_cases e_29 : x1_ = 202
  · refine lv_topi (fun z_30 ez_30 => ?_)
    obtain rfl : z_30 = 202 := ez_30.trans e_29
    have kb_202 : bd 202 202 (202 : Int32) := ⟨by decide, by decide⟩
    have b_31 : bd 202 202 x1_ := eqX (eq_f e_29) (bdT x1_) kb_202 (by decide)
    refine lv_lookup (off := 128) (tgt := 129) hx hb dX1_reckon_1 (by decide) (by decide) (by decide) ?_
    refine lv_iload_n hx hb dX1_reckon_129 rfl (lv_at hl 2 rfl) ?_
    refine lv_iload_n hx hb dX1_reckon_130 rfl (lv_at hl 3 rfl) ?_
    refine lv_icmp_eq (tgt := 138) hx hb dX1_reckon_131 (by decide) (fun c_32 => ?_) (fun c_32 => ?_)
    · have fc_32 := eq_f c_32
      refine lv_iconst (v := 0) hx hb dX1_reckon_138 (by decide) ?_
      subst hQ
      exact W.iret (v := 0) hx hb hr (fun t ht hW => ⟨⟨_, _, rfl, trivial, q3_of g hK ht hW⟩, g.2.2.1.F ht⟩) g.2.2.1.2.2 dX1_reckon_139
    · have fc_32 := neq_f c_32
      refine lv_iconst (v := 1) hx hb dX1_reckon_134 (by decide) ?_
      refine lv_goto (tgt := 139) hx hb dX1_reckon_135 (by decide) ?_
      subst hQ
      exact W.iret (v := 1) hx hb hr (fun t ht hW => ⟨⟨_, _, rfl, trivial, q3_of g hK ht hW⟩, g.2.2.1.F ht⟩) g.2.2.1.2.2 dX1_reckon_139
  by_cases e_33 : x1_ = 203
  · refine lv_topi (fun z_34 ez_34 => ?_)
    obtain rfl : z_34 = 203 := ez_34.trans e_33
    have kb_203 : bd 203 203 (203 : Int32) := ⟨by decide, by decide⟩
    have b_35 : bd 203 203 x1_ := eqX (eq_f e_33) (bdT x1_) kb_203 (by decide)
    refine lv_lookup (off := 139) (tgt := 140) hx hb dX1_reckon_1 (by decide) (by decide) (by decide) ?_
    refine lv_iload_n hx hb dX1_reckon_140 rfl (lv_at hl 2 rfl) ?_
    refine lv_iload_n hx hb dX1_reckon_141 rfl (lv_at hl 3 rfl) ?_
    refine lv_icmp_gt (tgt := 149) hx hb dX1_reckon_142 (by decide) (fun c_36 => ?_) (fun c_36 => ?_)
    · have fc_36 := lt_f c_36
      have b_37 : bd (-2147483648) 2147483646 x3_ := ltL fc_36 (bdT x3_) (bdT x2_) (by decide)
      have b_38 : bd (-2147483647) 2147483647 x2_ := ltR fc_36 (bdT x3_) (bdT x2_) (by decide)
      refine lv_iconst (v := 0) hx hb dX1_reckon_149 (by decide) ?_
      subst hQ
      exact W.iret (v := 0) hx hb hr (fun t ht hW => ⟨⟨_, _, rfl, trivial, q3_of g hK ht hW⟩, g.2.2.1.F ht⟩) g.2.2.1.2.2 dX1_reckon_150
    · have fc_36 := nlt_f c_36
      refine lv_iconst (v := 1) hx hb dX1_reckon_145 (by decide) ?_
      refine lv_goto (tgt := 150) hx hb dX1_reckon_146 (by decide) ?_
      subst hQ
      exact W.iret (v := 1) hx hb hr (fun t ht hW => ⟨⟨_, _, rfl, trivial, q3_of g hK ht hW⟩, g.2.2.1.F ht⟩) g.2.2.1.2.2 dX1_reckon_150
  by_cases e_39 : x1_ = 204
  · refine lv_topi (fun z_40 ez_40 => ?_)
    obtain rfl : z_40 = 204 := ez_40.trans e_39
    have kb_204 : bd 204 204 (204 : Int32) := ⟨by decide, by decide⟩
    have b_41 : bd 204 204 x1_ := eqX (eq_f e_39) (bdT x1_) kb_204 (by decide)
    refine lv_lookup (off := 150) (tgt := 151) hx hb dX1_reckon_1 (by decide) (by decide) (by decide) ?_
    refine lv_iload_n hx hb dX1_reckon_151 rfl (lv_at hl 2 rfl) ?_
    refine lv_iload_n hx hb dX1_reckon_152 rfl (lv_at hl 3 rfl) ?_
    refine lv_icmp_lt (tgt := 160) hx hb dX1_reckon_153 (by decide) (fun c_42 => ?_) (fun c_42 => ?_)
    · have fc_42 := lt_f c_42
      have b_43 : bd (-2147483648) 2147483646 x2_ := ltL fc_42 (bdT x2_) (bdT x3_) (by decide)
      have b_44 : bd (-2147483647) 2147483647 x3_ := ltR fc_42 (bdT x2_) (bdT x3_) (by decide)
      refine lv_iconst (v := 0) hx hb dX1_reckon_160 (by decide) ?_
      subst hQ
      exact W.iret (v := 0) hx hb hr (fun t ht hW => ⟨⟨_, _, rfl, trivial, q3_of g hK ht hW⟩, g.2.2.1.F ht⟩) g.2.2.1.2.2 dX1_reckon_161
    · have fc_42 := nlt_f c_42
      refine lv_iconst (v := 1) hx hb dX1_reckon_156 (by decide) ?_
      refine lv_goto (tgt := 161) hx hb dX1_reckon_157 (by decide) ?_
      subst hQ
      exact W.iret (v := 1) hx hb hr (fun t ht hW => ⟨⟨_, _, rfl, trivial, q3_of g hK ht hW⟩, g.2.2.1.F ht⟩) g.2.2.1.2.2 dX1_reckon_161
  refine lv_lookup (off := 161) (tgt := 162) hx hb dX1_reckon_1 (by decide) (by have a0 : x1_.toInt ≠ 42 := fun h => e_1 (Int32.toInt_inj.mp (h.trans (by decide))); have a1 : x1_.toInt ≠ 43 := fun h => e_5 (Int32.toInt_inj.mp (h.trans (by decide))); have a2 : x1_.toInt ≠ 45 := fun h => e_9 (Int32.toInt_inj.mp (h.trans (by decide))); have a3 : x1_.toInt ≠ 60 := fun h => e_13 (Int32.toInt_inj.mp (h.trans (by decide))); have a4 : x1_.toInt ≠ 62 := fun h => e_19 (Int32.toInt_inj.mp (h.trans (by decide))); have a5 : x1_.toInt ≠ 201 := fun h => e_25 (Int32.toInt_inj.mp (h.trans (by decide))); have a6 : x1_.toInt ≠ 202 := fun h => e_29 (Int32.toInt_inj.mp (h.trans (by decide))); have a7 : x1_.toInt ≠ 203 := fun h => e_33 (Int32.toInt_inj.mp (h.trans (by decide))); have a8 : x1_.toInt ≠ 204 := fun h => e_39 (Int32.toInt_inj.mp (h.trans (by decide))); simp [Op.lookupswitch.offset, a0, a1, a2, a3, a4, a5, a6, a7, a8, Ne.symm]) (by decide) ?_
  refine lv_iload_n hx hb dX1_reckon_162 rfl (lv_at hl 3 rfl) ?_
  have kb_0 : bd 0 0 (0 : Int32) := ⟨by decide, by decide⟩
  refine lv_if_ne (tgt := 180) hx hb dX1_reckon_163 (by decide) (fun c_45 => ?_) (fun c_45 => ?_)
  · have fc_45 := neq_f c_45
    refine lv_iload_n hx hb dX1_reckon_180 rfl (lv_at hl 1 rfl) ?_
    refine lv_bipush (v := 47) hx hb dX1_reckon_181 (by decide) ?_
    have kb_47 : bd 47 47 (47 : Int32) := ⟨by decide, by decide⟩
    refine lv_icmp_ne (tgt := 192) hx hb dX1_reckon_183 (by decide) (fun c_46 => ?_) (fun c_46 => ?_)
    · have fc_46 := neq_f c_46
      refine lv_iload_n hx hb dX1_reckon_192 rfl (lv_at hl 2 rfl) ?_
      refine lv_iload_n hx hb dX1_reckon_193 rfl (lv_at hl 3 rfl) ?_
      refine lv_irem hx hb dX1_reckon_194 c_45 ?_
      refine lv_topi (fun y_47 ey_47 => ?_)
      subst hQ
      exact W.iret (v := y_47) hx hb hr (fun t ht hW => ⟨⟨_, _, rfl, trivial, q3_of g hK ht hW⟩, g.2.2.1.F ht⟩) g.2.2.1.2.2 dX1_reckon_195
    · have fc_46 := eq_f c_46
      have b_48 : bd 47 47 x1_ := eqX fc_46 (bdT x1_) kb_47 (by decide)
      refine lv_iload_n hx hb dX1_reckon_186 rfl (lv_at hl 2 rfl) ?_
      refine lv_iload_n hx hb dX1_reckon_187 rfl (lv_at hl 3 rfl) ?_
      refine lv_idiv hx hb dX1_reckon_188 c_45 ?_
      refine lv_topi (fun y_49 ey_49 => ?_)
      refine lv_goto (tgt := 195) hx hb dX1_reckon_189 (by decide) ?_
      subst hQ
      exact W.iret (v := y_49) hx hb hr (fun t ht hW => ⟨⟨_, _, rfl, trivial, q3_of g hK ht hW⟩, g.2.2.1.F ht⟩) g.2.2.1.2.2 dX1_reckon_195
  · have fc_45 := eq_f c_45
    have b_50 : bd 0 0 x3_ := eqX fc_45 (bdT x3_) kb_0 (by decide)
    refine lv_aload_n hx hb dX1_reckon_166 rfl (lv_at hl 0 rfl) ?_
    refine lv_iconst (v := 2) hx hb dX1_reckon_167 (by decide) ?_
    have kb_2 : bd 2 2 (2 : Int32) := ⟨by decide, by decide⟩
    refine g_put (C := RX1) (T := TX1) (N := 18) hx hb hts (mc_ inX1) tyX1 tyX1_ok nmX1 hown hK g ma0_ ka0_ (by decide) rfl 15 (by decide) (hts _ (List.mem_cons_of_mem _ t_750)) (fun _ h9 => h9) rfl rfl (okV_i (bd_sub kb_2 (by decide))) rfl rfl (by decide) (Or.inr (Or.inl (by decide))) (fx' := []) rfl dX1_reckon_168 (fun f H locs g => ?_)
    refine lv_aload_n hx hb dX1_reckon_171 rfl (lv_at hl 0 rfl) ?_
    refine lv_ldc2 (v := 1434591) hx hb hown (hts _ (List.mem_cons_of_mem _ t_1605)) dX1_reckon_172 ?_
    refine g_put (C := RX1) (T := TX1) (N := 18) hx hb hts (mc_ inX1) tyX1 tyX1_ok nmX1 hown hK g ma0_ ka0_ (by decide) rfl 17 (by decide) (hts _ (List.mem_cons_of_mem _ t_754)) (fun _ h9 => h9) rfl rfl okV_l rfl rfl (by decide) (Or.inr (Or.inl (by decide))) (fx' := [(1, 15, a0_, .int 2)]) rfl dX1_reckon_175 (fun f H locs g => ?_)
    refine lv_iconst (v := 0) hx hb dX1_reckon_178 (by decide) ?_
    subst hQ
    exact W.iret (v := 0) hx hb hr (fun t ht hW => ⟨⟨_, _, rfl, trivial, q3_of g hK ht hW⟩, g.2.2.1.F ht⟩) g.2.2.1.2.2 dX1_reckon_179
set_option maxHeartbeats 4000000 in
set_option maxRecDepth 100000 in
theorem r_X1_setCell (l : Launch) (dC : Nat → ClassId) (dI : Nat → Nat → Nat) (L : List Nat) (kd : Nat → Nat) (tys : List (ClassId × FieldType)) (f0 : Nat → va_E) (sz : Nat) (hWT : WT L kd tys f0) (a0_ : Nat) (ma0_ : a0_ ∈ L) (ka0_ : kd a0_ = 1) (x1_ : Int32) (x2_ : Int32) (x3_ : Int32) : Met l yX1_setCell (.code yX1_setCell cX1_setCell 5 none :: lw_g) ({ frames := 0, cells := 0, slots := 0, locals := 0 }) (va_Pc [.ref a0_, .int x1_, .int x2_, .int x3_] (P3 (dC, dI) L tys f0 sz)) (va_Qv (fun (f : Nat → va_E) => (True)) (Q3 (dC, dI) L kd tys [(1, 15)] [100, 101, 102, 103] f0 sz) (pA L sz)) 0 0 (pA L sz) := by
  refine Met.ofW (cc := cX1_setCell) (maxL := 5) (ret := none) (by decide) rfl ?_
  intro p e s m args below meth c s₁ B hml hv
  obtain ⟨rfl, hsz, hP, hK, hD0⟩ := hv
  have hx := B.exec
  have hb := B.bytes
  have hr := B.returns
  have hts := atoms_spec (ws := (.code yX1_setCell cX1_setCell 5 none :: lw_g)) B.pre
  have hown : s.vm.findClass RX1 = some m.cls := findClass_of_methodNamed B.named
  have hlocks := B.notSynchronized
  subst hsz
  have g : G3 (dC, dI) L kd tys s f0 [(1, 15)] [100, 101, 102, 103] f0 s.heap [] [] := G3.start hP hD0 hWT Fs.nil
  have hl := lv_entry ([.ref a0_, .int x1_, .int x2_, .int x3_]) (n := 5) (Nat.le_of_ble_eq_true rfl)
  rw [lg_entry_eq]
  generalize (lg_sl ([.ref a0_, .int x1_, .int x2_, .int x3_]) ++ List.replicate (5 - (lg_sl ([.ref a0_, .int x1_, .int x2_, .int x3_])).length) Slot.unset).toArray = ls at hl ⊢
  have hl : lv_has ls 5 [(0, .ref a0_), (1, .int x1_), (2, .int x2_), (3, .int x3_)] := hl
  refine W_q (fun Q hQ => ?_)
  refine lv_iload_n hx hb dX1_setCell_0 rfl (lv_at hl 1 rfl) ?_
  refine lv_iconst (v := 4) hx hb dX1_setCell_1 (by decide) ?_
  have kb_4 : bd 4 4 (4 : Int32) := ⟨by decide, by decide⟩
  refine lv_ishr hx hb dX1_setCell_2 ?_
  refine lv_topi (fun y_1 ey_1 => ?_)
  have b_2 : bd (-134217728) 134217727 y_1 := shr_rg ey_1 (bdT x1_) kb_4 (by decide)
  refine lv_iload_n hx hb dX1_setCell_3 rfl (lv_at hl 2 rfl) ?_
  refine lv_iadd hx hb dX1_setCell_4 ?_
  refine lv_topi (fun y_3 ey_3 => ?_)
  refine lv_istore (lv' := [(4, .int y_3), (0, .ref a0_), (1, .int x1_), (2, .int x2_), (3, .int x3_)]) hx hb dX1_setCell_5 hl (by decide) rfl (fun ls hl => ?_)
  refine lv_aload_n hx hb dX1_setCell_7 rfl (lv_at hl 1 rfl) ?_
  refine g_geti (C := RX1) (T := TX1) (N := 18) hx hb hts (mc_ inX1) hown hK g ma0_ ka0_ (by decide) rfl 5 (by decide) rfl (hts _ (List.mem_cons_of_mem _ t_740)) (fun _ h9 => h9) rfl dX1_setCell_8 (fun x_4 bx_4 g => ?_)
  have kb_0 : bd 0 0 (0 : Int32) := ⟨by decide, by decide⟩
  refine lv_if_eq (tgt := 22) hx hb dX1_setCell_11 (by decide) (fun c_5 => ?_) (fun c_5 => ?_)
  · have fc_5 := eq_f c_5
    have b_6 : bd 0 0 x_4 := eqX fc_5 bx_4 kb_0 (by decide)
    refine lv_iload_n hx hb dX1_setCell_22 rfl (lv_at hl 3 rfl) ?_
    refine lv_if_lt (tgt := 52) hx hb dX1_setCell_23 (by decide) (fun c_7 => ?_) (fun c_7 => ?_)
    · have fc_7 := lt_f c_7
      have b_8 : bd (-2147483648) (-1) x2_ := ltL fc_7 (bdT x2_) kb_0 (by decide)
      subst hQ
      exact W.vret hx hb hr (fun t ht hW => ⟨⟨_, rfl, trivial, q3_of g hK ht hW⟩, g.2.2.1.F ht⟩) g.2.2.1.2.2 dX1_setCell_52
    · have fc_7 := nlt_f c_7
      have b_9 : bd 0 2147483647 x2_ := leR fc_7 kb_0 (bdT x2_) (by decide)
      refine lv_iload_n hx hb dX1_setCell_26 rfl (lv_at hl 3 rfl) ?_
      refine lv_iload_n hx hb dX1_setCell_27 rfl (lv_at hl 2 rfl) ?_
      refine lv_bipush (v := 15) hx hb dX1_setCell_28 (by decide) ?_
      have kb_15 : bd 15 15 (15 : Int32) := ⟨by decide, by decide⟩
      refine lv_iand hx hb dX1_setCell_30 ?_
      refine lv_topi (fun y_10 ey_10 => ?_)
      have b_11 : bd 0 15 y_10 := and_rg ey_10 (bdT x1_) kb_15 (by decide)
      refine lv_icmp_ge (tgt := 52) hx hb dX1_setCell_31 (by decide) (fun c_12 => ?_) (fun c_12 => ?_)
      · have fc_12 := le_f c_12
        subst hQ
        exact W.vret hx hb hr (fun t ht hW => ⟨⟨_, rfl, trivial, q3_of g hK ht hW⟩, g.2.2.1.F ht⟩) g.2.2.1.2.2 dX1_setCell_52
      · have fc_12 := nle_f c_12
        have b_13 : bd 0 14 x2_ := ltL fc_12 b_9 b_11 (by decide)
        have b_14 : bd 1 15 y_10 := ltR fc_12 b_9 b_11 (by decide)
        refine lv_iload hx hb dX1_setCell_34 (lv_at hl 0 rfl) ?_
        refine lv_aload_n hx hb dX1_setCell_36 rfl (lv_at hl 1 rfl) ?_
        refine g_getu (lo := 100) (hi := 103) (C := RX1) (T := TX1) (N := 18) hx hb hts (mc_ inX1) hown hK g ma0_ ka0_ (by decide) rfl 2 (by decide) rfl (hts _ (List.mem_cons_of_mem _ t_737)) (fun _ h9 => h9) rfl dX1_setCell_37 (fun a_15 ma_15 ka_15 g => ?_)
        refine g_alenU hx hb hK g ma_15 ka_15 dX1_setCell_40 (fun x_16 ex_16 bx_16 => ?_)
        refine lv_icmp_ge (tgt := 52) hx hb dX1_setCell_41 (by decide) (fun c_17 => ?_) (fun c_17 => ?_)
        · have fc_17 := le_f c_17
          have b_18 : bd 3 2147483647 y_3 := leR fc_17 bx_16 (bdT y_3) (by decide)
          subst hQ
          exact W.vret hx hb hr (fun t ht hW => ⟨⟨_, rfl, trivial, q3_of g hK ht hW⟩, g.2.2.1.F ht⟩) g.2.2.1.2.2 dX1_setCell_52
        · have fc_17 := nle_f c_17
          have b_19 : bd (-2147483648) 699 y_3 := ltL fc_17 (bdT y_3) bx_16 (by decide)
          refine lv_aload_n hx hb dX1_setCell_44 rfl (lv_at hl 1 rfl) ?_
          refine g_getk (C := RX1) (T := TX1) (N := 18) hx hb hts (mc_ inX1) hown hK g rfl 2 (by decide) rfl (hts _ (List.mem_cons_of_mem _ t_737)) (fun _ h9 => h9) 0 rfl dX1_setCell_45 ?_
          refine lv_iload hx hb dX1_setCell_48 (lv_at hl 0 rfl) ?_
          refine lv_iload_n hx hb dX1_setCell_50 rfl (lv_at hl 4 rfl) ?_
          refine g_iastU hx hb hK g ma_15 ka_15 (in_ok (by have h9 := b_19; unfold bd at h9; omega) (by omega)) (by decide) dX1_setCell_51 (fun f H locs g => ?_)
          subst hQ
          exact W.vret hx hb hr (fun t ht hW => ⟨⟨_, rfl, trivial, q3_of g hK ht hW⟩, g.2.2.1.F ht⟩) g.2.2.1.2.2 dX1_setCell_52
  · have fc_5 := neq_f c_5
    have b_20 : bd 1 1 x_4 := neX fc_5 bx_4 kb_0 (by decide)
    refine lv_aload_n hx hb dX1_setCell_14 rfl (lv_at hl 1 rfl) ?_
    refine lv_iconst (v := 4) hx hb dX1_setCell_15 (by decide) ?_
    refine g_put (C := RX1) (T := TX1) (N := 18) hx hb hts (mc_ inX1) tyX1 tyX1_ok nmX1 hown hK g ma0_ ka0_ (by decide) rfl 15 (by decide) (hts _ (List.mem_cons_of_mem _ t_750)) (fun _ h9 => h9) rfl rfl (okV_i (bd_sub kb_4 (by decide))) rfl rfl (by decide) (Or.inr (Or.inl (by decide))) (fx' := [(1, 5, a0_, .int x_4)]) rfl dX1_setCell_16 (fun f H locs g => ?_)
    refine lv_goto (tgt := 52) hx hb dX1_setCell_19 (by decide) ?_
    subst hQ
    exact W.vret hx hb hr (fun t ht hW => ⟨⟨_, rfl, trivial, q3_of g hK ht hW⟩, g.2.2.1.F ht⟩) g.2.2.1.2.2 dX1_setCell_52
set_option maxHeartbeats 4000000 in
set_option maxRecDepth 100000 in
theorem r_X2_atClass (l : Launch) (dC : Nat → ClassId) (dI : Nat → Nat → Nat) (L : List Nat) (kd : Nat → Nat) (tys : List (ClassId × FieldType)) (f0 : Nat → va_E) (sz : Nat) (hWT : WT L kd tys f0) (a0_ : Nat) (ma0_ : a0_ ∈ L) (ka0_ : kd a0_ = 2) : Met l yX2_atClass (.code yX2_atClass cX2_atClass 1 (some .boolean) :: lw_g) ({ frames := 1, cells := 0, slots := 0, locals := 20 }) (va_Pc [.ref a0_] (P3 (dC, dI) L tys f0 sz)) (va_Qi (fun (r : Int32) (f : Nat → va_E) => (r = 0 ∧ True) ∨ (r = 1 ∧ True)) (Q3 (dC, dI) L kd tys [] [] f0 sz) (pA L sz)) 0 0 (pA L sz) := by
  refine Met.ofW (cc := cX2_atClass) (maxL := 1) (ret := (some .boolean)) (by decide) rfl ?_
  intro p e s m args below meth c s₁ B hml hv
  obtain ⟨rfl, hsz, hP, hK, hD0⟩ := hv
  have hx := B.exec
  have hb := B.bytes
  have hr := B.returns
  have hts := atoms_spec (ws := (.code yX2_atClass cX2_atClass 1 (some .boolean) :: lw_g)) B.pre
  have hown : s.vm.findClass RX2 = some m.cls := findClass_of_methodNamed B.named
  have hlocks := B.notSynchronized
  subst hsz
  have g : G3 (dC, dI) L kd tys s f0 [] [] f0 s.heap [] [] := G3.start hP hD0 hWT Fs.nil
  have hl := lv_entry ([.ref a0_]) (n := 1) (Nat.le_of_ble_eq_true rfl)
  rw [lg_entry_eq]
  generalize (lg_sl ([.ref a0_]) ++ List.replicate (1 - (lg_sl ([.ref a0_])).length) Slot.unset).toArray = ls at hl ⊢
  have hl : lv_has ls 1 [(0, .ref a0_)] := hl
  refine W_q (fun Q hQ => ?_)
  refine lv_aload_n hx hb dX2_atClass_0 rfl (lv_at hl 0 rfl) ?_
  refine g_getr (K := 8) (C := RX2) (T := TX2) (N := 16) hx hb hts (mc_ inX2) hown hK g ma0_ ka0_ (by decide) rfl 0 (by decide) rfl (hts _ (List.mem_cons_of_mem _ t_416)) (fun _ h9 => h9) rfl dX2_atClass_1 (fun a_1 ma_1 ka_1 g => ?_)
  refine g_calli (va_runV (As := []) (rest := []) ⟨hx, hb, hml, hown, hts⟩ (r_X8_kind l dC dI L kd tys f0 s.heap.size g.2.2.2.1 a_1 ma_1 ka_1) (cwV 0 hts (gV_ t_1118 t_1119 t_1120 t_184 t_1121) rfl rfl rfl (by decide +kernel) ⟨(Nat.le_of_ble_eq_true rfl), (Nat.le_of_ble_eq_true rfl)⟩) (pre3V g hK ma_1 ka_1 (by decide) (q := (RX8, TX8, 10)) rfl) rfl rfl hl.1 rfl (lv_room (Nat.le_of_ble_eq_true rfl)) dX2_atClass_4 ⟨(Nat.le_of_ble_eq_true rfl), (Nat.le_of_ble_eq_true rfl)⟩) g hK (by decide) (by decide) (fx' := [(2, 0, a0_, .ref a_1)]) rfl (fun r_2 fr_2 H locs hp hMr_2 g => ?_)
  refine lv_bipush (v := 10) hx hb dX2_atClass_7 (by decide) ?_
  have kb_10 : bd 10 10 (10 : Int32) := ⟨by decide, by decide⟩
  refine lv_icmp_ne (tgt := 16) hx hb dX2_atClass_9 (by decide) (fun c_3 => ?_) (fun c_3 => ?_)
  · have fc_3 := neq_f c_3
    refine lv_iconst (v := 0) hx hb dX2_atClass_16 (by decide) ?_
    subst hQ
    have kb_0 : bd 0 0 (0 : Int32) := ⟨by decide, by decide⟩
    exact W.zret (v := 0) hx hb hr (nar_z (bd_sub kb_0 (by decide) : bd 0 1 _).1 (bd_sub kb_0 (by decide) : bd 0 1 _).2) (fun t ht hW => ⟨⟨_, _, rfl, Or.inl ⟨rfl, trivial⟩, q3_of g hK ht hW⟩, g.2.2.1.F ht⟩) g.2.2.1.2.2 dX2_atClass_17
  · have fc_3 := eq_f c_3
    have b_4 : bd 10 10 r_2 := eqX fc_3 (bdT r_2) kb_10 (by decide)
    refine lv_iconst (v := 1) hx hb dX2_atClass_12 (by decide) ?_
    refine lv_goto (tgt := 17) hx hb dX2_atClass_13 (by decide) ?_
    subst hQ
    have kb_1 : bd 1 1 (1 : Int32) := ⟨by decide, by decide⟩
    exact W.zret (v := 1) hx hb hr (nar_z (bd_sub kb_1 (by decide) : bd 0 1 _).1 (bd_sub kb_1 (by decide) : bd 0 1 _).2) (fun t ht hW => ⟨⟨_, _, rfl, Or.inr (⟨rfl, trivial⟩), q3_of g hK ht hW⟩, g.2.2.1.F ht⟩) g.2.2.1.2.2 dX2_atClass_17
set_option maxHeartbeats 4000000 in
set_option maxRecDepth 100000 in
theorem r_X2_finish (l : Launch) (dC : Nat → ClassId) (dI : Nat → Nat → Nat) (L : List Nat) (kd : Nat → Nat) (tys : List (ClassId × FieldType)) (f0 : Nat → va_E) (sz : Nat) (hWT : WT L kd tys f0) (a0_ : Nat) (ma0_ : a0_ ∈ L) (ka0_ : kd a0_ = 2) (q0_ : Nat) (mq0_ : q0_ ∈ L) (kq0_ : kd q0_ = 8) (hfx : Fs L kd f0 [(2, 0, a0_, .ref q0_)]) : Met l yX2_finish (.code yX2_finish cX2_finish 1 none :: lw_g) ({ frames := 2, cells := 0, slots := 0, locals := 44 }) (va_Pc [.ref a0_] (P3 (dC, dI) L tys f0 sz)) (va_Qv (fun (f : Nat → va_E) => (∃ z0_ : Int32, bd 1 1201 z0_ ∧ Fs L kd f [(8, 6, q0_, .int z0_)])) (Q3 (dC, dI) L kd tys [(8, 6), (8, 8), (8, 9)] [] f0 sz) (pA L sz)) 0 0 (pA L sz) := by
  refine Met.ofW (cc := cX2_finish) (maxL := 1) (ret := none) (by decide) rfl ?_
  intro p e s m args below meth c s₁ B hml hv
  obtain ⟨rfl, hsz, hP, hK, hD0⟩ := hv
  have hx := B.exec
  have hb := B.bytes
  have hr := B.returns
  have hts := atoms_spec (ws := (.code yX2_finish cX2_finish 1 none :: lw_g)) B.pre
  have hown : s.vm.findClass RX2 = some m.cls := findClass_of_methodNamed B.named
  have hlocks := B.notSynchronized
  subst hsz
  have g : G3 (dC, dI) L kd tys s f0 [(8, 6), (8, 8), (8, 9)] [] f0 s.heap [] [(2, 0, a0_, .ref q0_)] := G3.start hP hD0 hWT hfx
  have hl := lv_entry ([.ref a0_]) (n := 1) (Nat.le_of_ble_eq_true rfl)
  rw [lg_entry_eq]
  generalize (lg_sl ([.ref a0_]) ++ List.replicate (1 - (lg_sl ([.ref a0_])).length) Slot.unset).toArray = ls at hl ⊢
  have hl : lv_has ls 1 [(0, .ref a0_)] := hl
  refine W_q (fun Q hQ => ?_)
  refine lv_aload_n hx hb dX2_finish_0 rfl (lv_at hl 0 rfl) ?_
  refine g_getk (C := RX2) (T := TX2) (N := 16) hx hb hts (mc_ inX2) hown hK g rfl 0 (by decide) rfl (hts _ (List.mem_cons_of_mem _ t_416)) (fun _ h9 => h9) 0 rfl dX2_finish_1 ?_
  refine lv_iconst (v := 1) hx hb dX2_finish_4 (by decide) ?_
  refine g_callv (va_runV (As := [.int 1]) (rest := []) ⟨hx, hb, hml, hown, hts⟩ (r_X8_take l dC dI L kd tys f0 s.heap.size g.2.2.2.1 q0_ mq0_ kq0_ 1) (cwV 1 hts (gV_ t_1098 t_1099 t_1100 t_184 t_1101) rfl rfl rfl (by decide +kernel) ⟨(Nat.le_of_ble_eq_true rfl), (Nat.le_of_ble_eq_true rfl)⟩) (pre3V g hK mq0_ kq0_ (by decide) (q := (RX8, TX8, 10)) rfl) rfl rfl hl.1 rfl (lv_room (Nat.le_of_ble_eq_true rfl)) dX2_finish_5 ⟨(Nat.le_of_ble_eq_true rfl), (Nat.le_of_ble_eq_true rfl)⟩) g hK (by decide) (by decide) (fx' := [(2, 0, a0_, .ref q0_)]) rfl (fun fr_1 H locs hp hMr_1 g => ?_)
  obtain ⟨x_2, h_3, hF_4⟩ := hp
  have g := g.more hF_4
  subst hQ
  exact W.vret hx hb hr (fun t ht hW => ⟨⟨_, rfl, ⟨x_2, h_3, (g.fcts [0] rfl)⟩, q3_of g hK ht hW⟩, g.2.2.1.F ht⟩) g.2.2.1.2.2 dX2_finish_8
set_option maxHeartbeats 4000000 in
set_option maxRecDepth 100000 in
theorem r_X2_faultKind (l : Launch) (dC : Nat → ClassId) (dI : Nat → Nat → Nat) (L : List Nat) (kd : Nat → Nat) (tys : List (ClassId × FieldType)) (f0 : Nat → va_E) (sz : Nat) (hWT : WT L kd tys f0) (a0_ : Nat) (ma0_ : a0_ ∈ L) (ka0_ : kd a0_ = 2) : Met l yX2_faultKind (.code yX2_faultKind cX2_faultKind 1 (some .int) :: lw_g) ({ frames := 0, cells := 0, slots := 0, locals := 0 }) (va_Pc [.ref a0_] (P3 (dC, dI) L tys f0 sz)) (va_Qi (fun (r : Int32) (f : Nat → va_E) => (bd 0 7 r ∧ True)) (Q3 (dC, dI) L kd tys [] [] f0 sz) (pA L sz)) 0 0 (pA L sz) := by
  refine Met.ofW (cc := cX2_faultKind) (maxL := 1) (ret := (some .int)) (by decide) rfl ?_
  intro p e s m args below meth c s₁ B hml hv
  obtain ⟨rfl, hsz, hP, hK, hD0⟩ := hv
  have hx := B.exec
  have hb := B.bytes
  have hr := B.returns
  have hts := atoms_spec (ws := (.code yX2_faultKind cX2_faultKind 1 (some .int) :: lw_g)) B.pre
  have hown : s.vm.findClass RX2 = some m.cls := findClass_of_methodNamed B.named
  have hlocks := B.notSynchronized
  subst hsz
  have g : G3 (dC, dI) L kd tys s f0 [] [] f0 s.heap [] [] := G3.start hP hD0 hWT Fs.nil
  have hl := lv_entry ([.ref a0_]) (n := 1) (Nat.le_of_ble_eq_true rfl)
  rw [lg_entry_eq]
  generalize (lg_sl ([.ref a0_]) ++ List.replicate (1 - (lg_sl ([.ref a0_])).length) Slot.unset).toArray = ls at hl ⊢
  have hl : lv_has ls 1 [(0, .ref a0_)] := hl
  refine W_q (fun Q hQ => ?_)
  refine lv_aload_n hx hb dX2_faultKind_0 rfl (lv_at hl 0 rfl) ?_
  refine g_getr (K := 8) (C := RX2) (T := TX2) (N := 16) hx hb hts (mc_ inX2) hown hK g ma0_ ka0_ (by decide) rfl 0 (by decide) rfl (hts _ (List.mem_cons_of_mem _ t_416)) (fun _ h9 => h9) rfl dX2_faultKind_1 (fun a_1 ma_1 ka_1 g => ?_)
  refine g_geti (C := RX8) (T := TX8) (N := 10) hx hb hts (mc_ inX8) hown hK g ma_1 ka_1 (by decide) rfl 8 (by decide) rfl (hts _ (List.mem_cons_of_mem _ t_294)) (fun _ h9 => h9) rfl dX2_faultKind_4 (fun x_2 bx_2 g => ?_)
  subst hQ
  exact W.iret (v := x_2) hx hb hr (fun t ht hW => ⟨⟨_, _, rfl, ⟨bx_2, trivial⟩, q3_of g hK ht hW⟩, g.2.2.1.F ht⟩) g.2.2.1.2.2 dX2_faultKind_7
set_option maxHeartbeats 4000000 in
set_option maxRecDepth 100000 in
theorem r_X2_faultPlace (l : Launch) (dC : Nat → ClassId) (dI : Nat → Nat → Nat) (L : List Nat) (kd : Nat → Nat) (tys : List (ClassId × FieldType)) (f0 : Nat → va_E) (sz : Nat) (hWT : WT L kd tys f0) (a0_ : Nat) (ma0_ : a0_ ∈ L) (ka0_ : kd a0_ = 2) : Met l yX2_faultPlace (.code yX2_faultPlace cX2_faultPlace 1 (some .int) :: lw_g) ({ frames := 0, cells := 0, slots := 0, locals := 0 }) (va_Pc [.ref a0_] (P3 (dC, dI) L tys f0 sz)) (va_Qi (fun (r : Int32) (f : Nat → va_E) => (True)) (Q3 (dC, dI) L kd tys [] [] f0 sz) (pA L sz)) 0 0 (pA L sz) := by
  refine Met.ofW (cc := cX2_faultPlace) (maxL := 1) (ret := (some .int)) (by decide) rfl ?_
  intro p e s m args below meth c s₁ B hml hv
  obtain ⟨rfl, hsz, hP, hK, hD0⟩ := hv
  have hx := B.exec
  have hb := B.bytes
  have hr := B.returns
  have hts := atoms_spec (ws := (.code yX2_faultPlace cX2_faultPlace 1 (some .int) :: lw_g)) B.pre
  have hown : s.vm.findClass RX2 = some m.cls := findClass_of_methodNamed B.named
  have hlocks := B.notSynchronized
  subst hsz
  have g : G3 (dC, dI) L kd tys s f0 [] [] f0 s.heap [] [] := G3.start hP hD0 hWT Fs.nil
  have hl := lv_entry ([.ref a0_]) (n := 1) (Nat.le_of_ble_eq_true rfl)
  rw [lg_entry_eq]
  generalize (lg_sl ([.ref a0_]) ++ List.replicate (1 - (lg_sl ([.ref a0_])).length) Slot.unset).toArray = ls at hl ⊢
  have hl : lv_has ls 1 [(0, .ref a0_)] := hl
  refine W_q (fun Q hQ => ?_)
  refine lv_aload_n hx hb dX2_faultPlace_0 rfl (lv_at hl 0 rfl) ?_
  refine g_getr (K := 8) (C := RX2) (T := TX2) (N := 16) hx hb hts (mc_ inX2) hown hK g ma0_ ka0_ (by decide) rfl 0 (by decide) rfl (hts _ (List.mem_cons_of_mem _ t_416)) (fun _ h9 => h9) rfl dX2_faultPlace_1 (fun a_1 ma_1 ka_1 g => ?_)
  refine g_geti (C := RX8) (T := TX8) (N := 10) hx hb hts (mc_ inX8) hown hK g ma_1 ka_1 (by decide) rfl 9 (by decide) rfl (hts _ (List.mem_cons_of_mem _ t_297)) (fun _ h9 => h9) rfl dX2_faultPlace_4 (fun x_2 bx_2 g => ?_)
  subst hQ
  exact W.iret (v := x_2) hx hb hr (fun t ht hW => ⟨⟨_, _, rfl, trivial, q3_of g hK ht hW⟩, g.2.2.1.F ht⟩) g.2.2.1.2.2 dX2_faultPlace_7
set_option maxHeartbeats 4000000 in
set_option maxRecDepth 100000 in
theorem r_X7_classNamed (l : Launch) (dC : Nat → ClassId) (dI : Nat → Nat → Nat) (L : List Nat) (kd : Nat → Nat) (tys : List (ClassId × FieldType)) (f0 : Nat → va_E) (sz : Nat) (hWT : WT L kd tys f0) (a0_ : Nat) (ma0_ : a0_ ∈ L) (ka0_ : kd a0_ = 7) (x1_ : Int64) : Met l yX7_classNamed (.code yX7_classNamed cX7_classNamed 4 (some .int) :: lw_g) ({ frames := 0, cells := 0, slots := 0, locals := 0 }) (va_Pc [.ref a0_, .long x1_] (P3 (dC, dI) L tys f0 sz)) (va_Qi (fun (r : Int32) (f : Nat → va_E) => (bd (-1) 7 r ∧ True)) (Q3 (dC, dI) L kd tys [] [] f0 sz) (pA L sz)) 0 0 (pA L sz) := by
  refine Met.ofW (cc := cX7_classNamed) (maxL := 4) (ret := (some .int)) (by decide) rfl ?_
  intro p e s m args below meth c s₁ B hml hv
  obtain ⟨rfl, hsz, hP, hK, hD0⟩ := hv
  have hx := B.exec
  have hb := B.bytes
  have hr := B.returns
  have hts := atoms_spec (ws := (.code yX7_classNamed cX7_classNamed 4 (some .int) :: lw_g)) B.pre
  have hown : s.vm.findClass RX7 = some m.cls := findClass_of_methodNamed B.named
  have hlocks := B.notSynchronized
  subst hsz
  have g : G3 (dC, dI) L kd tys s f0 [] [] f0 s.heap [] [] := G3.start hP hD0 hWT Fs.nil
  have hl := lv_entry ([.ref a0_, .long x1_]) (n := 4) (Nat.le_of_ble_eq_true rfl)
  rw [lg_entry_eq]
  generalize (lg_sl ([.ref a0_, .long x1_]) ++ List.replicate (4 - (lg_sl ([.ref a0_, .long x1_])).length) Slot.unset).toArray = ls at hl ⊢
  have hl : lv_has ls 4 [(0, .ref a0_), (1, .long x1_)] := hl
  refine W_q (fun Q hQ => ?_)
  refine lv_iconst (v := 0) hx hb dX7_classNamed_0 (by decide) ?_
  refine lv_istore_n (lv' := [(3, .int 0), (0, .ref a0_), (1, .long x1_)]) hx hb dX7_classNamed_1 rfl hl (by decide) rfl (fun ls hl => ?_)
  have loop_1 : ∀ (n : Nat) (v2_3 : Int32), bd 0 8 v2_3 → (8 - v2_3.toInt < (n : Int)) → ∀ (f : Nat → va_E) (H : Heap) (locs : List Loc) (ls : Array Slot), G3 (dC, dI) L kd tys s f0 [] [] f H locs [] → lv_has ls 4 [(3, .int v2_3), (0, .ref a0_), (1, .long x1_)] → W p l e ({ frames := 0, cells := 0, slots := 0, locals := 0 } : Room) s m [.ref a0_, .long x1_].toArray below meth c H locs 0 0 Q (F0 m 2 ls []) := by
    intro n
    induction n with
    | zero =>
      intro v2_3 bv2_3 hm f H locs ls g hl
      exact absurd hm (by have h9_v2_3 := bv2_3; unfold bd at h9_v2_3; omega)
    | succ n ih =>
      intro v2_3 bv2_3 hm f H locs ls g hl
      refine lv_iload_n hx hb dX7_classNamed_2 rfl (lv_at hl 0 rfl) ?_
      refine lv_aload_n hx hb dX7_classNamed_3 rfl (lv_at hl 1 rfl) ?_
      refine g_geti (C := RX7) (T := TX7) (N := 19) hx hb hts (mc_ inX7) hown hK g ma0_ ka0_ (by decide) rfl 1 (by decide) rfl (hts _ (List.mem_cons_of_mem _ t_626)) (fun _ h9 => h9) rfl dX7_classNamed_4 (fun x_2 bx_2 g => ?_)
      refine lv_icmp_ge (tgt := 32) hx hb dX7_classNamed_7 (by decide) (fun c_3 => ?_) (fun c_3 => ?_)
      · have fc_3 := le_f c_3
        refine lv_iconst (v := (-1)) hx hb dX7_classNamed_32 (by decide) ?_
        have kb_m1 : bd (-1) (-1) ((-1) : Int32) := ⟨by decide, by decide⟩
        subst hQ
        exact W.iret (v := (-1)) hx hb hr (fun t ht hW => ⟨⟨_, _, rfl, ⟨(bd_sub kb_m1 (by decide)), trivial⟩, q3_of g hK ht hW⟩, g.2.2.1.F ht⟩) g.2.2.1.2.2 dX7_classNamed_33
      · have fc_3 := nle_f c_3
        have b_4 : bd 0 7 v2_3 := ltL fc_3 bv2_3 bx_2 (by decide)
        have b_5 : bd 1 8 x_2 := ltR fc_3 bv2_3 bx_2 (by decide)
        refine lv_aload_n hx hb dX7_classNamed_10 rfl (lv_at hl 1 rfl) ?_
        refine g_getr (K := 136) (C := RX7) (T := TX7) (N := 19) hx hb hts (mc_ inX7) hown hK g ma0_ ka0_ (by decide) rfl 0 (by decide) rfl (hts _ (List.mem_cons_of_mem _ t_620)) (fun _ h9 => h9) rfl dX7_classNamed_11 (fun a_6 ma_6 ka_6 g => ?_)
        refine lv_iload_n hx hb dX7_classNamed_14 rfl (lv_at hl 0 rfl) ?_
        refine g_aald hx hb hK g ma_6 ka_6 (by decide) rfl (by decide) (in_bd b_4 (by decide)) dX7_classNamed_15 (fun a_7 ma_7 ua_7 wa_7 => ?_)
        have ka_7 : kd a_7 = 9 := by omega
        refine g_getl (C := RX9) (T := TX9) (N := 13) hx hb hts (mc_ inX9) hown hK g ma_7 ka_7 (by decide) rfl 0 (by decide) rfl (hts _ (List.mem_cons_of_mem _ t_479)) (fun _ h9 => h9) rfl dX7_classNamed_16 (fun x_8 g => ?_)
        refine lv_lload_n hx hb dX7_classNamed_19 rfl (lv_at hl 2 rfl) ?_
        refine W.lcmp hx hb dX7_classNamed_20 ?_
        refine lv_if_ne (tgt := 26) hx hb dX7_classNamed_21 (by decide) (fun c_9 => ?_) (fun c_9 => ?_)
        · have kb_1 : bd 1 1 (1 : Int32) := ⟨by decide, by decide⟩
          obtain ⟨y_10, ey_10⟩ : ∃ z : Int32, z = v2_3 + 1 := ⟨_, rfl⟩
          refine lv_iinc (v := y_10) (lv' := [(3, .int y_10), (0, .ref a0_), (1, .long x1_)]) hx hb dX7_classNamed_26 hl (k := 0) rfl (by rw [ey_10]; rfl) (by decide) rfl (fun ls hl => ?_)
          have ty_10 := add_bd ey_10 b_4 kb_1 (by decide)
          have b_11 : bd 1 8 y_10 := add_rg ty_10 b_4 kb_1 (by decide)
          refine lv_goto (tgt := 2) hx hb dX7_classNamed_29 (by decide) ?_
          have hl9 := lv_sub hl [0, 1, 2] (by rfl : lv_pick [(3, .int y_10), (0, .ref a0_), (1, .long x1_)] [0, 1, 2] = [(3, .int y_10), (0, .ref a0_), (1, .long x1_)])
          have g9 := g.sub (fx' := []) [] rfl
          exact ih  y_10 (bd_sub b_11 (by decide)) (by have h9_0 := b_11; unfold bd at h9_0; have h9_1 := kb_1; unfold bd at h9_1; omega) _ _ _ _ g9 hl9
        · refine lv_iload_n hx hb dX7_classNamed_24 rfl (lv_at hl 0 rfl) ?_
          subst hQ
          exact W.iret (v := v2_3) hx hb hr (fun t ht hW => ⟨⟨_, _, rfl, ⟨(bd_sub b_4 (by decide)), trivial⟩, q3_of g hK ht hW⟩, g.2.2.1.F ht⟩) g.2.2.1.2.2 dX7_classNamed_25
  have kb_0 : bd 0 0 (0 : Int32) := ⟨by decide, by decide⟩
  have hl9 := lv_sub hl [0, 1, 2] (by rfl : lv_pick [(3, .int 0), (0, .ref a0_), (1, .long x1_)] [0, 1, 2] = [(3, .int 0), (0, .ref a0_), (1, .long x1_)])
  have g9 := g.sub (fx' := []) [] rfl
  exact loop_1 (19) 0 (bd_sub kb_0 (by decide)) (by have h9_0 := kb_0; unfold bd at h9_0; omega) _ _ _ _ g9 hl9
set_option maxHeartbeats 4000000 in
set_option maxRecDepth 100000 in
theorem r_X9_standBelow (l : Launch) (dC : Nat → ClassId) (dI : Nat → Nat → Nat) (L : List Nat) (kd : Nat → Nat) (tys : List (ClassId × FieldType)) (f0 : Nat → va_E) (sz : Nat) (hWT : WT L kd tys f0) (a0_ : Nat) (ma0_ : a0_ ∈ L) (ka0_ : kd a0_ = 9) (x1_ : Int32) (a2_ : Nat) (ma2_ : a2_ ∈ L) (ka2_ : kd a2_ = 9) : Met l yX9_standBelow (.code yX9_standBelow cX9_standBelow 3 none :: lw_g) ({ frames := 1, cells := 0, slots := 0, locals := 40 }) (va_Pc [.ref a0_, .int x1_, .ref a2_] (P3 (dC, dI) L tys f0 sz)) (va_Qv (fun (f : Nat → va_E) => (True)) (Q3 (dC, dI) L kd tys [(9, 1), (9, 2), (9, 7), (9, 8)] [152, 153, 154, 155, 156] f0 sz) (pA L sz)) 0 0 (pA L sz) := by
  refine Met.ofW (cc := cX9_standBelow) (maxL := 3) (ret := none) (by decide) rfl ?_
  intro p e s m args below meth c s₁ B hml hv
  obtain ⟨rfl, hsz, hP, hK, hD0⟩ := hv
  have hx := B.exec
  have hb := B.bytes
  have hr := B.returns
  have hts := atoms_spec (ws := (.code yX9_standBelow cX9_standBelow 3 none :: lw_g)) B.pre
  have hown : s.vm.findClass RX9 = some m.cls := findClass_of_methodNamed B.named
  have hlocks := B.notSynchronized
  subst hsz
  have g : G3 (dC, dI) L kd tys s f0 [(9, 1), (9, 2), (9, 7), (9, 8)] [152, 153, 154, 155, 156] f0 s.heap [] [] := G3.start hP hD0 hWT Fs.nil
  have hl := lv_entry ([.ref a0_, .int x1_, .ref a2_]) (n := 3) (Nat.le_of_ble_eq_true rfl)
  rw [lg_entry_eq]
  generalize (lg_sl ([.ref a0_, .int x1_, .ref a2_]) ++ List.replicate (3 - (lg_sl ([.ref a0_, .int x1_, .ref a2_])).length) Slot.unset).toArray = ls at hl ⊢
  have hl : lv_has ls 3 [(0, .ref a0_), (1, .int x1_), (2, .ref a2_)] := hl
  refine W_q (fun Q hQ => ?_)
  refine lv_aload_n hx hb dX9_standBelow_0 rfl (lv_at hl 0 rfl) ?_
  refine lv_iload_n hx hb dX9_standBelow_1 rfl (lv_at hl 1 rfl) ?_
  refine g_put (C := RX9) (T := TX9) (N := 13) hx hb hts (mc_ inX9) tyX9 tyX9_ok nmX9 hown hK g ma0_ ka0_ (by decide) rfl 1 (by decide) (hts _ (List.mem_cons_of_mem _ t_480)) (fun _ h9 => h9) rfl rfl (okV_i (bdT x1_)) rfl rfl (by decide) (Or.inr (Or.inl (by decide))) (fx' := []) rfl dX9_standBelow_2 (fun f H locs g => ?_)
  refine lv_aload_n hx hb dX9_standBelow_5 rfl (lv_at hl 0 rfl) ?_
  refine lv_aload_n hx hb dX9_standBelow_6 rfl (lv_at hl 2 rfl) ?_
  refine g_geti (C := RX9) (T := TX9) (N := 13) hx hb hts (mc_ inX9) hown hK g ma2_ ka2_ (by decide) rfl 2 (by decide) rfl (hts _ (List.mem_cons_of_mem _ t_485)) (fun _ h9 => h9) rfl dX9_standBelow_7 (fun x_1 bx_1 g => ?_)
  refine g_put (C := RX9) (T := TX9) (N := 13) hx hb hts (mc_ inX9) tyX9 tyX9_ok nmX9 hown hK g ma0_ ka0_ (by decide) rfl 2 (by decide) (hts _ (List.mem_cons_of_mem _ t_485)) (fun _ h9 => h9) rfl rfl (okV_i bx_1) rfl rfl (by decide) (Or.inr (Or.inl (by decide))) (fx' := [(9, 1, a0_, .int x1_)]) rfl dX9_standBelow_10 (fun f H locs g => ?_)
  refine lv_aload_n hx hb dX9_standBelow_13 rfl (lv_at hl 2 rfl) ?_
  refine g_getr (K := 152) (C := RX9) (T := TX9) (N := 13) hx hb hts (mc_ inX9) hown hK g ma2_ ka2_ (by decide) rfl 3 (by decide) rfl (hts _ (List.mem_cons_of_mem _ t_488)) (fun _ h9 => h9) rfl dX9_standBelow_14 (fun a_2 ma_2 ka_2 g => ?_)
  refine lv_iconst (v := 0) hx hb dX9_standBelow_17 (by decide) ?_
  refine lv_aload_n hx hb dX9_standBelow_18 rfl (lv_at hl 0 rfl) ?_
  refine g_getr (K := 152) (C := RX9) (T := TX9) (N := 13) hx hb hts (mc_ inX9) hown hK g ma0_ ka0_ (by decide) rfl 3 (by decide) rfl (hts _ (List.mem_cons_of_mem _ t_488)) (fun _ h9 => h9) rfl dX9_standBelow_19 (fun a_3 ma_3 ka_3 g => ?_)
  refine lv_iconst (v := 0) hx hb dX9_standBelow_22 (by decide) ?_
  refine lv_bipush (v := 10) hx hb dX9_standBelow_23 (by decide) ?_
  refine g_copyl hx hb (hml.trans hl.1.symm) hown (hts _ (List.mem_cons_of_mem _ t_999)) (hts _ (List.mem_cons_of_mem _ t_999)) (hts _ (List.mem_cons_of_mem _ t_999)) (hts _ (List.mem_cons_of_mem _ t_206)) hK g ma_2 ka_2 ma_3 ka_3 (by decide) (by decide) rfl rfl (by decide) (by decide) (by decide) (by decide) (Nat.le_of_ble_eq_true rfl) (Nat.le_of_ble_eq_true rfl) dX9_standBelow_25 (fun f H locs g => ?_)
  refine lv_aload_n hx hb dX9_standBelow_28 rfl (lv_at hl 2 rfl) ?_
  refine g_getr (K := 153) (C := RX9) (T := TX9) (N := 13) hx hb hts (mc_ inX9) hown hK g ma2_ ka2_ (by decide) rfl 4 (by decide) rfl (hts _ (List.mem_cons_of_mem _ t_489)) (fun _ h9 => h9) rfl dX9_standBelow_29 (fun a_4 ma_4 ka_4 g => ?_)
  refine lv_iconst (v := 0) hx hb dX9_standBelow_32 (by decide) ?_
  refine lv_aload_n hx hb dX9_standBelow_33 rfl (lv_at hl 0 rfl) ?_
  refine g_getr (K := 153) (C := RX9) (T := TX9) (N := 13) hx hb hts (mc_ inX9) hown hK g ma0_ ka0_ (by decide) rfl 4 (by decide) rfl (hts _ (List.mem_cons_of_mem _ t_489)) (fun _ h9 => h9) rfl dX9_standBelow_34 (fun a_5 ma_5 ka_5 g => ?_)
  refine lv_iconst (v := 0) hx hb dX9_standBelow_37 (by decide) ?_
  refine lv_bipush (v := 10) hx hb dX9_standBelow_38 (by decide) ?_
  refine g_copyi hx hb (hml.trans hl.1.symm) hown (hts _ (List.mem_cons_of_mem _ t_999)) (hts _ (List.mem_cons_of_mem _ t_999)) (hts _ (List.mem_cons_of_mem _ t_999)) (hts _ (List.mem_cons_of_mem _ t_206)) hK g ma_4 ka_4 ma_5 ka_5 (by decide) (by decide) rfl rfl (by decide) (by decide) (by decide) (by decide) (by decide) (Nat.le_of_ble_eq_true rfl) (Nat.le_of_ble_eq_true rfl) dX9_standBelow_40 (fun f H locs g => ?_)
  refine lv_aload_n hx hb dX9_standBelow_43 rfl (lv_at hl 2 rfl) ?_
  refine g_getr (K := 154) (C := RX9) (T := TX9) (N := 13) hx hb hts (mc_ inX9) hown hK g ma2_ ka2_ (by decide) rfl 5 (by decide) rfl (hts _ (List.mem_cons_of_mem _ t_490)) (fun _ h9 => h9) rfl dX9_standBelow_44 (fun a_6 ma_6 ka_6 g => ?_)
  refine lv_iconst (v := 0) hx hb dX9_standBelow_47 (by decide) ?_
  refine lv_aload_n hx hb dX9_standBelow_48 rfl (lv_at hl 0 rfl) ?_
  refine g_getr (K := 154) (C := RX9) (T := TX9) (N := 13) hx hb hts (mc_ inX9) hown hK g ma0_ ka0_ (by decide) rfl 5 (by decide) rfl (hts _ (List.mem_cons_of_mem _ t_490)) (fun _ h9 => h9) rfl dX9_standBelow_49 (fun a_7 ma_7 ka_7 g => ?_)
  refine lv_iconst (v := 0) hx hb dX9_standBelow_52 (by decide) ?_
  refine lv_bipush (v := 10) hx hb dX9_standBelow_53 (by decide) ?_
  refine g_copyi hx hb (hml.trans hl.1.symm) hown (hts _ (List.mem_cons_of_mem _ t_999)) (hts _ (List.mem_cons_of_mem _ t_999)) (hts _ (List.mem_cons_of_mem _ t_999)) (hts _ (List.mem_cons_of_mem _ t_206)) hK g ma_6 ka_6 ma_7 ka_7 (by decide) (by decide) rfl rfl (by decide) (by decide) (by decide) (by decide) (by decide) (Nat.le_of_ble_eq_true rfl) (Nat.le_of_ble_eq_true rfl) dX9_standBelow_55 (fun f H locs g => ?_)
  refine lv_aload_n hx hb dX9_standBelow_58 rfl (lv_at hl 2 rfl) ?_
  refine g_getr (K := 155) (C := RX9) (T := TX9) (N := 13) hx hb hts (mc_ inX9) hown hK g ma2_ ka2_ (by decide) rfl 6 (by decide) rfl (hts _ (List.mem_cons_of_mem _ t_492)) (fun _ h9 => h9) rfl dX9_standBelow_59 (fun a_8 ma_8 ka_8 g => ?_)
  refine lv_iconst (v := 0) hx hb dX9_standBelow_62 (by decide) ?_
  refine lv_aload_n hx hb dX9_standBelow_63 rfl (lv_at hl 0 rfl) ?_
  refine g_getr (K := 155) (C := RX9) (T := TX9) (N := 13) hx hb hts (mc_ inX9) hown hK g ma0_ ka0_ (by decide) rfl 6 (by decide) rfl (hts _ (List.mem_cons_of_mem _ t_492)) (fun _ h9 => h9) rfl dX9_standBelow_64 (fun a_9 ma_9 ka_9 g => ?_)
  refine lv_iconst (v := 0) hx hb dX9_standBelow_67 (by decide) ?_
  refine lv_bipush (v := 10) hx hb dX9_standBelow_68 (by decide) ?_
  refine g_copyi hx hb (hml.trans hl.1.symm) hown (hts _ (List.mem_cons_of_mem _ t_999)) (hts _ (List.mem_cons_of_mem _ t_999)) (hts _ (List.mem_cons_of_mem _ t_999)) (hts _ (List.mem_cons_of_mem _ t_206)) hK g ma_8 ka_8 ma_9 ka_9 (by decide) (by decide) rfl rfl (by decide) (by decide) (by decide) (by decide) (by decide) (Nat.le_of_ble_eq_true rfl) (Nat.le_of_ble_eq_true rfl) dX9_standBelow_70 (fun f H locs g => ?_)
  refine lv_aload_n hx hb dX9_standBelow_73 rfl (lv_at hl 0 rfl) ?_
  refine lv_aload_n hx hb dX9_standBelow_74 rfl (lv_at hl 2 rfl) ?_
  refine g_geti (C := RX9) (T := TX9) (N := 13) hx hb hts (mc_ inX9) hown hK g ma2_ ka2_ (by decide) rfl 7 (by decide) rfl (hts _ (List.mem_cons_of_mem _ t_493)) (fun _ h9 => h9) rfl dX9_standBelow_75 (fun x_10 bx_10 g => ?_)
  refine g_put (C := RX9) (T := TX9) (N := 13) hx hb hts (mc_ inX9) tyX9 tyX9_ok nmX9 hown hK g ma0_ ka0_ (by decide) rfl 7 (by decide) (hts _ (List.mem_cons_of_mem _ t_493)) (fun _ h9 => h9) rfl rfl (okV_i bx_10) rfl rfl (by decide) (Or.inr (Or.inl (by decide))) (fx' := [(9, 6, a0_, .ref a_9), (9, 6, a2_, .ref a_8), (9, 5, a0_, .ref a_7), (9, 5, a2_, .ref a_6), (9, 4, a0_, .ref a_5), (9, 4, a2_, .ref a_4), (9, 3, a0_, .ref a_3), (9, 3, a2_, .ref a_2), (9, 2, a0_, .int x_1), (9, 1, a0_, .int x1_)]) rfl dX9_standBelow_78 (fun f H locs g => ?_)
  refine lv_aload_n hx hb dX9_standBelow_81 rfl (lv_at hl 0 rfl) ?_
  refine lv_aload_n hx hb dX9_standBelow_82 rfl (lv_at hl 2 rfl) ?_
  refine g_geti (C := RX9) (T := TX9) (N := 13) hx hb hts (mc_ inX9) hown hK g ma2_ ka2_ (by decide) rfl 8 (by decide) rfl (hts _ (List.mem_cons_of_mem _ t_497)) (fun _ h9 => h9) rfl dX9_standBelow_83 (fun x_11 bx_11 g => ?_)
  refine g_put (C := RX9) (T := TX9) (N := 13) hx hb hts (mc_ inX9) tyX9 tyX9_ok nmX9 hown hK g ma0_ ka0_ (by decide) rfl 8 (by decide) (hts _ (List.mem_cons_of_mem _ t_497)) (fun _ h9 => h9) rfl rfl (okV_i bx_11) rfl rfl (by decide) (Or.inr (Or.inl (by decide))) (fx' := [(9, 7, a0_, .int x_10), (9, 6, a0_, .ref a_9), (9, 6, a2_, .ref a_8), (9, 5, a0_, .ref a_7), (9, 5, a2_, .ref a_6), (9, 4, a0_, .ref a_5), (9, 4, a2_, .ref a_4), (9, 3, a0_, .ref a_3), (9, 3, a2_, .ref a_2), (9, 2, a0_, .int x_1), (9, 1, a0_, .int x1_)]) rfl dX9_standBelow_86 (fun f H locs g => ?_)
  refine lv_aload_n hx hb dX9_standBelow_89 rfl (lv_at hl 2 rfl) ?_
  refine g_getr (K := 156) (C := RX9) (T := TX9) (N := 13) hx hb hts (mc_ inX9) hown hK g ma2_ ka2_ (by decide) rfl 9 (by decide) rfl (hts _ (List.mem_cons_of_mem _ t_503)) (fun _ h9 => h9) rfl dX9_standBelow_90 (fun a_12 ma_12 ka_12 g => ?_)
  refine lv_iconst (v := 0) hx hb dX9_standBelow_93 (by decide) ?_
  refine lv_aload_n hx hb dX9_standBelow_94 rfl (lv_at hl 0 rfl) ?_
  refine g_getr (K := 156) (C := RX9) (T := TX9) (N := 13) hx hb hts (mc_ inX9) hown hK g ma0_ ka0_ (by decide) rfl 9 (by decide) rfl (hts _ (List.mem_cons_of_mem _ t_503)) (fun _ h9 => h9) rfl dX9_standBelow_95 (fun a_13 ma_13 ka_13 g => ?_)
  refine lv_iconst (v := 0) hx hb dX9_standBelow_98 (by decide) ?_
  refine lv_bipush (v := 12) hx hb dX9_standBelow_99 (by decide) ?_
  refine g_copyi hx hb (hml.trans hl.1.symm) hown (hts _ (List.mem_cons_of_mem _ t_999)) (hts _ (List.mem_cons_of_mem _ t_999)) (hts _ (List.mem_cons_of_mem _ t_999)) (hts _ (List.mem_cons_of_mem _ t_206)) hK g ma_12 ka_12 ma_13 ka_13 (by decide) (by decide) rfl rfl (by decide) (by decide) (by decide) (by decide) (by decide) (Nat.le_of_ble_eq_true rfl) (Nat.le_of_ble_eq_true rfl) dX9_standBelow_101 (fun f H locs g => ?_)
  subst hQ
  exact W.vret hx hb hr (fun t ht hW => ⟨⟨_, rfl, trivial, q3_of g hK ht hW⟩, g.2.2.1.F ht⟩) g.2.2.1.2.2 dX9_standBelow_104
set_option maxHeartbeats 4000000 in
set_option maxRecDepth 100000 in
theorem r_X2_readClassAbove (l : Launch) (dC : Nat → ClassId) (dI : Nat → Nat → Nat) (L : List Nat) (kd : Nat → Nat) (tys : List (ClassId × FieldType)) (f0 : Nat → va_E) (sz : Nat) (hWT : WT L kd tys f0) (a0_ : Nat) (ma0_ : a0_ ∈ L) (ka0_ : kd a0_ = 2) (q0_ : Nat) (mq0_ : q0_ ∈ L) (kq0_ : kd q0_ = 8) (q1_ : Nat) (mq1_ : q1_ ∈ L) (kq1_ : kd q1_ = 7) (q2_ : Nat) (mq2_ : q2_ ∈ L) (kq2_ : kd q2_ = 9) (hfx : Fs L kd f0 [(2, 0, a0_, .ref q0_), (2, 3, a0_, .ref q1_), (2, 4, a0_, .ref q2_)]) : Met l yX2_readClassAbove (.code yX2_readClassAbove cX2_readClassAbove 3 none :: lw_g) ({ frames := 2, cells := 0, slots := 0, locals := 62 }) (va_Pc [.ref a0_] (P3 (dC, dI) L tys f0 sz)) (va_Qv (fun (f : Nat → va_E) => (∃ z0_ : Int32, bd 1 1201 z0_ ∧ Fs L kd f [(8, 6, q0_, .int z0_)])) (Q3 (dC, dI) L kd tys [(8, 6), (8, 8), (8, 9), (9, 1), (9, 2), (9, 7), (9, 8)] [152, 153, 154, 155, 156] f0 sz) (pA L sz)) 0 0 (pA L sz) := by
  refine Met.ofW (cc := cX2_readClassAbove) (maxL := 3) (ret := none) (by decide) rfl ?_
  intro p e s m args below meth c s₁ B hml hv
  obtain ⟨rfl, hsz, hP, hK, hD0⟩ := hv
  have hx := B.exec
  have hb := B.bytes
  have hr := B.returns
  have hts := atoms_spec (ws := (.code yX2_readClassAbove cX2_readClassAbove 3 none :: lw_g)) B.pre
  have hown : s.vm.findClass RX2 = some m.cls := findClass_of_methodNamed B.named
  have hlocks := B.notSynchronized
  subst hsz
  have g : G3 (dC, dI) L kd tys s f0 [(8, 6), (8, 8), (8, 9), (9, 1), (9, 2), (9, 7), (9, 8)] [152, 153, 154, 155, 156] f0 s.heap [] [(2, 0, a0_, .ref q0_), (2, 3, a0_, .ref q1_), (2, 4, a0_, .ref q2_)] := G3.start hP hD0 hWT hfx
  have hl := lv_entry ([.ref a0_]) (n := 3) (Nat.le_of_ble_eq_true rfl)
  rw [lg_entry_eq]
  generalize (lg_sl ([.ref a0_]) ++ List.replicate (3 - (lg_sl ([.ref a0_])).length) Slot.unset).toArray = ls at hl ⊢
  have hl : lv_has ls 3 [(0, .ref a0_)] := hl
  refine W_q (fun Q hQ => ?_)
  refine lv_aload_n hx hb dX2_readClassAbove_0 rfl (lv_at hl 0 rfl) ?_
  refine g_getk (C := RX2) (T := TX2) (N := 16) hx hb hts (mc_ inX2) hown hK g rfl 0 (by decide) rfl (hts _ (List.mem_cons_of_mem _ t_416)) (fun _ h9 => h9) 0 rfl dX2_readClassAbove_1 ?_
  refine g_callv (va_runV (As := []) (rest := []) ⟨hx, hb, hml, hown, hts⟩ (r_X8_next l dC dI L kd tys f0 s.heap.size g.2.2.2.1 q0_ mq0_ kq0_) (cwV 0 hts (gV_ t_1131 t_1103 t_1104 t_184 t_1105) rfl rfl rfl (by decide +kernel) ⟨(Nat.le_of_ble_eq_true rfl), (Nat.le_of_ble_eq_true rfl)⟩) (pre3V g hK mq0_ kq0_ (by decide) (q := (RX8, TX8, 10)) rfl) rfl rfl hl.1 rfl (lv_room (Nat.le_of_ble_eq_true rfl)) dX2_readClassAbove_4 ⟨(Nat.le_of_ble_eq_true rfl), (Nat.le_of_ble_eq_true rfl)⟩) g hK (by decide) (by decide) (fx' := [(2, 0, a0_, .ref q0_), (2, 3, a0_, .ref q1_), (2, 4, a0_, .ref q2_)]) rfl (fun fr_1 H locs hp hMr_1 g => ?_)
  obtain ⟨x_2, h_3, hF_4⟩ := hp
  have g := g.more hF_4
  refine lv_aload_n hx hb dX2_readClassAbove_7 rfl (lv_at hl 0 rfl) ?_
  refine g_getk (C := RX2) (T := TX2) (N := 16) hx hb hts (mc_ inX2) hown hK g rfl 0 (by decide) rfl (hts _ (List.mem_cons_of_mem _ t_416)) (fun _ h9 => h9) 1 rfl dX2_readClassAbove_8 ?_
  refine g_calli (va_runV (As := []) (rest := []) ⟨hx, hb, hml, hown, hts⟩ (r_X8_place l dC dI L kd tys fr_1 H.size g.2.2.2.1 q0_ mq0_ kq0_) (cwV 0 hts (gV_ t_1110 t_1111 t_1112 t_184 t_1113) rfl rfl rfl (by decide +kernel) ⟨(Nat.le_of_ble_eq_true rfl), (Nat.le_of_ble_eq_true rfl)⟩) (pre3V g hK mq0_ kq0_ (by decide) (q := (RX8, TX8, 10)) rfl) rfl rfl hl.1 rfl (lv_room (Nat.le_of_ble_eq_true rfl)) dX2_readClassAbove_11 ⟨(Nat.le_of_ble_eq_true rfl), (Nat.le_of_ble_eq_true rfl)⟩) g hK (by decide) (by decide) (fx' := [(8, 6, q0_, .int x_2), (2, 0, a0_, .ref q0_), (2, 3, a0_, .ref q1_), (2, 4, a0_, .ref q2_)]) rfl (fun r_5 fr_5 H locs hp hMr_5 g => ?_)
  refine lv_istore_n (lv' := [(1, .int r_5), (0, .ref a0_)]) hx hb dX2_readClassAbove_14 rfl hl (by decide) rfl (fun ls hl => ?_)
  refine lv_aload_n hx hb dX2_readClassAbove_15 rfl (lv_at hl 1 rfl) ?_
  refine g_getk (C := RX2) (T := TX2) (N := 16) hx hb hts (mc_ inX2) hown hK g rfl 3 (by decide) rfl (hts _ (List.mem_cons_of_mem _ t_419)) (fun _ h9 => h9) 2 rfl dX2_readClassAbove_16 ?_
  refine lv_aload_n hx hb dX2_readClassAbove_19 rfl (lv_at hl 1 rfl) ?_
  refine g_getk (C := RX2) (T := TX2) (N := 16) hx hb hts (mc_ inX2) hown hK g rfl 0 (by decide) rfl (hts _ (List.mem_cons_of_mem _ t_416)) (fun _ h9 => h9) 1 rfl dX2_readClassAbove_20 ?_
  refine g_calll (va_runV (As := []) (rest := [.ref q1_]) ⟨hx, hb, hml, hown, hts⟩ (r_X8_value l dC dI L kd tys fr_5 H.size g.2.2.2.1 q0_ mq0_ kq0_) (cwV 0 hts (gV_ t_1114 t_1115 t_1116 t_184 t_1117) rfl rfl rfl (by decide +kernel) ⟨(Nat.le_of_ble_eq_true rfl), (Nat.le_of_ble_eq_true rfl)⟩) (pre3V g hK mq0_ kq0_ (by decide) (q := (RX8, TX8, 10)) rfl) rfl rfl hl.1 rfl (lv_room (Nat.le_of_ble_eq_true rfl)) dX2_readClassAbove_23 ⟨(Nat.le_of_ble_eq_true rfl), (Nat.le_of_ble_eq_true rfl)⟩) g hK (by decide) (by decide) (fx' := [(8, 6, q0_, .int x_2), (2, 0, a0_, .ref q0_), (2, 3, a0_, .ref q1_), (2, 4, a0_, .ref q2_)]) rfl (fun r_6 fr_6 H locs hp hMr_6 g => ?_)
  refine g_calli (va_runV (As := [.long r_6]) (rest := []) ⟨hx, hb, hml, hown, hts⟩ (r_X7_classNamed l dC dI L kd tys fr_6 H.size g.2.2.2.1 q1_ mq1_ kq1_ r_6) (cwV 1 hts (gV_ t_1123 t_1124 t_1125 t_191 t_1126) rfl rfl rfl (by decide +kernel) ⟨(Nat.le_of_ble_eq_true rfl), (Nat.le_of_ble_eq_true rfl)⟩) (pre3V g hK mq1_ kq1_ (by decide) (q := (RX7, TX7, 19)) rfl) rfl rfl hl.1 rfl (lv_room (Nat.le_of_ble_eq_true rfl)) dX2_readClassAbove_26 ⟨(Nat.le_of_ble_eq_true rfl), (Nat.le_of_ble_eq_true rfl)⟩) g hK (by decide) (by decide) (fx' := [(8, 6, q0_, .int x_2), (2, 0, a0_, .ref q0_), (2, 3, a0_, .ref q1_), (2, 4, a0_, .ref q2_)]) rfl (fun r_7 fr_7 H locs hp hMr_7 g => ?_)
  obtain ⟨h_8, -⟩ := hp
  refine lv_istore_n (lv' := [(2, .int r_7), (1, .int r_5), (0, .ref a0_)]) hx hb dX2_readClassAbove_29 rfl hl (by decide) rfl (fun ls hl => ?_)
  refine lv_aload_n hx hb dX2_readClassAbove_30 rfl (lv_at hl 2 rfl) ?_
  refine g_getk (C := RX2) (T := TX2) (N := 16) hx hb hts (mc_ inX2) hown hK g rfl 0 (by decide) rfl (hts _ (List.mem_cons_of_mem _ t_416)) (fun _ h9 => h9) 1 rfl dX2_readClassAbove_31 ?_
  refine g_calli (va_runV (As := []) (rest := []) ⟨hx, hb, hml, hown, hts⟩ (r_X8_kind l dC dI L kd tys fr_7 H.size g.2.2.2.1 q0_ mq0_ kq0_) (cwV 0 hts (gV_ t_1118 t_1119 t_1120 t_184 t_1121) rfl rfl rfl (by decide +kernel) ⟨(Nat.le_of_ble_eq_true rfl), (Nat.le_of_ble_eq_true rfl)⟩) (pre3V g hK mq0_ kq0_ (by decide) (q := (RX8, TX8, 10)) rfl) rfl rfl hl.1 rfl (lv_room (Nat.le_of_ble_eq_true rfl)) dX2_readClassAbove_34 ⟨(Nat.le_of_ble_eq_true rfl), (Nat.le_of_ble_eq_true rfl)⟩) g hK (by decide) (by decide) (fx' := [(8, 6, q0_, .int x_2), (2, 0, a0_, .ref q0_), (2, 3, a0_, .ref q1_), (2, 4, a0_, .ref q2_)]) rfl (fun r_9 fr_9 H locs hp hMr_9 g => ?_)
  refine lv_iconst (v := 3) hx hb dX2_readClassAbove_37 (by decide) ?_
  have kb_3 : bd 3 3 (3 : Int32) := ⟨by decide, by decide⟩
  refine lv_icmp_eq (tgt := 53) hx hb dX2_readClassAbove_38 (by decide) (fun c_10 => ?_) (fun c_10 => ?_)
  · have fc_10 := eq_f c_10
    have b_11 : bd 3 3 r_9 := eqX fc_10 (bdT r_9) kb_3 (by decide)
    refine lv_iload_n hx hb dX2_readClassAbove_53 rfl (lv_at hl 0 rfl) ?_
    refine lv_iconst (v := (-1)) hx hb dX2_readClassAbove_54 (by decide) ?_
    have kb_m1 : bd (-1) (-1) ((-1) : Int32) := ⟨by decide, by decide⟩
    refine lv_icmp_ne (tgt := 70) hx hb dX2_readClassAbove_55 (by decide) (fun c_12 => ?_) (fun c_12 => ?_)
    · have fc_12 := neq_f c_12
      have b_13 : bd 0 7 r_7 := neX fc_12 h_8 kb_m1 (by decide)
      refine lv_aload_n hx hb dX2_readClassAbove_70 rfl (lv_at hl 2 rfl) ?_
      refine g_getk (C := RX2) (T := TX2) (N := 16) hx hb hts (mc_ inX2) hown hK g rfl 4 (by decide) rfl (hts _ (List.mem_cons_of_mem _ t_420)) (fun _ h9 => h9) 3 rfl dX2_readClassAbove_71 ?_
      refine lv_iload_n hx hb dX2_readClassAbove_74 rfl (lv_at hl 0 rfl) ?_
      refine lv_aload_n hx hb dX2_readClassAbove_75 rfl (lv_at hl 2 rfl) ?_
      refine g_getk (C := RX2) (T := TX2) (N := 16) hx hb hts (mc_ inX2) hown hK g rfl 3 (by decide) rfl (hts _ (List.mem_cons_of_mem _ t_419)) (fun _ h9 => h9) 2 rfl dX2_readClassAbove_76 ?_
      refine g_getr (K := 136) (C := RX7) (T := TX7) (N := 19) hx hb hts (mc_ inX7) hown hK g mq1_ kq1_ (by decide) rfl 0 (by decide) rfl (hts _ (List.mem_cons_of_mem _ t_621)) (fun _ h9 => h9) rfl dX2_readClassAbove_79 (fun a_14 ma_14 ka_14 g => ?_)
      refine lv_iload_n hx hb dX2_readClassAbove_82 rfl (lv_at hl 0 rfl) ?_
      refine g_aald hx hb hK g ma_14 ka_14 (by decide) rfl (by decide) (in_bd b_13 (by decide)) dX2_readClassAbove_83 (fun a_15 ma_15 ua_15 wa_15 => ?_)
      have ka_15 : kd a_15 = 9 := by omega
      refine g_callv (va_runV (As := [.int r_7, .ref a_15]) (rest := []) ⟨hx, hb, hml, hown, hts⟩ (r_X9_standBelow l dC dI L kd tys fr_9 H.size g.2.2.2.1 q2_ mq2_ kq2_ r_7 a_15 ma_15 ka_15) (cwV 2 hts (gV_ t_1136 t_1137 t_1138 t_192 t_1139) rfl rfl rfl (by decide +kernel) ⟨(Nat.le_of_ble_eq_true rfl), (Nat.le_of_ble_eq_true rfl)⟩) (pre3V g hK mq2_ kq2_ (by decide) (q := (RX9, TX9, 13)) rfl) rfl rfl hl.1 rfl (lv_room (Nat.le_of_ble_eq_true rfl)) dX2_readClassAbove_84 ⟨(Nat.le_of_ble_eq_true rfl), (Nat.le_of_ble_eq_true rfl)⟩) g hK (by decide) (by decide) (fx' := [(7, 0, q1_, .ref a_14), (8, 6, q0_, .int x_2), (2, 0, a0_, .ref q0_), (2, 3, a0_, .ref q1_), (2, 4, a0_, .ref q2_)]) rfl (fun fr_16 H locs hp hMr_16 g => ?_)
      refine lv_aload_n hx hb dX2_readClassAbove_87 rfl (lv_at hl 2 rfl) ?_
      refine g_getk (C := RX2) (T := TX2) (N := 16) hx hb hts (mc_ inX2) hown hK g rfl 0 (by decide) rfl (hts _ (List.mem_cons_of_mem _ t_416)) (fun _ h9 => h9) 2 rfl dX2_readClassAbove_88 ?_
      refine g_callv (va_runV (As := []) (rest := []) ⟨hx, hb, hml, hown, hts⟩ (r_X8_next l dC dI L kd tys fr_16 H.size g.2.2.2.1 q0_ mq0_ kq0_) (cwV 0 hts (gV_ t_1131 t_1103 t_1104 t_184 t_1105) rfl rfl rfl (by decide +kernel) ⟨(Nat.le_of_ble_eq_true rfl), (Nat.le_of_ble_eq_true rfl)⟩) (pre3V g hK mq0_ kq0_ (by decide) (q := (RX8, TX8, 10)) rfl) rfl rfl hl.1 rfl (lv_room (Nat.le_of_ble_eq_true rfl)) dX2_readClassAbove_91 ⟨(Nat.le_of_ble_eq_true rfl), (Nat.le_of_ble_eq_true rfl)⟩) g hK (by decide) (by decide) (fx' := [(7, 0, q1_, .ref a_14), (2, 0, a0_, .ref q0_), (2, 3, a0_, .ref q1_), (2, 4, a0_, .ref q2_)]) rfl (fun fr_17 H locs hp hMr_17 g => ?_)
      obtain ⟨x_18, h_19, hF_20⟩ := hp
      have g := g.more hF_20
      subst hQ
      exact W.vret hx hb hr (fun t ht hW => ⟨⟨_, rfl, ⟨x_18, h_19, (g.fcts [0] rfl)⟩, q3_of g hK ht hW⟩, g.2.2.1.F ht⟩) g.2.2.1.2.2 dX2_readClassAbove_94
    · have fc_12 := eq_f c_12
      have b_21 : bd (-1) (-1) r_7 := eqX fc_12 h_8 kb_m1 (by decide)
      refine lv_aload_n hx hb dX2_readClassAbove_58 rfl (lv_at hl 2 rfl) ?_
      refine g_getk (C := RX2) (T := TX2) (N := 16) hx hb hts (mc_ inX2) hown hK g rfl 0 (by decide) rfl (hts _ (List.mem_cons_of_mem _ t_416)) (fun _ h9 => h9) 1 rfl dX2_readClassAbove_59 ?_
      refine lv_iconst (v := 2) hx hb dX2_readClassAbove_62 (by decide) ?_
      refine lv_iload_n hx hb dX2_readClassAbove_63 rfl (lv_at hl 1 rfl) ?_
      have kb_2 : bd 2 2 (2 : Int32) := ⟨by decide, by decide⟩
      refine g_callv (va_runV (As := [.int 2, .int r_5]) (rest := []) ⟨hx, hb, hml, hown, hts⟩ (r_X8_fail_3 l dC dI L kd tys fr_9 H.size g.2.2.2.1 q0_ mq0_ kq0_ 2 kb_2 r_5 x_2 h_3 (g.fcts [0] rfl)) (cwV 2 hts (gV_ t_1122 t_1107 t_1108 t_184 t_1109) rfl rfl rfl (by decide +kernel) ⟨(Nat.le_of_ble_eq_true rfl), (Nat.le_of_ble_eq_true rfl)⟩) (pre3V g hK mq0_ kq0_ (by decide) (q := (RX8, TX8, 10)) rfl) rfl rfl hl.1 rfl (lv_room (Nat.le_of_ble_eq_true rfl)) dX2_readClassAbove_64 ⟨(Nat.le_of_ble_eq_true rfl), (Nat.le_of_ble_eq_true rfl)⟩) g hK (by decide) (by decide) (fx' := [(2, 0, a0_, .ref q0_), (2, 3, a0_, .ref q1_), (2, 4, a0_, .ref q2_)]) rfl (fun fr_22 H locs hp hMr_22 g => ?_)
      obtain ⟨x_23, h_24, hF_25⟩ := hp
      have g := g.more hF_25
      refine lv_goto (tgt := 87) hx hb dX2_readClassAbove_67 (by decide) ?_
      refine lv_aload_n hx hb dX2_readClassAbove_87 rfl (lv_at hl 2 rfl) ?_
      refine g_getk (C := RX2) (T := TX2) (N := 16) hx hb hts (mc_ inX2) hown hK g rfl 0 (by decide) rfl (hts _ (List.mem_cons_of_mem _ t_416)) (fun _ h9 => h9) 2 rfl dX2_readClassAbove_88 ?_
      refine g_callv (va_runV (As := []) (rest := []) ⟨hx, hb, hml, hown, hts⟩ (r_X8_next l dC dI L kd tys fr_22 H.size g.2.2.2.1 q0_ mq0_ kq0_) (cwV 0 hts (gV_ t_1131 t_1103 t_1104 t_184 t_1105) rfl rfl rfl (by decide +kernel) ⟨(Nat.le_of_ble_eq_true rfl), (Nat.le_of_ble_eq_true rfl)⟩) (pre3V g hK mq0_ kq0_ (by decide) (q := (RX8, TX8, 10)) rfl) rfl rfl hl.1 rfl (lv_room (Nat.le_of_ble_eq_true rfl)) dX2_readClassAbove_91 ⟨(Nat.le_of_ble_eq_true rfl), (Nat.le_of_ble_eq_true rfl)⟩) g hK (by decide) (by decide) (fx' := [(8, 8, q0_, .int x_23), (2, 0, a0_, .ref q0_), (2, 3, a0_, .ref q1_), (2, 4, a0_, .ref q2_)]) rfl (fun fr_26 H locs hp hMr_26 g => ?_)
      obtain ⟨x_27, h_28, hF_29⟩ := hp
      have g := g.more hF_29
      subst hQ
      exact W.vret hx hb hr (fun t ht hW => ⟨⟨_, rfl, ⟨x_27, h_28, (g.fcts [0] rfl)⟩, q3_of g hK ht hW⟩, g.2.2.1.F ht⟩) g.2.2.1.2.2 dX2_readClassAbove_94
  · have fc_10 := neq_f c_10
    refine lv_aload_n hx hb dX2_readClassAbove_41 rfl (lv_at hl 2 rfl) ?_
    refine g_getk (C := RX2) (T := TX2) (N := 16) hx hb hts (mc_ inX2) hown hK g rfl 0 (by decide) rfl (hts _ (List.mem_cons_of_mem _ t_416)) (fun _ h9 => h9) 1 rfl dX2_readClassAbove_42 ?_
    refine lv_iconst (v := 1) hx hb dX2_readClassAbove_45 (by decide) ?_
    refine lv_iload_n hx hb dX2_readClassAbove_46 rfl (lv_at hl 1 rfl) ?_
    have kb_1 : bd 1 1 (1 : Int32) := ⟨by decide, by decide⟩
    refine g_callv (va_runV (As := [.int 1, .int r_5]) (rest := []) ⟨hx, hb, hml, hown, hts⟩ (r_X8_fail_7 l dC dI L kd tys fr_9 H.size g.2.2.2.1 q0_ mq0_ kq0_ 1 kb_1 r_5 x_2 h_3 (g.fcts [0] rfl)) (cwV 2 hts (gV_ t_1122 t_1107 t_1108 t_184 t_1109) rfl rfl rfl (by decide +kernel) ⟨(Nat.le_of_ble_eq_true rfl), (Nat.le_of_ble_eq_true rfl)⟩) (pre3V g hK mq0_ kq0_ (by decide) (q := (RX8, TX8, 10)) rfl) rfl rfl hl.1 rfl (lv_room (Nat.le_of_ble_eq_true rfl)) dX2_readClassAbove_47 ⟨(Nat.le_of_ble_eq_true rfl), (Nat.le_of_ble_eq_true rfl)⟩) g hK (by decide) (by decide) (fx' := [(2, 0, a0_, .ref q0_), (2, 3, a0_, .ref q1_), (2, 4, a0_, .ref q2_)]) rfl (fun fr_30 H locs hp hMr_30 g => ?_)
    obtain ⟨x_31, h_32, hF_33⟩ := hp
    have g := g.more hF_33
    refine lv_goto (tgt := 87) hx hb dX2_readClassAbove_50 (by decide) ?_
    refine lv_aload_n hx hb dX2_readClassAbove_87 rfl (lv_at hl 2 rfl) ?_
    refine g_getk (C := RX2) (T := TX2) (N := 16) hx hb hts (mc_ inX2) hown hK g rfl 0 (by decide) rfl (hts _ (List.mem_cons_of_mem _ t_416)) (fun _ h9 => h9) 2 rfl dX2_readClassAbove_88 ?_
    refine g_callv (va_runV (As := []) (rest := []) ⟨hx, hb, hml, hown, hts⟩ (r_X8_next l dC dI L kd tys fr_30 H.size g.2.2.2.1 q0_ mq0_ kq0_) (cwV 0 hts (gV_ t_1131 t_1103 t_1104 t_184 t_1105) rfl rfl rfl (by decide +kernel) ⟨(Nat.le_of_ble_eq_true rfl), (Nat.le_of_ble_eq_true rfl)⟩) (pre3V g hK mq0_ kq0_ (by decide) (q := (RX8, TX8, 10)) rfl) rfl rfl hl.1 rfl (lv_room (Nat.le_of_ble_eq_true rfl)) dX2_readClassAbove_91 ⟨(Nat.le_of_ble_eq_true rfl), (Nat.le_of_ble_eq_true rfl)⟩) g hK (by decide) (by decide) (fx' := [(8, 8, q0_, .int x_31), (2, 0, a0_, .ref q0_), (2, 3, a0_, .ref q1_), (2, 4, a0_, .ref q2_)]) rfl (fun fr_34 H locs hp hMr_34 g => ?_)
    obtain ⟨x_35, h_36, hF_37⟩ := hp
    have g := g.more hF_37
    subst hQ
    exact W.vret hx hb hr (fun t ht hW => ⟨⟨_, rfl, ⟨x_35, h_36, (g.fcts [0] rfl)⟩, q3_of g hK ht hW⟩, g.2.2.1.F ht⟩) g.2.2.1.2.2 dX2_readClassAbove_94
set_option maxHeartbeats 4000000 in
set_option maxRecDepth 100000 in
theorem r_X8_fail_11 (l : Launch) (dC : Nat → ClassId) (dI : Nat → Nat → Nat) (L : List Nat) (kd : Nat → Nat) (tys : List (ClassId × FieldType)) (f0 : Nat → va_E) (sz : Nat) (hWT : WT L kd tys f0) (a0_ : Nat) (ma0_ : a0_ ∈ L) (ka0_ : kd a0_ = 8) (x1_ : Int32) (bx1_ : bd 3 3 x1_) (x2_ : Int32) (y0_ : Int32) (by0_ : bd 1 1201 y0_) (hfx : Fs L kd f0 [(8, 6, a0_, .int y0_)]) : Met l yX8_fail (.code yX8_fail cX8_fail 4 none :: lw_g) ({ frames := 0, cells := 0, slots := 0, locals := 0 }) (va_Pc [.ref a0_, .int x1_, .int x2_] (P3 (dC, dI) L tys f0 sz)) (va_Qv (fun (f : Nat → va_E) => (∃ z1_ : Int32, bd 1 7 z1_ ∧ Fs L kd f [(8, 6, a0_, .int 1201), (8, 8, a0_, .int z1_)])) (Q3 (dC, dI) L kd tys [(8, 6), (8, 8), (8, 9)] [] f0 sz) (pA L sz)) 0 0 (pA L sz) := by
  refine Met.ofW (cc := cX8_fail) (maxL := 4) (ret := none) (by decide) rfl ?_
  intro p e s m args below meth c s₁ B hml hv
  obtain ⟨rfl, hsz, hP, hK, hD0⟩ := hv
  have hx := B.exec
  have hb := B.bytes
  have hr := B.returns
  have hts := atoms_spec (ws := (.code yX8_fail cX8_fail 4 none :: lw_g)) B.pre
  have hown : s.vm.findClass RX8 = some m.cls := findClass_of_methodNamed B.named
  have hlocks := B.notSynchronized
  subst hsz
  have g : G3 (dC, dI) L kd tys s f0 [(8, 6), (8, 8), (8, 9)] [] f0 s.heap [] [(8, 6, a0_, .int y0_)] := G3.start hP hD0 hWT hfx
  have hl := lv_entry ([.ref a0_, .int x1_, .int x2_]) (n := 4) (Nat.le_of_ble_eq_true rfl)
  rw [lg_entry_eq]
  generalize (lg_sl ([.ref a0_, .int x1_, .int x2_]) ++ List.replicate (4 - (lg_sl ([.ref a0_, .int x1_, .int x2_])).length) Slot.unset).toArray = ls at hl ⊢
  have hl : lv_has ls 4 [(0, .ref a0_), (1, .int x1_), (2, .int x2_)] := hl
  refine W_q (fun Q hQ => ?_)
  refine lv_aload_n hx hb dX8_fail_0 rfl (lv_at hl 0 rfl) ?_
  refine g_getk (C := RX8) (T := TX8) (N := 10) hx hb hts (mc_ inX8) hown hK g rfl 6 (by decide) rfl (hts _ (List.mem_cons_of_mem _ t_291)) (fun _ h9 => h9) 0 rfl dX8_fail_1 ?_
  refine lv_sipush (v := 1200) hx hb dX8_fail_4 (by decide) ?_
  have kb_1200 : bd 1200 1200 (1200 : Int32) := ⟨by decide, by decide⟩
  refine lv_icmp_le (tgt := 31) hx hb dX8_fail_7 (by decide) (fun c_1 => ?_) (fun c_1 => ?_)
  · have fc_1 := le_f c_1
    have b_2 : bd 1 1200 y0_ := leL fc_1 by0_ kb_1200 (by decide)
    refine lv_iconst (v := 0) hx hb dX8_fail_31 (by decide) ?_
    refine lv_istore_n (lv' := [(3, .int 0), (0, .ref a0_), (1, .int x1_), (2, .int x2_)]) hx hb dX8_fail_32 rfl hl (by decide) rfl (fun ls hl => ?_)
    refine lv_aload_n hx hb dX8_fail_33 rfl (lv_at hl 1 rfl) ?_
    refine g_geti (C := RX8) (T := TX8) (N := 10) hx hb hts (mc_ inX8) hown hK g ma0_ ka0_ (by decide) rfl 8 (by decide) rfl (hts _ (List.mem_cons_of_mem _ t_295)) (fun _ h9 => h9) rfl dX8_fail_34 (fun x_3 bx_3 g => ?_)
    have kb_0 : bd 0 0 (0 : Int32) := ⟨by decide, by decide⟩
    refine lv_if_ne (tgt := 73) hx hb dX8_fail_37 (by decide) (fun c_4 => ?_) (fun c_4 => ?_)
    · have fc_4 := neq_f c_4
      have b_5 : bd 1 7 x_3 := neX fc_4 bx_3 kb_0 (by decide)
      refine lv_aload_n hx hb dX8_fail_73 rfl (lv_at hl 1 rfl) ?_
      refine lv_sipush (v := 1201) hx hb dX8_fail_74 (by decide) ?_
      have kb_1201 : bd 1201 1201 (1201 : Int32) := ⟨by decide, by decide⟩
      refine g_put (C := RX8) (T := TX8) (N := 10) hx hb hts (mc_ inX8) tyX8 tyX8_ok nmX8 hown hK g ma0_ ka0_ (by decide) rfl 6 (by decide) (hts _ (List.mem_cons_of_mem _ t_291)) (fun _ h9 => h9) rfl rfl (okV_i (bd_sub kb_1201 (by decide))) rfl rfl (by decide) (Or.inr (Or.inl (by decide))) (fx' := [(8, 8, a0_, .int x_3)]) rfl dX8_fail_77 (fun f H locs g => ?_)
      subst hQ
      exact W.vret hx hb hr (fun t ht hW => ⟨⟨_, rfl, ⟨x_3, b_5, (g.fcts [0, 1] rfl)⟩, q3_of g hK ht hW⟩, g.2.2.1.F ht⟩) g.2.2.1.2.2 dX8_fail_80
    · have fc_4 := eq_f c_4
      have b_6 : bd 0 0 x_3 := eqX fc_4 bx_3 kb_0 (by decide)
      refine lv_aload_n hx hb dX8_fail_40 rfl (lv_at hl 1 rfl) ?_
      refine lv_iload_n hx hb dX8_fail_41 rfl (lv_at hl 0 rfl) ?_
      refine lv_if_eq (tgt := 49) hx hb dX8_fail_42 (by decide) (fun c_ => ?_) (fun c_ => absurd (by decide) c_)
      refine lv_iload_n hx hb dX8_fail_49 rfl (lv_at hl 2 rfl) ?_
      refine g_put (C := RX8) (T := TX8) (N := 10) hx hb hts (mc_ inX8) tyX8 tyX8_ok nmX8 hown hK g ma0_ ka0_ (by decide) rfl 8 (by decide) (hts _ (List.mem_cons_of_mem _ t_295)) (fun _ h9 => h9) rfl rfl (okV_i (bd_sub bx1_ (by decide))) rfl rfl (by decide) (Or.inr (Or.inr (st_of bx1_ (by decide)))) (fx' := [(8, 6, a0_, .int y0_)]) rfl dX8_fail_50 (fun f H locs g => ?_)
      refine lv_aload_n hx hb dX8_fail_53 rfl (lv_at hl 1 rfl) ?_
      refine lv_iload_n hx hb dX8_fail_54 rfl (lv_at hl 0 rfl) ?_
      refine lv_if_eq (tgt := 69) hx hb dX8_fail_55 (by decide) (fun c_ => ?_) (fun c_ => absurd (by decide) c_)
      refine lv_iload_n hx hb dX8_fail_69 rfl (lv_at hl 3 rfl) ?_
      refine g_put (C := RX8) (T := TX8) (N := 10) hx hb hts (mc_ inX8) tyX8 tyX8_ok nmX8 hown hK g ma0_ ka0_ (by decide) rfl 9 (by decide) (hts _ (List.mem_cons_of_mem _ t_296)) (fun _ h9 => h9) rfl rfl (okV_i (bdT x2_)) rfl rfl (by decide) (Or.inr (Or.inl (by decide))) (fx' := [(8, 8, a0_, .int x1_), (8, 6, a0_, .int y0_)]) rfl dX8_fail_70 (fun f H locs g => ?_)
      refine lv_aload_n hx hb dX8_fail_73 rfl (lv_at hl 1 rfl) ?_
      refine lv_sipush (v := 1201) hx hb dX8_fail_74 (by decide) ?_
      have kb_1201 : bd 1201 1201 (1201 : Int32) := ⟨by decide, by decide⟩
      refine g_put (C := RX8) (T := TX8) (N := 10) hx hb hts (mc_ inX8) tyX8 tyX8_ok nmX8 hown hK g ma0_ ka0_ (by decide) rfl 6 (by decide) (hts _ (List.mem_cons_of_mem _ t_291)) (fun _ h9 => h9) rfl rfl (okV_i (bd_sub kb_1201 (by decide))) rfl rfl (by decide) (Or.inr (Or.inl (by decide))) (fx' := [(8, 9, a0_, .int x2_), (8, 8, a0_, .int x1_)]) rfl dX8_fail_77 (fun f H locs g => ?_)
      subst hQ
      exact W.vret hx hb hr (fun t ht hW => ⟨⟨_, rfl, ⟨x1_, (bd_sub bx1_ (by decide)), (g.fcts [0, 2] rfl)⟩, q3_of g hK ht hW⟩, g.2.2.1.F ht⟩) g.2.2.1.2.2 dX8_fail_80
  · have fc_1 := nle_f c_1
    have b_7 : bd 1201 1201 y0_ := ltR fc_1 kb_1200 by0_ (by decide)
    refine lv_iload_n hx hb dX8_fail_10 rfl (lv_at hl 1 rfl) ?_
    refine lv_iconst (v := 4) hx hb dX8_fail_11 (by decide) ?_
    have kb_4 : bd 4 4 (4 : Int32) := ⟨by decide, by decide⟩
    refine lv_icmp_gt (tgt := 27) hx hb dX8_fail_12 (by decide) (fun c_8 => ?_) (fun c_8 => ?_)
    · have fc_8 := lt_f c_8
      have b_9 : bd 4 2 (4 : Int32) := ltL fc_8 kb_4 bx1_ (by decide)
      exact bd_no (eqX rfl b_9 kb_4 (lo := 4) (hi := 2) (by decide)) (by decide)
    · have fc_8 := nlt_f c_8
      refine lv_iload_n hx hb dX8_fail_15 rfl (lv_at hl 2 rfl) ?_
      refine lv_aload_n hx hb dX8_fail_16 rfl (lv_at hl 0 rfl) ?_
      refine g_getr (K := 149) (C := RX8) (T := TX8) (N := 10) hx hb hts (mc_ inX8) hown hK g ma0_ ka0_ (by decide) rfl 1 (by decide) rfl (hts _ (List.mem_cons_of_mem _ t_286)) (fun _ h9 => h9) rfl dX8_fail_17 (fun a_10 ma_10 ka_10 g => ?_)
      refine lv_sipush (v := 1200) hx hb dX8_fail_20 (by decide) ?_
      refine g_iald hx hb hK g ma_10 ka_10 (by decide) rfl (by unfold vp_in; decide) dX8_fail_23 (fun x_11 bx_11 => ?_)
      refine lv_icmp_eq (tgt := 31) hx hb dX8_fail_24 (by decide) (fun c_12 => ?_) (fun c_12 => ?_)
      · have fc_12 := eq_f c_12
        refine lv_iconst (v := 0) hx hb dX8_fail_31 (by decide) ?_
        refine lv_istore_n (lv' := [(3, .int 0), (0, .ref a0_), (1, .int x1_), (2, .int x2_)]) hx hb dX8_fail_32 rfl hl (by decide) rfl (fun ls hl => ?_)
        refine lv_aload_n hx hb dX8_fail_33 rfl (lv_at hl 1 rfl) ?_
        refine g_geti (C := RX8) (T := TX8) (N := 10) hx hb hts (mc_ inX8) hown hK g ma0_ ka0_ (by decide) rfl 8 (by decide) rfl (hts _ (List.mem_cons_of_mem _ t_295)) (fun _ h9 => h9) rfl dX8_fail_34 (fun x_13 bx_13 g => ?_)
        have kb_0 : bd 0 0 (0 : Int32) := ⟨by decide, by decide⟩
        refine lv_if_ne (tgt := 73) hx hb dX8_fail_37 (by decide) (fun c_14 => ?_) (fun c_14 => ?_)
        · have fc_14 := neq_f c_14
          have b_15 : bd 1 7 x_13 := neX fc_14 bx_13 kb_0 (by decide)
          refine lv_aload_n hx hb dX8_fail_73 rfl (lv_at hl 1 rfl) ?_
          refine lv_sipush (v := 1201) hx hb dX8_fail_74 (by decide) ?_
          have kb_1201 : bd 1201 1201 (1201 : Int32) := ⟨by decide, by decide⟩
          refine g_put (C := RX8) (T := TX8) (N := 10) hx hb hts (mc_ inX8) tyX8 tyX8_ok nmX8 hown hK g ma0_ ka0_ (by decide) rfl 6 (by decide) (hts _ (List.mem_cons_of_mem _ t_291)) (fun _ h9 => h9) rfl rfl (okV_i (bd_sub kb_1201 (by decide))) rfl rfl (by decide) (Or.inr (Or.inl (by decide))) (fx' := [(8, 8, a0_, .int x_13), (8, 1, a0_, .ref a_10)]) rfl dX8_fail_77 (fun f H locs g => ?_)
          subst hQ
          exact W.vret hx hb hr (fun t ht hW => ⟨⟨_, rfl, ⟨x_13, b_15, (g.fcts [0, 1] rfl)⟩, q3_of g hK ht hW⟩, g.2.2.1.F ht⟩) g.2.2.1.2.2 dX8_fail_80
        · have fc_14 := eq_f c_14
          have b_16 : bd 0 0 x_13 := eqX fc_14 bx_13 kb_0 (by decide)
          refine lv_aload_n hx hb dX8_fail_40 rfl (lv_at hl 1 rfl) ?_
          refine lv_iload_n hx hb dX8_fail_41 rfl (lv_at hl 0 rfl) ?_
          refine lv_if_eq (tgt := 49) hx hb dX8_fail_42 (by decide) (fun c_ => ?_) (fun c_ => absurd (by decide) c_)
          refine lv_iload_n hx hb dX8_fail_49 rfl (lv_at hl 2 rfl) ?_
          refine g_put (C := RX8) (T := TX8) (N := 10) hx hb hts (mc_ inX8) tyX8 tyX8_ok nmX8 hown hK g ma0_ ka0_ (by decide) rfl 8 (by decide) (hts _ (List.mem_cons_of_mem _ t_295)) (fun _ h9 => h9) rfl rfl (okV_i (bd_sub bx1_ (by decide))) rfl rfl (by decide) (Or.inr (Or.inr (st_of bx1_ (by decide)))) (fx' := [(8, 1, a0_, .ref a_10), (8, 6, a0_, .int y0_)]) rfl dX8_fail_50 (fun f H locs g => ?_)
          refine lv_aload_n hx hb dX8_fail_53 rfl (lv_at hl 1 rfl) ?_
          refine lv_iload_n hx hb dX8_fail_54 rfl (lv_at hl 0 rfl) ?_
          refine lv_if_eq (tgt := 69) hx hb dX8_fail_55 (by decide) (fun c_ => ?_) (fun c_ => absurd (by decide) c_)
          refine lv_iload_n hx hb dX8_fail_69 rfl (lv_at hl 3 rfl) ?_
          refine g_put (C := RX8) (T := TX8) (N := 10) hx hb hts (mc_ inX8) tyX8 tyX8_ok nmX8 hown hK g ma0_ ka0_ (by decide) rfl 9 (by decide) (hts _ (List.mem_cons_of_mem _ t_296)) (fun _ h9 => h9) rfl rfl (okV_i (bdT x2_)) rfl rfl (by decide) (Or.inr (Or.inl (by decide))) (fx' := [(8, 8, a0_, .int x1_), (8, 1, a0_, .ref a_10), (8, 6, a0_, .int y0_)]) rfl dX8_fail_70 (fun f H locs g => ?_)
          refine lv_aload_n hx hb dX8_fail_73 rfl (lv_at hl 1 rfl) ?_
          refine lv_sipush (v := 1201) hx hb dX8_fail_74 (by decide) ?_
          have kb_1201 : bd 1201 1201 (1201 : Int32) := ⟨by decide, by decide⟩
          refine g_put (C := RX8) (T := TX8) (N := 10) hx hb hts (mc_ inX8) tyX8 tyX8_ok nmX8 hown hK g ma0_ ka0_ (by decide) rfl 6 (by decide) (hts _ (List.mem_cons_of_mem _ t_291)) (fun _ h9 => h9) rfl rfl (okV_i (bd_sub kb_1201 (by decide))) rfl rfl (by decide) (Or.inr (Or.inl (by decide))) (fx' := [(8, 9, a0_, .int x2_), (8, 8, a0_, .int x1_), (8, 1, a0_, .ref a_10)]) rfl dX8_fail_77 (fun f H locs g => ?_)
          subst hQ
          exact W.vret hx hb hr (fun t ht hW => ⟨⟨_, rfl, ⟨x1_, (bd_sub bx1_ (by decide)), (g.fcts [0, 2] rfl)⟩, q3_of g hK ht hW⟩, g.2.2.1.F ht⟩) g.2.2.1.2.2 dX8_fail_80
      · have fc_12 := neq_f c_12
        refine lv_iconst (v := 1) hx hb dX8_fail_27 (by decide) ?_
        refine lv_goto (tgt := 32) hx hb dX8_fail_28 (by decide) ?_
        refine lv_istore_n (lv' := [(3, .int 1), (0, .ref a0_), (1, .int x1_), (2, .int x2_)]) hx hb dX8_fail_32 rfl hl (by decide) rfl (fun ls hl => ?_)
        refine lv_aload_n hx hb dX8_fail_33 rfl (lv_at hl 1 rfl) ?_
        refine g_geti (C := RX8) (T := TX8) (N := 10) hx hb hts (mc_ inX8) hown hK g ma0_ ka0_ (by decide) rfl 8 (by decide) rfl (hts _ (List.mem_cons_of_mem _ t_295)) (fun _ h9 => h9) rfl dX8_fail_34 (fun x_17 bx_17 g => ?_)
        have kb_0 : bd 0 0 (0 : Int32) := ⟨by decide, by decide⟩
        refine lv_if_ne (tgt := 73) hx hb dX8_fail_37 (by decide) (fun c_18 => ?_) (fun c_18 => ?_)
        · have fc_18 := neq_f c_18
          have b_19 : bd 1 7 x_17 := neX fc_18 bx_17 kb_0 (by decide)
          refine lv_aload_n hx hb dX8_fail_73 rfl (lv_at hl 1 rfl) ?_
          refine lv_sipush (v := 1201) hx hb dX8_fail_74 (by decide) ?_
          have kb_1201 : bd 1201 1201 (1201 : Int32) := ⟨by decide, by decide⟩
          refine g_put (C := RX8) (T := TX8) (N := 10) hx hb hts (mc_ inX8) tyX8 tyX8_ok nmX8 hown hK g ma0_ ka0_ (by decide) rfl 6 (by decide) (hts _ (List.mem_cons_of_mem _ t_291)) (fun _ h9 => h9) rfl rfl (okV_i (bd_sub kb_1201 (by decide))) rfl rfl (by decide) (Or.inr (Or.inl (by decide))) (fx' := [(8, 8, a0_, .int x_17), (8, 1, a0_, .ref a_10)]) rfl dX8_fail_77 (fun f H locs g => ?_)
          subst hQ
          exact W.vret hx hb hr (fun t ht hW => ⟨⟨_, rfl, ⟨x_17, b_19, (g.fcts [0, 1] rfl)⟩, q3_of g hK ht hW⟩, g.2.2.1.F ht⟩) g.2.2.1.2.2 dX8_fail_80
        · have fc_18 := eq_f c_18
          have b_20 : bd 0 0 x_17 := eqX fc_18 bx_17 kb_0 (by decide)
          refine lv_aload_n hx hb dX8_fail_40 rfl (lv_at hl 1 rfl) ?_
          refine lv_iload_n hx hb dX8_fail_41 rfl (lv_at hl 0 rfl) ?_
          refine lv_if_eq (tgt := 49) hx hb dX8_fail_42 (by decide) (fun c_ => absurd c_ (by decide)) (fun c_ => ?_)
          refine lv_iconst (v := 4) hx hb dX8_fail_45 (by decide) ?_
          refine lv_goto (tgt := 50) hx hb dX8_fail_46 (by decide) ?_
          refine g_put (C := RX8) (T := TX8) (N := 10) hx hb hts (mc_ inX8) tyX8 tyX8_ok nmX8 hown hK g ma0_ ka0_ (by decide) rfl 8 (by decide) (hts _ (List.mem_cons_of_mem _ t_295)) (fun _ h9 => h9) rfl rfl (okV_i (bd_sub kb_4 (by decide))) rfl rfl (by decide) (Or.inr (Or.inr (st_of kb_4 (by decide)))) (fx' := [(8, 1, a0_, .ref a_10), (8, 6, a0_, .int y0_)]) rfl dX8_fail_50 (fun f H locs g => ?_)
          refine lv_aload_n hx hb dX8_fail_53 rfl (lv_at hl 1 rfl) ?_
          refine lv_iload_n hx hb dX8_fail_54 rfl (lv_at hl 0 rfl) ?_
          refine lv_if_eq (tgt := 69) hx hb dX8_fail_55 (by decide) (fun c_ => absurd c_ (by decide)) (fun c_ => ?_)
          refine lv_aload_n hx hb dX8_fail_58 rfl (lv_at hl 1 rfl) ?_
          refine g_getk (C := RX8) (T := TX8) (N := 10) hx hb hts (mc_ inX8) hown hK g rfl 1 (by decide) rfl (hts _ (List.mem_cons_of_mem _ t_286)) (fun _ h9 => h9) 1 rfl dX8_fail_59 ?_
          refine lv_sipush (v := 1200) hx hb dX8_fail_62 (by decide) ?_
          refine g_iald hx hb hK g ma_10 ka_10 (by decide) rfl (by unfold vp_in; decide) dX8_fail_65 (fun x_21 bx_21 => ?_)
          refine lv_goto (tgt := 70) hx hb dX8_fail_66 (by decide) ?_
          refine g_put (C := RX8) (T := TX8) (N := 10) hx hb hts (mc_ inX8) tyX8 tyX8_ok nmX8 hown hK g ma0_ ka0_ (by decide) rfl 9 (by decide) (hts _ (List.mem_cons_of_mem _ t_296)) (fun _ h9 => h9) rfl rfl (okV_i (bdT x_21)) rfl rfl (by decide) (Or.inr (Or.inl (by decide))) (fx' := [(8, 8, a0_, .int 4), (8, 1, a0_, .ref a_10), (8, 6, a0_, .int y0_)]) rfl dX8_fail_70 (fun f H locs g => ?_)
          refine lv_aload_n hx hb dX8_fail_73 rfl (lv_at hl 1 rfl) ?_
          refine lv_sipush (v := 1201) hx hb dX8_fail_74 (by decide) ?_
          have kb_1201 : bd 1201 1201 (1201 : Int32) := ⟨by decide, by decide⟩
          refine g_put (C := RX8) (T := TX8) (N := 10) hx hb hts (mc_ inX8) tyX8 tyX8_ok nmX8 hown hK g ma0_ ka0_ (by decide) rfl 6 (by decide) (hts _ (List.mem_cons_of_mem _ t_291)) (fun _ h9 => h9) rfl rfl (okV_i (bd_sub kb_1201 (by decide))) rfl rfl (by decide) (Or.inr (Or.inl (by decide))) (fx' := [(8, 9, a0_, .int x_21), (8, 8, a0_, .int 4), (8, 1, a0_, .ref a_10)]) rfl dX8_fail_77 (fun f H locs g => ?_)
          subst hQ
          exact W.vret hx hb hr (fun t ht hW => ⟨⟨_, rfl, ⟨4, (bd_sub kb_4 (by decide)), (g.fcts [0, 2] rfl)⟩, q3_of g hK ht hW⟩, g.2.2.1.F ht⟩) g.2.2.1.2.2 dX8_fail_80
set_option maxHeartbeats 4000000 in
set_option maxRecDepth 100000 in
theorem r_X8_fail_12 (l : Launch) (dC : Nat → ClassId) (dI : Nat → Nat → Nat) (L : List Nat) (kd : Nat → Nat) (tys : List (ClassId × FieldType)) (f0 : Nat → va_E) (sz : Nat) (hWT : WT L kd tys f0) (a0_ : Nat) (ma0_ : a0_ ∈ L) (ka0_ : kd a0_ = 8) (x1_ : Int32) (bx1_ : bd 4 4 x1_) (x2_ : Int32) (y0_ : Int32) (by0_ : bd 1 1201 y0_) (hfx : Fs L kd f0 [(8, 6, a0_, .int y0_)]) : Met l yX8_fail (.code yX8_fail cX8_fail 4 none :: lw_g) ({ frames := 0, cells := 0, slots := 0, locals := 0 }) (va_Pc [.ref a0_, .int x1_, .int x2_] (P3 (dC, dI) L tys f0 sz)) (va_Qv (fun (f : Nat → va_E) => (∃ z1_ : Int32, bd 1 7 z1_ ∧ Fs L kd f [(8, 6, a0_, .int 1201), (8, 8, a0_, .int z1_)])) (Q3 (dC, dI) L kd tys [(8, 6), (8, 8), (8, 9)] [] f0 sz) (pA L sz)) 0 0 (pA L sz) := by
  refine Met.ofW (cc := cX8_fail) (maxL := 4) (ret := none) (by decide) rfl ?_
  intro p e s m args below meth c s₁ B hml hv
  obtain ⟨rfl, hsz, hP, hK, hD0⟩ := hv
  have hx := B.exec
  have hb := B.bytes
  have hr := B.returns
  have hts := atoms_spec (ws := (.code yX8_fail cX8_fail 4 none :: lw_g)) B.pre
  have hown : s.vm.findClass RX8 = some m.cls := findClass_of_methodNamed B.named
  have hlocks := B.notSynchronized
  subst hsz
  have g : G3 (dC, dI) L kd tys s f0 [(8, 6), (8, 8), (8, 9)] [] f0 s.heap [] [(8, 6, a0_, .int y0_)] := G3.start hP hD0 hWT hfx
  have hl := lv_entry ([.ref a0_, .int x1_, .int x2_]) (n := 4) (Nat.le_of_ble_eq_true rfl)
  rw [lg_entry_eq]
  generalize (lg_sl ([.ref a0_, .int x1_, .int x2_]) ++ List.replicate (4 - (lg_sl ([.ref a0_, .int x1_, .int x2_])).length) Slot.unset).toArray = ls at hl ⊢
  have hl : lv_has ls 4 [(0, .ref a0_), (1, .int x1_), (2, .int x2_)] := hl
  refine W_q (fun Q hQ => ?_)
  refine lv_aload_n hx hb dX8_fail_0 rfl (lv_at hl 0 rfl) ?_
  refine g_getk (C := RX8) (T := TX8) (N := 10) hx hb hts (mc_ inX8) hown hK g rfl 6 (by decide) rfl (hts _ (List.mem_cons_of_mem _ t_291)) (fun _ h9 => h9) 0 rfl dX8_fail_1 ?_
  refine lv_sipush (v := 1200) hx hb dX8_fail_4 (by decide) ?_
  have kb_1200 : bd 1200 1200 (1200 : Int32) := ⟨by decide, by decide⟩
  refine lv_icmp_le (tgt := 31) hx hb dX8_fail_7 (by decide) (fun c_1 => ?_) (fun c_1 => ?_)
  · have fc_1 := le_f c_1
    have b_2 : bd 1 1200 y0_ := leL fc_1 by0_ kb_1200 (by decide)
    refine lv_iconst (v := 0) hx hb dX8_fail_31 (by decide) ?_
    refine lv_istore_n (lv' := [(3, .int 0), (0, .ref a0_), (1, .int x1_), (2, .int x2_)]) hx hb dX8_fail_32 rfl hl (by decide) rfl (fun ls hl => ?_)
    refine lv_aload_n hx hb dX8_fail_33 rfl (lv_at hl 1 rfl) ?_
    refine g_geti (C := RX8) (T := TX8) (N := 10) hx hb hts (mc_ inX8) hown hK g ma0_ ka0_ (by decide) rfl 8 (by decide) rfl (hts _ (List.mem_cons_of_mem _ t_295)) (fun _ h9 => h9) rfl dX8_fail_34 (fun x_3 bx_3 g => ?_)
    have kb_0 : bd 0 0 (0 : Int32) := ⟨by decide, by decide⟩
    refine lv_if_ne (tgt := 73) hx hb dX8_fail_37 (by decide) (fun c_4 => ?_) (fun c_4 => ?_)
    · have fc_4 := neq_f c_4
      have b_5 : bd 1 7 x_3 := neX fc_4 bx_3 kb_0 (by decide)
      refine lv_aload_n hx hb dX8_fail_73 rfl (lv_at hl 1 rfl) ?_
      refine lv_sipush (v := 1201) hx hb dX8_fail_74 (by decide) ?_
      have kb_1201 : bd 1201 1201 (1201 : Int32) := ⟨by decide, by decide⟩
      refine g_put (C := RX8) (T := TX8) (N := 10) hx hb hts (mc_ inX8) tyX8 tyX8_ok nmX8 hown hK g ma0_ ka0_ (by decide) rfl 6 (by decide) (hts _ (List.mem_cons_of_mem _ t_291)) (fun _ h9 => h9) rfl rfl (okV_i (bd_sub kb_1201 (by decide))) rfl rfl (by decide) (Or.inr (Or.inl (by decide))) (fx' := [(8, 8, a0_, .int x_3)]) rfl dX8_fail_77 (fun f H locs g => ?_)
      subst hQ
      exact W.vret hx hb hr (fun t ht hW => ⟨⟨_, rfl, ⟨x_3, b_5, (g.fcts [0, 1] rfl)⟩, q3_of g hK ht hW⟩, g.2.2.1.F ht⟩) g.2.2.1.2.2 dX8_fail_80
    · have fc_4 := eq_f c_4
      have b_6 : bd 0 0 x_3 := eqX fc_4 bx_3 kb_0 (by decide)
      refine lv_aload_n hx hb dX8_fail_40 rfl (lv_at hl 1 rfl) ?_
      refine lv_iload_n hx hb dX8_fail_41 rfl (lv_at hl 0 rfl) ?_
      refine lv_if_eq (tgt := 49) hx hb dX8_fail_42 (by decide) (fun c_ => ?_) (fun c_ => absurd (by decide) c_)
      refine lv_iload_n hx hb dX8_fail_49 rfl (lv_at hl 2 rfl) ?_
      refine g_put (C := RX8) (T := TX8) (N := 10) hx hb hts (mc_ inX8) tyX8 tyX8_ok nmX8 hown hK g ma0_ ka0_ (by decide) rfl 8 (by decide) (hts _ (List.mem_cons_of_mem _ t_295)) (fun _ h9 => h9) rfl rfl (okV_i (bd_sub bx1_ (by decide))) rfl rfl (by decide) (Or.inr (Or.inr (st_of bx1_ (by decide)))) (fx' := [(8, 6, a0_, .int y0_)]) rfl dX8_fail_50 (fun f H locs g => ?_)
      refine lv_aload_n hx hb dX8_fail_53 rfl (lv_at hl 1 rfl) ?_
      refine lv_iload_n hx hb dX8_fail_54 rfl (lv_at hl 0 rfl) ?_
      refine lv_if_eq (tgt := 69) hx hb dX8_fail_55 (by decide) (fun c_ => ?_) (fun c_ => absurd (by decide) c_)
      refine lv_iload_n hx hb dX8_fail_69 rfl (lv_at hl 3 rfl) ?_
      refine g_put (C := RX8) (T := TX8) (N := 10) hx hb hts (mc_ inX8) tyX8 tyX8_ok nmX8 hown hK g ma0_ ka0_ (by decide) rfl 9 (by decide) (hts _ (List.mem_cons_of_mem _ t_296)) (fun _ h9 => h9) rfl rfl (okV_i (bdT x2_)) rfl rfl (by decide) (Or.inr (Or.inl (by decide))) (fx' := [(8, 8, a0_, .int x1_), (8, 6, a0_, .int y0_)]) rfl dX8_fail_70 (fun f H locs g => ?_)
      refine lv_aload_n hx hb dX8_fail_73 rfl (lv_at hl 1 rfl) ?_
      refine lv_sipush (v := 1201) hx hb dX8_fail_74 (by decide) ?_
      have kb_1201 : bd 1201 1201 (1201 : Int32) := ⟨by decide, by decide⟩
      refine g_put (C := RX8) (T := TX8) (N := 10) hx hb hts (mc_ inX8) tyX8 tyX8_ok nmX8 hown hK g ma0_ ka0_ (by decide) rfl 6 (by decide) (hts _ (List.mem_cons_of_mem _ t_291)) (fun _ h9 => h9) rfl rfl (okV_i (bd_sub kb_1201 (by decide))) rfl rfl (by decide) (Or.inr (Or.inl (by decide))) (fx' := [(8, 9, a0_, .int x2_), (8, 8, a0_, .int x1_)]) rfl dX8_fail_77 (fun f H locs g => ?_)
      subst hQ
      exact W.vret hx hb hr (fun t ht hW => ⟨⟨_, rfl, ⟨x1_, (bd_sub bx1_ (by decide)), (g.fcts [0, 2] rfl)⟩, q3_of g hK ht hW⟩, g.2.2.1.F ht⟩) g.2.2.1.2.2 dX8_fail_80
  · have fc_1 := nle_f c_1
    have b_7 : bd 1201 1201 y0_ := ltR fc_1 kb_1200 by0_ (by decide)
    refine lv_iload_n hx hb dX8_fail_10 rfl (lv_at hl 1 rfl) ?_
    refine lv_iconst (v := 4) hx hb dX8_fail_11 (by decide) ?_
    have kb_4 : bd 4 4 (4 : Int32) := ⟨by decide, by decide⟩
    refine lv_icmp_gt (tgt := 27) hx hb dX8_fail_12 (by decide) (fun c_8 => ?_) (fun c_8 => ?_)
    · have fc_8 := lt_f c_8
      have b_9 : bd 4 3 (4 : Int32) := ltL fc_8 kb_4 bx1_ (by decide)
      exact bd_no (eqX rfl b_9 kb_4 (lo := 4) (hi := 3) (by decide)) (by decide)
    · have fc_8 := nlt_f c_8
      refine lv_iload_n hx hb dX8_fail_15 rfl (lv_at hl 2 rfl) ?_
      refine lv_aload_n hx hb dX8_fail_16 rfl (lv_at hl 0 rfl) ?_
      refine g_getr (K := 149) (C := RX8) (T := TX8) (N := 10) hx hb hts (mc_ inX8) hown hK g ma0_ ka0_ (by decide) rfl 1 (by decide) rfl (hts _ (List.mem_cons_of_mem _ t_286)) (fun _ h9 => h9) rfl dX8_fail_17 (fun a_10 ma_10 ka_10 g => ?_)
      refine lv_sipush (v := 1200) hx hb dX8_fail_20 (by decide) ?_
      refine g_iald hx hb hK g ma_10 ka_10 (by decide) rfl (by unfold vp_in; decide) dX8_fail_23 (fun x_11 bx_11 => ?_)
      refine lv_icmp_eq (tgt := 31) hx hb dX8_fail_24 (by decide) (fun c_12 => ?_) (fun c_12 => ?_)
      · have fc_12 := eq_f c_12
        refine lv_iconst (v := 0) hx hb dX8_fail_31 (by decide) ?_
        refine lv_istore_n (lv' := [(3, .int 0), (0, .ref a0_), (1, .int x1_), (2, .int x2_)]) hx hb dX8_fail_32 rfl hl (by decide) rfl (fun ls hl => ?_)
        refine lv_aload_n hx hb dX8_fail_33 rfl (lv_at hl 1 rfl) ?_
        refine g_geti (C := RX8) (T := TX8) (N := 10) hx hb hts (mc_ inX8) hown hK g ma0_ ka0_ (by decide) rfl 8 (by decide) rfl (hts _ (List.mem_cons_of_mem _ t_295)) (fun _ h9 => h9) rfl dX8_fail_34 (fun x_13 bx_13 g => ?_)
        have kb_0 : bd 0 0 (0 : Int32) := ⟨by decide, by decide⟩
        refine lv_if_ne (tgt := 73) hx hb dX8_fail_37 (by decide) (fun c_14 => ?_) (fun c_14 => ?_)
        · have fc_14 := neq_f c_14
          have b_15 : bd 1 7 x_13 := neX fc_14 bx_13 kb_0 (by decide)
          refine lv_aload_n hx hb dX8_fail_73 rfl (lv_at hl 1 rfl) ?_
          refine lv_sipush (v := 1201) hx hb dX8_fail_74 (by decide) ?_
          have kb_1201 : bd 1201 1201 (1201 : Int32) := ⟨by decide, by decide⟩
          refine g_put (C := RX8) (T := TX8) (N := 10) hx hb hts (mc_ inX8) tyX8 tyX8_ok nmX8 hown hK g ma0_ ka0_ (by decide) rfl 6 (by decide) (hts _ (List.mem_cons_of_mem _ t_291)) (fun _ h9 => h9) rfl rfl (okV_i (bd_sub kb_1201 (by decide))) rfl rfl (by decide) (Or.inr (Or.inl (by decide))) (fx' := [(8, 8, a0_, .int x_13), (8, 1, a0_, .ref a_10)]) rfl dX8_fail_77 (fun f H locs g => ?_)
          subst hQ
          exact W.vret hx hb hr (fun t ht hW => ⟨⟨_, rfl, ⟨x_13, b_15, (g.fcts [0, 1] rfl)⟩, q3_of g hK ht hW⟩, g.2.2.1.F ht⟩) g.2.2.1.2.2 dX8_fail_80
        · have fc_14 := eq_f c_14
          have b_16 : bd 0 0 x_13 := eqX fc_14 bx_13 kb_0 (by decide)
          refine lv_aload_n hx hb dX8_fail_40 rfl (lv_at hl 1 rfl) ?_
          refine lv_iload_n hx hb dX8_fail_41 rfl (lv_at hl 0 rfl) ?_
          refine lv_if_eq (tgt := 49) hx hb dX8_fail_42 (by decide) (fun c_ => ?_) (fun c_ => absurd (by decide) c_)
          refine lv_iload_n hx hb dX8_fail_49 rfl (lv_at hl 2 rfl) ?_
          refine g_put (C := RX8) (T := TX8) (N := 10) hx hb hts (mc_ inX8) tyX8 tyX8_ok nmX8 hown hK g ma0_ ka0_ (by decide) rfl 8 (by decide) (hts _ (List.mem_cons_of_mem _ t_295)) (fun _ h9 => h9) rfl rfl (okV_i (bd_sub bx1_ (by decide))) rfl rfl (by decide) (Or.inr (Or.inr (st_of bx1_ (by decide)))) (fx' := [(8, 1, a0_, .ref a_10), (8, 6, a0_, .int y0_)]) rfl dX8_fail_50 (fun f H locs g => ?_)
          refine lv_aload_n hx hb dX8_fail_53 rfl (lv_at hl 1 rfl) ?_
          refine lv_iload_n hx hb dX8_fail_54 rfl (lv_at hl 0 rfl) ?_
          refine lv_if_eq (tgt := 69) hx hb dX8_fail_55 (by decide) (fun c_ => ?_) (fun c_ => absurd (by decide) c_)
          refine lv_iload_n hx hb dX8_fail_69 rfl (lv_at hl 3 rfl) ?_
          refine g_put (C := RX8) (T := TX8) (N := 10) hx hb hts (mc_ inX8) tyX8 tyX8_ok nmX8 hown hK g ma0_ ka0_ (by decide) rfl 9 (by decide) (hts _ (List.mem_cons_of_mem _ t_296)) (fun _ h9 => h9) rfl rfl (okV_i (bdT x2_)) rfl rfl (by decide) (Or.inr (Or.inl (by decide))) (fx' := [(8, 8, a0_, .int x1_), (8, 1, a0_, .ref a_10), (8, 6, a0_, .int y0_)]) rfl dX8_fail_70 (fun f H locs g => ?_)
          refine lv_aload_n hx hb dX8_fail_73 rfl (lv_at hl 1 rfl) ?_
          refine lv_sipush (v := 1201) hx hb dX8_fail_74 (by decide) ?_
          have kb_1201 : bd 1201 1201 (1201 : Int32) := ⟨by decide, by decide⟩
          refine g_put (C := RX8) (T := TX8) (N := 10) hx hb hts (mc_ inX8) tyX8 tyX8_ok nmX8 hown hK g ma0_ ka0_ (by decide) rfl 6 (by decide) (hts _ (List.mem_cons_of_mem _ t_291)) (fun _ h9 => h9) rfl rfl (okV_i (bd_sub kb_1201 (by decide))) rfl rfl (by decide) (Or.inr (Or.inl (by decide))) (fx' := [(8, 9, a0_, .int x2_), (8, 8, a0_, .int x1_), (8, 1, a0_, .ref a_10)]) rfl dX8_fail_77 (fun f H locs g => ?_)
          subst hQ
          exact W.vret hx hb hr (fun t ht hW => ⟨⟨_, rfl, ⟨x1_, (bd_sub bx1_ (by decide)), (g.fcts [0, 2] rfl)⟩, q3_of g hK ht hW⟩, g.2.2.1.F ht⟩) g.2.2.1.2.2 dX8_fail_80
      · have fc_12 := neq_f c_12
        refine lv_iconst (v := 1) hx hb dX8_fail_27 (by decide) ?_
        refine lv_goto (tgt := 32) hx hb dX8_fail_28 (by decide) ?_
        refine lv_istore_n (lv' := [(3, .int 1), (0, .ref a0_), (1, .int x1_), (2, .int x2_)]) hx hb dX8_fail_32 rfl hl (by decide) rfl (fun ls hl => ?_)
        refine lv_aload_n hx hb dX8_fail_33 rfl (lv_at hl 1 rfl) ?_
        refine g_geti (C := RX8) (T := TX8) (N := 10) hx hb hts (mc_ inX8) hown hK g ma0_ ka0_ (by decide) rfl 8 (by decide) rfl (hts _ (List.mem_cons_of_mem _ t_295)) (fun _ h9 => h9) rfl dX8_fail_34 (fun x_17 bx_17 g => ?_)
        have kb_0 : bd 0 0 (0 : Int32) := ⟨by decide, by decide⟩
        refine lv_if_ne (tgt := 73) hx hb dX8_fail_37 (by decide) (fun c_18 => ?_) (fun c_18 => ?_)
        · have fc_18 := neq_f c_18
          have b_19 : bd 1 7 x_17 := neX fc_18 bx_17 kb_0 (by decide)
          refine lv_aload_n hx hb dX8_fail_73 rfl (lv_at hl 1 rfl) ?_
          refine lv_sipush (v := 1201) hx hb dX8_fail_74 (by decide) ?_
          have kb_1201 : bd 1201 1201 (1201 : Int32) := ⟨by decide, by decide⟩
          refine g_put (C := RX8) (T := TX8) (N := 10) hx hb hts (mc_ inX8) tyX8 tyX8_ok nmX8 hown hK g ma0_ ka0_ (by decide) rfl 6 (by decide) (hts _ (List.mem_cons_of_mem _ t_291)) (fun _ h9 => h9) rfl rfl (okV_i (bd_sub kb_1201 (by decide))) rfl rfl (by decide) (Or.inr (Or.inl (by decide))) (fx' := [(8, 8, a0_, .int x_17), (8, 1, a0_, .ref a_10)]) rfl dX8_fail_77 (fun f H locs g => ?_)
          subst hQ
          exact W.vret hx hb hr (fun t ht hW => ⟨⟨_, rfl, ⟨x_17, b_19, (g.fcts [0, 1] rfl)⟩, q3_of g hK ht hW⟩, g.2.2.1.F ht⟩) g.2.2.1.2.2 dX8_fail_80
        · have fc_18 := eq_f c_18
          have b_20 : bd 0 0 x_17 := eqX fc_18 bx_17 kb_0 (by decide)
          refine lv_aload_n hx hb dX8_fail_40 rfl (lv_at hl 1 rfl) ?_
          refine lv_iload_n hx hb dX8_fail_41 rfl (lv_at hl 0 rfl) ?_
          refine lv_if_eq (tgt := 49) hx hb dX8_fail_42 (by decide) (fun c_ => absurd c_ (by decide)) (fun c_ => ?_)
          refine lv_iconst (v := 4) hx hb dX8_fail_45 (by decide) ?_
          refine lv_goto (tgt := 50) hx hb dX8_fail_46 (by decide) ?_
          refine g_put (C := RX8) (T := TX8) (N := 10) hx hb hts (mc_ inX8) tyX8 tyX8_ok nmX8 hown hK g ma0_ ka0_ (by decide) rfl 8 (by decide) (hts _ (List.mem_cons_of_mem _ t_295)) (fun _ h9 => h9) rfl rfl (okV_i (bd_sub kb_4 (by decide))) rfl rfl (by decide) (Or.inr (Or.inr (st_of kb_4 (by decide)))) (fx' := [(8, 1, a0_, .ref a_10), (8, 6, a0_, .int y0_)]) rfl dX8_fail_50 (fun f H locs g => ?_)
          refine lv_aload_n hx hb dX8_fail_53 rfl (lv_at hl 1 rfl) ?_
          refine lv_iload_n hx hb dX8_fail_54 rfl (lv_at hl 0 rfl) ?_
          refine lv_if_eq (tgt := 69) hx hb dX8_fail_55 (by decide) (fun c_ => absurd c_ (by decide)) (fun c_ => ?_)
          refine lv_aload_n hx hb dX8_fail_58 rfl (lv_at hl 1 rfl) ?_
          refine g_getk (C := RX8) (T := TX8) (N := 10) hx hb hts (mc_ inX8) hown hK g rfl 1 (by decide) rfl (hts _ (List.mem_cons_of_mem _ t_286)) (fun _ h9 => h9) 1 rfl dX8_fail_59 ?_
          refine lv_sipush (v := 1200) hx hb dX8_fail_62 (by decide) ?_
          refine g_iald hx hb hK g ma_10 ka_10 (by decide) rfl (by unfold vp_in; decide) dX8_fail_65 (fun x_21 bx_21 => ?_)
          refine lv_goto (tgt := 70) hx hb dX8_fail_66 (by decide) ?_
          refine g_put (C := RX8) (T := TX8) (N := 10) hx hb hts (mc_ inX8) tyX8 tyX8_ok nmX8 hown hK g ma0_ ka0_ (by decide) rfl 9 (by decide) (hts _ (List.mem_cons_of_mem _ t_296)) (fun _ h9 => h9) rfl rfl (okV_i (bdT x_21)) rfl rfl (by decide) (Or.inr (Or.inl (by decide))) (fx' := [(8, 8, a0_, .int 4), (8, 1, a0_, .ref a_10), (8, 6, a0_, .int y0_)]) rfl dX8_fail_70 (fun f H locs g => ?_)
          refine lv_aload_n hx hb dX8_fail_73 rfl (lv_at hl 1 rfl) ?_
          refine lv_sipush (v := 1201) hx hb dX8_fail_74 (by decide) ?_
          have kb_1201 : bd 1201 1201 (1201 : Int32) := ⟨by decide, by decide⟩
          refine g_put (C := RX8) (T := TX8) (N := 10) hx hb hts (mc_ inX8) tyX8 tyX8_ok nmX8 hown hK g ma0_ ka0_ (by decide) rfl 6 (by decide) (hts _ (List.mem_cons_of_mem _ t_291)) (fun _ h9 => h9) rfl rfl (okV_i (bd_sub kb_1201 (by decide))) rfl rfl (by decide) (Or.inr (Or.inl (by decide))) (fx' := [(8, 9, a0_, .int x_21), (8, 8, a0_, .int 4), (8, 1, a0_, .ref a_10)]) rfl dX8_fail_77 (fun f H locs g => ?_)
          subst hQ
          exact W.vret hx hb hr (fun t ht hW => ⟨⟨_, rfl, ⟨4, (bd_sub kb_4 (by decide)), (g.fcts [0, 2] rfl)⟩, q3_of g hK ht hW⟩, g.2.2.1.F ht⟩) g.2.2.1.2.2 dX8_fail_80
