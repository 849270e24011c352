set_option maxHeartbeats 4000000 in
set_option maxRecDepth 100000 in
theorem r_X1_reckon (l : Launch) (dC : Nat → ClassId) (dI : Nat → Nat → Nat) (L : List Nat) (kd : Nat → Nat) (tys : List (ClassId × FieldType)) (f0 : Nat → va_E) (sz : Nat) (hWT : WT L kd tys f0) (a0_ : Nat) (ma0_ : a0_ ∈ L) (ka0_ : kd a0_ = 1) (x1_ : Int32) (x2_ : Int32) (x3_ : Int32) : Met l yX1_reckon (.code yX1_reckon cX1_reckon 4 (some .int) :: lw_g) ({ frames := 0, cells := 0, slots := 0, locals := 0 }) (va_Pc [.ref a0_, .int x1_, .int x2_, .int x3_] (P3 (dC, dI) L tys f0 sz)) (va_Qi (fun (r : Int32) (f : Nat → va_E) => (True)) (Q3 (dC, dI) L kd tys [(1, 15), (1, 17)] [] f0 sz) (pA L sz)) 0 0 (pA L sz) := by
  refine Met.ofW (cc := cX1_reckon) (maxL := 4) (ret := (some .int)) (by decide) rfl ?_
  intro p e s m args below meth c s₁ B hml hv
  obtain ⟨rfl, hsz, hP, hK, hD0⟩ := hv
  have hx := B.exec
  have hb := B.bytes
  have hr := B.returns
  have hts := atoms_spec (ws := (.code yX1_reckon cX1_reckon 4 (some .int) :: lw_g)) B.pre
  have hown : s.vm.findClass RX1 = some m.cls := findClass_of_methodNamed B.named
  have hlocks := B.notSynchronized
  subst hsz
  have g : G3 (dC, dI) L kd tys s f0 [(1, 15), (1, 17)] [] f0 s.heap [] [] := G3.start hP hD0 hWT Fs.nil
  have hl := lv_entry ([.ref a0_, .int x1_, .int x2_, .int x3_]) (n := 4) (Nat.le_of_ble_eq_true rfl)
  rw [lg_entry_eq]
  generalize (lg_sl ([.ref a0_, .int x1_, .int x2_, .int x3_]) ++ List.replicate (4 - (lg_sl ([.ref a0_, .int x1_, .int x2_, .int x3_])).length) Slot.unset).toArray = ls at hl ⊢
  have hl : lv_has ls 4 [(0, .ref a0_), (1, .int x1_), (2, .int x2_), (3, .int x3_)] := hl
  refine W_q (fun Q hQ => ?_)
  refine lv_iload_n hx hb dX1_reckon_0 rfl (lv_at hl 1 rfl) ?_
  by_cases e_1 : x1_ = 42
  · refine lv_topi (fun z_2 ez_2 => ?_)
    obtain rfl : z_2 = 42 := ez_2.trans e_1
    have kb_42 : bd 42 42 (42 : Int32) := ⟨by decide, by decide⟩
    have b_3 : bd 42 42 x1_ := eqX (eq_f e_1) (bdT x1_) kb_42 (by decide)
    refine lv_lookup (off := 91) (tgt := 92) hx hb dX1_reckon_1 (by decide) (by decide) (by decide) ?_
    refine lv_iload_n hx hb dX1_reckon_92 rfl (lv_at hl 2 rfl) ?_
    refine lv_iload_n hx hb dX1_reckon_93 rfl (lv_at hl 3 rfl) ?_
    refine lv_imul hx hb dX1_reckon_94 ?_
    refine lv_topi (fun y_4 ey_4 => ?_)
    subst hQ
    exact W.iret (v := y_4) hx hb hr (fun t ht hW => ⟨⟨_, _, rfl, trivial, q3_of g hK ht hW⟩, g.2.2.1.F ht⟩) g.2.2.1.2.2 dX1_reckon_95
  by_cases e_5 : x1_ = 43
  · refine lv_topi (fun z_6 ez_6 => ?_)
    obtain rfl : z_6 = 43 := ez_6.trans e_5
    have kb_43 : bd 43 43 (43 : Int32) := ⟨by decide, by decide⟩
    have b_7 : bd 43 43 x1_ := eqX (eq_f e_5) (bdT x1_) kb_43 (by decide)
    refine lv_lookup (off := 83) (tgt := 84) hx hb dX1_reckon_1 (by decide) (by decide) (by decide) ?_
    refine lv_iload_n hx hb dX1_reckon_84 rfl (lv_at hl 2 rfl) ?_
    refine lv_iload_n hx hb dX1_reckon_85 rfl (lv_at hl 3 rfl) ?_
    refine lv_iadd hx hb dX1_reckon_86 ?_
    refine lv_topi (fun y_8 ey_8 => ?_)
    subst hQ
    exact W.iret (v := y_8) hx hb hr (fun t ht hW => ⟨⟨_, _, rfl, trivial, q3_of g hK ht hW⟩, g.2.2.1.F ht⟩) g.2.2.1.2.2 dX1_reckon_87
  by_cases e_9 : x1_ = 45
  · refine lv_topi (fun z_10 ez_10 => ?_)
    obtain rfl : z_10 = 45 := ez_10.trans e_9
    have kb_45 : bd 45 45 (45 : Int32) := ⟨by decide, by decide⟩
    have b_11 : bd 45 45 x1_ := eqX (eq_f e_9) (bdT x1_) kb_45 (by decide)
    refine lv_lookup (off := 87) (tgt := 88) hx hb dX1_reckon_1 (by decide) (by decide) (by decide) ?_
    refine lv_iload_n hx hb dX1_reckon_88 rfl (lv_at hl 2 rfl) ?_
    refine lv_iload_n hx hb dX1_reckon_89 rfl (lv_at hl 3 rfl) ?_
    refine lv_isub hx hb dX1_reckon_90 ?_
    refine lv_topi (fun y_12 ey_12 => ?_)
    subst hQ
    exact W.iret (v := y_12) hx hb hr (fun t ht hW => ⟨⟨_, _, rfl, trivial, q3_of g hK ht hW⟩, g.2.2.1.F ht⟩) g.2.2.1.2.2 dX1_reckon_91
  by_cases e_13 : x1_ = 60
  · refine lv_topi (fun z_14 ez_14 => ?_)
    obtain rfl : z_14 = 60 := ez_14.trans e_13
    have kb_60 : bd 60 60 (60 : Int32) := ⟨by decide, by decide⟩
    have b_15 : bd 60 60 x1_ := eqX (eq_f e_13) (bdT x1_) kb_60 (by decide)
    refine lv_lookup (off := 95) (tgt := 96) hx hb dX1_reckon_1 (by decide) (by decide) (by decide) ?_
    refine lv_iload_n hx hb dX1_reckon_96 rfl (lv_at hl 2 rfl) ?_
    refine lv_iload_n hx hb dX1_reckon_97 rfl (lv_at hl 3 rfl) ?_
    refine lv_icmp_ge (tgt := 105) hx hb dX1_reckon_98 (by decide) (fun c_16 => ?_) (fun c_16 => ?_)
    · have fc_16 := le_f c_16
      refine lv_iconst (v := 0) hx hb dX1_reckon_105 (by decide) ?_
      subst hQ
      exact W.iret (v := 0) hx hb hr (fun t ht hW => ⟨⟨_, _, rfl, trivial, q3_of g hK ht hW⟩, g.2.2.1.F ht⟩) g.2.2.1.2.2 dX1_reckon_106
    · have fc_16 := nle_f c_16
      have b_17 : bd (-2147483648) 2147483646 x2_ := ltL fc_16 (bdT x2_) (bdT x3_) (by decide)
      have b_18 : bd (-2147483647) 2147483647 x3_ := ltR fc_16 (bdT x2_) (bdT x3_) (by decide)
      refine lv_iconst (v := 1) hx hb dX1_reckon_101 (by decide) ?_
      refine lv_goto (tgt := 106) hx hb dX1_reckon_102 (by decide) ?_
      subst hQ
      exact W.iret (v := 1) hx hb hr (fun t ht hW => ⟨⟨_, _, rfl, trivial, q3_of g hK ht hW⟩, g.2.2.1.F ht⟩) g.2.2.1.2.2 dX1_reckon_106
  by_cases e_19 : x1_ = 62
  · refine lv_topi (fun z_20 ez_20 => ?_)
    obtain rfl : z_20 = 62 := ez_20.trans e_19
    have kb_62 : bd 62 62 (62 : Int32) := ⟨by decide, by decide⟩
    have b_21 : bd 62 62 x1_ := eqX (eq_f e_19) (bdT x1_) kb_62 (by decide)
    refine lv_lookup (off := 106) (tgt := 107) hx hb dX1_reckon_1 (by decide) (by decide) (by decide) ?_
    refine lv_iload_n hx hb dX1_reckon_107 rfl (lv_at hl 2 rfl) ?_
    refine lv_iload_n hx hb dX1_reckon_108 rfl (lv_at hl 3 rfl) ?_
    refine lv_icmp_le (tgt := 116) hx hb dX1_reckon_109 (by decide) (fun c_22 => ?_) (fun c_22 => ?_)
    · have fc_22 := le_f c_22
      refine lv_iconst (v := 0) hx hb dX1_reckon_116 (by decide) ?_
      subst hQ
      exact W.iret (v := 0) hx hb hr (fun t ht hW => ⟨⟨_, _, rfl, trivial, q3_of g hK ht hW⟩, g.2.2.1.F ht⟩) g.2.2.1.2.2 dX1_reckon_117
    · have fc_22 := nle_f c_22
      have b_23 : bd (-2147483648) 2147483646 x3_ := ltL fc_22 (bdT x3_) (bdT x2_) (by decide)
      have b_24 : bd (-2147483647) 2147483647 x2_ := ltR fc_22 (bdT x3_) (bdT x2_) (by decide)
      refine lv_iconst (v := 1) hx hb dX1_reckon_112 (by decide) ?_
      refine lv_goto (tgt := 117) hx hb dX1_reckon_113 (by decide) ?_
      subst hQ
      exact W.iret (v := 1) hx hb hr (fun t ht hW => ⟨⟨_, _, rfl, trivial, q3_of g hK ht hW⟩, g.2.2.1.F ht⟩) g.2.2.1.2.2 dX1_reckon_117
  by_cases e_25 : x1_ = 201
  · refine lv_topi (fun z_26 ez_26 => ?_)
    obtain rfl : z_26 = 201 := ez_26.trans e_25
    have kb_201 : bd 201 201 (201 : Int32) := ⟨by decide, by decide⟩
    have b_27 : bd 201 201 x1_ := eqX (eq_f e_25) (bdT x1_) kb_201 (by decide)
    refine lv_lookup (off := 117) (tgt := 118) hx hb dX1_reckon_1 (by decide) (by decide) (by decide) ?_
    refine lv_iload_n hx hb dX1_reckon_118 rfl (lv_at hl 2 rfl) ?_
    refine lv_iload_n hx hb dX1_reckon_119 rfl (lv_at hl 3 rfl) ?_
    refine lv_icmp_ne (tgt := 127) hx hb dX1_reckon_120 (by decide) (fun c_28 => ?_) (fun c_28 => ?_)
    · have fc_28 := neq_f c_28
      refine lv_iconst (v := 0) hx hb dX1_reckon_127 (by decide) ?_
      subst hQ
      exact W.iret (v := 0) hx hb hr (fun t ht hW => ⟨⟨_, _, rfl, trivial, q3_of g hK ht hW⟩, g.2.2.1.F ht⟩) g.2.2.1.2.2 dX1_reckon_128
    · have fc_28 := eq_f c_28
      refine lv_iconst (v := 1) hx hb dX1_reckon_123 (by decide) ?_
      refine lv_goto (tgt := 128) hx hb dX1_reckon_124 (by decide) ?_
      subst hQ
      exact W.iret (v := 1) hx hb hr (fun t ht hW => ⟨⟨_, _, rfl, trivial, q3_of g hK ht hW⟩, g.2.2.1.F ht⟩) g.2.2.1.2.2 dX1_reckon_128
  by_cases e_29 : x1_ = 202
  · refine lv_topi (fun z_30 ez_30 => ?_)
    obtain rfl : z_30 = 202 := ez_30.trans e_29
    have kb_202 : bd 202 202 (202 : Int32) := ⟨by decide, by decide⟩
    have b_31 : bd 202 202 x1_ := eqX (eq_f e_29) (bdT x1_) kb_202 (by decide)
    refine lv_lookup (off := 128) (tgt := 129) hx hb dX1_reckon_1 (by decide) (by decide) (by decide) ?_
    refine lv_iload_n hx hb dX1_reckon_129 rfl (lv_at hl 2 rfl) ?_
    refine lv_iload_n hx hb dX1_reckon_130 rfl (lv_at hl 3 rfl) ?_
    refine lv_icmp_eq (tgt := 138) hx hb dX1_reckon_131 (by decide) (fun c_32 => ?_) (fun c_32 => ?_)
    · have fc_32 := eq_f c_32
      refine lv_iconst (v := 0) hx hb dX1_reckon_138 (by decide) ?_
      subst hQ
      exact W.iret (v := 0) hx hb hr (fun t ht hW => ⟨⟨_, _, rfl, trivial, q3_of g hK ht hW⟩, g.2.2.1.F ht⟩) g.2.2.1.2.2 dX1_reckon_139
    · have fc_32 := neq_f c_32
      refine lv_iconst (v := 1) hx hb dX1_reckon_134 (by decide) ?_
      refine lv_goto (tgt := 139) hx hb dX1_reckon_135 (by decide) ?_
      subst hQ
      exact W.iret (v := 1) hx hb hr (fun t ht hW => ⟨⟨_, _, rfl, trivial, q3_of g hK ht hW⟩, g.2.2.1.F ht⟩) g.2.2.1.2.2 dX1_reckon_139
  by_cases e_33 : x1_ = 203
  · refine lv_topi (fun z_34 ez_34 => ?_)
    obtain rfl : z_34 = 203 := ez_34.trans e_33
    have kb_203 : bd 203 203 (203 : Int32) := ⟨by decide, by decide⟩
    have b_35 : bd 203 203 x1_ := eqX (eq_f e_33) (bdT x1_) kb_203 (by decide)
    refine lv_lookup (off := 139) (tgt := 140) hx hb dX1_reckon_1 (by decide) (by decide) (by decide) ?_
    refine lv_iload_n hx hb dX1_reckon_140 rfl (lv_at hl 2 rfl) ?_
    refine lv_iload_n hx hb dX1_reckon_141 rfl (lv_at hl 3 rfl) ?_
    refine lv_icmp_gt (tgt := 149) hx hb dX1_reckon_142 (by decide) (fun c_36 => ?_) (fun c_36 => ?_)
    · have fc_36 := lt_f c_36
      have b_37 : bd (-2147483648) 2147483646 x3_ := ltL fc_36 (bdT x3_) (bdT x2_) (by decide)
      have b_38 : bd (-2147483647) 2147483647 x2_ := ltR fc_36 (bdT x3_) (bdT x2_) (by decide)
      refine lv_iconst (v := 0) hx hb dX1_reckon_149 (by decide) ?_
      subst hQ
      exact W.iret (v := 0) hx hb hr (fun t ht hW => ⟨⟨_, _, rfl, trivial, q3_of g hK ht hW⟩, g.2.2.1.F ht⟩) g.2.2.1.2.2 dX1_reckon_150
    · have fc_36 := nlt_f c_36
      refine lv_iconst (v := 1) hx hb dX1_reckon_145 (by decide) ?_
      refine lv_goto (tgt := 150) hx hb dX1_reckon_146 (by decide) ?_
      subst hQ
      exact W.iret (v := 1) hx hb hr (fun t ht hW => ⟨⟨_, _, rfl, trivial, q3_of g hK ht hW⟩, g.2.2.1.F ht⟩) g.2.2.1.2.2 dX1_reckon_150
  by_cases e_39 : x1_ = 204
  · refine lv_topi (fun z_40 ez_40 => ?_)
    obtain rfl : z_40 = 204 := ez_40.trans e_39
    have kb_204 : bd 204 204 (204 : Int32) := ⟨by decide, by decide⟩
    have b_41 : bd 204 204 x1_ := eqX (eq_f e_39) (bdT x1_) kb_204 (by decide)
    refine lv_lookup (off := 150) (tgt := 151) hx hb dX1_reckon_1 (by decide) (by decide) (by decide) ?_
    refine lv_iload_n hx hb dX1_reckon_151 rfl (lv_at hl 2 rfl) ?_
    refine lv_iload_n hx hb dX1_reckon_152 rfl (lv_at hl 3 rfl) ?_
    refine lv_icmp_lt (tgt := 160) hx hb dX1_reckon_153 (by decide) (fun c_42 => ?_) (fun c_42 => ?_)
    · have fc_42 := lt_f c_42
      have b_43 : bd (-2147483648) 2147483646 x2_ := ltL fc_42 (bdT x2_) (bdT x3_) (by decide)
      have b_44 : bd (-2147483647) 2147483647 x3_ := ltR fc_42 (bdT x2_) (bdT x3_) (by decide)
      refine lv_iconst (v := 0) hx hb dX1_reckon_160 (by decide) ?_
      subst hQ
      exact W.iret (v := 0) hx hb hr (fun t ht hW => ⟨⟨_, _, rfl, trivial, q3_of g hK ht hW⟩, g.2.2.1.F ht⟩) g.2.2.1.2.2 dX1_reckon_161
    · have fc_42 := nlt_f c_42
      refine lv_iconst (v := 1) hx hb dX1_reckon_156 (by decide) ?_
      refine lv_goto (tgt := 161) hx hb dX1_reckon_157 (by decide) ?_
      subst hQ
      exact W.iret (v := 1) hx hb hr (fun t ht hW => ⟨⟨_, _, rfl, trivial, q3_of g hK ht hW⟩, g.2.2.1.F ht⟩) g.2.2.1.2.2 dX1_reckon_161
  refine lv_lookup (off := 161) (tgt := 162) hx hb dX1_reckon_1 (by decide) (by have a0 : x1_.toInt ≠ 42 := fun h => e_1 (Int32.toInt_inj.mp (h.trans (by decide))); have a1 : x1_.toInt ≠ 43 := fun h => e_5 (Int32.toInt_inj.mp (h.trans (by decide))); have a2 : x1_.toInt ≠ 45 := fun h => e_9 (Int32.toInt_inj.mp (h.trans (by decide))); have a3 : x1_.toInt ≠ 60 := fun h => e_13 (Int32.toInt_inj.mp (h.trans (by decide))); have a4 : x1_.toInt ≠ 62 := fun h => e_19 (Int32.toInt_inj.mp (h.trans (by decide))); have a5 : x1_.toInt ≠ 201 := fun h => e_25 (Int32.toInt_inj.mp (h.trans (by decide))); have a6 : x1_.toInt ≠ 202 := fun h => e_29 (Int32.toInt_inj.mp (h.trans (by decide))); have a7 : x1_.toInt ≠ 203 := fun h => e_33 (Int32.toInt_inj.mp (h.trans (by decide))); have a8 : x1_.toInt ≠ 204 := fun h => e_39 (Int32.toInt_inj.mp (h.trans (by decide))); simp [Op.lookupswitch.offset, a0, a1, a2, a3, a4, a5, a6, a7, a8, Ne.symm]) (by decide) ?_
  refine lv_iload_n hx hb dX1_reckon_162 rfl (lv_at hl 3 rfl) ?_
  have kb_0 : bd 0 0 (0 : Int32) := ⟨by decide, by decide⟩
  refine lv_if_ne (tgt := 180) hx hb dX1_reckon_163 (by decide) (fun c_45 => ?_) (fun c_45 => ?_)
  · have fc_45 := neq_f c_45
    refine lv_iload_n hx hb dX1_reckon_180 rfl (lv_at hl 1 rfl) ?_
    refine lv_bipush (v := 47) hx hb dX1_reckon_181 (by decide) ?_
    have kb_47 : bd 47 47 (47 : Int32) := ⟨by decide, by decide⟩
    refine lv_icmp_ne (tgt := 192) hx hb dX1_reckon_183 (by decide) (fun c_46 => ?_) (fun c_46 => ?_)
    · have fc_46 := neq_f c_46
      refine lv_iload_n hx hb dX1_reckon_192 rfl (lv_at hl 2 rfl) ?_
      refine lv_iload_n hx hb dX1_reckon_193 rfl (lv_at hl 3 rfl) ?_
      refine lv_irem hx hb dX1_reckon_194 c_45 ?_
      refine lv_topi (fun y_47 ey_47 => ?_)
      subst hQ
      exact W.iret (v := y_47) hx hb hr (fun t ht hW => ⟨⟨_, _, rfl, trivial, q3_of g hK ht hW⟩, g.2.2.1.F ht⟩) g.2.2.1.2.2 dX1_reckon_195
    · have fc_46 := eq_f c_46
      have b_48 : bd 47 47 x1_ := eqX fc_46 (bdT x1_) kb_47 (by decide)
      refine lv_iload_n hx hb dX1_reckon_186 rfl (lv_at hl 2 rfl) ?_
      refine lv_iload_n hx hb dX1_reckon_187 rfl (lv_at hl 3 rfl) ?_
      refine lv_idiv hx hb dX1_reckon_188 c_45 ?_
      refine lv_topi (fun y_49 ey_49 => ?_)
      refine lv_goto (tgt := 195) hx hb dX1_reckon_189 (by decide) ?_
      subst hQ
      exact W.iret (v := y_49) hx hb hr (fun t ht hW => ⟨⟨_, _, rfl, trivial, q3_of g hK ht hW⟩, g.2.2.1.F ht⟩) g.2.2.1.2.2 dX1_reckon_195
  · have fc_45 := eq_f c_45
    have b_50 : bd 0 0 x3_ := eqX fc_45 (bdT x3_) kb_0 (by decide)
    refine lv_aload_n hx hb dX1_reckon_166 rfl (lv_at hl 0 rfl) ?_
    refine lv_iconst (v := 2) hx hb dX1_reckon_167 (by decide) ?_
    have kb_2 : bd 2 2 (2 : Int32) := ⟨by decide, by decide⟩
    refine g_put (C := RX1) (T := TX1) (N := 18) hx hb hts (mc_ inX1) tyX1 tyX1_ok nmX1 hown hK g ma0_ ka0_ (by decide) rfl 15 (by decide) (hts _ (List.mem_cons_of_mem _ t_750)) (fun _ h9 => h9) rfl rfl (okV_i (bd_sub kb_2 (by decide))) rfl rfl (by decide) (Or.inr (Or.inl (by decide))) (fx' := []) rfl dX1_reckon_168 (fun f H locs hM_51 g => ?_)
    refine lv_aload_n hx hb dX1_reckon_171 rfl (lv_at hl 0 rfl) ?_
    refine lv_ldc2 (v := 1434591) hx hb hown (hts _ (List.mem_cons_of_mem _ t_1605)) dX1_reckon_172 ?_
    refine g_put (C := RX1) (T := TX1) (N := 18) hx hb hts (mc_ inX1) tyX1 tyX1_ok nmX1 hown hK g ma0_ ka0_ (by decide) rfl 17 (by decide) (hts _ (List.mem_cons_of_mem _ t_754)) (fun _ h9 => h9) rfl rfl okV_l rfl rfl (by decide) (Or.inr (Or.inl (by decide))) (fx' := [(1, 15, a0_, .int 2)]) rfl dX1_reckon_175 (fun f H locs hM_52 g => ?_)
    refine lv_iconst (v := 0) hx hb dX1_reckon_178 (by decide) ?_
    subst hQ
    exact W.iret (v := 0) hx hb hr (fun t ht hW => ⟨⟨_, _, rfl, trivial, q3_of g hK ht hW⟩, g.2.2.1.F ht⟩) g.2.2.1.2.2 dX1_reckon_179
set_option maxHeartbeats 4000000 in
set_option maxRecDepth 100000 in
theorem r_X1_push (l : Launch) (dC : Nat → ClassId) (dI : Nat → Nat → Nat) (L : List Nat) (kd : Nat → Nat) (tys : List (ClassId × FieldType)) (f0 : Nat → va_E) (sz : Nat) (hWT : WT L kd tys f0) (a0_ : Nat) (ma0_ : a0_ ∈ L) (ka0_ : kd a0_ = 1) (x1_ : Int32) : Met l yX1_push (.code yX1_push cX1_push 2 none :: lw_g) ({ frames := 0, cells := 0, slots := 0, locals := 0 }) (va_Pc [.ref a0_, .int x1_] (P3 (dC, dI) L tys f0 sz)) (va_Qv (fun (f : Nat → va_E) => (∃ z0_ : Int32, bd 1 700 z0_ ∧ Fs L kd f [(1, 8, a0_, .int z0_)])) (Q3 (dC, dI) L kd tys [(1, 8)] [100] f0 sz) (pA L sz)) 0 0 (pA L sz) := by
  refine Met.ofW (cc := cX1_push) (maxL := 2) (ret := none) (by decide) rfl ?_
  intro p e s m args below meth c s₁ B hml hv
  obtain ⟨rfl, hsz, hP, hK, hD0⟩ := hv
  have hx := B.exec
  have hb := B.bytes
  have hr := B.returns
  have hts := atoms_spec (ws := (.code yX1_push cX1_push 2 none :: lw_g)) B.pre
  have hown : s.vm.findClass RX1 = some m.cls := findClass_of_methodNamed B.named
  have hlocks := B.notSynchronized
  subst hsz
  have g : G3 (dC, dI) L kd tys s f0 [(1, 8)] [100] f0 s.heap [] [] := G3.start hP hD0 hWT Fs.nil
  have hl := lv_entry ([.ref a0_, .int x1_]) (n := 2) (Nat.le_of_ble_eq_true rfl)
  rw [lg_entry_eq]
  generalize (lg_sl ([.ref a0_, .int x1_]) ++ List.replicate (2 - (lg_sl ([.ref a0_, .int x1_])).length) Slot.unset).toArray = ls at hl ⊢
  have hl : lv_has ls 2 [(0, .ref a0_), (1, .int x1_)] := hl
  refine W_q (fun Q hQ => ?_)
  refine lv_aload_n hx hb dX1_push_0 rfl (lv_at hl 0 rfl) ?_
  refine g_geti (C := RX1) (T := TX1) (N := 18) hx hb hts (mc_ inX1) hown hK g ma0_ ka0_ (by decide) rfl 8 (by decide) rfl (hts _ (List.mem_cons_of_mem _ t_743)) (fun _ h9 => h9) rfl dX1_push_1 (fun x_1 bx_1 g => ?_)
  refine lv_sipush (v := 700) hx hb dX1_push_4 (by decide) ?_
  have kb_700 : bd 700 700 (700 : Int32) := ⟨by decide, by decide⟩
  refine lv_icmp_ge (tgt := 30) hx hb dX1_push_7 (by decide) (fun c_2 => ?_) (fun c_2 => ?_)
  · have fc_2 := le_f c_2
    have b_3 : bd 700 700 x_1 := leR fc_2 kb_700 bx_1 (by decide)
    subst hQ
    exact W.vret hx hb hr (fun t ht hW => ⟨⟨_, rfl, ⟨x_1, (bd_sub b_3 (by decide)), (g.fcts [0] rfl)⟩, q3_of g hK ht hW⟩, g.2.2.1.F ht⟩) g.2.2.1.2.2 dX1_push_30
  · have fc_2 := nle_f c_2
    have b_4 : bd 0 699 x_1 := ltL fc_2 bx_1 kb_700 (by decide)
    refine lv_aload_n hx hb dX1_push_10 rfl (lv_at hl 0 rfl) ?_
    refine g_getr (K := 100) (C := RX1) (T := TX1) (N := 18) hx hb hts (mc_ inX1) hown hK g ma0_ ka0_ (by decide) rfl 7 (by decide) rfl (hts _ (List.mem_cons_of_mem _ t_742)) (fun _ h9 => h9) rfl dX1_push_11 (fun a_5 ma_5 ka_5 g => ?_)
    refine lv_aload_n hx hb dX1_push_14 rfl (lv_at hl 0 rfl) ?_
    refine g_getk (C := RX1) (T := TX1) (N := 18) hx hb hts (mc_ inX1) hown hK g rfl 8 (by decide) rfl (hts _ (List.mem_cons_of_mem _ t_743)) (fun _ h9 => h9) 1 rfl dX1_push_15 ?_
    refine lv_iload_n hx hb dX1_push_18 rfl (lv_at hl 1 rfl) ?_
    refine g_iast hx hb hK g ma_5 ka_5 (by decide) rfl (in_bd b_4 (by decide)) (bdT x1_) (by decide) dX1_push_19 (fun f H locs hM_6 g => ?_)
    refine lv_aload_n hx hb dX1_push_20 rfl (lv_at hl 0 rfl) ?_
    refine lv_dup hx hb dX1_push_21 rfl ?_
    refine g_getk (C := RX1) (T := TX1) (N := 18) hx hb hts (mc_ inX1) hown hK g rfl 8 (by decide) rfl (hts _ (List.mem_cons_of_mem _ t_743)) (fun _ h9 => h9) 1 rfl dX1_push_22 ?_
    refine lv_iconst (v := 1) hx hb dX1_push_25 (by decide) ?_
    have kb_1 : bd 1 1 (1 : Int32) := ⟨by decide, by decide⟩
    refine lv_iadd hx hb dX1_push_26 ?_
    refine lv_topi (fun y_7 ey_7 => ?_)
    have ty_7 := add_bd ey_7 b_4 kb_1 (by decide)
    have b_8 : bd 1 700 y_7 := add_rg ty_7 b_4 kb_1 (by decide)
    refine g_put (C := RX1) (T := TX1) (N := 18) hx hb hts (mc_ inX1) tyX1 tyX1_ok nmX1 hown hK g ma0_ ka0_ (by decide) rfl 8 (by decide) (hts _ (List.mem_cons_of_mem _ t_743)) (fun _ h9 => h9) rfl rfl (okV_i (bd_sub b_8 (by decide))) rfl rfl (by decide) (Or.inr (Or.inl (by decide))) (fx' := [(1, 7, a0_, .ref a_5)]) rfl dX1_push_27 (fun f H locs hM_9 g => ?_)
    subst hQ
    exact W.vret hx hb hr (fun t ht hW => ⟨⟨_, rfl, ⟨y_7, b_8, (g.fcts [0] rfl)⟩, q3_of g hK ht hW⟩, g.2.2.1.F ht⟩) g.2.2.1.2.2 dX1_push_30
set_option maxHeartbeats 4000000 in
set_option maxRecDepth 100000 in
theorem r_X1_act (l : Launch) (dC : Nat → ClassId) (dI : Nat → Nat → Nat) (L : List Nat) (kd : Nat → Nat) (tys : List (ClassId × FieldType)) (f0 : Nat → va_E) (sz : Nat) (hWT : WT L kd tys f0) (a0_ : Nat) (ma0_ : a0_ ∈ L) (ka0_ : kd a0_ = 1) (x1_ : Int32) (x2_ : Int32) (q0_ : Nat) (mq0_ : q0_ ∈ L) (kq0_ : kd q0_ = 7) (hc_ : crel x1_ x2_) (hfx : Fs L kd f0 [(1, 0, a0_, .ref q0_)]) : Met l yX1_act (.code yX1_act cX1_act 3 none :: lw_g) ({ frames := 0, cells := 0, slots := 0, locals := 0 }) (va_Pc [.ref a0_, .int x1_, .int x2_] (P3 (dC, dI) L tys f0 sz)) (va_Qv (fun (f : Nat → va_E) => (True)) (Q3 (dC, dI) L kd tys [(1, 13), (1, 14), (1, 15), (1, 17)] [116, 146] f0 sz) (pA L sz)) 0 0 (pA L sz) := by
  refine Met.ofW (cc := cX1_act) (maxL := 3) (ret := none) (by decide) rfl ?_
  intro p e s m args below meth c s₁ B hml hv
  obtain ⟨rfl, hsz, hP, hK, hD0⟩ := hv
  have hx := B.exec
  have hb := B.bytes
  have hr := B.returns
  have hts := atoms_spec (ws := (.code yX1_act cX1_act 3 none :: lw_g)) B.pre
  have hown : s.vm.findClass RX1 = some m.cls := findClass_of_methodNamed B.named
  have hlocks := B.notSynchronized
  subst hsz
  have g : G3 (dC, dI) L kd tys s f0 [(1, 13), (1, 14), (1, 15), (1, 17)] [116, 146] f0 s.heap [] [(1, 0, a0_, .ref q0_)] := G3.start hP hD0 hWT hfx
  have hl := lv_entry ([.ref a0_, .int x1_, .int x2_]) (n := 3) (Nat.le_of_ble_eq_true rfl)
  rw [lg_entry_eq]
  generalize (lg_sl ([.ref a0_, .int x1_, .int x2_]) ++ List.replicate (3 - (lg_sl ([.ref a0_, .int x1_, .int x2_])).length) Slot.unset).toArray = ls at hl ⊢
  have hl : lv_has ls 3 [(0, .ref a0_), (1, .int x1_), (2, .int x2_)] := hl
  refine W_q (fun Q hQ => ?_)
  refine lv_iload_n hx hb dX1_act_0 rfl (lv_at hl 1 rfl) ?_
  refine lv_bipush (v := 12) hx hb dX1_act_1 (by decide) ?_
  have kb_12 : bd 12 12 (12 : Int32) := ⟨by decide, by decide⟩
  refine lv_icmp_ne (tgt := 31) hx hb dX1_act_3 (by decide) (fun c_1 => ?_) (fun c_1 => ?_)
  · have fc_1 := neq_f c_1
    refine lv_iload_n hx hb dX1_act_31 rfl (lv_at hl 1 rfl) ?_
    refine lv_bipush (v := 12) hx hb dX1_act_32 (by decide) ?_
    refine lv_icmp_eq (tgt := 43) hx hb dX1_act_34 (by decide) (fun c_2 => ?_) (fun c_2 => ?_)
    · have fc_2 := eq_f c_2
      exact absurd fc_2 fc_1
    · have fc_2 := neq_f c_2
      refine lv_iload_n hx hb dX1_act_37 rfl (lv_at hl 1 rfl) ?_
      refine lv_bipush (v := 13) hx hb dX1_act_38 (by decide) ?_
      have kb_13 : bd 13 13 (13 : Int32) := ⟨by decide, by decide⟩
      refine lv_icmp_ne (tgt := 78) hx hb dX1_act_40 (by decide) (fun c_3 => ?_) (fun c_3 => ?_)
      · have fc_3 := neq_f c_3
        refine lv_iload_n hx hb dX1_act_78 rfl (lv_at hl 1 rfl) ?_
        refine lv_bipush (v := 14) hx hb dX1_act_79 (by decide) ?_
        have kb_14 : bd 14 14 (14 : Int32) := ⟨by decide, by decide⟩
        refine lv_icmp_ne (tgt := 102) hx hb dX1_act_81 (by decide) (fun c_4 => ?_) (fun c_4 => ?_)
        · have fc_4 := neq_f c_4
          refine lv_iload_n hx hb dX1_act_102 rfl (lv_at hl 1 rfl) ?_
          refine lv_bipush (v := 15) hx hb dX1_act_103 (by decide) ?_
          have kb_15 : bd 15 15 (15 : Int32) := ⟨by decide, by decide⟩
          refine lv_icmp_ne (tgt := 116) hx hb dX1_act_105 (by decide) (fun c_5 => ?_) (fun c_5 => ?_)
          · have fc_5 := neq_f c_5
            refine lv_iload_n hx hb dX1_act_116 rfl (lv_at hl 1 rfl) ?_
            refine lv_bipush (v := 16) hx hb dX1_act_117 (by decide) ?_
            have kb_16 : bd 16 16 (16 : Int32) := ⟨by decide, by decide⟩
            refine lv_icmp_ne (tgt := 155) hx hb dX1_act_119 (by decide) (fun c_6 => ?_) (fun c_6 => ?_)
            · have fc_6 := neq_f c_6
              subst hQ
              exact W.vret hx hb hr (fun t ht hW => ⟨⟨_, rfl, trivial, q3_of g hK ht hW⟩, g.2.2.1.F ht⟩) g.2.2.1.2.2 dX1_act_155
            · have fc_6 := eq_f c_6
              have b_7 : bd 16 16 x1_ := eqX fc_6 (bdT x1_) kb_16 (by decide)
              refine lv_iload_n hx hb dX1_act_122 rfl (lv_at hl 2 rfl) ?_
              have kb_0 : bd 0 0 (0 : Int32) := ⟨by decide, by decide⟩
              refine lv_if_lt (tgt := 155) hx hb dX1_act_123 (by decide) (fun c_8 => ?_) (fun c_8 => ?_)
              · have fc_8 := lt_f c_8
                have b_9 : bd (-2147483648) (-1) x2_ := ltL fc_8 (bdT x2_) kb_0 (by decide)
                subst hQ
                exact W.vret hx hb hr (fun t ht hW => ⟨⟨_, rfl, trivial, q3_of g hK ht hW⟩, g.2.2.1.F ht⟩) g.2.2.1.2.2 dX1_act_155
              · have fc_8 := nlt_f c_8
                have b_10 : bd 0 2147483647 x2_ := leR fc_8 kb_0 (bdT x2_) (by decide)
                refine lv_iload_n hx hb dX1_act_126 rfl (lv_at hl 2 rfl) ?_
                refine lv_aload_n hx hb dX1_act_127 rfl (lv_at hl 0 rfl) ?_
                refine g_getk (C := RX1) (T := TX1) (N := 18) hx hb hts (mc_ inX1) hown hK g rfl 0 (by decide) rfl (hts _ (List.mem_cons_of_mem _ t_735)) (fun _ h9 => h9) 0 rfl dX1_act_128 ?_
                refine g_geti (C := RX7) (T := TX7) (N := 19) hx hb hts (mc_ inX7) hown hK g mq0_ kq0_ (by decide) rfl 17 (by decide) rfl (hts _ (List.mem_cons_of_mem _ t_679)) (fun _ h9 => h9) rfl dX1_act_131 (fun x_11 bx_11 g => ?_)
                refine lv_icmp_ge (tgt := 155) hx hb dX1_act_134 (by decide) (fun c_12 => ?_) (fun c_12 => ?_)
                · have fc_12 := le_f c_12
                  subst hQ
                  exact W.vret hx hb hr (fun t ht hW => ⟨⟨_, rfl, trivial, q3_of g hK ht hW⟩, g.2.2.1.F ht⟩) g.2.2.1.2.2 dX1_act_155
                · have fc_12 := nle_f c_12
                  have b_13 : bd 0 419 x2_ := ltL fc_12 b_10 bx_11 (by decide)
                  have b_14 : bd 1 420 x_11 := ltR fc_12 b_10 bx_11 (by decide)
                  refine lv_aload_n hx hb dX1_act_137 rfl (lv_at hl 0 rfl) ?_
                  refine lv_iconst (v := 2) hx hb dX1_act_138 (by decide) ?_
                  have kb_2 : bd 2 2 (2 : Int32) := ⟨by decide, by decide⟩
                  refine g_put (C := RX1) (T := TX1) (N := 18) hx hb hts (mc_ inX1) tyX1 tyX1_ok nmX1 hown hK g ma0_ ka0_ (by decide) rfl 15 (by decide) (hts _ (List.mem_cons_of_mem _ t_750)) (fun _ h9 => h9) rfl rfl (okV_i (bd_sub kb_2 (by decide))) rfl rfl (by decide) (Or.inr (Or.inl (by decide))) (fx' := [(7, 17, q0_, .int x_11), (1, 0, a0_, .ref q0_)]) rfl dX1_act_139 (fun f H locs hM_15 g => ?_)
                  refine lv_aload_n hx hb dX1_act_142 rfl (lv_at hl 0 rfl) ?_
                  refine lv_aload_n hx hb dX1_act_143 rfl (lv_at hl 0 rfl) ?_
                  refine g_getk (C := RX1) (T := TX1) (N := 18) hx hb hts (mc_ inX1) hown hK g rfl 0 (by decide) rfl (hts _ (List.mem_cons_of_mem _ t_735)) (fun _ h9 => h9) 2 rfl dX1_act_144 ?_
                  refine g_getr (K := 147) (C := RX7) (T := TX7) (N := 19) hx hb hts (mc_ inX7) hown hK g mq0_ kq0_ (by decide) rfl 16 (by decide) rfl (hts _ (List.mem_cons_of_mem _ t_677)) (fun _ h9 => h9) rfl dX1_act_147 (fun a_16 ma_16 ka_16 g => ?_)
                  refine lv_iload_n hx hb dX1_act_150 rfl (lv_at hl 2 rfl) ?_
                  refine g_lald hx hb hK g ma_16 ka_16 (by decide) rfl (in_bd b_13 (by decide)) dX1_act_151 (fun x_17 => ?_)
                  refine g_put (C := RX1) (T := TX1) (N := 18) hx hb hts (mc_ inX1) tyX1 tyX1_ok nmX1 hown hK g ma0_ ka0_ (by decide) rfl 17 (by decide) (hts _ (List.mem_cons_of_mem _ t_754)) (fun _ h9 => h9) rfl rfl okV_l rfl rfl (by decide) (Or.inr (Or.inl (by decide))) (fx' := [(7, 16, q0_, .ref a_16), (1, 15, a0_, .int 2), (7, 17, q0_, .int x_11), (1, 0, a0_, .ref q0_)]) rfl dX1_act_152 (fun f H locs hM_18 g => ?_)
                  subst hQ
                  exact W.vret hx hb hr (fun t ht hW => ⟨⟨_, rfl, trivial, q3_of g hK ht hW⟩, g.2.2.1.F ht⟩) g.2.2.1.2.2 dX1_act_155
          · have fc_5 := eq_f c_5
            have b_19 : bd 15 15 x1_ := eqX fc_5 (bdT x1_) kb_15 (by decide)
            refine lv_aload_n hx hb dX1_act_108 rfl (lv_at hl 0 rfl) ?_
            refine lv_iload_n hx hb dX1_act_109 rfl (lv_at hl 2 rfl) ?_
            refine g_put (C := RX1) (T := TX1) (N := 18) hx hb hts (mc_ inX1) tyX1 tyX1_ok nmX1 hown hK g ma0_ ka0_ (by decide) rfl 13 (by decide) (hts _ (List.mem_cons_of_mem _ t_748)) (fun _ h9 => h9) rfl rfl (okV_i (bdT x2_)) rfl rfl (by decide) (Or.inr (Or.inl (by decide))) (fx' := [(1, 0, a0_, .ref q0_)]) rfl dX1_act_110 (fun f H locs hM_20 g => ?_)
            refine lv_goto (tgt := 155) hx hb dX1_act_113 (by decide) ?_
            subst hQ
            exact W.vret hx hb hr (fun t ht hW => ⟨⟨_, rfl, trivial, q3_of g hK ht hW⟩, g.2.2.1.F ht⟩) g.2.2.1.2.2 dX1_act_155
        · have fc_4 := eq_f c_4
          have b_21 : bd 14 14 x1_ := eqX fc_4 (bdT x1_) kb_14 (by decide)
          have b_22 : bd 0 10 x2_ := eqX rfl (bdT x2_) (cr10 hc_ b_21 (by decide)) (by decide)
          refine lv_aload_n hx hb dX1_act_84 rfl (lv_at hl 0 rfl) ?_
          refine g_getr (K := 116) (C := RX1) (T := TX1) (N := 18) hx hb hts (mc_ inX1) hown hK g ma0_ ka0_ (by decide) rfl 9 (by decide) rfl (hts _ (List.mem_cons_of_mem _ t_744)) (fun _ h9 => h9) rfl dX1_act_85 (fun a_23 ma_23 ka_23 g => ?_)
          refine lv_aload_n hx hb dX1_act_88 rfl (lv_at hl 0 rfl) ?_
          refine g_geti (C := RX1) (T := TX1) (N := 18) hx hb hts (mc_ inX1) hown hK g ma0_ ka0_ (by decide) rfl 11 (by decide) rfl (hts _ (List.mem_cons_of_mem _ t_746)) (fun _ h9 => h9) rfl dX1_act_89 (fun x_24 bx_24 g => ?_)
          refine lv_bipush (v := 11) hx hb dX1_act_92 (by decide) ?_
          refine lv_imul hx hb dX1_act_94 ?_
          refine lv_topi (fun y_25 ey_25 => ?_)
          have ty_25 := mulc_bd ey_25 (c := 11) (by decide) bx_24 (by decide)
          have b_26 : bd 0 220 y_25 := mulc_rg ty_25 bx_24 (by decide)
          refine lv_iload_n hx hb dX1_act_95 rfl (lv_at hl 2 rfl) ?_
          refine lv_iadd hx hb dX1_act_96 ?_
          refine lv_topi (fun y_27 ey_27 => ?_)
          have ty_27 := add_bd ey_27 b_26 b_22 (by decide)
          have b_28 : bd 0 230 y_27 := add_rg ty_27 b_26 b_22 (by decide)
          refine lv_iconst (v := 0) hx hb dX1_act_97 (by decide) ?_
          have kb_0 : bd 0 0 (0 : Int32) := ⟨by decide, by decide⟩
          refine g_iast hx hb hK g ma_23 ka_23 (by decide) rfl (in_bd b_28 (by decide)) (bd_sub kb_0 (by decide)) (by decide) dX1_act_98 (fun f H locs hM_29 g => ?_)
          refine lv_goto (tgt := 155) hx hb dX1_act_99 (by decide) ?_
          subst hQ
          exact W.vret hx hb hr (fun t ht hW => ⟨⟨_, rfl, trivial, q3_of g hK ht hW⟩, g.2.2.1.F ht⟩) g.2.2.1.2.2 dX1_act_155
      · have fc_3 := eq_f c_3
        have b_30 : bd 13 13 x1_ := eqX fc_3 (bdT x1_) kb_13 (by decide)
        refine lv_aload_n hx hb dX1_act_43 rfl (lv_at hl 0 rfl) ?_
        refine lv_dup hx hb dX1_act_44 rfl ?_
        refine g_geti (C := RX1) (T := TX1) (N := 18) hx hb hts (mc_ inX1) hown hK g ma0_ ka0_ (by decide) rfl 14 (by decide) rfl (hts _ (List.mem_cons_of_mem _ t_749)) (fun _ h9 => h9) rfl dX1_act_45 (fun x_31 bx_31 g => ?_)
        refine lv_iconst (v := 1) hx hb dX1_act_48 (by decide) ?_
        have kb_1 : bd 1 1 (1 : Int32) := ⟨by decide, by decide⟩
        refine lv_iadd hx hb dX1_act_49 ?_
        refine lv_topi (fun y_32 ey_32 => ?_)
        refine g_put (C := RX1) (T := TX1) (N := 18) hx hb hts (mc_ inX1) tyX1 tyX1_ok nmX1 hown hK g ma0_ ka0_ (by decide) rfl 14 (by decide) (hts _ (List.mem_cons_of_mem _ t_749)) (fun _ h9 => h9) rfl rfl (okV_i (bdT y_32)) rfl rfl (by decide) (Or.inr (Or.inl (by decide))) (fx' := [(1, 0, a0_, .ref q0_)]) rfl dX1_act_50 (fun f H locs hM_33 g => ?_)
        refine lv_aload_n hx hb dX1_act_53 rfl (lv_at hl 0 rfl) ?_
        refine lv_aload_n hx hb dX1_act_54 rfl (lv_at hl 0 rfl) ?_
        refine g_getk (C := RX1) (T := TX1) (N := 18) hx hb hts (mc_ inX1) hown hK g rfl 14 (by decide) rfl (hts _ (List.mem_cons_of_mem _ t_749)) (fun _ h9 => h9) 0 rfl dX1_act_55 ?_
        refine lv_sipush (v := 300) hx hb dX1_act_58 (by decide) ?_
        have kb_300 : bd 300 300 (300 : Int32) := ⟨by decide, by decide⟩
        refine lv_icmp_le (tgt := 68) hx hb dX1_act_61 (by decide) (fun c_34 => ?_) (fun c_34 => ?_)
        · have fc_34 := le_f c_34
          have b_35 : bd (-2147483648) 300 y_32 := leL fc_34 (bdT y_32) kb_300 (by decide)
          refine lv_aload_n hx hb dX1_act_68 rfl (lv_at hl 0 rfl) ?_
          refine g_geti (C := RX1) (T := TX1) (N := 18) hx hb hts (mc_ inX1) hown hK g ma0_ ka0_ (by decide) rfl 15 (by decide) rfl (hts _ (List.mem_cons_of_mem _ t_750)) (fun _ h9 => h9) rfl dX1_act_69 (fun x_36 bx_36 g => ?_)
          refine g_put (C := RX1) (T := TX1) (N := 18) hx hb hts (mc_ inX1) tyX1 tyX1_ok nmX1 hown hK g ma0_ ka0_ (by decide) rfl 15 (by decide) (hts _ (List.mem_cons_of_mem _ t_750)) (fun _ h9 => h9) rfl rfl (okV_i (bdT x_36)) rfl rfl (by decide) (Or.inr (Or.inl (by decide))) (fx' := [(1, 14, a0_, .int y_32), (1, 0, a0_, .ref q0_)]) rfl dX1_act_72 (fun f H locs hM_37 g => ?_)
          refine lv_goto (tgt := 155) hx hb dX1_act_75 (by decide) ?_
          subst hQ
          exact W.vret hx hb hr (fun t ht hW => ⟨⟨_, rfl, trivial, q3_of g hK ht hW⟩, g.2.2.1.F ht⟩) g.2.2.1.2.2 dX1_act_155
        · have fc_34 := nle_f c_34
          have b_38 : bd 301 2147483647 y_32 := ltR fc_34 kb_300 (bdT y_32) (by decide)
          refine lv_iconst (v := 3) hx hb dX1_act_64 (by decide) ?_
          refine lv_goto (tgt := 72) hx hb dX1_act_65 (by decide) ?_
          have kb_3 : bd 3 3 (3 : Int32) := ⟨by decide, by decide⟩
          refine g_put (C := RX1) (T := TX1) (N := 18) hx hb hts (mc_ inX1) tyX1 tyX1_ok nmX1 hown hK g ma0_ ka0_ (by decide) rfl 15 (by decide) (hts _ (List.mem_cons_of_mem _ t_750)) (fun _ h9 => h9) rfl rfl (okV_i (bd_sub kb_3 (by decide))) rfl rfl (by decide) (Or.inr (Or.inl (by decide))) (fx' := [(1, 14, a0_, .int y_32), (1, 0, a0_, .ref q0_)]) rfl dX1_act_72 (fun f H locs hM_39 g => ?_)
          refine lv_goto (tgt := 155) hx hb dX1_act_75 (by decide) ?_
          subst hQ
          exact W.vret hx hb hr (fun t ht hW => ⟨⟨_, rfl, trivial, q3_of g hK ht hW⟩, g.2.2.1.F ht⟩) g.2.2.1.2.2 dX1_act_155
  · have fc_1 := eq_f c_1
    have b_40 : bd 12 12 x1_ := eqX fc_1 (bdT x1_) kb_12 (by decide)
    refine lv_iload_n hx hb dX1_act_6 rfl (lv_at hl 2 rfl) ?_
    have kb_0 : bd 0 0 (0 : Int32) := ⟨by decide, by decide⟩
    refine lv_if_lt (tgt := 31) hx hb dX1_act_7 (by decide) (fun c_41 => ?_) (fun c_41 => ?_)
    · have fc_41 := lt_f c_41
      have b_42 : bd (-2147483648) (-1) x2_ := ltL fc_41 (bdT x2_) kb_0 (by decide)
      refine lv_iload_n hx hb dX1_act_31 rfl (lv_at hl 1 rfl) ?_
      refine lv_bipush (v := 12) hx hb dX1_act_32 (by decide) ?_
      refine lv_icmp_eq (tgt := 43) hx hb dX1_act_34 (by decide) (fun c_43 => ?_) (fun c_43 => ?_)
      · have fc_43 := eq_f c_43
        refine lv_aload_n hx hb dX1_act_43 rfl (lv_at hl 0 rfl) ?_
        refine lv_dup hx hb dX1_act_44 rfl ?_
        refine g_geti (C := RX1) (T := TX1) (N := 18) hx hb hts (mc_ inX1) hown hK g ma0_ ka0_ (by decide) rfl 14 (by decide) rfl (hts _ (List.mem_cons_of_mem _ t_749)) (fun _ h9 => h9) rfl dX1_act_45 (fun x_44 bx_44 g => ?_)
        refine lv_iconst (v := 1) hx hb dX1_act_48 (by decide) ?_
        have kb_1 : bd 1 1 (1 : Int32) := ⟨by decide, by decide⟩
        refine lv_iadd hx hb dX1_act_49 ?_
        refine lv_topi (fun y_45 ey_45 => ?_)
        refine g_put (C := RX1) (T := TX1) (N := 18) hx hb hts (mc_ inX1) tyX1 tyX1_ok nmX1 hown hK g ma0_ ka0_ (by decide) rfl 14 (by decide) (hts _ (List.mem_cons_of_mem _ t_749)) (fun _ h9 => h9) rfl rfl (okV_i (bdT y_45)) rfl rfl (by decide) (Or.inr (Or.inl (by decide))) (fx' := [(1, 0, a0_, .ref q0_)]) rfl dX1_act_50 (fun f H locs hM_46 g => ?_)
        refine lv_aload_n hx hb dX1_act_53 rfl (lv_at hl 0 rfl) ?_
        refine lv_aload_n hx hb dX1_act_54 rfl (lv_at hl 0 rfl) ?_
        refine g_getk (C := RX1) (T := TX1) (N := 18) hx hb hts (mc_ inX1) hown hK g rfl 14 (by decide) rfl (hts _ (List.mem_cons_of_mem _ t_749)) (fun _ h9 => h9) 0 rfl dX1_act_55 ?_
        refine lv_sipush (v := 300) hx hb dX1_act_58 (by decide) ?_
        have kb_300 : bd 300 300 (300 : Int32) := ⟨by decide, by decide⟩
        refine lv_icmp_le (tgt := 68) hx hb dX1_act_61 (by decide) (fun c_47 => ?_) (fun c_47 => ?_)
        · have fc_47 := le_f c_47
          have b_48 : bd (-2147483648) 300 y_45 := leL fc_47 (bdT y_45) kb_300 (by decide)
          refine lv_aload_n hx hb dX1_act_68 rfl (lv_at hl 0 rfl) ?_
          refine g_geti (C := RX1) (T := TX1) (N := 18) hx hb hts (mc_ inX1) hown hK g ma0_ ka0_ (by decide) rfl 15 (by decide) rfl (hts _ (List.mem_cons_of_mem _ t_750)) (fun _ h9 => h9) rfl dX1_act_69 (fun x_49 bx_49 g => ?_)
          refine g_put (C := RX1) (T := TX1) (N := 18) hx hb hts (mc_ inX1) tyX1 tyX1_ok nmX1 hown hK g ma0_ ka0_ (by decide) rfl 15 (by decide) (hts _ (List.mem_cons_of_mem _ t_750)) (fun _ h9 => h9) rfl rfl (okV_i (bdT x_49)) rfl rfl (by decide) (Or.inr (Or.inl (by decide))) (fx' := [(1, 14, a0_, .int y_45), (1, 0, a0_, .ref q0_)]) rfl dX1_act_72 (fun f H locs hM_50 g => ?_)
          refine lv_goto (tgt := 155) hx hb dX1_act_75 (by decide) ?_
          subst hQ
          exact W.vret hx hb hr (fun t ht hW => ⟨⟨_, rfl, trivial, q3_of g hK ht hW⟩, g.2.2.1.F ht⟩) g.2.2.1.2.2 dX1_act_155
        · have fc_47 := nle_f c_47
          have b_51 : bd 301 2147483647 y_45 := ltR fc_47 kb_300 (bdT y_45) (by decide)
          refine lv_iconst (v := 3) hx hb dX1_act_64 (by decide) ?_
          refine lv_goto (tgt := 72) hx hb dX1_act_65 (by decide) ?_
          have kb_3 : bd 3 3 (3 : Int32) := ⟨by decide, by decide⟩
          refine g_put (C := RX1) (T := TX1) (N := 18) hx hb hts (mc_ inX1) tyX1 tyX1_ok nmX1 hown hK g ma0_ ka0_ (by decide) rfl 15 (by decide) (hts _ (List.mem_cons_of_mem _ t_750)) (fun _ h9 => h9) rfl rfl (okV_i (bd_sub kb_3 (by decide))) rfl rfl (by decide) (Or.inr (Or.inl (by decide))) (fx' := [(1, 14, a0_, .int y_45), (1, 0, a0_, .ref q0_)]) rfl dX1_act_72 (fun f H locs hM_52 g => ?_)
          refine lv_goto (tgt := 155) hx hb dX1_act_75 (by decide) ?_
          subst hQ
          exact W.vret hx hb hr (fun t ht hW => ⟨⟨_, rfl, trivial, q3_of g hK ht hW⟩, g.2.2.1.F ht⟩) g.2.2.1.2.2 dX1_act_155
      · have fc_43 := neq_f c_43
        have b_53 : bd 13 11 x1_ := neX fc_43 b_40 kb_12 (by decide)
        have b_54 : bd 0 (-1) x2_ := eqX rfl b_42 (cr400 hc_ b_53 (by decide)) (by decide)
        exact bd_no b_53 (by decide)
    · have fc_41 := nlt_f c_41
      have b_55 : bd 0 2147483647 x2_ := leR fc_41 kb_0 (bdT x2_) (by decide)
      refine lv_iload_n hx hb dX1_act_10 rfl (lv_at hl 2 rfl) ?_
      refine lv_aload_n hx hb dX1_act_11 rfl (lv_at hl 0 rfl) ?_
      refine g_getk (C := RX1) (T := TX1) (N := 18) hx hb hts (mc_ inX1) hown hK g rfl 0 (by decide) rfl (hts _ (List.mem_cons_of_mem _ t_735)) (fun _ h9 => h9) 0 rfl dX1_act_12 ?_
      refine g_geti (C := RX7) (T := TX7) (N := 19) hx hb hts (mc_ inX7) hown hK g mq0_ kq0_ (by decide) rfl 15 (by decide) rfl (hts _ (List.mem_cons_of_mem _ t_674)) (fun _ h9 => h9) rfl dX1_act_15 (fun x_56 bx_56 g => ?_)
      refine lv_icmp_ge (tgt := 31) hx hb dX1_act_18 (by decide) (fun c_57 => ?_) (fun c_57 => ?_)
      · have fc_57 := le_f c_57
        refine lv_iload_n hx hb dX1_act_31 rfl (lv_at hl 1 rfl) ?_
        refine lv_bipush (v := 12) hx hb dX1_act_32 (by decide) ?_
        refine lv_icmp_eq (tgt := 43) hx hb dX1_act_34 (by decide) (fun c_58 => ?_) (fun c_58 => ?_)
        · have fc_58 := eq_f c_58
          refine lv_aload_n hx hb dX1_act_43 rfl (lv_at hl 0 rfl) ?_
          refine lv_dup hx hb dX1_act_44 rfl ?_
          refine g_geti (C := RX1) (T := TX1) (N := 18) hx hb hts (mc_ inX1) hown hK g ma0_ ka0_ (by decide) rfl 14 (by decide) rfl (hts _ (List.mem_cons_of_mem _ t_749)) (fun _ h9 => h9) rfl dX1_act_45 (fun x_59 bx_59 g => ?_)
          refine lv_iconst (v := 1) hx hb dX1_act_48 (by decide) ?_
          have kb_1 : bd 1 1 (1 : Int32) := ⟨by decide, by decide⟩
          refine lv_iadd hx hb dX1_act_49 ?_
          refine lv_topi (fun y_60 ey_60 => ?_)
          refine g_put (C := RX1) (T := TX1) (N := 18) hx hb hts (mc_ inX1) tyX1 tyX1_ok nmX1 hown hK g ma0_ ka0_ (by decide) rfl 14 (by decide) (hts _ (List.mem_cons_of_mem _ t_749)) (fun _ h9 => h9) rfl rfl (okV_i (bdT y_60)) rfl rfl (by decide) (Or.inr (Or.inl (by decide))) (fx' := [(7, 15, q0_, .int x_56), (1, 0, a0_, .ref q0_)]) rfl dX1_act_50 (fun f H locs hM_61 g => ?_)
          refine lv_aload_n hx hb dX1_act_53 rfl (lv_at hl 0 rfl) ?_
          refine lv_aload_n hx hb dX1_act_54 rfl (lv_at hl 0 rfl) ?_
          refine g_getk (C := RX1) (T := TX1) (N := 18) hx hb hts (mc_ inX1) hown hK g rfl 14 (by decide) rfl (hts _ (List.mem_cons_of_mem _ t_749)) (fun _ h9 => h9) 0 rfl dX1_act_55 ?_
          refine lv_sipush (v := 300) hx hb dX1_act_58 (by decide) ?_
          have kb_300 : bd 300 300 (300 : Int32) := ⟨by decide, by decide⟩
          refine lv_icmp_le (tgt := 68) hx hb dX1_act_61 (by decide) (fun c_62 => ?_) (fun c_62 => ?_)
          · have fc_62 := le_f c_62
            have b_63 : bd (-2147483648) 300 y_60 := leL fc_62 (bdT y_60) kb_300 (by decide)
            refine lv_aload_n hx hb dX1_act_68 rfl (lv_at hl 0 rfl) ?_
            refine g_geti (C := RX1) (T := TX1) (N := 18) hx hb hts (mc_ inX1) hown hK g ma0_ ka0_ (by decide) rfl 15 (by decide) rfl (hts _ (List.mem_cons_of_mem _ t_750)) (fun _ h9 => h9) rfl dX1_act_69 (fun x_64 bx_64 g => ?_)
            refine g_put (C := RX1) (T := TX1) (N := 18) hx hb hts (mc_ inX1) tyX1 tyX1_ok nmX1 hown hK g ma0_ ka0_ (by decide) rfl 15 (by decide) (hts _ (List.mem_cons_of_mem _ t_750)) (fun _ h9 => h9) rfl rfl (okV_i (bdT x_64)) rfl rfl (by decide) (Or.inr (Or.inl (by decide))) (fx' := [(1, 14, a0_, .int y_60), (7, 15, q0_, .int x_56), (1, 0, a0_, .ref q0_)]) rfl dX1_act_72 (fun f H locs hM_65 g => ?_)
            refine lv_goto (tgt := 155) hx hb dX1_act_75 (by decide) ?_
            subst hQ
            exact W.vret hx hb hr (fun t ht hW => ⟨⟨_, rfl, trivial, q3_of g hK ht hW⟩, g.2.2.1.F ht⟩) g.2.2.1.2.2 dX1_act_155
          · have fc_62 := nle_f c_62
            have b_66 : bd 301 2147483647 y_60 := ltR fc_62 kb_300 (bdT y_60) (by decide)
            refine lv_iconst (v := 3) hx hb dX1_act_64 (by decide) ?_
            refine lv_goto (tgt := 72) hx hb dX1_act_65 (by decide) ?_
            have kb_3 : bd 3 3 (3 : Int32) := ⟨by decide, by decide⟩
            refine g_put (C := RX1) (T := TX1) (N := 18) hx hb hts (mc_ inX1) tyX1 tyX1_ok nmX1 hown hK g ma0_ ka0_ (by decide) rfl 15 (by decide) (hts _ (List.mem_cons_of_mem _ t_750)) (fun _ h9 => h9) rfl rfl (okV_i (bd_sub kb_3 (by decide))) rfl rfl (by decide) (Or.inr (Or.inl (by decide))) (fx' := [(1, 14, a0_, .int y_60), (7, 15, q0_, .int x_56), (1, 0, a0_, .ref q0_)]) rfl dX1_act_72 (fun f H locs hM_67 g => ?_)
            refine lv_goto (tgt := 155) hx hb dX1_act_75 (by decide) ?_
            subst hQ
            exact W.vret hx hb hr (fun t ht hW => ⟨⟨_, rfl, trivial, q3_of g hK ht hW⟩, g.2.2.1.F ht⟩) g.2.2.1.2.2 dX1_act_155
        · have fc_58 := neq_f c_58
          have b_68 : bd 13 11 x1_ := neX fc_58 b_40 kb_12 (by decide)
          have b_69 : bd 0 400 x2_ := eqX rfl b_55 (cr400 hc_ b_68 (by decide)) (by decide)
          exact bd_no b_68 (by decide)
      · have fc_57 := nle_f c_57
        have b_70 : bd 0 419 x2_ := ltL fc_57 b_55 bx_56 (by decide)
        have b_71 : bd 1 420 x_56 := ltR fc_57 b_55 bx_56 (by decide)
        refine lv_aload_n hx hb dX1_act_21 rfl (lv_at hl 0 rfl) ?_
        refine g_getk (C := RX1) (T := TX1) (N := 18) hx hb hts (mc_ inX1) hown hK g rfl 0 (by decide) rfl (hts _ (List.mem_cons_of_mem _ t_735)) (fun _ h9 => h9) 1 rfl dX1_act_22 ?_
        refine g_getr (K := 146) (C := RX7) (T := TX7) (N := 19) hx hb hts (mc_ inX7) hown hK g mq0_ kq0_ (by decide) rfl 14 (by decide) rfl (hts _ (List.mem_cons_of_mem _ t_672)) (fun _ h9 => h9) rfl dX1_act_25 (fun a_72 ma_72 ka_72 g => ?_)
        refine lv_iload_n hx hb dX1_act_28 rfl (lv_at hl 2 rfl) ?_
        refine lv_iconst (v := 1) hx hb dX1_act_29 (by decide) ?_
        have kb_1 : bd 1 1 (1 : Int32) := ⟨by decide, by decide⟩
        refine g_zast hx hb hK g ma_72 ka_72 (by decide) rfl (in_bd b_70 (by decide)) (bd_sub kb_1 (by decide)) (by decide) dX1_act_30 (fun f H locs hM_73 g => ?_)
        refine lv_iload_n hx hb dX1_act_31 rfl (lv_at hl 1 rfl) ?_
        refine lv_bipush (v := 12) hx hb dX1_act_32 (by decide) ?_
        refine lv_icmp_eq (tgt := 43) hx hb dX1_act_34 (by decide) (fun c_74 => ?_) (fun c_74 => ?_)
        · have fc_74 := eq_f c_74
          refine lv_aload_n hx hb dX1_act_43 rfl (lv_at hl 0 rfl) ?_
          refine lv_dup hx hb dX1_act_44 rfl ?_
          refine g_geti (C := RX1) (T := TX1) (N := 18) hx hb hts (mc_ inX1) hown hK g ma0_ ka0_ (by decide) rfl 14 (by decide) rfl (hts _ (List.mem_cons_of_mem _ t_749)) (fun _ h9 => h9) rfl dX1_act_45 (fun x_75 bx_75 g => ?_)
          refine lv_iconst (v := 1) hx hb dX1_act_48 (by decide) ?_
          refine lv_iadd hx hb dX1_act_49 ?_
          refine lv_topi (fun y_76 ey_76 => ?_)
          refine g_put (C := RX1) (T := TX1) (N := 18) hx hb hts (mc_ inX1) tyX1 tyX1_ok nmX1 hown hK g ma0_ ka0_ (by decide) rfl 14 (by decide) (hts _ (List.mem_cons_of_mem _ t_749)) (fun _ h9 => h9) rfl rfl (okV_i (bdT y_76)) rfl rfl (by decide) (Or.inr (Or.inl (by decide))) (fx' := [(7, 14, q0_, .ref a_72), (7, 15, q0_, .int x_56), (1, 0, a0_, .ref q0_)]) rfl dX1_act_50 (fun f H locs hM_77 g => ?_)
          refine lv_aload_n hx hb dX1_act_53 rfl (lv_at hl 0 rfl) ?_
          refine lv_aload_n hx hb dX1_act_54 rfl (lv_at hl 0 rfl) ?_
          refine g_getk (C := RX1) (T := TX1) (N := 18) hx hb hts (mc_ inX1) hown hK g rfl 14 (by decide) rfl (hts _ (List.mem_cons_of_mem _ t_749)) (fun _ h9 => h9) 0 rfl dX1_act_55 ?_
          refine lv_sipush (v := 300) hx hb dX1_act_58 (by decide) ?_
          have kb_300 : bd 300 300 (300 : Int32) := ⟨by decide, by decide⟩
          refine lv_icmp_le (tgt := 68) hx hb dX1_act_61 (by decide) (fun c_78 => ?_) (fun c_78 => ?_)
          · have fc_78 := le_f c_78
            have b_79 : bd (-2147483648) 300 y_76 := leL fc_78 (bdT y_76) kb_300 (by decide)
            refine lv_aload_n hx hb dX1_act_68 rfl (lv_at hl 0 rfl) ?_
            refine g_geti (C := RX1) (T := TX1) (N := 18) hx hb hts (mc_ inX1) hown hK g ma0_ ka0_ (by decide) rfl 15 (by decide) rfl (hts _ (List.mem_cons_of_mem _ t_750)) (fun _ h9 => h9) rfl dX1_act_69 (fun x_80 bx_80 g => ?_)
            refine g_put (C := RX1) (T := TX1) (N := 18) hx hb hts (mc_ inX1) tyX1 tyX1_ok nmX1 hown hK g ma0_ ka0_ (by decide) rfl 15 (by decide) (hts _ (List.mem_cons_of_mem _ t_750)) (fun _ h9 => h9) rfl rfl (okV_i (bdT x_80)) rfl rfl (by decide) (Or.inr (Or.inl (by decide))) (fx' := [(1, 14, a0_, .int y_76), (7, 14, q0_, .ref a_72), (7, 15, q0_, .int x_56), (1, 0, a0_, .ref q0_)]) rfl dX1_act_72 (fun f H locs hM_81 g => ?_)
            refine lv_goto (tgt := 155) hx hb dX1_act_75 (by decide) ?_
            subst hQ
            exact W.vret hx hb hr (fun t ht hW => ⟨⟨_, rfl, trivial, q3_of g hK ht hW⟩, g.2.2.1.F ht⟩) g.2.2.1.2.2 dX1_act_155
          · have fc_78 := nle_f c_78
            have b_82 : bd 301 2147483647 y_76 := ltR fc_78 kb_300 (bdT y_76) (by decide)
            refine lv_iconst (v := 3) hx hb dX1_act_64 (by decide) ?_
            refine lv_goto (tgt := 72) hx hb dX1_act_65 (by decide) ?_
            have kb_3 : bd 3 3 (3 : Int32) := ⟨by decide, by decide⟩
            refine g_put (C := RX1) (T := TX1) (N := 18) hx hb hts (mc_ inX1) tyX1 tyX1_ok nmX1 hown hK g ma0_ ka0_ (by decide) rfl 15 (by decide) (hts _ (List.mem_cons_of_mem _ t_750)) (fun _ h9 => h9) rfl rfl (okV_i (bd_sub kb_3 (by decide))) rfl rfl (by decide) (Or.inr (Or.inl (by decide))) (fx' := [(1, 14, a0_, .int y_76), (7, 14, q0_, .ref a_72), (7, 15, q0_, .int x_56), (1, 0, a0_, .ref q0_)]) rfl dX1_act_72 (fun f H locs hM_83 g => ?_)
            refine lv_goto (tgt := 155) hx hb dX1_act_75 (by decide) ?_
            subst hQ
            exact W.vret hx hb hr (fun t ht hW => ⟨⟨_, rfl, trivial, q3_of g hK ht hW⟩, g.2.2.1.F ht⟩) g.2.2.1.2.2 dX1_act_155
        · have fc_74 := neq_f c_74
          have b_84 : bd 13 11 x1_ := neX fc_74 b_40 kb_12 (by decide)
          have b_85 : bd 0 400 x2_ := eqX rfl b_70 (cr400 hc_ b_84 (by decide)) (by decide)
          exact bd_no b_84 (by decide)
set_option maxHeartbeats 4000000 in
set_option maxRecDepth 100000 in
theorem r_X1_fetch (l : Launch) (dC : Nat → ClassId) (dI : Nat → Nat → Nat) (L : List Nat) (kd : Nat → Nat) (tys : List (ClassId × FieldType)) (f0 : Nat → va_E) (sz : Nat) (hWT : WT L kd tys f0) (a0_ : Nat) (ma0_ : a0_ ∈ L) (ka0_ : kd a0_ = 1) (x1_ : Int32) (x2_ : Int32) (hc_ : crel x1_ x2_) : Met l yX1_fetch (.code yX1_fetch cX1_fetch 4 (some .int) :: lw_g) ({ frames := 0, cells := 0, slots := 0, locals := 0 }) (va_Pc [.ref a0_, .int x1_, .int x2_] (P3 (dC, dI) L tys f0 sz)) (va_Qi (fun (r : Int32) (f : Nat → va_E) => (True)) (Q3 (dC, dI) L kd tys [] [] f0 sz) (pA L sz)) 0 0 (pA L sz) := by
  refine Met.ofW (cc := cX1_fetch) (maxL := 4) (ret := (some .int)) (by decide) rfl ?_
  intro p e s m args below meth c s₁ B hml hv
  obtain ⟨rfl, hsz, hP, hK, hD0⟩ := hv
  have hx := B.exec
  have hb := B.bytes
  have hr := B.returns
  have hts := atoms_spec (ws := (.code yX1_fetch cX1_fetch 4 (some .int) :: lw_g)) B.pre
  have hown : s.vm.findClass RX1 = some m.cls := findClass_of_methodNamed B.named
  have hlocks := B.notSynchronized
  subst hsz
  have g : G3 (dC, dI) L kd tys s f0 [] [] f0 s.heap [] [] := G3.start hP hD0 hWT Fs.nil
  have hl := lv_entry ([.ref a0_, .int x1_, .int x2_]) (n := 4) (Nat.le_of_ble_eq_true rfl)
  rw [lg_entry_eq]
  generalize (lg_sl ([.ref a0_, .int x1_, .int x2_]) ++ List.replicate (4 - (lg_sl ([.ref a0_, .int x1_, .int x2_])).length) Slot.unset).toArray = ls at hl ⊢
  have hl : lv_has ls 4 [(0, .ref a0_), (1, .int x1_), (2, .int x2_)] := hl
  refine W_q (fun Q hQ => ?_)
  refine lv_iload_n hx hb dX1_fetch_0 rfl (lv_at hl 2 rfl) ?_
  refine lv_iconst (v := 4) hx hb dX1_fetch_1 (by decide) ?_
  have kb_4 : bd 4 4 (4 : Int32) := ⟨by decide, by decide⟩
  refine lv_ishr hx hb dX1_fetch_2 ?_
  refine lv_topi (fun y_1 ey_1 => ?_)
  have b_2 : bd (-134217728) 134217727 y_1 := shr_rg ey_1 (bdT x2_) kb_4 (by decide)
  refine lv_istore_n (lv' := [(3, .int y_1), (0, .ref a0_), (1, .int x1_), (2, .int x2_)]) hx hb dX1_fetch_3 rfl hl (by decide) rfl (fun ls hl => ?_)
  refine lv_iload_n hx hb dX1_fetch_4 rfl (lv_at hl 2 rfl) ?_
  by_cases e_3 : x1_ = 1
  · refine lv_topi (fun z_4 ez_4 => ?_)
    obtain rfl : z_4 = 1 := ez_4.trans e_3
    have kb_1 : bd 1 1 (1 : Int32) := ⟨by decide, by decide⟩
    have b_5 : bd 1 1 x1_ := eqX (eq_f e_3) (bdT x1_) kb_1 (by decide)
    refine lv_tableIn (off := 31) (tgt := 36) hx hb dX1_fetch_5 (by decide) (by decide) rfl (by decide) ?_
    refine lv_iload_n hx hb dX1_fetch_36 rfl (lv_at hl 3 rfl) ?_
    subst hQ
    exact W.iret (v := x2_) hx hb hr (fun t ht hW => ⟨⟨_, _, rfl, trivial, q3_of g hK ht hW⟩, g.2.2.1.F ht⟩) g.2.2.1.2.2 dX1_fetch_37
  by_cases e_6 : x1_ = 2
  · refine lv_topi (fun z_7 ez_7 => ?_)
    obtain rfl : z_7 = 2 := ez_7.trans e_6
    have kb_2 : bd 2 2 (2 : Int32) := ⟨by decide, by decide⟩
    have b_8 : bd 2 2 x1_ := eqX (eq_f e_6) (bdT x1_) kb_2 (by decide)
    have b_9 : bd 0 10 x2_ := eqX rfl (bdT x2_) (cr10 hc_ b_8 (by decide)) (by decide)
    have b_10 : bd 0 0 y_1 := eqX rfl b_2 (shr_rg (lo := 0) (hi := 0) ey_1 b_9 kb_4 (by decide)) (by decide)
    refine lv_tableIn (off := 33) (tgt := 38) hx hb dX1_fetch_5 (by decide) (by decide) rfl (by decide) ?_
    refine lv_aload_n hx hb dX1_fetch_38 rfl (lv_at hl 1 rfl) ?_
    refine g_getr (K := 116) (C := RX1) (T := TX1) (N := 18) hx hb hts (mc_ inX1) hown hK g ma0_ ka0_ (by decide) rfl 9 (by decide) rfl (hts _ (List.mem_cons_of_mem _ t_744)) (fun _ h9 => h9) rfl dX1_fetch_39 (fun a_11 ma_11 ka_11 g => ?_)
    refine lv_aload_n hx hb dX1_fetch_42 rfl (lv_at hl 1 rfl) ?_
    refine g_geti (C := RX1) (T := TX1) (N := 18) hx hb hts (mc_ inX1) hown hK g ma0_ ka0_ (by decide) rfl 11 (by decide) rfl (hts _ (List.mem_cons_of_mem _ t_746)) (fun _ h9 => h9) rfl dX1_fetch_43 (fun x_12 bx_12 g => ?_)
    refine lv_bipush (v := 11) hx hb dX1_fetch_46 (by decide) ?_
    refine lv_imul hx hb dX1_fetch_48 ?_
    refine lv_topi (fun y_13 ey_13 => ?_)
    have ty_13 := mulc_bd ey_13 (c := 11) (by decide) bx_12 (by decide)
    have b_14 : bd 0 220 y_13 := mulc_rg ty_13 bx_12 (by decide)
    refine lv_iload_n hx hb dX1_fetch_49 rfl (lv_at hl 3 rfl) ?_
    refine lv_iadd hx hb dX1_fetch_50 ?_
    refine lv_topi (fun y_15 ey_15 => ?_)
    have ty_15 := add_bd ey_15 b_14 b_9 (by decide)
    have b_16 : bd 0 230 y_15 := add_rg ty_15 b_14 b_9 (by decide)
    refine g_iald hx hb hK g ma_11 ka_11 (by decide) rfl (in_bd b_16 (by decide)) dX1_fetch_51 (fun x_17 bx_17 cx_17 => ?_)
    subst hQ
    exact W.iret (v := x_17) hx hb hr (fun t ht hW => ⟨⟨_, _, rfl, trivial, q3_of g hK ht hW⟩, g.2.2.1.F ht⟩) g.2.2.1.2.2 dX1_fetch_52
  by_cases e_18 : x1_ = 3
  · refine lv_topi (fun z_19 ez_19 => ?_)
    obtain rfl : z_19 = 3 := ez_19.trans e_18
    have kb_3 : bd 3 3 (3 : Int32) := ⟨by decide, by decide⟩
    have b_20 : bd 3 3 x1_ := eqX (eq_f e_18) (bdT x1_) kb_3 (by decide)
    have b_21 : bd 0 400 x2_ := eqX rfl (bdT x2_) (cr400 hc_ b_20 (by decide)) (by decide)
    have b_22 : bd 0 25 y_1 := eqX rfl b_2 (shr_rg (lo := 0) (hi := 25) ey_1 b_21 kb_4 (by decide)) (by decide)
    refine lv_tableIn (off := 48) (tgt := 53) hx hb dX1_fetch_5 (by decide) (by decide) rfl (by decide) ?_
    refine lv_iload_n hx hb dX1_fetch_53 rfl (lv_at hl 0 rfl) ?_
    refine lv_aload_n hx hb dX1_fetch_54 rfl (lv_at hl 1 rfl) ?_
    refine g_getu (lo := 100) (hi := 102) (C := RX1) (T := TX1) (N := 18) hx hb hts (mc_ inX1) hown hK g ma0_ ka0_ (by decide) rfl 2 (by decide) rfl (hts _ (List.mem_cons_of_mem _ t_737)) (fun _ h9 => h9) rfl dX1_fetch_55 (fun a_23 ma_23 ka_23 g => ?_)
    refine g_alenU hx hb hK g ma_23 (by have h9 := ka_23; omega) dX1_fetch_58 (fun x_24 ex_24 bx_24 => ?_)
    refine lv_icmp_ge (tgt := 71) hx hb dX1_fetch_59 (by decide) (fun c_25 => ?_) (fun c_25 => ?_)
    · have fc_25 := le_f c_25
      have b_26 : bd 3 25 x_24 := leL fc_25 bx_24 b_22 (by decide)
      have b_27 : bd 3 25 y_1 := leR fc_25 bx_24 b_22 (by decide)
      refine lv_iconst (v := 0) hx hb dX1_fetch_71 (by decide) ?_
      subst hQ
      exact W.iret (v := 0) hx hb hr (fun t ht hW => ⟨⟨_, _, rfl, trivial, q3_of g hK ht hW⟩, g.2.2.1.F ht⟩) g.2.2.1.2.2 dX1_fetch_72
    · have fc_25 := nle_f c_25
      refine lv_aload_n hx hb dX1_fetch_62 rfl (lv_at hl 1 rfl) ?_
      refine g_getk (C := RX1) (T := TX1) (N := 18) hx hb hts (mc_ inX1) hown hK g rfl 2 (by decide) rfl (hts _ (List.mem_cons_of_mem _ t_737)) (fun _ h9 => h9) 0 rfl dX1_fetch_63 ?_
      refine lv_iload_n hx hb dX1_fetch_66 rfl (lv_at hl 0 rfl) ?_
      refine g_ialdU hx hb hK g ma_23 (by have h9 := ka_23; omega) (in_ok (by have h9 := b_22; unfold bd at h9; omega) (by omega)) dX1_fetch_67 (fun x_28 => ?_)
      refine lv_goto (tgt := 72) hx hb dX1_fetch_68 (by decide) ?_
      subst hQ
      exact W.iret (v := x_28) hx hb hr (fun t ht hW => ⟨⟨_, _, rfl, trivial, q3_of g hK ht hW⟩, g.2.2.1.F ht⟩) g.2.2.1.2.2 dX1_fetch_72
  by_cases e_29 : x1_ = 4
  · refine lv_topi (fun z_30 ez_30 => ?_)
    obtain rfl : z_30 = 4 := ez_30.trans e_29
    have b_31 : bd 4 4 x1_ := eqX (eq_f e_29) (bdT x1_) kb_4 (by decide)
    have b_32 : bd 0 400 x2_ := eqX rfl (bdT x2_) (cr400 hc_ b_31 (by decide)) (by decide)
    have b_33 : bd 0 25 y_1 := eqX rfl b_2 (shr_rg (lo := 0) (hi := 25) ey_1 b_32 kb_4 (by decide)) (by decide)
    refine lv_tableIn (off := 68) (tgt := 73) hx hb dX1_fetch_5 (by decide) (by decide) rfl (by decide) ?_
    refine lv_iload_n hx hb dX1_fetch_73 rfl (lv_at hl 0 rfl) ?_
    refine lv_aload_n hx hb dX1_fetch_74 rfl (lv_at hl 1 rfl) ?_
    refine g_getu (lo := 100) (hi := 102) (C := RX1) (T := TX1) (N := 18) hx hb hts (mc_ inX1) hown hK g ma0_ ka0_ (by decide) rfl 3 (by decide) rfl (hts _ (List.mem_cons_of_mem _ t_738)) (fun _ h9 => h9) rfl dX1_fetch_75 (fun a_34 ma_34 ka_34 g => ?_)
    refine g_alenU hx hb hK g ma_34 (by have h9 := ka_34; omega) dX1_fetch_78 (fun x_35 ex_35 bx_35 => ?_)
    refine lv_icmp_ge (tgt := 91) hx hb dX1_fetch_79 (by decide) (fun c_36 => ?_) (fun c_36 => ?_)
    · have fc_36 := le_f c_36
      have b_37 : bd 3 25 x_35 := leL fc_36 bx_35 b_33 (by decide)
      have b_38 : bd 3 25 y_1 := leR fc_36 bx_35 b_33 (by decide)
      refine lv_iconst (v := 0) hx hb dX1_fetch_91 (by decide) ?_
      subst hQ
      exact W.iret (v := 0) hx hb hr (fun t ht hW => ⟨⟨_, _, rfl, trivial, q3_of g hK ht hW⟩, g.2.2.1.F ht⟩) g.2.2.1.2.2 dX1_fetch_92
    · have fc_36 := nle_f c_36
      refine lv_aload_n hx hb dX1_fetch_82 rfl (lv_at hl 1 rfl) ?_
      refine g_getk (C := RX1) (T := TX1) (N := 18) hx hb hts (mc_ inX1) hown hK g rfl 3 (by decide) rfl (hts _ (List.mem_cons_of_mem _ t_738)) (fun _ h9 => h9) 0 rfl dX1_fetch_83 ?_
      refine lv_iload_n hx hb dX1_fetch_86 rfl (lv_at hl 0 rfl) ?_
      refine g_ialdU hx hb hK g ma_34 (by have h9 := ka_34; omega) (in_ok (by have h9 := b_33; unfold bd at h9; omega) (by omega)) dX1_fetch_87 (fun x_39 => ?_)
      refine lv_goto (tgt := 92) hx hb dX1_fetch_88 (by decide) ?_
      subst hQ
      exact W.iret (v := x_39) hx hb hr (fun t ht hW => ⟨⟨_, _, rfl, trivial, q3_of g hK ht hW⟩, g.2.2.1.F ht⟩) g.2.2.1.2.2 dX1_fetch_92
  refine lv_tableOut (tgt := 93) hx hb dX1_fetch_5 (by have a0 : x1_.toInt ≠ 1 := fun h => e_3 (Int32.toInt_inj.mp (h.trans (by decide))); have a1 : x1_.toInt ≠ 2 := fun h => e_6 (Int32.toInt_inj.mp (h.trans (by decide))); have a2 : x1_.toInt ≠ 3 := fun h => e_18 (Int32.toInt_inj.mp (h.trans (by decide))); have a3 : x1_.toInt ≠ 4 := fun h => e_29 (Int32.toInt_inj.mp (h.trans (by decide))); omega) (by decide) ?_
  refine lv_aload_n hx hb dX1_fetch_93 rfl (lv_at hl 1 rfl) ?_
  refine g_geti (C := RX1) (T := TX1) (N := 18) hx hb hts (mc_ inX1) hown hK g ma0_ ka0_ (by decide) rfl 6 (by decide) rfl (hts _ (List.mem_cons_of_mem _ t_741)) (fun _ h9 => h9) rfl dX1_fetch_94 (fun x_40 bx_40 g => ?_)
  subst hQ
  exact W.iret (v := x_40) hx hb hr (fun t ht hW => ⟨⟨_, _, rfl, trivial, q3_of g hK ht hW⟩, g.2.2.1.F ht⟩) g.2.2.1.2.2 dX1_fetch_97
set_option maxHeartbeats 4000000 in
set_option maxRecDepth 100000 in
theorem r_X1_enter_7 (l : Launch) (dC : Nat → ClassId) (dI : Nat → Nat → Nat) (L : List Nat) (kd : Nat → Nat) (tys : List (ClassId × FieldType)) (f0 : Nat → va_E) (sz : Nat) (hWT : WT L kd tys f0) (a0_ : Nat) (ma0_ : a0_ ∈ L) (ka0_ : kd a0_ = 1) (x1_ : Int32) (q0_ : Nat) (mq0_ : q0_ ∈ L) (kq0_ : kd q0_ = 7) (hfx : Fs L kd f0 [(1, 0, a0_, .ref q0_)]) : Met l yX1_enter (.code yX1_enter cX1_enter 4 none :: lw_g) ({ frames := 0, cells := 0, slots := 0, locals := 0 }) (va_Pc [.ref a0_, .int x1_] (P3 (dC, dI) L tys f0 sz)) (va_Qv (fun (f : Nat → va_E) => (True)) (Q3 (dC, dI) L kd tys [(1, 8), (1, 11), (1, 13), (1, 15)] [116, 117] f0 sz) (pA L sz)) 0 0 (pA L sz) := by
  refine Met.ofW (cc := cX1_enter) (maxL := 4) (ret := none) (by decide) rfl ?_
  intro p e s m args below meth c s₁ B hml hv
  obtain ⟨rfl, hsz, hP, hK, hD0⟩ := hv
  have hx := B.exec
  have hb := B.bytes
  have hr := B.returns
  have hts := atoms_spec (ws := (.code yX1_enter cX1_enter 4 none :: lw_g)) B.pre
  have hown : s.vm.findClass RX1 = some m.cls := findClass_of_methodNamed B.named
  have hlocks := B.notSynchronized
  subst hsz
  have g : G3 (dC, dI) L kd tys s f0 [(1, 8), (1, 11), (1, 13), (1, 15)] [116, 117] f0 s.heap [] [(1, 0, a0_, .ref q0_)] := G3.start hP hD0 hWT hfx
  have hl := lv_entry ([.ref a0_, .int x1_]) (n := 4) (Nat.le_of_ble_eq_true rfl)
  rw [lg_entry_eq]
  generalize (lg_sl ([.ref a0_, .int x1_]) ++ List.replicate (4 - (lg_sl ([.ref a0_, .int x1_])).length) Slot.unset).toArray = ls at hl ⊢
  have hl : lv_has ls 4 [(0, .ref a0_), (1, .int x1_)] := hl
  refine W_q (fun Q hQ => ?_)
  refine lv_aload_n hx hb dX1_enter_0 rfl (lv_at hl 0 rfl) ?_
  refine g_geti (C := RX1) (T := TX1) (N := 18) hx hb hts (mc_ inX1) hown hK g ma0_ ka0_ (by decide) rfl 11 (by decide) rfl (hts _ (List.mem_cons_of_mem _ t_746)) (fun _ h9 => h9) rfl dX1_enter_1 (fun x_1 bx_1 g => ?_)
  refine lv_bipush (v := 20) hx hb dX1_enter_4 (by decide) ?_
  have kb_20 : bd 20 20 (20 : Int32) := ⟨by decide, by decide⟩
  refine lv_icmp_ge (tgt := 24) hx hb dX1_enter_6 (by decide) (fun c_2 => ?_) (fun c_2 => ?_)
  · have fc_2 := le_f c_2
    have b_3 : bd 20 20 x_1 := leR fc_2 kb_20 bx_1 (by decide)
    refine lv_aload_n hx hb dX1_enter_24 rfl (lv_at hl 0 rfl) ?_
    refine lv_iconst (v := 3) hx hb dX1_enter_25 (by decide) ?_
    have kb_3 : bd 3 3 (3 : Int32) := ⟨by decide, by decide⟩
    refine g_put (C := RX1) (T := TX1) (N := 18) hx hb hts (mc_ inX1) tyX1 tyX1_ok nmX1 hown hK g ma0_ ka0_ (by decide) rfl 15 (by decide) (hts _ (List.mem_cons_of_mem _ t_750)) (fun _ h9 => h9) rfl rfl (okV_i (bd_sub kb_3 (by decide))) rfl rfl (by decide) (Or.inr (Or.inl (by decide))) (fx' := [(1, 11, a0_, .int x_1), (1, 0, a0_, .ref q0_)]) rfl dX1_enter_26 (fun f H locs hM_4 g => ?_)
    subst hQ
    exact W.vret hx hb hr (fun t ht hW => ⟨⟨_, rfl, trivial, q3_of g hK ht hW⟩, g.2.2.1.F ht⟩) g.2.2.1.2.2 dX1_enter_29
  · have fc_2 := nle_f c_2
    have b_5 : bd 0 19 x_1 := ltL fc_2 bx_1 kb_20 (by decide)
    refine lv_iload_n hx hb dX1_enter_9 rfl (lv_at hl 1 rfl) ?_
    have kb_0 : bd 0 0 (0 : Int32) := ⟨by decide, by decide⟩
    refine lv_if_lt (tgt := 24) hx hb dX1_enter_10 (by decide) (fun c_6 => ?_) (fun c_6 => ?_)
    · have fc_6 := lt_f c_6
      have b_7 : bd (-2147483648) (-1) x1_ := ltL fc_6 (bdT x1_) kb_0 (by decide)
      refine lv_aload_n hx hb dX1_enter_24 rfl (lv_at hl 0 rfl) ?_
      refine lv_iconst (v := 3) hx hb dX1_enter_25 (by decide) ?_
      have kb_3 : bd 3 3 (3 : Int32) := ⟨by decide, by decide⟩
      refine g_put (C := RX1) (T := TX1) (N := 18) hx hb hts (mc_ inX1) tyX1 tyX1_ok nmX1 hown hK g ma0_ ka0_ (by decide) rfl 15 (by decide) (hts _ (List.mem_cons_of_mem _ t_750)) (fun _ h9 => h9) rfl rfl (okV_i (bd_sub kb_3 (by decide))) rfl rfl (by decide) (Or.inr (Or.inl (by decide))) (fx' := [(1, 11, a0_, .int x_1), (1, 0, a0_, .ref q0_)]) rfl dX1_enter_26 (fun f H locs hM_8 g => ?_)
      subst hQ
      exact W.vret hx hb hr (fun t ht hW => ⟨⟨_, rfl, trivial, q3_of g hK ht hW⟩, g.2.2.1.F ht⟩) g.2.2.1.2.2 dX1_enter_29
    · have fc_6 := nlt_f c_6
      have b_9 : bd 0 2147483647 x1_ := leR fc_6 kb_0 (bdT x1_) (by decide)
      refine lv_iload_n hx hb dX1_enter_13 rfl (lv_at hl 1 rfl) ?_
      refine lv_aload_n hx hb dX1_enter_14 rfl (lv_at hl 0 rfl) ?_
      refine g_getk (C := RX1) (T := TX1) (N := 18) hx hb hts (mc_ inX1) hown hK g rfl 0 (by decide) rfl (hts _ (List.mem_cons_of_mem _ t_735)) (fun _ h9 => h9) 1 rfl dX1_enter_15 ?_
      refine g_geti (C := RX7) (T := TX7) (N := 19) hx hb hts (mc_ inX7) hown hK g mq0_ kq0_ (by decide) rfl 3 (by decide) rfl (hts _ (List.mem_cons_of_mem _ t_637)) (fun _ h9 => h9) rfl dX1_enter_18 (fun x_10 bx_10 g => ?_)
      refine lv_icmp_lt (tgt := 30) hx hb dX1_enter_21 (by decide) (fun c_11 => ?_) (fun c_11 => ?_)
      · have fc_11 := lt_f c_11
        have b_12 : bd 0 95 x1_ := ltL fc_11 b_9 bx_10 (by decide)
        have b_13 : bd 1 96 x_10 := ltR fc_11 b_9 bx_10 (by decide)
        refine lv_aload_n hx hb dX1_enter_30 rfl (lv_at hl 0 rfl) ?_
        refine g_getk (C := RX1) (T := TX1) (N := 18) hx hb hts (mc_ inX1) hown hK g rfl 0 (by decide) rfl (hts _ (List.mem_cons_of_mem _ t_735)) (fun _ h9 => h9) 2 rfl dX1_enter_31 ?_
        refine g_getr (K := 137) (C := RX7) (T := TX7) (N := 19) hx hb hts (mc_ inX7) hown hK g mq0_ kq0_ (by decide) rfl 2 (by decide) rfl (hts _ (List.mem_cons_of_mem _ t_635)) (fun _ h9 => h9) rfl dX1_enter_34 (fun a_14 ma_14 ka_14 g => ?_)
        refine lv_iload_n hx hb dX1_enter_37 rfl (lv_at hl 1 rfl) ?_
        refine g_aald hx hb hK g ma_14 ka_14 (by decide) rfl (by decide) (in_bd b_12 (by decide)) dX1_enter_38 (fun a_15 ma_15 ua_15 wa_15 => ?_)
        have ka_15 : kd a_15 = 6 := by omega
        refine lv_astore_n (lv' := [(2, .ref a_15), (0, .ref a0_), (1, .int x1_)]) hx hb dX1_enter_39 rfl hl (by decide) rfl (fun ls hl => ?_)
        refine lv_aload_n hx hb dX1_enter_40 rfl (lv_at hl 1 rfl) ?_
        refine lv_dup hx hb dX1_enter_41 rfl ?_
        refine g_getk (C := RX1) (T := TX1) (N := 18) hx hb hts (mc_ inX1) hown hK g rfl 11 (by decide) rfl (hts _ (List.mem_cons_of_mem _ t_746)) (fun _ h9 => h9) 2 rfl dX1_enter_42 ?_
        refine lv_iconst (v := 1) hx hb dX1_enter_45 (by decide) ?_
        have kb_1 : bd 1 1 (1 : Int32) := ⟨by decide, by decide⟩
        refine lv_iadd hx hb dX1_enter_46 ?_
        refine lv_topi (fun y_16 ey_16 => ?_)
        have ty_16 := add_bd ey_16 b_5 kb_1 (by decide)
        have b_17 : bd 1 20 y_16 := add_rg ty_16 b_5 kb_1 (by decide)
        refine g_put (C := RX1) (T := TX1) (N := 18) hx hb hts (mc_ inX1) tyX1 tyX1_ok nmX1 hown hK g ma0_ ka0_ (by decide) rfl 11 (by decide) (hts _ (List.mem_cons_of_mem _ t_746)) (fun _ h9 => h9) rfl rfl (okV_i (bd_sub b_17 (by decide))) rfl rfl (by decide) (Or.inr (Or.inl (by decide))) (fx' := [(7, 2, q0_, .ref a_14), (7, 3, q0_, .int x_10), (1, 0, a0_, .ref q0_)]) rfl dX1_enter_47 (fun f H locs hM_18 g => ?_)
        refine lv_aload_n hx hb dX1_enter_50 rfl (lv_at hl 1 rfl) ?_
        refine g_getr (K := 117) (C := RX1) (T := TX1) (N := 18) hx hb hts (mc_ inX1) hown hK g ma0_ ka0_ (by decide) rfl 10 (by decide) rfl (hts _ (List.mem_cons_of_mem _ t_745)) (fun _ h9 => h9) rfl dX1_enter_51 (fun a_19 ma_19 ka_19 g => ?_)
        refine lv_aload_n hx hb dX1_enter_54 rfl (lv_at hl 1 rfl) ?_
        refine g_getk (C := RX1) (T := TX1) (N := 18) hx hb hts (mc_ inX1) hown hK g rfl 11 (by decide) rfl (hts _ (List.mem_cons_of_mem _ t_746)) (fun _ h9 => h9) 1 rfl dX1_enter_55 ?_
        refine lv_aload_n hx hb dX1_enter_58 rfl (lv_at hl 1 rfl) ?_
        refine g_geti (C := RX1) (T := TX1) (N := 18) hx hb hts (mc_ inX1) hown hK g ma0_ ka0_ (by decide) rfl 13 (by decide) rfl (hts _ (List.mem_cons_of_mem _ t_748)) (fun _ h9 => h9) rfl dX1_enter_59 (fun x_20 bx_20 g => ?_)
        refine g_iast hx hb hK g ma_19 ka_19 (by decide) rfl (in_bd b_17 (by decide)) (bdT x_20) (by decide) dX1_enter_62 (fun f H locs hM_21 g => ?_)
        refine lv_aload_n hx hb dX1_enter_63 rfl (lv_at hl 1 rfl) ?_
        refine lv_aload_n hx hb dX1_enter_64 rfl (lv_at hl 0 rfl) ?_
        refine g_geti (C := RX6) (T := TX6) (N := 13) hx hb hts (mc_ inX6) hown hK g ma_15 ka_15 (by decide) rfl 8 (by decide) rfl (hts _ (List.mem_cons_of_mem _ t_582)) (fun _ h9 => h9) rfl dX1_enter_65 (fun x_22 bx_22 g => ?_)
        refine g_put (C := RX1) (T := TX1) (N := 18) hx hb hts (mc_ inX1) tyX1 tyX1_ok nmX1 hown hK g ma0_ ka0_ (by decide) rfl 13 (by decide) (hts _ (List.mem_cons_of_mem _ t_748)) (fun _ h9 => h9) rfl rfl (okV_i (bdT x_22)) rfl rfl (by decide) (Or.inr (Or.inl (by decide))) (fx' := [(6, 8, a_15, .int x_22), (1, 10, a0_, .ref a_19), (1, 11, a0_, .int y_16), (7, 2, q0_, .ref a_14), (7, 3, q0_, .int x_10), (1, 0, a0_, .ref q0_)]) rfl dX1_enter_68 (fun f H locs hM_23 g => ?_)
        refine lv_aload_n hx hb dX1_enter_71 rfl (lv_at hl 1 rfl) ?_
        refine lv_aload_n hx hb dX1_enter_72 rfl (lv_at hl 1 rfl) ?_
        refine g_geti (C := RX1) (T := TX1) (N := 18) hx hb hts (mc_ inX1) hown hK g ma0_ ka0_ (by decide) rfl 8 (by decide) rfl (hts _ (List.mem_cons_of_mem _ t_743)) (fun _ h9 => h9) rfl dX1_enter_73 (fun x_24 bx_24 g => ?_)
        refine lv_aload_n hx hb dX1_enter_76 rfl (lv_at hl 0 rfl) ?_
        refine g_geti (C := RX6) (T := TX6) (N := 13) hx hb hts (mc_ inX6) hown hK g ma_15 ka_15 (by decide) rfl 3 (by decide) rfl (hts _ (List.mem_cons_of_mem _ t_567)) (fun _ h9 => h9) rfl dX1_enter_77 (fun x_25 bx_25 g => ?_)
        refine lv_icmp_le (tgt := 95) hx hb dX1_enter_80 (by decide) (fun c_26 => ?_) (fun c_26 => ?_)
        · have fc_26 := le_f c_26
          have b_27 : bd 0 3 x_24 := leL fc_26 bx_24 bx_25 (by decide)
          refine lv_iconst (v := 0) hx hb dX1_enter_95 (by decide) ?_
          refine g_put (C := RX1) (T := TX1) (N := 18) hx hb hts (mc_ inX1) tyX1 tyX1_ok nmX1 hown hK g ma0_ ka0_ (by decide) rfl 8 (by decide) (hts _ (List.mem_cons_of_mem _ t_743)) (fun _ h9 => h9) rfl rfl (okV_i (bd_sub kb_0 (by decide))) rfl rfl (by decide) (Or.inr (Or.inl (by decide))) (fx' := [(6, 3, a_15, .int x_25), (1, 13, a0_, .int x_22), (6, 8, a_15, .int x_22), (1, 10, a0_, .ref a_19), (1, 11, a0_, .int y_16), (7, 2, q0_, .ref a_14), (7, 3, q0_, .int x_10), (1, 0, a0_, .ref q0_)]) rfl dX1_enter_96 (fun f H locs hM_28 g => ?_)
          refine lv_iconst (v := 0) hx hb dX1_enter_99 (by decide) ?_
          refine lv_istore_n (lv' := [(3, .int 0), (2, .ref a_15), (0, .ref a0_), (1, .int x1_)]) hx hb dX1_enter_100 rfl hl (by decide) rfl (fun ls hl => ?_)
          have loop_29 : ∀ (n : Nat) (v101_3 : Int32), bd 0 3 v101_3 → (3 - v101_3.toInt < (n : Int)) → ∀ (f : Nat → va_E) (H : Heap) (locs : List Loc) (ls : Array Slot), G3 (dC, dI) L kd tys s f0 [(1, 8), (1, 11), (1, 13), (1, 15)] [116, 117] f H locs [(1, 8, a0_, .int 0), (6, 3, a_15, .int x_25), (1, 13, a0_, .int x_22), (6, 8, a_15, .int x_22), (1, 10, a0_, .ref a_19), (1, 11, a0_, .int y_16), (7, 2, q0_, .ref a_14), (7, 3, q0_, .int x_10), (1, 0, a0_, .ref q0_)] → lv_has ls 4 [(3, .int v101_3), (2, .ref a_15), (0, .ref a0_), (1, .int x1_)] → W p l e ({ frames := 0, cells := 0, slots := 0, locals := 0 } : Room) s m [.ref a0_, .int x1_].toArray below meth c H locs 0 0 Q (F0 m 101 ls []) := by
            intro n101
            induction n101 with
            | zero =>
              intro v101_3 bv101_3 hm101 f H locs ls g  hl
              exact absurd hm101 (by have h9_v101_3 := bv101_3; unfold bd at h9_v101_3; omega)
            | succ n101 ih101 =>
              intro v101_3 bv101_3 hm101 f H locs ls g  hl
              refine lv_iload_n hx hb dX1_enter_101 rfl (lv_at hl 0 rfl) ?_
              refine lv_aload_n hx hb dX1_enter_102 rfl (lv_at hl 1 rfl) ?_
              refine g_getk (C := RX6) (T := TX6) (N := 13) hx hb hts (mc_ inX6) hown hK g rfl 3 (by decide) rfl (hts _ (List.mem_cons_of_mem _ t_567)) (fun _ h9 => h9) 1 rfl dX1_enter_103 ?_
              refine lv_icmp_ge (tgt := 140) hx hb dX1_enter_106 (by decide) (fun c_30 => ?_) (fun c_30 => ?_)
              · have fc_30 := le_f c_30
                subst hQ
                exact W.vret hx hb hr (fun t ht hW => ⟨⟨_, rfl, trivial, q3_of g hK ht hW⟩, g.2.2.1.F ht⟩) g.2.2.1.2.2 dX1_enter_140
              · have fc_30 := nle_f c_30
                have b_31 : bd 0 2 v101_3 := ltL fc_30 bv101_3 bx_25 (by decide)
                have b_32 : bd 1 3 x_25 := ltR fc_30 bv101_3 bx_25 (by decide)
                refine lv_aload_n hx hb dX1_enter_109 rfl (lv_at hl 2 rfl) ?_
                refine g_getr (K := 116) (C := RX1) (T := TX1) (N := 18) hx hb hts (mc_ inX1) hown hK g ma0_ ka0_ (by decide) rfl 9 (by decide) rfl (hts _ (List.mem_cons_of_mem _ t_744)) (fun _ h9 => h9) rfl dX1_enter_110 (fun a_33 ma_33 ka_33 g => ?_)
                refine lv_aload_n hx hb dX1_enter_113 rfl (lv_at hl 2 rfl) ?_
                refine g_getk (C := RX1) (T := TX1) (N := 18) hx hb hts (mc_ inX1) hown hK g rfl 11 (by decide) rfl (hts _ (List.mem_cons_of_mem _ t_746)) (fun _ h9 => h9) 6 rfl dX1_enter_114 ?_
                refine lv_bipush (v := 11) hx hb dX1_enter_117 (by decide) ?_
                refine lv_imul hx hb dX1_enter_119 ?_
                refine lv_topi (fun y_34 ey_34 => ?_)
                have ty_34 := mulc_bd ey_34 (c := 11) (by decide) b_17 (by decide)
                have b_35 : bd 11 220 y_34 := mulc_rg ty_34 b_17 (by decide)
                refine lv_iload_n hx hb dX1_enter_120 rfl (lv_at hl 0 rfl) ?_
                refine lv_iadd hx hb dX1_enter_121 ?_
                refine lv_topi (fun y_36 ey_36 => ?_)
                have ty_36 := add_bd ey_36 b_35 b_31 (by decide)
                have b_37 : bd 11 222 y_36 := add_rg ty_36 b_35 b_31 (by decide)
                refine lv_aload_n hx hb dX1_enter_122 rfl (lv_at hl 2 rfl) ?_
                refine g_getr (K := 100) (C := RX1) (T := TX1) (N := 18) hx hb hts (mc_ inX1) hown hK g ma0_ ka0_ (by decide) rfl 7 (by decide) rfl (hts _ (List.mem_cons_of_mem _ t_742)) (fun _ h9 => h9) rfl dX1_enter_123 (fun a_38 ma_38 ka_38 g => ?_)
                refine lv_aload_n hx hb dX1_enter_126 rfl (lv_at hl 2 rfl) ?_
                refine g_getk (C := RX1) (T := TX1) (N := 18) hx hb hts (mc_ inX1) hown hK g rfl 8 (by decide) rfl (hts _ (List.mem_cons_of_mem _ t_743)) (fun _ h9 => h9) 2 rfl dX1_enter_127 ?_
                refine lv_iload_n hx hb dX1_enter_130 rfl (lv_at hl 0 rfl) ?_
                refine lv_iadd hx hb dX1_enter_131 ?_
                refine lv_topi (fun y_39 ey_39 => ?_)
                have ty_39 := add_bd ey_39 kb_0 b_31 (by decide)
                have b_40 : bd 0 2 y_39 := add_rg ty_39 kb_0 b_31 (by decide)
                refine g_iald hx hb hK g ma_38 ka_38 (by decide) rfl (in_bd b_40 (by decide)) dX1_enter_132 (fun x_41 bx_41 cx_41 => ?_)
                refine g_iast hx hb hK g ma_33 ka_33 (by decide) rfl (in_bd b_37 (by decide)) (bdT x_41) (by decide) dX1_enter_133 (fun f H locs hM_42 g => ?_)
                obtain ⟨y_43, ey_43⟩ : ∃ z : Int32, z = v101_3 + 1 := ⟨_, rfl⟩
                refine lv_iinc (v := y_43) (lv' := [(3, .int y_43), (2, .ref a_15), (0, .ref a0_), (1, .int x1_)]) hx hb dX1_enter_134 hl (k := 0) rfl (by rw [ey_43]; rfl) (by decide) rfl (fun ls hl => ?_)
                have ty_43 := add_bd ey_43 b_31 kb_1 (by decide)
                have b_44 : bd 1 3 y_43 := add_rg ty_43 b_31 kb_1 (by decide)
                refine lv_goto (tgt := 101) hx hb dX1_enter_137 (by decide) ?_
                have hl9 := lv_sub hl [0, 1, 2, 3] (by rfl : lv_pick [(3, .int y_43), (2, .ref a_15), (0, .ref a0_), (1, .int x1_)] [0, 1, 2, 3] = [(3, .int y_43), (2, .ref a_15), (0, .ref a0_), (1, .int x1_)])
                have g9 := g.sub (fx' := [(1, 8, a0_, .int 0), (6, 3, a_15, .int x_25), (1, 13, a0_, .int x_22), (6, 8, a_15, .int x_22), (1, 10, a0_, .ref a_19), (1, 11, a0_, .int y_16), (7, 2, q0_, .ref a_14), (7, 3, q0_, .int x_10), (1, 0, a0_, .ref q0_)]) [2, 3, 4, 5, 6, 7, 8, 9, 10] rfl
                exact ih101  y_43 (bd_sub b_44 (by decide)) (by have h9_0 := b_44; unfold bd at h9_0; have h9_1 := bv101_3; unfold bd at h9_1; have h9_2 := kb_0; unfold bd at h9_2; have h9_3 := kb_1; unfold bd at h9_3; have h9_4 := kb_20; unfold bd at h9_4; omega) _ _ _ _ g9  hl9
          have hl9 := lv_sub hl [0, 1, 2, 3] (by rfl : lv_pick [(3, .int 0), (2, .ref a_15), (0, .ref a0_), (1, .int x1_)] [0, 1, 2, 3] = [(3, .int 0), (2, .ref a_15), (0, .ref a0_), (1, .int x1_)])
          have g9 := g.sub (fx' := [(1, 8, a0_, .int 0), (6, 3, a_15, .int x_25), (1, 13, a0_, .int x_22), (6, 8, a_15, .int x_22), (1, 10, a0_, .ref a_19), (1, 11, a0_, .int y_16), (7, 2, q0_, .ref a_14), (7, 3, q0_, .int x_10), (1, 0, a0_, .ref q0_)]) [0, 1, 2, 3, 4, 5, 6, 7, 8] rfl
          exact loop_29 (9) 0 (bd_sub kb_0 (by decide)) (by have h9_0 := kb_0; unfold bd at h9_0; have h9_1 := kb_1; unfold bd at h9_1; have h9_2 := kb_20; unfold bd at h9_2; omega) _ _ _ _ g9  hl9
        · have fc_26 := nle_f c_26
          have b_45 : bd 1 700 x_24 := ltR fc_26 bx_25 bx_24 (by decide)
          refine lv_aload_n hx hb dX1_enter_83 rfl (lv_at hl 1 rfl) ?_
          refine g_getk (C := RX1) (T := TX1) (N := 18) hx hb hts (mc_ inX1) hown hK g rfl 8 (by decide) rfl (hts _ (List.mem_cons_of_mem _ t_743)) (fun _ h9 => h9) 1 rfl dX1_enter_84 ?_
          refine lv_aload_n hx hb dX1_enter_87 rfl (lv_at hl 0 rfl) ?_
          refine g_getk (C := RX6) (T := TX6) (N := 13) hx hb hts (mc_ inX6) hown hK g rfl 3 (by decide) rfl (hts _ (List.mem_cons_of_mem _ t_567)) (fun _ h9 => h9) 0 rfl dX1_enter_88 ?_
          refine lv_isub hx hb dX1_enter_91 ?_
          refine lv_topi (fun y_46 ey_46 => ?_)
          have ty_46 := sub_bd ey_46 b_45 bx_25 (by decide)
          have b_47 : bd 1 700 y_46 := sub_rel1 ty_46 fc_26 b_45 bx_25 (by decide)
          refine lv_goto (tgt := 96) hx hb dX1_enter_92 (by decide) ?_
          refine g_put (C := RX1) (T := TX1) (N := 18) hx hb hts (mc_ inX1) tyX1 tyX1_ok nmX1 hown hK g ma0_ ka0_ (by decide) rfl 8 (by decide) (hts _ (List.mem_cons_of_mem _ t_743)) (fun _ h9 => h9) rfl rfl (okV_i (bd_sub b_47 (by decide))) rfl rfl (by decide) (Or.inr (Or.inl (by decide))) (fx' := [(6, 3, a_15, .int x_25), (1, 13, a0_, .int x_22), (6, 8, a_15, .int x_22), (1, 10, a0_, .ref a_19), (1, 11, a0_, .int y_16), (7, 2, q0_, .ref a_14), (7, 3, q0_, .int x_10), (1, 0, a0_, .ref q0_)]) rfl dX1_enter_96 (fun f H locs hM_48 g => ?_)
          refine lv_iconst (v := 0) hx hb dX1_enter_99 (by decide) ?_
          refine lv_istore_n (lv' := [(3, .int 0), (2, .ref a_15), (0, .ref a0_), (1, .int x1_)]) hx hb dX1_enter_100 rfl hl (by decide) rfl (fun ls hl => ?_)
          have loop_49 : ∀ (n : Nat) (v101_3 : Int32), bd 0 3 v101_3 → (3 - v101_3.toInt < (n : Int)) → ∀ (f : Nat → va_E) (H : Heap) (locs : List Loc) (ls : Array Slot), G3 (dC, dI) L kd tys s f0 [(1, 8), (1, 11), (1, 13), (1, 15)] [116, 117] f H locs [(1, 8, a0_, .int y_46), (6, 3, a_15, .int x_25), (1, 13, a0_, .int x_22), (6, 8, a_15, .int x_22), (1, 10, a0_, .ref a_19), (1, 11, a0_, .int y_16), (7, 2, q0_, .ref a_14), (7, 3, q0_, .int x_10), (1, 0, a0_, .ref q0_)] → lv_has ls 4 [(3, .int v101_3), (2, .ref a_15), (0, .ref a0_), (1, .int x1_)] → W p l e ({ frames := 0, cells := 0, slots := 0, locals := 0 } : Room) s m [.ref a0_, .int x1_].toArray below meth c H locs 0 0 Q (F0 m 101 ls []) := by
            intro n101
            induction n101 with
            | zero =>
              intro v101_3 bv101_3 hm101 f H locs ls g  hl
              exact absurd hm101 (by have h9_v101_3 := bv101_3; unfold bd at h9_v101_3; omega)
            | succ n101 ih101 =>
              intro v101_3 bv101_3 hm101 f H locs ls g  hl
              refine lv_iload_n hx hb dX1_enter_101 rfl (lv_at hl 0 rfl) ?_
              refine lv_aload_n hx hb dX1_enter_102 rfl (lv_at hl 1 rfl) ?_
              refine g_getk (C := RX6) (T := TX6) (N := 13) hx hb hts (mc_ inX6) hown hK g rfl 3 (by decide) rfl (hts _ (List.mem_cons_of_mem _ t_567)) (fun _ h9 => h9) 1 rfl dX1_enter_103 ?_
              refine lv_icmp_ge (tgt := 140) hx hb dX1_enter_106 (by decide) (fun c_50 => ?_) (fun c_50 => ?_)
              · have fc_50 := le_f c_50
                subst hQ
                exact W.vret hx hb hr (fun t ht hW => ⟨⟨_, rfl, trivial, q3_of g hK ht hW⟩, g.2.2.1.F ht⟩) g.2.2.1.2.2 dX1_enter_140
              · have fc_50 := nle_f c_50
                have b_51 : bd 0 2 v101_3 := ltL fc_50 bv101_3 bx_25 (by decide)
                have b_52 : bd 1 3 x_25 := ltR fc_50 bv101_3 bx_25 (by decide)
                refine lv_aload_n hx hb dX1_enter_109 rfl (lv_at hl 2 rfl) ?_
                refine g_getr (K := 116) (C := RX1) (T := TX1) (N := 18) hx hb hts (mc_ inX1) hown hK g ma0_ ka0_ (by decide) rfl 9 (by decide) rfl (hts _ (List.mem_cons_of_mem _ t_744)) (fun _ h9 => h9) rfl dX1_enter_110 (fun a_53 ma_53 ka_53 g => ?_)
                refine lv_aload_n hx hb dX1_enter_113 rfl (lv_at hl 2 rfl) ?_
                refine g_getk (C := RX1) (T := TX1) (N := 18) hx hb hts (mc_ inX1) hown hK g rfl 11 (by decide) rfl (hts _ (List.mem_cons_of_mem _ t_746)) (fun _ h9 => h9) 6 rfl dX1_enter_114 ?_
                refine lv_bipush (v := 11) hx hb dX1_enter_117 (by decide) ?_
                refine lv_imul hx hb dX1_enter_119 ?_
                refine lv_topi (fun y_54 ey_54 => ?_)
                have ty_54 := mulc_bd ey_54 (c := 11) (by decide) b_17 (by decide)
                have b_55 : bd 11 220 y_54 := mulc_rg ty_54 b_17 (by decide)
                refine lv_iload_n hx hb dX1_enter_120 rfl (lv_at hl 0 rfl) ?_
                refine lv_iadd hx hb dX1_enter_121 ?_
                refine lv_topi (fun y_56 ey_56 => ?_)
                have ty_56 := add_bd ey_56 b_55 b_51 (by decide)
                have b_57 : bd 11 222 y_56 := add_rg ty_56 b_55 b_51 (by decide)
                refine lv_aload_n hx hb dX1_enter_122 rfl (lv_at hl 2 rfl) ?_
                refine g_getr (K := 100) (C := RX1) (T := TX1) (N := 18) hx hb hts (mc_ inX1) hown hK g ma0_ ka0_ (by decide) rfl 7 (by decide) rfl (hts _ (List.mem_cons_of_mem _ t_742)) (fun _ h9 => h9) rfl dX1_enter_123 (fun a_58 ma_58 ka_58 g => ?_)
                refine lv_aload_n hx hb dX1_enter_126 rfl (lv_at hl 2 rfl) ?_
                refine g_getk (C := RX1) (T := TX1) (N := 18) hx hb hts (mc_ inX1) hown hK g rfl 8 (by decide) rfl (hts _ (List.mem_cons_of_mem _ t_743)) (fun _ h9 => h9) 2 rfl dX1_enter_127 ?_
                refine lv_iload_n hx hb dX1_enter_130 rfl (lv_at hl 0 rfl) ?_
                refine lv_iadd hx hb dX1_enter_131 ?_
                refine lv_topi (fun y_59 ey_59 => ?_)
                have ty_59 := add_bd ey_59 b_47 b_51 (by decide)
                have b_60 : bd 1 702 y_59 := add_rg ty_59 b_47 b_51 (by decide)
                refine g_iald hx hb hK g ma_58 ka_58 (by decide) rfl (in_ok (by have h9_0 := b_51; unfold bd at h9_0; have h9_1 := b_12; unfold bd at h9_1; have h9_2 := b_5; unfold bd at h9_2; have h9_3 := b_13; unfold bd at h9_3; have h9_4 := b_45; unfold bd at h9_4; have h9_5 := b_52; unfold bd at h9_5; have h9_6 := b_17; unfold bd at h9_6; have h9_7 := b_47; unfold bd at h9_7; have h9_8 := b_55; unfold bd at h9_8; have h9_9 := b_57; unfold bd at h9_9; have h9_10 := b_60; unfold bd at h9_10; omega) (by have h9_0 := b_51; unfold bd at h9_0; have h9_1 := b_12; unfold bd at h9_1; have h9_2 := b_5; unfold bd at h9_2; have h9_3 := b_13; unfold bd at h9_3; have h9_4 := b_45; unfold bd at h9_4; have h9_5 := b_52; unfold bd at h9_5; have h9_6 := b_17; unfold bd at h9_6; have h9_7 := b_47; unfold bd at h9_7; have h9_8 := b_55; unfold bd at h9_8; have h9_9 := b_57; unfold bd at h9_9; have h9_10 := b_60; unfold bd at h9_10; omega)) dX1_enter_132 (fun x_61 bx_61 cx_61 => ?_)
                refine g_iast hx hb hK g ma_53 ka_53 (by decide) rfl (in_bd b_57 (by decide)) (bdT x_61) (by decide) dX1_enter_133 (fun f H locs hM_62 g => ?_)
                obtain ⟨y_63, ey_63⟩ : ∃ z : Int32, z = v101_3 + 1 := ⟨_, rfl⟩
                refine lv_iinc (v := y_63) (lv' := [(3, .int y_63), (2, .ref a_15), (0, .ref a0_), (1, .int x1_)]) hx hb dX1_enter_134 hl (k := 0) rfl (by rw [ey_63]; rfl) (by decide) rfl (fun ls hl => ?_)
                have ty_63 := add_bd ey_63 b_51 kb_1 (by decide)
                have b_64 : bd 1 3 y_63 := add_rg ty_63 b_51 kb_1 (by decide)
                refine lv_goto (tgt := 101) hx hb dX1_enter_137 (by decide) ?_
                have hl9 := lv_sub hl [0, 1, 2, 3] (by rfl : lv_pick [(3, .int y_63), (2, .ref a_15), (0, .ref a0_), (1, .int x1_)] [0, 1, 2, 3] = [(3, .int y_63), (2, .ref a_15), (0, .ref a0_), (1, .int x1_)])
                have g9 := g.sub (fx' := [(1, 8, a0_, .int y_46), (6, 3, a_15, .int x_25), (1, 13, a0_, .int x_22), (6, 8, a_15, .int x_22), (1, 10, a0_, .ref a_19), (1, 11, a0_, .int y_16), (7, 2, q0_, .ref a_14), (7, 3, q0_, .int x_10), (1, 0, a0_, .ref q0_)]) [2, 3, 4, 5, 6, 7, 8, 9, 10] rfl
                exact ih101  y_63 (bd_sub b_64 (by decide)) (by have h9_0 := b_64; unfold bd at h9_0; have h9_1 := bv101_3; unfold bd at h9_1; have h9_2 := kb_0; unfold bd at h9_2; have h9_3 := kb_1; unfold bd at h9_3; have h9_4 := kb_20; unfold bd at h9_4; omega) _ _ _ _ g9  hl9
          have hl9 := lv_sub hl [0, 1, 2, 3] (by rfl : lv_pick [(3, .int 0), (2, .ref a_15), (0, .ref a0_), (1, .int x1_)] [0, 1, 2, 3] = [(3, .int 0), (2, .ref a_15), (0, .ref a0_), (1, .int x1_)])
          have g9 := g.sub (fx' := [(1, 8, a0_, .int y_46), (6, 3, a_15, .int x_25), (1, 13, a0_, .int x_22), (6, 8, a_15, .int x_22), (1, 10, a0_, .ref a_19), (1, 11, a0_, .int y_16), (7, 2, q0_, .ref a_14), (7, 3, q0_, .int x_10), (1, 0, a0_, .ref q0_)]) [0, 1, 2, 3, 4, 5, 6, 7, 8] rfl
          exact loop_49 (9) 0 (bd_sub kb_0 (by decide)) (by have h9_0 := kb_0; unfold bd at h9_0; have h9_1 := kb_1; unfold bd at h9_1; have h9_2 := kb_20; unfold bd at h9_2; omega) _ _ _ _ g9  hl9
      · have fc_11 := nlt_f c_11
        refine lv_aload_n hx hb dX1_enter_24 rfl (lv_at hl 0 rfl) ?_
        refine lv_iconst (v := 3) hx hb dX1_enter_25 (by decide) ?_
        have kb_3 : bd 3 3 (3 : Int32) := ⟨by decide, by decide⟩
        refine g_put (C := RX1) (T := TX1) (N := 18) hx hb hts (mc_ inX1) tyX1 tyX1_ok nmX1 hown hK g ma0_ ka0_ (by decide) rfl 15 (by decide) (hts _ (List.mem_cons_of_mem _ t_750)) (fun _ h9 => h9) rfl rfl (okV_i (bd_sub kb_3 (by decide))) rfl rfl (by decide) (Or.inr (Or.inl (by decide))) (fx' := [(7, 3, q0_, .int x_10), (1, 11, a0_, .int x_1), (1, 0, a0_, .ref q0_)]) rfl dX1_enter_26 (fun f H locs hM_65 g => ?_)
        subst hQ
        exact W.vret hx hb hr (fun t ht hW => ⟨⟨_, rfl, trivial, q3_of g hK ht hW⟩, g.2.2.1.F ht⟩) g.2.2.1.2.2 dX1_enter_29
set_option maxHeartbeats 4000000 in
set_option maxRecDepth 100000 in
theorem r_X1_begin_2 (l : Launch) (dC : Nat → ClassId) (dI : Nat → Nat → Nat) (L : List Nat) (kd : Nat → Nat) (tys : List (ClassId × FieldType)) (f0 : Nat → va_E) (sz : Nat) (hWT : WT L kd tys f0) (a0_ : Nat) (ma0_ : a0_ ∈ L) (ka0_ : kd a0_ = 1) (y0_ : Int32) (by0_ : bd 0 0 y0_) (hfx : Fs L kd f0 [(1, 12, a0_, .int y0_)]) : Met l yX1_begin (.code yX1_begin cX1_begin 2 none :: lw_g) ({ frames := 0, cells := 0, slots := 0, locals := 0 }) (va_Pc [.ref a0_] (P3 (dC, dI) L tys f0 sz)) (va_Qv (fun (f : Nat → va_E) => (Fs L kd f [(1, 16, a0_, .int 0), (1, 15, a0_, .int 0), (1, 14, a0_, .int 0), (1, 8, a0_, .int 0), (1, 11, a0_, .int y0_)])) (Q3 (dC, dI) L kd tys [(1, 8), (1, 11), (1, 14), (1, 15), (1, 16)] [116] f0 sz) (pA L sz)) 0 0 (pA L sz) := by
  refine Met.ofW (cc := cX1_begin) (maxL := 2) (ret := none) (by decide) rfl ?_
  intro p e s m args below meth c s₁ B hml hv
  obtain ⟨rfl, hsz, hP, hK, hD0⟩ := hv
  have hx := B.exec
  have hb := B.bytes
  have hr := B.returns
  have hts := atoms_spec (ws := (.code yX1_begin cX1_begin 2 none :: lw_g)) B.pre
  have hown : s.vm.findClass RX1 = some m.cls := findClass_of_methodNamed B.named
  have hlocks := B.notSynchronized
  subst hsz
  have g : G3 (dC, dI) L kd tys s f0 [(1, 8), (1, 11), (1, 14), (1, 15), (1, 16)] [116] f0 s.heap [] [(1, 12, a0_, .int y0_)] := G3.start hP hD0 hWT hfx
  have hl := lv_entry ([.ref a0_]) (n := 2) (Nat.le_of_ble_eq_true rfl)
  rw [lg_entry_eq]
  generalize (lg_sl ([.ref a0_]) ++ List.replicate (2 - (lg_sl ([.ref a0_])).length) Slot.unset).toArray = ls at hl ⊢
  have hl : lv_has ls 2 [(0, .ref a0_)] := hl
  refine W_q (fun Q hQ => ?_)
  refine lv_aload_n hx hb dX1_begin_0 rfl (lv_at hl 0 rfl) ?_
  refine lv_aload_n hx hb dX1_begin_1 rfl (lv_at hl 0 rfl) ?_
  refine g_getk (C := RX1) (T := TX1) (N := 18) hx hb hts (mc_ inX1) hown hK g rfl 12 (by decide) rfl (hts _ (List.mem_cons_of_mem _ t_747)) (fun _ h9 => h9) 0 rfl dX1_begin_2 ?_
  refine g_put (C := RX1) (T := TX1) (N := 18) hx hb hts (mc_ inX1) tyX1 tyX1_ok nmX1 hown hK g ma0_ ka0_ (by decide) rfl 11 (by decide) (hts _ (List.mem_cons_of_mem _ t_746)) (fun _ h9 => h9) rfl rfl (okV_i (bd_sub by0_ (by decide))) rfl rfl (by decide) (Or.inr (Or.inl (by decide))) (fx' := [(1, 12, a0_, .int y0_)]) rfl dX1_begin_5 (fun f H locs hM_1 g => ?_)
  refine lv_aload_n hx hb dX1_begin_8 rfl (lv_at hl 0 rfl) ?_
  refine lv_iconst (v := 0) hx hb dX1_begin_9 (by decide) ?_
  have kb_0 : bd 0 0 (0 : Int32) := ⟨by decide, by decide⟩
  refine g_put (C := RX1) (T := TX1) (N := 18) hx hb hts (mc_ inX1) tyX1 tyX1_ok nmX1 hown hK g ma0_ ka0_ (by decide) rfl 8 (by decide) (hts _ (List.mem_cons_of_mem _ t_743)) (fun _ h9 => h9) rfl rfl (okV_i (bd_sub kb_0 (by decide))) rfl rfl (by decide) (Or.inr (Or.inl (by decide))) (fx' := [(1, 11, a0_, .int y0_), (1, 12, a0_, .int y0_)]) rfl dX1_begin_10 (fun f H locs hM_2 g => ?_)
  refine lv_aload_n hx hb dX1_begin_13 rfl (lv_at hl 0 rfl) ?_
  refine lv_iconst (v := 0) hx hb dX1_begin_14 (by decide) ?_
  refine g_put (C := RX1) (T := TX1) (N := 18) hx hb hts (mc_ inX1) tyX1 tyX1_ok nmX1 hown hK g ma0_ ka0_ (by decide) rfl 14 (by decide) (hts _ (List.mem_cons_of_mem _ t_749)) (fun _ h9 => h9) rfl rfl (okV_i (bd_sub kb_0 (by decide))) rfl rfl (by decide) (Or.inr (Or.inl (by decide))) (fx' := [(1, 8, a0_, .int 0), (1, 11, a0_, .int y0_), (1, 12, a0_, .int y0_)]) rfl dX1_begin_15 (fun f H locs hM_3 g => ?_)
  refine lv_aload_n hx hb dX1_begin_18 rfl (lv_at hl 0 rfl) ?_
  refine lv_iconst (v := 0) hx hb dX1_begin_19 (by decide) ?_
  refine g_put (C := RX1) (T := TX1) (N := 18) hx hb hts (mc_ inX1) tyX1 tyX1_ok nmX1 hown hK g ma0_ ka0_ (by decide) rfl 15 (by decide) (hts _ (List.mem_cons_of_mem _ t_750)) (fun _ h9 => h9) rfl rfl (okV_i (bd_sub kb_0 (by decide))) rfl rfl (by decide) (Or.inr (Or.inl (by decide))) (fx' := [(1, 14, a0_, .int 0), (1, 8, a0_, .int 0), (1, 11, a0_, .int y0_), (1, 12, a0_, .int y0_)]) rfl dX1_begin_20 (fun f H locs hM_4 g => ?_)
  refine lv_aload_n hx hb dX1_begin_23 rfl (lv_at hl 0 rfl) ?_
  refine lv_iconst (v := 0) hx hb dX1_begin_24 (by decide) ?_
  refine g_put (C := RX1) (T := TX1) (N := 18) hx hb hts (mc_ inX1) tyX1 tyX1_ok nmX1 hown hK g ma0_ ka0_ (by decide) rfl 16 (by decide) (hts _ (List.mem_cons_of_mem _ t_752)) (fun _ h9 => h9) rfl rfl (okV_i (bd_sub kb_0 (by decide))) rfl rfl (by decide) (Or.inr (Or.inl (by decide))) (fx' := [(1, 15, a0_, .int 0), (1, 14, a0_, .int 0), (1, 8, a0_, .int 0), (1, 11, a0_, .int y0_), (1, 12, a0_, .int y0_)]) rfl dX1_begin_25 (fun f H locs hM_5 g => ?_)
  refine lv_iconst (v := 0) hx hb dX1_begin_28 (by decide) ?_
  refine lv_istore_n (lv' := [(1, .int 0), (0, .ref a0_)]) hx hb dX1_begin_29 rfl hl (by decide) rfl (fun ls hl => ?_)
  have loop_6 : ∀ (n : Nat) (v30_1 : Int32), bd 0 3 v30_1 → (3 - v30_1.toInt < (n : Int)) → ∀ (f : Nat → va_E) (H : Heap) (locs : List Loc) (ls : Array Slot), G3 (dC, dI) L kd tys s f0 [(1, 8), (1, 11), (1, 14), (1, 15), (1, 16)] [116] f H locs [(1, 16, a0_, .int 0), (1, 15, a0_, .int 0), (1, 14, a0_, .int 0), (1, 8, a0_, .int 0), (1, 11, a0_, .int y0_), (1, 12, a0_, .int y0_)] → lv_has ls 2 [(1, .int v30_1), (0, .ref a0_)] → W p l e ({ frames := 0, cells := 0, slots := 0, locals := 0 } : Room) s m [.ref a0_].toArray below meth c H locs 0 0 Q (F0 m 30 ls []) := by
    intro n30
    induction n30 with
    | zero =>
      intro v30_1 bv30_1 hm30 f H locs ls g  hl
      exact absurd hm30 (by have h9_v30_1 := bv30_1; unfold bd at h9_v30_1; omega)
    | succ n30 ih30 =>
      intro v30_1 bv30_1 hm30 f H locs ls g  hl
      refine lv_iload_n hx hb dX1_begin_30 rfl (lv_at hl 0 rfl) ?_
      refine lv_iconst (v := 3) hx hb dX1_begin_31 (by decide) ?_
      have kb_3 : bd 3 3 (3 : Int32) := ⟨by decide, by decide⟩
      refine lv_icmp_ge (tgt := 70) hx hb dX1_begin_32 (by decide) (fun c_7 => ?_) (fun c_7 => ?_)
      · have fc_7 := le_f c_7
        have b_8 : bd 3 3 v30_1 := leR fc_7 kb_3 bv30_1 (by decide)
        subst hQ
        exact W.vret hx hb hr (fun t ht hW => ⟨⟨_, rfl, (g.fcts [0, 1, 2, 3, 4] rfl), q3_of g hK ht hW⟩, g.2.2.1.F ht⟩) g.2.2.1.2.2 dX1_begin_70
      · have fc_7 := nle_f c_7
        have b_9 : bd 0 2 v30_1 := ltL fc_7 bv30_1 kb_3 (by decide)
        refine lv_iload_n hx hb dX1_begin_35 rfl (lv_at hl 0 rfl) ?_
        refine lv_aload_n hx hb dX1_begin_36 rfl (lv_at hl 1 rfl) ?_
        refine g_getu (lo := 100) (hi := 103) (C := RX1) (T := TX1) (N := 18) hx hb hts (mc_ inX1) hown hK g ma0_ ka0_ (by decide) rfl 4 (by decide) rfl (hts _ (List.mem_cons_of_mem _ t_739)) (fun _ h9 => h9) rfl dX1_begin_37 (fun a_10 ma_10 ka_10 g => ?_)
        refine g_alenU hx hb hK g ma_10 ka_10 dX1_begin_40 (fun x_11 ex_11 bx_11 => ?_)
        refine lv_icmp_ge (tgt := 70) hx hb dX1_begin_41 (by decide) (fun c_12 => ?_) (fun c_12 => ?_)
        · have fc_12 := le_f c_12
          have b_13 : bd 3 2 x_11 := leL fc_12 bx_11 b_9 (by decide)
          exact bd_no b_13 (by decide)
        · have fc_12 := nle_f c_12
          refine lv_aload_n hx hb dX1_begin_44 rfl (lv_at hl 1 rfl) ?_
          refine g_getr (K := 116) (C := RX1) (T := TX1) (N := 18) hx hb hts (mc_ inX1) hown hK g ma0_ ka0_ (by decide) rfl 9 (by decide) rfl (hts _ (List.mem_cons_of_mem _ t_744)) (fun _ h9 => h9) rfl dX1_begin_45 (fun a_14 ma_14 ka_14 g => ?_)
          refine lv_aload_n hx hb dX1_begin_48 rfl (lv_at hl 1 rfl) ?_
          refine g_getk (C := RX1) (T := TX1) (N := 18) hx hb hts (mc_ inX1) hown hK g rfl 11 (by decide) rfl (hts _ (List.mem_cons_of_mem _ t_746)) (fun _ h9 => h9) 6 rfl dX1_begin_49 ?_
          refine lv_bipush (v := 11) hx hb dX1_begin_52 (by decide) ?_
          refine lv_imul hx hb dX1_begin_54 ?_
          refine lv_topi (fun y_15 ey_15 => ?_)
          have ty_15 := mulc_bd ey_15 (c := 11) (by decide) by0_ (by decide)
          have b_16 : bd 0 0 y_15 := mulc_rg ty_15 by0_ (by decide)
          refine lv_iload_n hx hb dX1_begin_55 rfl (lv_at hl 0 rfl) ?_
          refine lv_iadd hx hb dX1_begin_56 ?_
          refine lv_topi (fun y_17 ey_17 => ?_)
          have ty_17 := add_bd ey_17 b_16 b_9 (by decide)
          have b_18 : bd 0 2 y_17 := add_rg ty_17 b_16 b_9 (by decide)
          refine lv_aload_n hx hb dX1_begin_57 rfl (lv_at hl 1 rfl) ?_
          refine g_getk (C := RX1) (T := TX1) (N := 18) hx hb hts (mc_ inX1) hown hK g rfl 4 (by decide) rfl (hts _ (List.mem_cons_of_mem _ t_739)) (fun _ h9 => h9) 1 rfl dX1_begin_58 ?_
          refine lv_iload_n hx hb dX1_begin_61 rfl (lv_at hl 0 rfl) ?_
          refine g_ialdU hx hb hK g ma_10 ka_10 (in_ok (by have h9 := b_9; unfold bd at h9; omega) (by omega)) dX1_begin_62 (fun x_19 => ?_)
          refine g_iast hx hb hK g ma_14 ka_14 (by decide) rfl (in_bd b_18 (by decide)) (bdT x_19) (by decide) dX1_begin_63 (fun f H locs hM_20 g => ?_)
          have kb_1 : bd 1 1 (1 : Int32) := ⟨by decide, by decide⟩
          obtain ⟨y_21, ey_21⟩ : ∃ z : Int32, z = v30_1 + 1 := ⟨_, rfl⟩
          refine lv_iinc (v := y_21) (lv' := [(1, .int y_21), (0, .ref a0_)]) hx hb dX1_begin_64 hl (k := 0) rfl (by rw [ey_21]; rfl) (by decide) rfl (fun ls hl => ?_)
          have ty_21 := add_bd ey_21 b_9 kb_1 (by decide)
          have b_22 : bd 1 3 y_21 := add_rg ty_21 b_9 kb_1 (by decide)
          refine lv_goto (tgt := 30) hx hb dX1_begin_67 (by decide) ?_
          have hl9 := lv_sub hl [0, 1] (by rfl : lv_pick [(1, .int y_21), (0, .ref a0_)] [0, 1] = [(1, .int y_21), (0, .ref a0_)])
          have g9 := g.sub (fx' := [(1, 16, a0_, .int 0), (1, 15, a0_, .int 0), (1, 14, a0_, .int 0), (1, 8, a0_, .int 0), (1, 11, a0_, .int y0_), (1, 12, a0_, .int y0_)]) [2, 3, 4, 5, 6, 7] rfl
          exact ih30  y_21 (bd_sub b_22 (by decide)) (by have h9_0 := b_22; unfold bd at h9_0; have h9_1 := bv30_1; unfold bd at h9_1; have h9_2 := kb_0; unfold bd at h9_2; have h9_3 := kb_1; unfold bd at h9_3; have h9_4 := kb_3; unfold bd at h9_4; omega) _ _ _ _ g9  hl9
  have hl9 := lv_sub hl [0, 1] (by rfl : lv_pick [(1, .int 0), (0, .ref a0_)] [0, 1] = [(1, .int 0), (0, .ref a0_)])
  have g9 := g.sub (fx' := [(1, 16, a0_, .int 0), (1, 15, a0_, .int 0), (1, 14, a0_, .int 0), (1, 8, a0_, .int 0), (1, 11, a0_, .int y0_), (1, 12, a0_, .int y0_)]) [0, 1, 2, 3, 4, 5] rfl
  exact loop_6 (9) 0 (bd_sub kb_0 (by decide)) (by have h9_0 := kb_0; unfold bd at h9_0; omega) _ _ _ _ g9  hl9
set_option maxHeartbeats 4000000 in
set_option maxRecDepth 100000 in
theorem r_X1_leave_25 (l : Launch) (dC : Nat → ClassId) (dI : Nat → Nat → Nat) (L : List Nat) (kd : Nat → Nat) (tys : List (ClassId × FieldType)) (f0 : Nat → va_E) (sz : Nat) (hWT : WT L kd tys f0) (a0_ : Nat) (ma0_ : a0_ ∈ L) (ka0_ : kd a0_ = 1) (x1_ : Int32) (bx1_ : bd 0 0 x1_) (y0_ : Int32) (by0_ : bd (-2147483647) 0 y0_) (y1_ : Int32) (by1_ : bd 0 0 y1_) (y2_ : Int32) (by2_ : bd 0 0 y2_) (y3_ : Int32) (by3_ : bd 1 1 y3_) (hfx : Fs L kd f0 [(1, 13, a0_, .int y0_), (1, 15, a0_, .int y1_), (1, 12, a0_, .int y2_), (1, 5, a0_, .int y3_)]) : Met l yX1_leave (.code yX1_leave cX1_leave 2 none :: lw_g) ({ frames := 0, cells := 0, slots := 0, locals := 0 }) (va_Pc [.ref a0_, .int x1_] (P3 (dC, dI) L tys f0 sz)) (va_Qv (fun (f : Nat → va_E) => (∃ z0_ : Int32, bd 0 19 z0_ ∧ ∃ z1_ : Int32, bd 0 1 z1_ ∧ Fs L kd f [(1, 11, a0_, .int z0_), (1, 15, a0_, .int z1_)])) (Q3 (dC, dI) L kd tys [(1, 8), (1, 11), (1, 13), (1, 15), (1, 16)] [100] f0 sz) (pA L sz)) 0 0 (pA L sz) := by
  refine Met.ofW (cc := cX1_leave) (maxL := 2) (ret := none) (by decide) rfl ?_
  intro p e s m args below meth c s₁ B hml hv
  obtain ⟨rfl, hsz, hP, hK, hD0⟩ := hv
  have hx := B.exec
  have hb := B.bytes
  have hr := B.returns
  have hts := atoms_spec (ws := (.code yX1_leave cX1_leave 2 none :: lw_g)) B.pre
  have hown : s.vm.findClass RX1 = some m.cls := findClass_of_methodNamed B.named
  have hlocks := B.notSynchronized
  subst hsz
  have g : G3 (dC, dI) L kd tys s f0 [(1, 8), (1, 11), (1, 13), (1, 15), (1, 16)] [100] f0 s.heap [] [(1, 13, a0_, .int y0_), (1, 15, a0_, .int y1_), (1, 12, a0_, .int y2_), (1, 5, a0_, .int y3_)] := G3.start hP hD0 hWT hfx
  have hl := lv_entry ([.ref a0_, .int x1_]) (n := 2) (Nat.le_of_ble_eq_true rfl)
  rw [lg_entry_eq]
  generalize (lg_sl ([.ref a0_, .int x1_]) ++ List.replicate (2 - (lg_sl ([.ref a0_, .int x1_])).length) Slot.unset).toArray = ls at hl ⊢
  have hl : lv_has ls 2 [(0, .ref a0_), (1, .int x1_)] := hl
  refine W_q (fun Q hQ => ?_)
  refine lv_aload_n hx hb dX1_leave_0 rfl (lv_at hl 0 rfl) ?_
  refine g_geti (C := RX1) (T := TX1) (N := 18) hx hb hts (mc_ inX1) hown hK g ma0_ ka0_ (by decide) rfl 11 (by decide) rfl (hts _ (List.mem_cons_of_mem _ t_746)) (fun _ h9 => h9) rfl dX1_leave_1 (fun x_1 bx_1 g => ?_)
  refine lv_aload_n hx hb dX1_leave_4 rfl (lv_at hl 0 rfl) ?_
  refine g_getk (C := RX1) (T := TX1) (N := 18) hx hb hts (mc_ inX1) hown hK g rfl 12 (by decide) rfl (hts _ (List.mem_cons_of_mem _ t_747)) (fun _ h9 => h9) 3 rfl dX1_leave_5 ?_
  refine lv_icmp_ne (tgt := 22) hx hb dX1_leave_8 (by decide) (fun c_2 => ?_) (fun c_2 => ?_)
  · have fc_2 := neq_f c_2
    have b_3 : bd 1 20 x_1 := neX fc_2 bx_1 by2_ (by decide)
    refine lv_aload_n hx hb dX1_leave_22 rfl (lv_at hl 0 rfl) ?_
    refine lv_aload_n hx hb dX1_leave_23 rfl (lv_at hl 0 rfl) ?_
    refine g_getr (K := 117) (C := RX1) (T := TX1) (N := 18) hx hb hts (mc_ inX1) hown hK g ma0_ ka0_ (by decide) rfl 10 (by decide) rfl (hts _ (List.mem_cons_of_mem _ t_745)) (fun _ h9 => h9) rfl dX1_leave_24 (fun a_4 ma_4 ka_4 g => ?_)
    refine lv_aload_n hx hb dX1_leave_27 rfl (lv_at hl 0 rfl) ?_
    refine g_getk (C := RX1) (T := TX1) (N := 18) hx hb hts (mc_ inX1) hown hK g rfl 11 (by decide) rfl (hts _ (List.mem_cons_of_mem _ t_746)) (fun _ h9 => h9) 1 rfl dX1_leave_28 ?_
    refine g_iald hx hb hK g ma_4 ka_4 (by decide) rfl (in_bd b_3 (by decide)) dX1_leave_31 (fun x_5 bx_5 cx_5 => ?_)
    refine g_put (C := RX1) (T := TX1) (N := 18) hx hb hts (mc_ inX1) tyX1 tyX1_ok nmX1 hown hK g ma0_ ka0_ (by decide) rfl 13 (by decide) (hts _ (List.mem_cons_of_mem _ t_748)) (fun _ h9 => h9) rfl rfl (okV_i (bdT x_5)) rfl rfl (by decide) (Or.inr (Or.inl (by decide))) (fx' := [(1, 10, a0_, .ref a_4), (1, 11, a0_, .int x_1), (1, 15, a0_, .int y1_), (1, 12, a0_, .int y2_), (1, 5, a0_, .int y3_)]) rfl dX1_leave_32 (fun f H locs hM_6 g => ?_)
    refine lv_aload_n hx hb dX1_leave_35 rfl (lv_at hl 0 rfl) ?_
    refine lv_dup hx hb dX1_leave_36 rfl ?_
    refine g_getk (C := RX1) (T := TX1) (N := 18) hx hb hts (mc_ inX1) hown hK g rfl 11 (by decide) rfl (hts _ (List.mem_cons_of_mem _ t_746)) (fun _ h9 => h9) 2 rfl dX1_leave_37 ?_
    refine lv_iconst (v := 1) hx hb dX1_leave_40 (by decide) ?_
    have kb_1 : bd 1 1 (1 : Int32) := ⟨by decide, by decide⟩
    refine lv_isub hx hb dX1_leave_41 ?_
    refine lv_topi (fun y_7 ey_7 => ?_)
    have ty_7 := sub_bd ey_7 b_3 kb_1 (by decide)
    have b_8 : bd 0 19 y_7 := sub_rg ty_7 b_3 kb_1 (by decide)
    refine g_put (C := RX1) (T := TX1) (N := 18) hx hb hts (mc_ inX1) tyX1 tyX1_ok nmX1 hown hK g ma0_ ka0_ (by decide) rfl 11 (by decide) (hts _ (List.mem_cons_of_mem _ t_746)) (fun _ h9 => h9) rfl rfl (okV_i (bd_sub b_8 (by decide))) rfl rfl (by decide) (Or.inr (Or.inl (by decide))) (fx' := [(1, 13, a0_, .int x_5), (1, 10, a0_, .ref a_4), (1, 15, a0_, .int y1_), (1, 12, a0_, .int y2_), (1, 5, a0_, .int y3_)]) rfl dX1_leave_42 (fun f H locs hM_9 g => ?_)
    refine lv_aload_n hx hb dX1_leave_45 rfl (lv_at hl 0 rfl) ?_
    refine g_geti (C := RX1) (T := TX1) (N := 18) hx hb hts (mc_ inX1) hown hK g ma0_ ka0_ (by decide) rfl 8 (by decide) rfl (hts _ (List.mem_cons_of_mem _ t_743)) (fun _ h9 => h9) rfl dX1_leave_46 (fun x_10 bx_10 g => ?_)
    refine lv_sipush (v := 700) hx hb dX1_leave_49 (by decide) ?_
    have kb_700 : bd 700 700 (700 : Int32) := ⟨by decide, by decide⟩
    refine lv_icmp_ge (tgt := 75) hx hb dX1_leave_52 (by decide) (fun c_11 => ?_) (fun c_11 => ?_)
    · have fc_11 := le_f c_11
      have b_12 : bd 700 700 x_10 := leR fc_11 kb_700 bx_10 (by decide)
      subst hQ
      exact W.vret hx hb hr (fun t ht hW => ⟨⟨_, rfl, ⟨y_7, b_8, y1_, (bd_sub by1_ (by decide)), (g.fcts [1, 4] rfl)⟩, q3_of g hK ht hW⟩, g.2.2.1.F ht⟩) g.2.2.1.2.2 dX1_leave_75
    · have fc_11 := nle_f c_11
      have b_13 : bd 0 699 x_10 := ltL fc_11 bx_10 kb_700 (by decide)
      refine lv_aload_n hx hb dX1_leave_55 rfl (lv_at hl 0 rfl) ?_
      refine g_getr (K := 100) (C := RX1) (T := TX1) (N := 18) hx hb hts (mc_ inX1) hown hK g ma0_ ka0_ (by decide) rfl 7 (by decide) rfl (hts _ (List.mem_cons_of_mem _ t_742)) (fun _ h9 => h9) rfl dX1_leave_56 (fun a_14 ma_14 ka_14 g => ?_)
      refine lv_aload_n hx hb dX1_leave_59 rfl (lv_at hl 0 rfl) ?_
      refine g_getk (C := RX1) (T := TX1) (N := 18) hx hb hts (mc_ inX1) hown hK g rfl 8 (by decide) rfl (hts _ (List.mem_cons_of_mem _ t_743)) (fun _ h9 => h9) 1 rfl dX1_leave_60 ?_
      refine lv_iload_n hx hb dX1_leave_63 rfl (lv_at hl 1 rfl) ?_
      refine g_iast hx hb hK g ma_14 ka_14 (by decide) rfl (in_bd b_13 (by decide)) (bd_sub bx1_ (by decide)) (by decide) dX1_leave_64 (fun f H locs hM_15 g => ?_)
      refine lv_aload_n hx hb dX1_leave_65 rfl (lv_at hl 0 rfl) ?_
      refine lv_dup hx hb dX1_leave_66 rfl ?_
      refine g_getk (C := RX1) (T := TX1) (N := 18) hx hb hts (mc_ inX1) hown hK g rfl 8 (by decide) rfl (hts _ (List.mem_cons_of_mem _ t_743)) (fun _ h9 => h9) 1 rfl dX1_leave_67 ?_
      refine lv_iconst (v := 1) hx hb dX1_leave_70 (by decide) ?_
      refine lv_iadd hx hb dX1_leave_71 ?_
      refine lv_topi (fun y_16 ey_16 => ?_)
      have ty_16 := add_bd ey_16 b_13 kb_1 (by decide)
      have b_17 : bd 1 700 y_16 := add_rg ty_16 b_13 kb_1 (by decide)
      refine g_put (C := RX1) (T := TX1) (N := 18) hx hb hts (mc_ inX1) tyX1 tyX1_ok nmX1 hown hK g ma0_ ka0_ (by decide) rfl 8 (by decide) (hts _ (List.mem_cons_of_mem _ t_743)) (fun _ h9 => h9) rfl rfl (okV_i (bd_sub b_17 (by decide))) rfl rfl (by decide) (Or.inr (Or.inl (by decide))) (fx' := [(1, 7, a0_, .ref a_14), (1, 11, a0_, .int y_7), (1, 13, a0_, .int x_5), (1, 10, a0_, .ref a_4), (1, 15, a0_, .int y1_), (1, 12, a0_, .int y2_), (1, 5, a0_, .int y3_)]) rfl dX1_leave_72 (fun f H locs hM_18 g => ?_)
      subst hQ
      exact W.vret hx hb hr (fun t ht hW => ⟨⟨_, rfl, ⟨y_7, b_8, y1_, (bd_sub by1_ (by decide)), (g.fcts [2, 5] rfl)⟩, q3_of g hK ht hW⟩, g.2.2.1.F ht⟩) g.2.2.1.2.2 dX1_leave_75
  · have fc_2 := eq_f c_2
    have b_19 : bd 0 0 x_1 := eqX fc_2 bx_1 by2_ (by decide)
    refine lv_aload_n hx hb dX1_leave_11 rfl (lv_at hl 0 rfl) ?_
    refine lv_iload_n hx hb dX1_leave_12 rfl (lv_at hl 1 rfl) ?_
    refine g_put (C := RX1) (T := TX1) (N := 18) hx hb hts (mc_ inX1) tyX1 tyX1_ok nmX1 hown hK g ma0_ ka0_ (by decide) rfl 16 (by decide) (hts _ (List.mem_cons_of_mem _ t_752)) (fun _ h9 => h9) rfl rfl (okV_i (bd_sub bx1_ (by decide))) rfl rfl (by decide) (Or.inr (Or.inl (by decide))) (fx' := [(1, 11, a0_, .int x_1), (1, 13, a0_, .int y0_), (1, 15, a0_, .int y1_), (1, 12, a0_, .int y2_), (1, 5, a0_, .int y3_)]) rfl dX1_leave_13 (fun f H locs hM_20 g => ?_)
    refine lv_aload_n hx hb dX1_leave_16 rfl (lv_at hl 0 rfl) ?_
    refine lv_iconst (v := 1) hx hb dX1_leave_17 (by decide) ?_
    have kb_1 : bd 1 1 (1 : Int32) := ⟨by decide, by decide⟩
    refine g_put (C := RX1) (T := TX1) (N := 18) hx hb hts (mc_ inX1) tyX1 tyX1_ok nmX1 hown hK g ma0_ ka0_ (by decide) rfl 15 (by decide) (hts _ (List.mem_cons_of_mem _ t_750)) (fun _ h9 => h9) rfl rfl (okV_i (bd_sub kb_1 (by decide))) rfl rfl (by decide) (Or.inr (Or.inl (by decide))) (fx' := [(1, 16, a0_, .int x1_), (1, 11, a0_, .int x_1), (1, 13, a0_, .int y0_), (1, 12, a0_, .int y2_), (1, 5, a0_, .int y3_)]) rfl dX1_leave_18 (fun f H locs hM_21 g => ?_)
    subst hQ
    exact W.vret hx hb hr (fun t ht hW => ⟨⟨_, rfl, ⟨x_1, (bd_sub b_19 (by decide)), 1, (bd_sub kb_1 (by decide)), (g.fcts [2, 0] rfl)⟩, q3_of g hK ht hW⟩, g.2.2.1.F ht⟩) g.2.2.1.2.2 dX1_leave_21
set_option maxHeartbeats 4000000 in
set_option maxRecDepth 100000 in
theorem r_X1_leave_26 (l : Launch) (dC : Nat → ClassId) (dI : Nat → Nat → Nat) (L : List Nat) (kd : Nat → Nat) (tys : List (ClassId × FieldType)) (f0 : Nat → va_E) (sz : Nat) (hWT : WT L kd tys f0) (a0_ : Nat) (ma0_ : a0_ ∈ L) (ka0_ : kd a0_ = 1) (x1_ : Int32) (bx1_ : bd 0 0 x1_) (y0_ : Int32) (by0_ : bd 0 0 y0_) (y1_ : Int32) (by1_ : bd 0 0 y1_) (y2_ : Int32) (by2_ : bd 1 1 y2_) (hfx : Fs L kd f0 [(1, 15, a0_, .int y0_), (1, 12, a0_, .int y1_), (1, 5, a0_, .int y2_)]) : Met l yX1_leave (.code yX1_leave cX1_leave 2 none :: lw_g) ({ frames := 0, cells := 0, slots := 0, locals := 0 }) (va_Pc [.ref a0_, .int x1_] (P3 (dC, dI) L tys f0 sz)) (va_Qv (fun (f : Nat → va_E) => (∃ z0_ : Int32, bd 0 19 z0_ ∧ ∃ z1_ : Int32, bd 0 1 z1_ ∧ Fs L kd f [(1, 11, a0_, .int z0_), (1, 15, a0_, .int z1_)])) (Q3 (dC, dI) L kd tys [(1, 8), (1, 11), (1, 13), (1, 15), (1, 16)] [100] f0 sz) (pA L sz)) 0 0 (pA L sz) := by
  refine Met.ofW (cc := cX1_leave) (maxL := 2) (ret := none) (by decide) rfl ?_
  intro p e s m args below meth c s₁ B hml hv
  obtain ⟨rfl, hsz, hP, hK, hD0⟩ := hv
  have hx := B.exec
  have hb := B.bytes
  have hr := B.returns
  have hts := atoms_spec (ws := (.code yX1_leave cX1_leave 2 none :: lw_g)) B.pre
  have hown : s.vm.findClass RX1 = some m.cls := findClass_of_methodNamed B.named
  have hlocks := B.notSynchronized
  subst hsz
  have g : G3 (dC, dI) L kd tys s f0 [(1, 8), (1, 11), (1, 13), (1, 15), (1, 16)] [100] f0 s.heap [] [(1, 15, a0_, .int y0_), (1, 12, a0_, .int y1_), (1, 5, a0_, .int y2_)] := G3.start hP hD0 hWT hfx
  have hl := lv_entry ([.ref a0_, .int x1_]) (n := 2) (Nat.le_of_ble_eq_true rfl)
  rw [lg_entry_eq]
  generalize (lg_sl ([.ref a0_, .int x1_]) ++ List.replicate (2 - (lg_sl ([.ref a0_, .int x1_])).length) Slot.unset).toArray = ls at hl ⊢
  have hl : lv_has ls 2 [(0, .ref a0_), (1, .int x1_)] := hl
  refine W_q (fun Q hQ => ?_)
  refine lv_aload_n hx hb dX1_leave_0 rfl (lv_at hl 0 rfl) ?_
  refine g_geti (C := RX1) (T := TX1) (N := 18) hx hb hts (mc_ inX1) hown hK g ma0_ ka0_ (by decide) rfl 11 (by decide) rfl (hts _ (List.mem_cons_of_mem _ t_746)) (fun _ h9 => h9) rfl dX1_leave_1 (fun x_1 bx_1 g => ?_)
  refine lv_aload_n hx hb dX1_leave_4 rfl (lv_at hl 0 rfl) ?_
  refine g_getk (C := RX1) (T := TX1) (N := 18) hx hb hts (mc_ inX1) hown hK g rfl 12 (by decide) rfl (hts _ (List.mem_cons_of_mem _ t_747)) (fun _ h9 => h9) 2 rfl dX1_leave_5 ?_
  refine lv_icmp_ne (tgt := 22) hx hb dX1_leave_8 (by decide) (fun c_2 => ?_) (fun c_2 => ?_)
  · have fc_2 := neq_f c_2
    have b_3 : bd 1 20 x_1 := neX fc_2 bx_1 by1_ (by decide)
    refine lv_aload_n hx hb dX1_leave_22 rfl (lv_at hl 0 rfl) ?_
    refine lv_aload_n hx hb dX1_leave_23 rfl (lv_at hl 0 rfl) ?_
    refine g_getr (K := 117) (C := RX1) (T := TX1) (N := 18) hx hb hts (mc_ inX1) hown hK g ma0_ ka0_ (by decide) rfl 10 (by decide) rfl (hts _ (List.mem_cons_of_mem _ t_745)) (fun _ h9 => h9) rfl dX1_leave_24 (fun a_4 ma_4 ka_4 g => ?_)
    refine lv_aload_n hx hb dX1_leave_27 rfl (lv_at hl 0 rfl) ?_
    refine g_getk (C := RX1) (T := TX1) (N := 18) hx hb hts (mc_ inX1) hown hK g rfl 11 (by decide) rfl (hts _ (List.mem_cons_of_mem _ t_746)) (fun _ h9 => h9) 1 rfl dX1_leave_28 ?_
    refine g_iald hx hb hK g ma_4 ka_4 (by decide) rfl (in_bd b_3 (by decide)) dX1_leave_31 (fun x_5 bx_5 cx_5 => ?_)
    refine g_put (C := RX1) (T := TX1) (N := 18) hx hb hts (mc_ inX1) tyX1 tyX1_ok nmX1 hown hK g ma0_ ka0_ (by decide) rfl 13 (by decide) (hts _ (List.mem_cons_of_mem _ t_748)) (fun _ h9 => h9) rfl rfl (okV_i (bdT x_5)) rfl rfl (by decide) (Or.inr (Or.inl (by decide))) (fx' := [(1, 10, a0_, .ref a_4), (1, 11, a0_, .int x_1), (1, 15, a0_, .int y0_), (1, 12, a0_, .int y1_), (1, 5, a0_, .int y2_)]) rfl dX1_leave_32 (fun f H locs hM_6 g => ?_)
    refine lv_aload_n hx hb dX1_leave_35 rfl (lv_at hl 0 rfl) ?_
    refine lv_dup hx hb dX1_leave_36 rfl ?_
    refine g_getk (C := RX1) (T := TX1) (N := 18) hx hb hts (mc_ inX1) hown hK g rfl 11 (by decide) rfl (hts _ (List.mem_cons_of_mem _ t_746)) (fun _ h9 => h9) 2 rfl dX1_leave_37 ?_
    refine lv_iconst (v := 1) hx hb dX1_leave_40 (by decide) ?_
    have kb_1 : bd 1 1 (1 : Int32) := ⟨by decide, by decide⟩
    refine lv_isub hx hb dX1_leave_41 ?_
    refine lv_topi (fun y_7 ey_7 => ?_)
    have ty_7 := sub_bd ey_7 b_3 kb_1 (by decide)
    have b_8 : bd 0 19 y_7 := sub_rg ty_7 b_3 kb_1 (by decide)
    refine g_put (C := RX1) (T := TX1) (N := 18) hx hb hts (mc_ inX1) tyX1 tyX1_ok nmX1 hown hK g ma0_ ka0_ (by decide) rfl 11 (by decide) (hts _ (List.mem_cons_of_mem _ t_746)) (fun _ h9 => h9) rfl rfl (okV_i (bd_sub b_8 (by decide))) rfl rfl (by decide) (Or.inr (Or.inl (by decide))) (fx' := [(1, 13, a0_, .int x_5), (1, 10, a0_, .ref a_4), (1, 15, a0_, .int y0_), (1, 12, a0_, .int y1_), (1, 5, a0_, .int y2_)]) rfl dX1_leave_42 (fun f H locs hM_9 g => ?_)
    refine lv_aload_n hx hb dX1_leave_45 rfl (lv_at hl 0 rfl) ?_
    refine g_geti (C := RX1) (T := TX1) (N := 18) hx hb hts (mc_ inX1) hown hK g ma0_ ka0_ (by decide) rfl 8 (by decide) rfl (hts _ (List.mem_cons_of_mem _ t_743)) (fun _ h9 => h9) rfl dX1_leave_46 (fun x_10 bx_10 g => ?_)
    refine lv_sipush (v := 700) hx hb dX1_leave_49 (by decide) ?_
    have kb_700 : bd 700 700 (700 : Int32) := ⟨by decide, by decide⟩
    refine lv_icmp_ge (tgt := 75) hx hb dX1_leave_52 (by decide) (fun c_11 => ?_) (fun c_11 => ?_)
    · have fc_11 := le_f c_11
      have b_12 : bd 700 700 x_10 := leR fc_11 kb_700 bx_10 (by decide)
      subst hQ
      exact W.vret hx hb hr (fun t ht hW => ⟨⟨_, rfl, ⟨y_7, b_8, y0_, (bd_sub by0_ (by decide)), (g.fcts [1, 4] rfl)⟩, q3_of g hK ht hW⟩, g.2.2.1.F ht⟩) g.2.2.1.2.2 dX1_leave_75
    · have fc_11 := nle_f c_11
      have b_13 : bd 0 699 x_10 := ltL fc_11 bx_10 kb_700 (by decide)
      refine lv_aload_n hx hb dX1_leave_55 rfl (lv_at hl 0 rfl) ?_
      refine g_getr (K := 100) (C := RX1) (T := TX1) (N := 18) hx hb hts (mc_ inX1) hown hK g ma0_ ka0_ (by decide) rfl 7 (by decide) rfl (hts _ (List.mem_cons_of_mem _ t_742)) (fun _ h9 => h9) rfl dX1_leave_56 (fun a_14 ma_14 ka_14 g => ?_)
      refine lv_aload_n hx hb dX1_leave_59 rfl (lv_at hl 0 rfl) ?_
      refine g_getk (C := RX1) (T := TX1) (N := 18) hx hb hts (mc_ inX1) hown hK g rfl 8 (by decide) rfl (hts _ (List.mem_cons_of_mem _ t_743)) (fun _ h9 => h9) 1 rfl dX1_leave_60 ?_
      refine lv_iload_n hx hb dX1_leave_63 rfl (lv_at hl 1 rfl) ?_
      refine g_iast hx hb hK g ma_14 ka_14 (by decide) rfl (in_bd b_13 (by decide)) (bd_sub bx1_ (by decide)) (by decide) dX1_leave_64 (fun f H locs hM_15 g => ?_)
      refine lv_aload_n hx hb dX1_leave_65 rfl (lv_at hl 0 rfl) ?_
      refine lv_dup hx hb dX1_leave_66 rfl ?_
      refine g_getk (C := RX1) (T := TX1) (N := 18) hx hb hts (mc_ inX1) hown hK g rfl 8 (by decide) rfl (hts _ (List.mem_cons_of_mem _ t_743)) (fun _ h9 => h9) 1 rfl dX1_leave_67 ?_
      refine lv_iconst (v := 1) hx hb dX1_leave_70 (by decide) ?_
      refine lv_iadd hx hb dX1_leave_71 ?_
      refine lv_topi (fun y_16 ey_16 => ?_)
      have ty_16 := add_bd ey_16 b_13 kb_1 (by decide)
      have b_17 : bd 1 700 y_16 := add_rg ty_16 b_13 kb_1 (by decide)
      refine g_put (C := RX1) (T := TX1) (N := 18) hx hb hts (mc_ inX1) tyX1 tyX1_ok nmX1 hown hK g ma0_ ka0_ (by decide) rfl 8 (by decide) (hts _ (List.mem_cons_of_mem _ t_743)) (fun _ h9 => h9) rfl rfl (okV_i (bd_sub b_17 (by decide))) rfl rfl (by decide) (Or.inr (Or.inl (by decide))) (fx' := [(1, 7, a0_, .ref a_14), (1, 11, a0_, .int y_7), (1, 13, a0_, .int x_5), (1, 10, a0_, .ref a_4), (1, 15, a0_, .int y0_), (1, 12, a0_, .int y1_), (1, 5, a0_, .int y2_)]) rfl dX1_leave_72 (fun f H locs hM_18 g => ?_)
      subst hQ
      exact W.vret hx hb hr (fun t ht hW => ⟨⟨_, rfl, ⟨y_7, b_8, y0_, (bd_sub by0_ (by decide)), (g.fcts [2, 5] rfl)⟩, q3_of g hK ht hW⟩, g.2.2.1.F ht⟩) g.2.2.1.2.2 dX1_leave_75
  · have fc_2 := eq_f c_2
    have b_19 : bd 0 0 x_1 := eqX fc_2 bx_1 by1_ (by decide)
    refine lv_aload_n hx hb dX1_leave_11 rfl (lv_at hl 0 rfl) ?_
    refine lv_iload_n hx hb dX1_leave_12 rfl (lv_at hl 1 rfl) ?_
    refine g_put (C := RX1) (T := TX1) (N := 18) hx hb hts (mc_ inX1) tyX1 tyX1_ok nmX1 hown hK g ma0_ ka0_ (by decide) rfl 16 (by decide) (hts _ (List.mem_cons_of_mem _ t_752)) (fun _ h9 => h9) rfl rfl (okV_i (bd_sub bx1_ (by decide))) rfl rfl (by decide) (Or.inr (Or.inl (by decide))) (fx' := [(1, 11, a0_, .int x_1), (1, 15, a0_, .int y0_), (1, 12, a0_, .int y1_), (1, 5, a0_, .int y2_)]) rfl dX1_leave_13 (fun f H locs hM_20 g => ?_)
    refine lv_aload_n hx hb dX1_leave_16 rfl (lv_at hl 0 rfl) ?_
    refine lv_iconst (v := 1) hx hb dX1_leave_17 (by decide) ?_
    have kb_1 : bd 1 1 (1 : Int32) := ⟨by decide, by decide⟩
    refine g_put (C := RX1) (T := TX1) (N := 18) hx hb hts (mc_ inX1) tyX1 tyX1_ok nmX1 hown hK g ma0_ ka0_ (by decide) rfl 15 (by decide) (hts _ (List.mem_cons_of_mem _ t_750)) (fun _ h9 => h9) rfl rfl (okV_i (bd_sub kb_1 (by decide))) rfl rfl (by decide) (Or.inr (Or.inl (by decide))) (fx' := [(1, 16, a0_, .int x1_), (1, 11, a0_, .int x_1), (1, 12, a0_, .int y1_), (1, 5, a0_, .int y2_)]) rfl dX1_leave_18 (fun f H locs hM_21 g => ?_)
    subst hQ
    exact W.vret hx hb hr (fun t ht hW => ⟨⟨_, rfl, ⟨x_1, (bd_sub b_19 (by decide)), 1, (bd_sub kb_1 (by decide)), (g.fcts [2, 0] rfl)⟩, q3_of g hK ht hW⟩, g.2.2.1.F ht⟩) g.2.2.1.2.2 dX1_leave_21
set_option maxHeartbeats 4000000 in
set_option maxRecDepth 100000 in
theorem r_X1_setCell_15 (l : Launch) (dC : Nat → ClassId) (dI : Nat → Nat → Nat) (L : List Nat) (kd : Nat → Nat) (tys : List (ClassId × FieldType)) (f0 : Nat → va_E) (sz : Nat) (hWT : WT L kd tys f0) (a0_ : Nat) (ma0_ : a0_ ∈ L) (ka0_ : kd a0_ = 1) (x1_ : Int32) (bx1_ : bd 0 400 x1_) (x2_ : Int32) (x3_ : Int32) (y0_ : Int32) (by0_ : bd 0 699 y0_) (y1_ : Int32) (by1_ : bd 1 2000 y1_) (y2_ : Int32) (by2_ : bd 0 0 y2_) (y3_ : Int32) (by3_ : bd 0 0 y3_) (y4_ : Int32) (by4_ : bd 1 1 y4_) (hfx : Fs L kd f0 [(1, 8, a0_, .int y0_), (1, 13, a0_, .int y1_), (1, 15, a0_, .int y2_), (1, 12, a0_, .int y3_), (1, 5, a0_, .int y4_)]) : Met l yX1_setCell (.code yX1_setCell cX1_setCell 5 none :: lw_g) ({ frames := 0, cells := 0, slots := 0, locals := 0 }) (va_Pc [.ref a0_, .int x1_, .int x2_, .int x3_] (P3 (dC, dI) L tys f0 sz)) (va_Qv (fun (f : Nat → va_E) => (Fs L kd f [(1, 15, a0_, .int 4)])) (Q3 (dC, dI) L kd tys [(1, 15)] [] f0 sz) (pA L sz)) 0 0 (pA L sz) := by
  refine Met.ofW (cc := cX1_setCell) (maxL := 5) (ret := none) (by decide) rfl ?_
  intro p e s m args below meth c s₁ B hml hv
  obtain ⟨rfl, hsz, hP, hK, hD0⟩ := hv
  have hx := B.exec
  have hb := B.bytes
  have hr := B.returns
  have hts := atoms_spec (ws := (.code yX1_setCell cX1_setCell 5 none :: lw_g)) B.pre
  have hown : s.vm.findClass RX1 = some m.cls := findClass_of_methodNamed B.named
  have hlocks := B.notSynchronized
  subst hsz
  have g : G3 (dC, dI) L kd tys s f0 [(1, 15)] [] f0 s.heap [] [(1, 8, a0_, .int y0_), (1, 13, a0_, .int y1_), (1, 15, a0_, .int y2_), (1, 12, a0_, .int y3_), (1, 5, a0_, .int y4_)] := G3.start hP hD0 hWT hfx
  have hl := lv_entry ([.ref a0_, .int x1_, .int x2_, .int x3_]) (n := 5) (Nat.le_of_ble_eq_true rfl)
  rw [lg_entry_eq]
  generalize (lg_sl ([.ref a0_, .int x1_, .int x2_, .int x3_]) ++ List.replicate (5 - (lg_sl ([.ref a0_, .int x1_, .int x2_, .int x3_])).length) Slot.unset).toArray = ls at hl ⊢
  have hl : lv_has ls 5 [(0, .ref a0_), (1, .int x1_), (2, .int x2_), (3, .int x3_)] := hl
  refine W_q (fun Q hQ => ?_)
  refine lv_iload_n hx hb dX1_setCell_0 rfl (lv_at hl 1 rfl) ?_
  refine lv_iconst (v := 4) hx hb dX1_setCell_1 (by decide) ?_
  have kb_4 : bd 4 4 (4 : Int32) := ⟨by decide, by decide⟩
  refine lv_ishr hx hb dX1_setCell_2 ?_
  refine lv_topi (fun y_1 ey_1 => ?_)
  have b_2 : bd 0 25 y_1 := shr_rg ey_1 bx1_ kb_4 (by decide)
  refine lv_iload_n hx hb dX1_setCell_3 rfl (lv_at hl 2 rfl) ?_
  refine lv_iadd hx hb dX1_setCell_4 ?_
  refine lv_topi (fun y_3 ey_3 => ?_)
  refine lv_istore (lv' := [(4, .int y_3), (0, .ref a0_), (1, .int x1_), (2, .int x2_), (3, .int x3_)]) hx hb dX1_setCell_5 hl (by decide) rfl (fun ls hl => ?_)
  refine lv_aload_n hx hb dX1_setCell_7 rfl (lv_at hl 1 rfl) ?_
  refine g_getk (C := RX1) (T := TX1) (N := 18) hx hb hts (mc_ inX1) hown hK g rfl 5 (by decide) rfl (hts _ (List.mem_cons_of_mem _ t_740)) (fun _ h9 => h9) 4 rfl dX1_setCell_8 ?_
  have kb_0 : bd 0 0 (0 : Int32) := ⟨by decide, by decide⟩
  refine lv_if_eq (tgt := 22) hx hb dX1_setCell_11 (by decide) (fun c_4 => ?_) (fun c_4 => ?_)
  · have fc_4 := eq_f c_4
    have b_5 : bd 1 0 y4_ := eqX fc_4 by4_ kb_0 (by decide)
    exact bd_no b_5 (by decide)
  · have fc_4 := neq_f c_4
    refine lv_aload_n hx hb dX1_setCell_14 rfl (lv_at hl 1 rfl) ?_
    refine lv_iconst (v := 4) hx hb dX1_setCell_15 (by decide) ?_
    refine g_put (C := RX1) (T := TX1) (N := 18) hx hb hts (mc_ inX1) tyX1 tyX1_ok nmX1 hown hK g ma0_ ka0_ (by decide) rfl 15 (by decide) (hts _ (List.mem_cons_of_mem _ t_750)) (fun _ h9 => h9) rfl rfl (okV_i (bd_sub kb_4 (by decide))) rfl rfl (by decide) (Or.inr (Or.inl (by decide))) (fx' := [(1, 8, a0_, .int y0_), (1, 13, a0_, .int y1_), (1, 12, a0_, .int y3_), (1, 5, a0_, .int y4_)]) rfl dX1_setCell_16 (fun f H locs hM_6 g => ?_)
    refine lv_goto (tgt := 52) hx hb dX1_setCell_19 (by decide) ?_
    subst hQ
    exact W.vret hx hb hr (fun t ht hW => ⟨⟨_, rfl, (g.fcts [0] rfl), q3_of g hK ht hW⟩, g.2.2.1.F ht⟩) g.2.2.1.2.2 dX1_setCell_52
