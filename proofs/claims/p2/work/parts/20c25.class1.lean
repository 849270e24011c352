set_option maxHeartbeats 4000000 in
set_option maxRecDepth 100000 in
theorem r_X10_drawArgument_2 (l : Launch) (dC : Nat → ClassId) (dI : Nat → Nat → Nat) (L : List Nat) (kd : Nat → Nat) (tys : List (ClassId × FieldType)) (f0 : Nat → va_E) (sz : Nat) (hWT : WT L kd tys f0) (a0_ : Nat) (ma0_ : a0_ ∈ L) (ka0_ : kd a0_ = 10) (a1_ : Nat) (ma1_ : a1_ ∈ L) (ka1_ : kd a1_ = 6) (x2_ : Int32) (bx2_ : bd 1 1 x2_) : Met l yX10_drawArgument (.code yX10_drawArgument cX10_drawArgument 5 (some .int) :: lw_g) ({ frames := 1, cells := 0, slots := 0, locals := 21 }) (va_Pc [.ref a0_, .ref a1_, .int x2_] (P3 (dC, dI) L tys f0 sz)) (va_Qi (fun (r : Int32) (f : Nat → va_E) => (True)) (Q3 (dC, dI) L kd tys [(10, 9)] [] f0 sz) (pA L sz)) 0 0 (pA L sz) := by
  refine Met.ofW (cc := cX10_drawArgument) (maxL := 5) (ret := (some .int)) (by decide) rfl ?_
  intro p e s m args below meth c s₁ B hml hv
  obtain ⟨rfl, hsz, hP, hK, hD0⟩ := hv
  have hx := B.exec
  have hb := B.bytes
  have hr := B.returns
  have hts := atoms_spec (ws := (.code yX10_drawArgument cX10_drawArgument 5 (some .int) :: lw_g)) B.pre
  have hown : s.vm.findClass RX10 = some m.cls := findClass_of_methodNamed B.named
  have hlocks := B.notSynchronized
  subst hsz
  have g : G3 (dC, dI) L kd tys s f0 [(10, 9)] [] f0 s.heap [] [] := G3.start hP hD0 hWT Fs.nil
  have hl := lv_entry ([.ref a0_, .ref a1_, .int x2_]) (n := 5) (Nat.le_of_ble_eq_true rfl)
  rw [lg_entry_eq]
  generalize (lg_sl ([.ref a0_, .ref a1_, .int x2_]) ++ List.replicate (5 - (lg_sl ([.ref a0_, .ref a1_, .int x2_])).length) Slot.unset).toArray = ls at hl ⊢
  have hl : lv_has ls 5 [(0, .ref a0_), (1, .ref a1_), (2, .int x2_)] := hl
  refine W_q (fun Q hQ => ?_)
  refine lv_iload_n hx hb dX10_drawArgument_0 rfl (lv_at hl 2 rfl) ?_
  refine lv_aload_n hx hb dX10_drawArgument_1 rfl (lv_at hl 1 rfl) ?_
  refine g_geti (C := RX6) (T := TX6) (N := 13) hx hb hts (mc_ inX6) hown hK g ma1_ ka1_ (by decide) rfl 3 (by decide) rfl (hts _ (List.mem_cons_of_mem _ t_566)) (fun _ h9 => h9) rfl dX10_drawArgument_2 (fun x_1 bx_1 g => ?_)
  refine lv_icmp_lt (tgt := 10) hx hb dX10_drawArgument_5 (by decide) (fun c_2 => ?_) (fun c_2 => ?_)
  · have fc_2 := lt_f c_2
    have b_3 : bd 2 3 x_1 := ltR fc_2 bx2_ bx_1 (by decide)
    refine lv_aload_n hx hb dX10_drawArgument_10 rfl (lv_at hl 0 rfl) ?_
    refine g_calli (va_runV (As := []) (rest := []) ⟨hx, hb, hml, hown, hts⟩ (r_X10_drawNext l dC dI L kd tys f0 s.heap.size g.2.2.2.1 a0_ ma0_ ka0_) (cwV 0 hts (gV_ t_1678 t_1680 t_80 t_194 t_1681) rfl rfl rfl (by decide +kernel) ⟨(Nat.le_of_ble_eq_true rfl), (Nat.le_of_ble_eq_true rfl)⟩) (pre3V g hK ma0_ ka0_ (by decide) (q := (RX10, TX10, 10)) rfl) rfl rfl hl.1 rfl (lv_room (Nat.le_of_ble_eq_true rfl)) dX10_drawArgument_11 ⟨(Nat.le_of_ble_eq_true rfl), (Nat.le_of_ble_eq_true rfl)⟩) g hK (by decide) (by decide) (fx' := [(6, 3, a1_, .int x_1)]) rfl (fun r_4 fr_4 H locs hp hMr_4 g => ?_)
    obtain ⟨h_5, -⟩ := hp
    refine lv_iconst (v := 4) hx hb dX10_drawArgument_14 (by decide) ?_
    have kb_4 : bd 4 4 (4 : Int32) := ⟨by decide, by decide⟩
    refine lv_irem hx hb dX10_drawArgument_15 (by decide) ?_
    refine lv_topi (fun y_6 ey_6 => ?_)
    have b_7 : bd 0 3 y_6 := rem_rg ey_6 h_5 kb_4 (by decide)
    by_cases e_8 : y_6 = 0
    · refine lv_topi (fun z_9 ez_9 => ?_)
      obtain rfl : z_9 = 0 := ez_9.trans e_8
      have kb_0 : bd 0 0 (0 : Int32) := ⟨by decide, by decide⟩
      have b_10 : bd 0 0 y_6 := eqX (eq_f e_8) b_7 kb_0 (by decide)
      refine lv_tableIn (off := 28) (tgt := 44) hx hb dX10_drawArgument_16 (by decide) (by decide) rfl (by decide) ?_
      refine lv_aload_n hx hb dX10_drawArgument_44 rfl (lv_at hl 1 rfl) ?_
      refine g_getr (K := 134) (C := RX6) (T := TX6) (N := 13) hx hb hts (mc_ inX6) hown hK g ma1_ ka1_ (by decide) rfl 4 (by decide) rfl (hts _ (List.mem_cons_of_mem _ t_571)) (fun _ h9 => h9) rfl dX10_drawArgument_45 (fun a_11 ma_11 ka_11 g => ?_)
      refine lv_iload_n hx hb dX10_drawArgument_48 rfl (lv_at hl 2 rfl) ?_
      refine g_iald hx hb hK g ma_11 ka_11 (by decide) rfl (in_bd bx2_ (by decide)) dX10_drawArgument_49 (fun x_12 bx_12 cx_12 => ?_)
      subst hQ
      exact W.iret (v := x_12) hx hb hr (fun t ht hW => ⟨⟨_, _, rfl, trivial, q3_of g hK ht hW⟩, g.2.2.1.F ht⟩) g.2.2.1.2.2 dX10_drawArgument_50
    by_cases e_13 : y_6 = 1
    · refine lv_topi (fun z_14 ez_14 => ?_)
      obtain rfl : z_14 = 1 := ez_14.trans e_13
      have kb_1 : bd 1 1 (1 : Int32) := ⟨by decide, by decide⟩
      have b_15 : bd 1 1 y_6 := eqX (eq_f e_13) b_7 kb_1 (by decide)
      refine lv_tableIn (off := 35) (tgt := 51) hx hb dX10_drawArgument_16 (by decide) (by decide) rfl (by decide) ?_
      refine lv_aload_n hx hb dX10_drawArgument_51 rfl (lv_at hl 1 rfl) ?_
      refine g_getr (K := 135) (C := RX6) (T := TX6) (N := 13) hx hb hts (mc_ inX6) hown hK g ma1_ ka1_ (by decide) rfl 5 (by decide) rfl (hts _ (List.mem_cons_of_mem _ t_574)) (fun _ h9 => h9) rfl dX10_drawArgument_52 (fun a_16 ma_16 ka_16 g => ?_)
      refine lv_iload_n hx hb dX10_drawArgument_55 rfl (lv_at hl 2 rfl) ?_
      refine g_iald hx hb hK g ma_16 ka_16 (by decide) rfl (in_bd bx2_ (by decide)) dX10_drawArgument_56 (fun x_17 bx_17 cx_17 => ?_)
      subst hQ
      exact W.iret (v := x_17) hx hb hr (fun t ht hW => ⟨⟨_, _, rfl, trivial, q3_of g hK ht hW⟩, g.2.2.1.F ht⟩) g.2.2.1.2.2 dX10_drawArgument_57
    by_cases e_18 : y_6 = 2
    · refine lv_topi (fun z_19 ez_19 => ?_)
      obtain rfl : z_19 = 2 := ez_19.trans e_18
      have kb_2 : bd 2 2 (2 : Int32) := ⟨by decide, by decide⟩
      have b_20 : bd 2 2 y_6 := eqX (eq_f e_18) b_7 kb_2 (by decide)
      refine lv_tableIn (off := 42) (tgt := 58) hx hb dX10_drawArgument_16 (by decide) (by decide) rfl (by decide) ?_
      refine lv_aload_n hx hb dX10_drawArgument_58 rfl (lv_at hl 1 rfl) ?_
      refine lv_iload_n hx hb dX10_drawArgument_59 rfl (lv_at hl 2 rfl) ?_
      refine g_calli (va_runV (As := [.int x2_]) (rest := []) ⟨hx, hb, hml, hown, hts⟩ (r_X6_firstOf l dC dI L kd tys fr_4 H.size g.2.2.2.1 a1_ ma1_ ka1_ x2_) (cwV 1 hts (gV_ t_1692 t_1693 t_1694 t_193 t_1695) rfl rfl rfl (by decide +kernel) ⟨(Nat.le_of_ble_eq_true rfl), (Nat.le_of_ble_eq_true rfl)⟩) (pre3V g hK ma1_ ka1_ (by decide) (q := (RX6, TX6, 13)) rfl) rfl rfl hl.1 rfl (lv_room (Nat.le_of_ble_eq_true rfl)) dX10_drawArgument_60 ⟨(Nat.le_of_ble_eq_true rfl), (Nat.le_of_ble_eq_true rfl)⟩) g hK (by decide) (by decide) (fx' := [(6, 3, a1_, .int x_1)]) rfl (fun r_21 fr_21 H locs hp hMr_21 g => ?_)
      subst hQ
      exact W.iret (v := r_21) hx hb hr (fun t ht hW => ⟨⟨_, _, rfl, trivial, q3_of g hK ht hW⟩, g.2.2.1.F ht⟩) g.2.2.1.2.2 dX10_drawArgument_63
    refine lv_tableOut (tgt := 64) hx hb dX10_drawArgument_16 (by have a0 : y_6.toInt ≠ 0 := fun h => e_8 (Int32.toInt_inj.mp (h.trans (by decide))); have a1 : y_6.toInt ≠ 1 := fun h => e_13 (Int32.toInt_inj.mp (h.trans (by decide))); have a2 : y_6.toInt ≠ 2 := fun h => e_18 (Int32.toInt_inj.mp (h.trans (by decide))); omega) (by decide) ?_
    refine lv_aload_n hx hb dX10_drawArgument_64 rfl (lv_at hl 1 rfl) ?_
    refine g_getr (K := 135) (C := RX6) (T := TX6) (N := 13) hx hb hts (mc_ inX6) hown hK g ma1_ ka1_ (by decide) rfl 5 (by decide) rfl (hts _ (List.mem_cons_of_mem _ t_574)) (fun _ h9 => h9) rfl dX10_drawArgument_65 (fun a_22 ma_22 ka_22 g => ?_)
    refine lv_iload_n hx hb dX10_drawArgument_68 rfl (lv_at hl 2 rfl) ?_
    refine g_iald hx hb hK g ma_22 ka_22 (by decide) rfl (in_bd bx2_ (by decide)) dX10_drawArgument_69 (fun x_23 bx_23 cx_23 => ?_)
    refine lv_i2l hx hb dX10_drawArgument_70 rfl ?_
    refine lv_topl (fun y_24 ey_24 => ?_)
    refine lv_aload_n hx hb dX10_drawArgument_71 rfl (lv_at hl 1 rfl) ?_
    refine g_getr (K := 134) (C := RX6) (T := TX6) (N := 13) hx hb hts (mc_ inX6) hown hK g ma1_ ka1_ (by decide) rfl 4 (by decide) rfl (hts _ (List.mem_cons_of_mem _ t_571)) (fun _ h9 => h9) rfl dX10_drawArgument_72 (fun a_25 ma_25 ka_25 g => ?_)
    refine lv_iload_n hx hb dX10_drawArgument_75 rfl (lv_at hl 2 rfl) ?_
    refine g_iald hx hb hK g ma_25 ka_25 (by decide) rfl (in_bd bx2_ (by decide)) dX10_drawArgument_76 (fun x_26 bx_26 cx_26 => ?_)
    refine lv_i2l hx hb dX10_drawArgument_77 rfl ?_
    refine lv_topl (fun y_27 ey_27 => ?_)
    refine lv_lsub hx hb dX10_drawArgument_78 ?_
    refine lv_topl (fun y_28 ey_28 => ?_)
    refine lv_lconst (v := 1) hx hb dX10_drawArgument_79 (by decide) ?_
    refine lv_ladd hx hb dX10_drawArgument_80 ?_
    refine lv_topl (fun y_29 ey_29 => ?_)
    refine lv_lconst (v := 1) hx hb dX10_drawArgument_81 (by decide) ?_
    refine va_mmax_long hx hb (hml.trans hl.1.symm) hown (hts _ (List.mem_cons_of_mem _ t_1696)) (hts _ (List.mem_cons_of_mem _ t_1697)) (hts _ (List.mem_cons_of_mem _ t_204)) (hts _ (List.mem_cons_of_mem _ t_1698)) (Nat.le_of_ble_eq_true rfl) (Nat.le_of_ble_eq_true rfl) (Nat.le_of_ble_eq_true rfl) (Nat.le_of_ble_eq_true rfl) dX10_drawArgument_82 ?_
    refine lv_topl (fun y_30 ey_30 => ?_)
    refine lv_lstore_n (lv' := [(3, .long y_30), (0, .ref a0_), (1, .ref a1_), (2, .int x2_)]) hx hb dX10_drawArgument_85 rfl hl (by decide) rfl (fun ls hl => ?_)
    refine lv_aload_n hx hb dX10_drawArgument_86 rfl (lv_at hl 2 rfl) ?_
    refine g_getk (C := RX6) (T := TX6) (N := 13) hx hb hts (mc_ inX6) hown hK g rfl 4 (by decide) rfl (hts _ (List.mem_cons_of_mem _ t_571)) (fun _ h9 => h9) 0 rfl dX10_drawArgument_87 ?_
    refine lv_iload_n hx hb dX10_drawArgument_90 rfl (lv_at hl 3 rfl) ?_
    refine g_iald hx hb hK g ma_25 ka_25 (by decide) rfl (in_bd bx2_ (by decide)) dX10_drawArgument_91 (fun x_31 bx_31 cx_31 => ?_)
    obtain rfl : x_26 = x_31 := el_same cx_26 cx_31 rfl
    refine lv_i2l hx hb dX10_drawArgument_92 rfl ?_
    refine lv_topl (fun y_32 ey_32 => ?_)
    refine lv_aload_n hx hb dX10_drawArgument_93 rfl (lv_at hl 1 rfl) ?_
    refine g_calli (va_runV (As := []) (rest := [.long y_32]) ⟨hx, hb, hml, hown, hts⟩ (r_X10_drawNext l dC dI L kd tys fr_4 H.size g.2.2.2.1 a0_ ma0_ ka0_) (cwV 0 hts (gV_ t_1678 t_1680 t_80 t_194 t_1681) rfl rfl rfl (by decide +kernel) ⟨(Nat.le_of_ble_eq_true rfl), (Nat.le_of_ble_eq_true rfl)⟩) (pre3V g hK ma0_ ka0_ (by decide) (q := (RX10, TX10, 10)) rfl) rfl rfl hl.1 rfl (lv_room (Nat.le_of_ble_eq_true rfl)) dX10_drawArgument_94 ⟨(Nat.le_of_ble_eq_true rfl), (Nat.le_of_ble_eq_true rfl)⟩) g hK (by decide) (by decide) (fx' := [(6, 4, a1_, .ref a_25), (6, 5, a1_, .ref a_22), (6, 3, a1_, .int x_1)]) rfl (fun r_33 fr_33 H locs hp hMr_33 g => ?_)
    obtain ⟨h_34, -⟩ := hp
    refine lv_i2l hx hb dX10_drawArgument_97 rfl ?_
    refine lv_topl (fun y_35 ey_35 => ?_)
    refine lv_lload_n hx hb dX10_drawArgument_98 rfl (lv_at hl 0 rfl) ?_
    refine lv_lrem hx hb dX10_drawArgument_99 (mxl1 ey_30) ?_
    refine lv_topl (fun y_36 ey_36 => ?_)
    refine lv_ladd hx hb dX10_drawArgument_100 ?_
    refine lv_topl (fun y_37 ey_37 => ?_)
    refine lv_l2i hx hb dX10_drawArgument_101 rfl ?_
    refine lv_topi (fun y_38 ey_38 => ?_)
    subst hQ
    exact W.iret (v := y_38) hx hb hr (fun t ht hW => ⟨⟨_, _, rfl, trivial, q3_of g hK ht hW⟩, g.2.2.1.F ht⟩) g.2.2.1.2.2 dX10_drawArgument_102
  · have fc_2 := nlt_f c_2
    have b_39 : bd 0 1 x_1 := leL fc_2 bx_1 bx2_ (by decide)
    refine lv_iconst (v := 0) hx hb dX10_drawArgument_8 (by decide) ?_
    subst hQ
    exact W.iret (v := 0) hx hb hr (fun t ht hW => ⟨⟨_, _, rfl, trivial, q3_of g hK ht hW⟩, g.2.2.1.F ht⟩) g.2.2.1.2.2 dX10_drawArgument_9
set_option maxHeartbeats 4000000 in
set_option maxRecDepth 100000 in
theorem r_X10_drawArgument_3 (l : Launch) (dC : Nat → ClassId) (dI : Nat → Nat → Nat) (L : List Nat) (kd : Nat → Nat) (tys : List (ClassId × FieldType)) (f0 : Nat → va_E) (sz : Nat) (hWT : WT L kd tys f0) (a0_ : Nat) (ma0_ : a0_ ∈ L) (ka0_ : kd a0_ = 10) (a1_ : Nat) (ma1_ : a1_ ∈ L) (ka1_ : kd a1_ = 6) (x2_ : Int32) (bx2_ : bd 2 2 x2_) : Met l yX10_drawArgument (.code yX10_drawArgument cX10_drawArgument 5 (some .int) :: lw_g) ({ frames := 1, cells := 0, slots := 0, locals := 21 }) (va_Pc [.ref a0_, .ref a1_, .int x2_] (P3 (dC, dI) L tys f0 sz)) (va_Qi (fun (r : Int32) (f : Nat → va_E) => (True)) (Q3 (dC, dI) L kd tys [(10, 9)] [] f0 sz) (pA L sz)) 0 0 (pA L sz) := by
  refine Met.ofW (cc := cX10_drawArgument) (maxL := 5) (ret := (some .int)) (by decide) rfl ?_
  intro p e s m args below meth c s₁ B hml hv
  obtain ⟨rfl, hsz, hP, hK, hD0⟩ := hv
  have hx := B.exec
  have hb := B.bytes
  have hr := B.returns
  have hts := atoms_spec (ws := (.code yX10_drawArgument cX10_drawArgument 5 (some .int) :: lw_g)) B.pre
  have hown : s.vm.findClass RX10 = some m.cls := findClass_of_methodNamed B.named
  have hlocks := B.notSynchronized
  subst hsz
  have g : G3 (dC, dI) L kd tys s f0 [(10, 9)] [] f0 s.heap [] [] := G3.start hP hD0 hWT Fs.nil
  have hl := lv_entry ([.ref a0_, .ref a1_, .int x2_]) (n := 5) (Nat.le_of_ble_eq_true rfl)
  rw [lg_entry_eq]
  generalize (lg_sl ([.ref a0_, .ref a1_, .int x2_]) ++ List.replicate (5 - (lg_sl ([.ref a0_, .ref a1_, .int x2_])).length) Slot.unset).toArray = ls at hl ⊢
  have hl : lv_has ls 5 [(0, .ref a0_), (1, .ref a1_), (2, .int x2_)] := hl
  refine W_q (fun Q hQ => ?_)
  refine lv_iload_n hx hb dX10_drawArgument_0 rfl (lv_at hl 2 rfl) ?_
  refine lv_aload_n hx hb dX10_drawArgument_1 rfl (lv_at hl 1 rfl) ?_
  refine g_geti (C := RX6) (T := TX6) (N := 13) hx hb hts (mc_ inX6) hown hK g ma1_ ka1_ (by decide) rfl 3 (by decide) rfl (hts _ (List.mem_cons_of_mem _ t_566)) (fun _ h9 => h9) rfl dX10_drawArgument_2 (fun x_1 bx_1 g => ?_)
  refine lv_icmp_lt (tgt := 10) hx hb dX10_drawArgument_5 (by decide) (fun c_2 => ?_) (fun c_2 => ?_)
  · have fc_2 := lt_f c_2
    have b_3 : bd 3 3 x_1 := ltR fc_2 bx2_ bx_1 (by decide)
    refine lv_aload_n hx hb dX10_drawArgument_10 rfl (lv_at hl 0 rfl) ?_
    refine g_calli (va_runV (As := []) (rest := []) ⟨hx, hb, hml, hown, hts⟩ (r_X10_drawNext l dC dI L kd tys f0 s.heap.size g.2.2.2.1 a0_ ma0_ ka0_) (cwV 0 hts (gV_ t_1678 t_1680 t_80 t_194 t_1681) rfl rfl rfl (by decide +kernel) ⟨(Nat.le_of_ble_eq_true rfl), (Nat.le_of_ble_eq_true rfl)⟩) (pre3V g hK ma0_ ka0_ (by decide) (q := (RX10, TX10, 10)) rfl) rfl rfl hl.1 rfl (lv_room (Nat.le_of_ble_eq_true rfl)) dX10_drawArgument_11 ⟨(Nat.le_of_ble_eq_true rfl), (Nat.le_of_ble_eq_true rfl)⟩) g hK (by decide) (by decide) (fx' := [(6, 3, a1_, .int x_1)]) rfl (fun r_4 fr_4 H locs hp hMr_4 g => ?_)
    obtain ⟨h_5, -⟩ := hp
    refine lv_iconst (v := 4) hx hb dX10_drawArgument_14 (by decide) ?_
    have kb_4 : bd 4 4 (4 : Int32) := ⟨by decide, by decide⟩
    refine lv_irem hx hb dX10_drawArgument_15 (by decide) ?_
    refine lv_topi (fun y_6 ey_6 => ?_)
    have b_7 : bd 0 3 y_6 := rem_rg ey_6 h_5 kb_4 (by decide)
    by_cases e_8 : y_6 = 0
    · refine lv_topi (fun z_9 ez_9 => ?_)
      obtain rfl : z_9 = 0 := ez_9.trans e_8
      have kb_0 : bd 0 0 (0 : Int32) := ⟨by decide, by decide⟩
      have b_10 : bd 0 0 y_6 := eqX (eq_f e_8) b_7 kb_0 (by decide)
      refine lv_tableIn (off := 28) (tgt := 44) hx hb dX10_drawArgument_16 (by decide) (by decide) rfl (by decide) ?_
      refine lv_aload_n hx hb dX10_drawArgument_44 rfl (lv_at hl 1 rfl) ?_
      refine g_getr (K := 134) (C := RX6) (T := TX6) (N := 13) hx hb hts (mc_ inX6) hown hK g ma1_ ka1_ (by decide) rfl 4 (by decide) rfl (hts _ (List.mem_cons_of_mem _ t_571)) (fun _ h9 => h9) rfl dX10_drawArgument_45 (fun a_11 ma_11 ka_11 g => ?_)
      refine lv_iload_n hx hb dX10_drawArgument_48 rfl (lv_at hl 2 rfl) ?_
      refine g_iald hx hb hK g ma_11 ka_11 (by decide) rfl (in_bd bx2_ (by decide)) dX10_drawArgument_49 (fun x_12 bx_12 cx_12 => ?_)
      subst hQ
      exact W.iret (v := x_12) hx hb hr (fun t ht hW => ⟨⟨_, _, rfl, trivial, q3_of g hK ht hW⟩, g.2.2.1.F ht⟩) g.2.2.1.2.2 dX10_drawArgument_50
    by_cases e_13 : y_6 = 1
    · refine lv_topi (fun z_14 ez_14 => ?_)
      obtain rfl : z_14 = 1 := ez_14.trans e_13
      have kb_1 : bd 1 1 (1 : Int32) := ⟨by decide, by decide⟩
      have b_15 : bd 1 1 y_6 := eqX (eq_f e_13) b_7 kb_1 (by decide)
      refine lv_tableIn (off := 35) (tgt := 51) hx hb dX10_drawArgument_16 (by decide) (by decide) rfl (by decide) ?_
      refine lv_aload_n hx hb dX10_drawArgument_51 rfl (lv_at hl 1 rfl) ?_
      refine g_getr (K := 135) (C := RX6) (T := TX6) (N := 13) hx hb hts (mc_ inX6) hown hK g ma1_ ka1_ (by decide) rfl 5 (by decide) rfl (hts _ (List.mem_cons_of_mem _ t_574)) (fun _ h9 => h9) rfl dX10_drawArgument_52 (fun a_16 ma_16 ka_16 g => ?_)
      refine lv_iload_n hx hb dX10_drawArgument_55 rfl (lv_at hl 2 rfl) ?_
      refine g_iald hx hb hK g ma_16 ka_16 (by decide) rfl (in_bd bx2_ (by decide)) dX10_drawArgument_56 (fun x_17 bx_17 cx_17 => ?_)
      subst hQ
      exact W.iret (v := x_17) hx hb hr (fun t ht hW => ⟨⟨_, _, rfl, trivial, q3_of g hK ht hW⟩, g.2.2.1.F ht⟩) g.2.2.1.2.2 dX10_drawArgument_57
    by_cases e_18 : y_6 = 2
    · refine lv_topi (fun z_19 ez_19 => ?_)
      obtain rfl : z_19 = 2 := ez_19.trans e_18
      have kb_2 : bd 2 2 (2 : Int32) := ⟨by decide, by decide⟩
      have b_20 : bd 2 2 y_6 := eqX (eq_f e_18) b_7 kb_2 (by decide)
      refine lv_tableIn (off := 42) (tgt := 58) hx hb dX10_drawArgument_16 (by decide) (by decide) rfl (by decide) ?_
      refine lv_aload_n hx hb dX10_drawArgument_58 rfl (lv_at hl 1 rfl) ?_
      refine lv_iload_n hx hb dX10_drawArgument_59 rfl (lv_at hl 2 rfl) ?_
      refine g_calli (va_runV (As := [.int x2_]) (rest := []) ⟨hx, hb, hml, hown, hts⟩ (r_X6_firstOf l dC dI L kd tys fr_4 H.size g.2.2.2.1 a1_ ma1_ ka1_ x2_) (cwV 1 hts (gV_ t_1692 t_1693 t_1694 t_193 t_1695) rfl rfl rfl (by decide +kernel) ⟨(Nat.le_of_ble_eq_true rfl), (Nat.le_of_ble_eq_true rfl)⟩) (pre3V g hK ma1_ ka1_ (by decide) (q := (RX6, TX6, 13)) rfl) rfl rfl hl.1 rfl (lv_room (Nat.le_of_ble_eq_true rfl)) dX10_drawArgument_60 ⟨(Nat.le_of_ble_eq_true rfl), (Nat.le_of_ble_eq_true rfl)⟩) g hK (by decide) (by decide) (fx' := [(6, 3, a1_, .int x_1)]) rfl (fun r_21 fr_21 H locs hp hMr_21 g => ?_)
      subst hQ
      exact W.iret (v := r_21) hx hb hr (fun t ht hW => ⟨⟨_, _, rfl, trivial, q3_of g hK ht hW⟩, g.2.2.1.F ht⟩) g.2.2.1.2.2 dX10_drawArgument_63
    refine lv_tableOut (tgt := 64) hx hb dX10_drawArgument_16 (by have a0 : y_6.toInt ≠ 0 := fun h => e_8 (Int32.toInt_inj.mp (h.trans (by decide))); have a1 : y_6.toInt ≠ 1 := fun h => e_13 (Int32.toInt_inj.mp (h.trans (by decide))); have a2 : y_6.toInt ≠ 2 := fun h => e_18 (Int32.toInt_inj.mp (h.trans (by decide))); omega) (by decide) ?_
    refine lv_aload_n hx hb dX10_drawArgument_64 rfl (lv_at hl 1 rfl) ?_
    refine g_getr (K := 135) (C := RX6) (T := TX6) (N := 13) hx hb hts (mc_ inX6) hown hK g ma1_ ka1_ (by decide) rfl 5 (by decide) rfl (hts _ (List.mem_cons_of_mem _ t_574)) (fun _ h9 => h9) rfl dX10_drawArgument_65 (fun a_22 ma_22 ka_22 g => ?_)
    refine lv_iload_n hx hb dX10_drawArgument_68 rfl (lv_at hl 2 rfl) ?_
    refine g_iald hx hb hK g ma_22 ka_22 (by decide) rfl (in_bd bx2_ (by decide)) dX10_drawArgument_69 (fun x_23 bx_23 cx_23 => ?_)
    refine lv_i2l hx hb dX10_drawArgument_70 rfl ?_
    refine lv_topl (fun y_24 ey_24 => ?_)
    refine lv_aload_n hx hb dX10_drawArgument_71 rfl (lv_at hl 1 rfl) ?_
    refine g_getr (K := 134) (C := RX6) (T := TX6) (N := 13) hx hb hts (mc_ inX6) hown hK g ma1_ ka1_ (by decide) rfl 4 (by decide) rfl (hts _ (List.mem_cons_of_mem _ t_571)) (fun _ h9 => h9) rfl dX10_drawArgument_72 (fun a_25 ma_25 ka_25 g => ?_)
    refine lv_iload_n hx hb dX10_drawArgument_75 rfl (lv_at hl 2 rfl) ?_
    refine g_iald hx hb hK g ma_25 ka_25 (by decide) rfl (in_bd bx2_ (by decide)) dX10_drawArgument_76 (fun x_26 bx_26 cx_26 => ?_)
    refine lv_i2l hx hb dX10_drawArgument_77 rfl ?_
    refine lv_topl (fun y_27 ey_27 => ?_)
    refine lv_lsub hx hb dX10_drawArgument_78 ?_
    refine lv_topl (fun y_28 ey_28 => ?_)
    refine lv_lconst (v := 1) hx hb dX10_drawArgument_79 (by decide) ?_
    refine lv_ladd hx hb dX10_drawArgument_80 ?_
    refine lv_topl (fun y_29 ey_29 => ?_)
    refine lv_lconst (v := 1) hx hb dX10_drawArgument_81 (by decide) ?_
    refine va_mmax_long hx hb (hml.trans hl.1.symm) hown (hts _ (List.mem_cons_of_mem _ t_1696)) (hts _ (List.mem_cons_of_mem _ t_1697)) (hts _ (List.mem_cons_of_mem _ t_204)) (hts _ (List.mem_cons_of_mem _ t_1698)) (Nat.le_of_ble_eq_true rfl) (Nat.le_of_ble_eq_true rfl) (Nat.le_of_ble_eq_true rfl) (Nat.le_of_ble_eq_true rfl) dX10_drawArgument_82 ?_
    refine lv_topl (fun y_30 ey_30 => ?_)
    refine lv_lstore_n (lv' := [(3, .long y_30), (0, .ref a0_), (1, .ref a1_), (2, .int x2_)]) hx hb dX10_drawArgument_85 rfl hl (by decide) rfl (fun ls hl => ?_)
    refine lv_aload_n hx hb dX10_drawArgument_86 rfl (lv_at hl 2 rfl) ?_
    refine g_getk (C := RX6) (T := TX6) (N := 13) hx hb hts (mc_ inX6) hown hK g rfl 4 (by decide) rfl (hts _ (List.mem_cons_of_mem _ t_571)) (fun _ h9 => h9) 0 rfl dX10_drawArgument_87 ?_
    refine lv_iload_n hx hb dX10_drawArgument_90 rfl (lv_at hl 3 rfl) ?_
    refine g_iald hx hb hK g ma_25 ka_25 (by decide) rfl (in_bd bx2_ (by decide)) dX10_drawArgument_91 (fun x_31 bx_31 cx_31 => ?_)
    obtain rfl : x_26 = x_31 := el_same cx_26 cx_31 rfl
    refine lv_i2l hx hb dX10_drawArgument_92 rfl ?_
    refine lv_topl (fun y_32 ey_32 => ?_)
    refine lv_aload_n hx hb dX10_drawArgument_93 rfl (lv_at hl 1 rfl) ?_
    refine g_calli (va_runV (As := []) (rest := [.long y_32]) ⟨hx, hb, hml, hown, hts⟩ (r_X10_drawNext l dC dI L kd tys fr_4 H.size g.2.2.2.1 a0_ ma0_ ka0_) (cwV 0 hts (gV_ t_1678 t_1680 t_80 t_194 t_1681) rfl rfl rfl (by decide +kernel) ⟨(Nat.le_of_ble_eq_true rfl), (Nat.le_of_ble_eq_true rfl)⟩) (pre3V g hK ma0_ ka0_ (by decide) (q := (RX10, TX10, 10)) rfl) rfl rfl hl.1 rfl (lv_room (Nat.le_of_ble_eq_true rfl)) dX10_drawArgument_94 ⟨(Nat.le_of_ble_eq_true rfl), (Nat.le_of_ble_eq_true rfl)⟩) g hK (by decide) (by decide) (fx' := [(6, 4, a1_, .ref a_25), (6, 5, a1_, .ref a_22), (6, 3, a1_, .int x_1)]) rfl (fun r_33 fr_33 H locs hp hMr_33 g => ?_)
    obtain ⟨h_34, -⟩ := hp
    refine lv_i2l hx hb dX10_drawArgument_97 rfl ?_
    refine lv_topl (fun y_35 ey_35 => ?_)
    refine lv_lload_n hx hb dX10_drawArgument_98 rfl (lv_at hl 0 rfl) ?_
    refine lv_lrem hx hb dX10_drawArgument_99 (mxl1 ey_30) ?_
    refine lv_topl (fun y_36 ey_36 => ?_)
    refine lv_ladd hx hb dX10_drawArgument_100 ?_
    refine lv_topl (fun y_37 ey_37 => ?_)
    refine lv_l2i hx hb dX10_drawArgument_101 rfl ?_
    refine lv_topi (fun y_38 ey_38 => ?_)
    subst hQ
    exact W.iret (v := y_38) hx hb hr (fun t ht hW => ⟨⟨_, _, rfl, trivial, q3_of g hK ht hW⟩, g.2.2.1.F ht⟩) g.2.2.1.2.2 dX10_drawArgument_102
  · have fc_2 := nlt_f c_2
    have b_39 : bd 0 2 x_1 := leL fc_2 bx_1 bx2_ (by decide)
    refine lv_iconst (v := 0) hx hb dX10_drawArgument_8 (by decide) ?_
    subst hQ
    exact W.iret (v := 0) hx hb hr (fun t ht hW => ⟨⟨_, _, rfl, trivial, q3_of g hK ht hW⟩, g.2.2.1.F ht⟩) g.2.2.1.2.2 dX10_drawArgument_9
set_option maxHeartbeats 4000000 in
set_option maxRecDepth 100000 in
theorem r_X3_setTo (l : Launch) (dC : Nat → ClassId) (dI : Nat → Nat → Nat) (L : List Nat) (kd : Nat → Nat) (tys : List (ClassId × FieldType)) (f0 : Nat → va_E) (sz : Nat) (hWT : WT L kd tys f0) (a0_ : Nat) (ma0_ : a0_ ∈ L) (ka0_ : kd a0_ = 3) (x1_ : Int32) (bx1_ : bd 0 9 x1_) (x2_ : Int32) (bx2_ : bd 0 2 x2_) (x3_ : Int32) (bx3_ : bd 0 11 x3_) (x4_ : Int32) (x5_ : Int32) (x6_ : Int32) (y0_ : Int32) (by0_ : bd 0 9 y0_) (hfx : Fs L kd f0 [(3, 0, a0_, .int y0_)]) : Met l yX3_setTo (.code yX3_setTo cX3_setTo 7 none :: lw_g) ({ frames := 0, cells := 0, slots := 0, locals := 0 }) (va_Pc [.ref a0_, .int x1_, .int x2_, .int x3_, .int x4_, .int x5_, .int x6_] (P3 (dC, dI) L tys f0 sz)) (va_Qv (fun (f : Nat → va_E) => (True)) (Q3 (dC, dI) L kd tys [] [103, 122, 123] f0 sz) (pA L sz)) 0 0 (pA L sz) := by
  refine Met.ofW (cc := cX3_setTo) (maxL := 7) (ret := none) (by decide) rfl ?_
  intro p e s m args below meth c s₁ B hml hv
  obtain ⟨rfl, hsz, hP, hK, hD0⟩ := hv
  have hx := B.exec
  have hb := B.bytes
  have hr := B.returns
  have hts := atoms_spec (ws := (.code yX3_setTo cX3_setTo 7 none :: lw_g)) B.pre
  have hown : s.vm.findClass RX3 = some m.cls := findClass_of_methodNamed B.named
  have hlocks := B.notSynchronized
  subst hsz
  have g : G3 (dC, dI) L kd tys s f0 [] [103, 122, 123] f0 s.heap [] [(3, 0, a0_, .int y0_)] := G3.start hP hD0 hWT hfx
  have hl := lv_entry ([.ref a0_, .int x1_, .int x2_, .int x3_, .int x4_, .int x5_, .int x6_]) (n := 7) (Nat.le_of_ble_eq_true rfl)
  rw [lg_entry_eq]
  generalize (lg_sl ([.ref a0_, .int x1_, .int x2_, .int x3_, .int x4_, .int x5_, .int x6_]) ++ List.replicate (7 - (lg_sl ([.ref a0_, .int x1_, .int x2_, .int x3_, .int x4_, .int x5_, .int x6_])).length) Slot.unset).toArray = ls at hl ⊢
  have hl : lv_has ls 7 [(0, .ref a0_), (1, .int x1_), (2, .int x2_), (3, .int x3_), (4, .int x4_), (5, .int x5_), (6, .int x6_)] := hl
  refine W_q (fun Q hQ => ?_)
  refine lv_aload_n hx hb dX3_setTo_0 rfl (lv_at hl 0 rfl) ?_
  refine g_getr (K := 122) (C := RX3) (T := TX3) (N := 6) hx hb hts (mc_ inX3) hown hK g ma0_ ka0_ (by decide) rfl 1 (by decide) rfl (hts _ (List.mem_cons_of_mem _ t_804)) (fun _ h9 => h9) rfl dX3_setTo_1 (fun a_1 ma_1 ka_1 g => ?_)
  refine lv_iload_n hx hb dX3_setTo_4 rfl (lv_at hl 1 rfl) ?_
  refine lv_iload_n hx hb dX3_setTo_5 rfl (lv_at hl 2 rfl) ?_
  refine g_iast hx hb hK g ma_1 ka_1 (by decide) rfl (in_bd bx1_ (by decide)) bx2_ (by decide) dX3_setTo_6 (fun f H locs hM_2 g => ?_)
  refine lv_aload_n hx hb dX3_setTo_7 rfl (lv_at hl 0 rfl) ?_
  refine g_getr (K := 123) (C := RX3) (T := TX3) (N := 6) hx hb hts (mc_ inX3) hown hK g ma0_ ka0_ (by decide) rfl 2 (by decide) rfl (hts _ (List.mem_cons_of_mem _ t_807)) (fun _ h9 => h9) rfl dX3_setTo_8 (fun a_3 ma_3 ka_3 g => ?_)
  refine lv_iload_n hx hb dX3_setTo_11 rfl (lv_at hl 1 rfl) ?_
  refine lv_iload_n hx hb dX3_setTo_12 rfl (lv_at hl 3 rfl) ?_
  refine g_iast hx hb hK g ma_3 ka_3 (by decide) rfl (in_bd bx1_ (by decide)) (bd_sub bx3_ (by decide)) (by decide) dX3_setTo_13 (fun f H locs hM_4 g => ?_)
  refine lv_aload_n hx hb dX3_setTo_14 rfl (lv_at hl 0 rfl) ?_
  refine g_getr (K := 124) (C := RX3) (T := TX3) (N := 6) hx hb hts (mc_ inX3) hown hK g ma0_ ka0_ (by decide) rfl 3 (by decide) rfl (hts _ (List.mem_cons_of_mem _ t_810)) (fun _ h9 => h9) rfl dX3_setTo_15 (fun a_5 ma_5 ka_5 g => ?_)
  refine lv_iload_n hx hb dX3_setTo_18 rfl (lv_at hl 1 rfl) ?_
  refine g_aald hx hb hK g ma_5 ka_5 (by decide) rfl (by decide) (in_bd bx1_ (by decide)) dX3_setTo_19 (fun a_6 ma_6 ua_6 wa_6 => ?_)
  have ka_6 : kd a_6 = 103 := by omega
  refine lv_iconst (v := 0) hx hb dX3_setTo_20 (by decide) ?_
  refine lv_iload hx hb dX3_setTo_21 (lv_at hl 4 rfl) ?_
  refine g_iast hx hb hK g ma_6 ka_6 (by decide) rfl (by unfold vp_in; decide) (bdT x4_) (by decide) dX3_setTo_23 (fun f H locs hM_7 g => ?_)
  refine lv_aload_n hx hb dX3_setTo_24 rfl (lv_at hl 0 rfl) ?_
  refine g_getk (C := RX3) (T := TX3) (N := 6) hx hb hts (mc_ inX3) hown hK g rfl 3 (by decide) rfl (hts _ (List.mem_cons_of_mem _ t_810)) (fun _ h9 => h9) 0 rfl dX3_setTo_25 ?_
  refine lv_iload_n hx hb dX3_setTo_28 rfl (lv_at hl 1 rfl) ?_
  refine g_aald hx hb hK g ma_5 ka_5 (by decide) rfl (by decide) (in_bd bx1_ (by decide)) dX3_setTo_29 (fun a_8 ma_8 ua_8 wa_8 => ?_)
  have ka_8 : kd a_8 = 103 := by omega
  refine lv_iconst (v := 1) hx hb dX3_setTo_30 (by decide) ?_
  refine lv_iload hx hb dX3_setTo_31 (lv_at hl 5 rfl) ?_
  refine g_iast hx hb hK g ma_8 ka_8 (by decide) rfl (by unfold vp_in; decide) (bdT x5_) (by decide) dX3_setTo_33 (fun f H locs hM_9 g => ?_)
  refine lv_aload_n hx hb dX3_setTo_34 rfl (lv_at hl 0 rfl) ?_
  refine g_getk (C := RX3) (T := TX3) (N := 6) hx hb hts (mc_ inX3) hown hK g rfl 3 (by decide) rfl (hts _ (List.mem_cons_of_mem _ t_810)) (fun _ h9 => h9) 0 rfl dX3_setTo_35 ?_
  refine lv_iload_n hx hb dX3_setTo_38 rfl (lv_at hl 1 rfl) ?_
  refine g_aald hx hb hK g ma_5 ka_5 (by decide) rfl (by decide) (in_bd bx1_ (by decide)) dX3_setTo_39 (fun a_10 ma_10 ua_10 wa_10 => ?_)
  have ka_10 : kd a_10 = 103 := by omega
  refine lv_iconst (v := 2) hx hb dX3_setTo_40 (by decide) ?_
  refine lv_iload hx hb dX3_setTo_41 (lv_at hl 6 rfl) ?_
  refine g_iast hx hb hK g ma_10 ka_10 (by decide) rfl (by unfold vp_in; decide) (bdT x6_) (by decide) dX3_setTo_43 (fun f H locs hM_11 g => ?_)
  subst hQ
  exact W.vret hx hb hr (fun t ht hW => ⟨⟨_, rfl, trivial, q3_of g hK ht hW⟩, g.2.2.1.F ht⟩) g.2.2.1.2.2 dX3_setTo_44
set_option maxHeartbeats 4000000 in
set_option maxRecDepth 100000 in
theorem r_X3_addCall (l : Launch) (dC : Nat → ClassId) (dI : Nat → Nat → Nat) (L : List Nat) (kd : Nat → Nat) (tys : List (ClassId × FieldType)) (f0 : Nat → va_E) (sz : Nat) (hWT : WT L kd tys f0) (a0_ : Nat) (ma0_ : a0_ ∈ L) (ka0_ : kd a0_ = 3) (x1_ : Int32) (bx1_ : bd 0 2 x1_) (x2_ : Int32) (bx2_ : bd 0 11 x2_) (x3_ : Int32) (x4_ : Int32) (x5_ : Int32) : Met l yX3_addCall (.code yX3_addCall cX3_addCall 6 none :: lw_g) ({ frames := 1, cells := 0, slots := 0, locals := 26 }) (va_Pc [.ref a0_, .int x1_, .int x2_, .int x3_, .int x4_, .int x5_] (P3 (dC, dI) L tys f0 sz)) (va_Qv (fun (f : Nat → va_E) => (∃ z0_ : Int32, bd 1 10 z0_ ∧ Fs L kd f [(3, 0, a0_, .int z0_)])) (Q3 (dC, dI) L kd tys [(3, 0)] [103, 122, 123] f0 sz) (pA L sz)) 0 0 (pA L sz) := by
  refine Met.ofW (cc := cX3_addCall) (maxL := 6) (ret := none) (by decide) rfl ?_
  intro p e s m args below meth c s₁ B hml hv
  obtain ⟨rfl, hsz, hP, hK, hD0⟩ := hv
  have hx := B.exec
  have hb := B.bytes
  have hr := B.returns
  have hts := atoms_spec (ws := (.code yX3_addCall cX3_addCall 6 none :: lw_g)) B.pre
  have hown : s.vm.findClass RX3 = some m.cls := findClass_of_methodNamed B.named
  have hlocks := B.notSynchronized
  subst hsz
  have g : G3 (dC, dI) L kd tys s f0 [(3, 0)] [103, 122, 123] f0 s.heap [] [] := G3.start hP hD0 hWT Fs.nil
  have hl := lv_entry ([.ref a0_, .int x1_, .int x2_, .int x3_, .int x4_, .int x5_]) (n := 6) (Nat.le_of_ble_eq_true rfl)
  rw [lg_entry_eq]
  generalize (lg_sl ([.ref a0_, .int x1_, .int x2_, .int x3_, .int x4_, .int x5_]) ++ List.replicate (6 - (lg_sl ([.ref a0_, .int x1_, .int x2_, .int x3_, .int x4_, .int x5_])).length) Slot.unset).toArray = ls at hl ⊢
  have hl : lv_has ls 6 [(0, .ref a0_), (1, .int x1_), (2, .int x2_), (3, .int x3_), (4, .int x4_), (5, .int x5_)] := hl
  refine W_q (fun Q hQ => ?_)
  refine lv_aload_n hx hb dX3_addCall_0 rfl (lv_at hl 0 rfl) ?_
  refine g_geti (C := RX3) (T := TX3) (N := 6) hx hb hts (mc_ inX3) hown hK g ma0_ ka0_ (by decide) rfl 0 (by decide) rfl (hts _ (List.mem_cons_of_mem _ t_801)) (fun _ h9 => h9) rfl dX3_addCall_1 (fun x_1 bx_1 g => ?_)
  refine lv_bipush (v := 10) hx hb dX3_addCall_4 (by decide) ?_
  have kb_10 : bd 10 10 (10 : Int32) := ⟨by decide, by decide⟩
  refine lv_icmp_ge (tgt := 34) hx hb dX3_addCall_6 (by decide) (fun c_2 => ?_) (fun c_2 => ?_)
  · have fc_2 := le_f c_2
    have b_3 : bd 10 10 x_1 := leR fc_2 kb_10 bx_1 (by decide)
    subst hQ
    exact W.vret hx hb hr (fun t ht hW => ⟨⟨_, rfl, ⟨x_1, (bd_sub b_3 (by decide)), (g.fcts [0] rfl)⟩, q3_of g hK ht hW⟩, g.2.2.1.F ht⟩) g.2.2.1.2.2 dX3_addCall_34
  · have fc_2 := nle_f c_2
    have b_4 : bd 0 9 x_1 := ltL fc_2 bx_1 kb_10 (by decide)
    refine lv_aload_n hx hb dX3_addCall_9 rfl (lv_at hl 0 rfl) ?_
    refine lv_aload_n hx hb dX3_addCall_10 rfl (lv_at hl 0 rfl) ?_
    refine g_getk (C := RX3) (T := TX3) (N := 6) hx hb hts (mc_ inX3) hown hK g rfl 0 (by decide) rfl (hts _ (List.mem_cons_of_mem _ t_801)) (fun _ h9 => h9) 0 rfl dX3_addCall_11 ?_
    refine lv_iload_n hx hb dX3_addCall_14 rfl (lv_at hl 1 rfl) ?_
    refine lv_iload_n hx hb dX3_addCall_15 rfl (lv_at hl 2 rfl) ?_
    refine lv_iload_n hx hb dX3_addCall_16 rfl (lv_at hl 3 rfl) ?_
    refine lv_iload hx hb dX3_addCall_17 (lv_at hl 4 rfl) ?_
    refine lv_iload hx hb dX3_addCall_19 (lv_at hl 5 rfl) ?_
    refine g_callv (va_runV (As := [.int x_1, .int x1_, .int x2_, .int x3_, .int x4_, .int x5_]) (rest := []) ⟨hx, hb, hml, hown, hts⟩ (r_X3_setTo l dC dI L kd tys f0 s.heap.size g.2.2.2.1 a0_ ma0_ ka0_ x_1 b_4 x1_ bx1_ x2_ bx2_ x3_ x4_ x5_ x_1 b_4 (g.fcts [0] rfl)) (cwV 6 hts (gV_ t_1485 t_1487 t_52 t_196 t_1488) rfl rfl rfl (by decide +kernel) ⟨(Nat.le_of_ble_eq_true rfl), (Nat.le_of_ble_eq_true rfl)⟩) (pre3V g hK ma0_ ka0_ (by decide) (q := (RX3, TX3, 6)) rfl) rfl rfl hl.1 rfl (lv_room (Nat.le_of_ble_eq_true rfl)) dX3_addCall_21 ⟨(Nat.le_of_ble_eq_true rfl), (Nat.le_of_ble_eq_true rfl)⟩) g hK (by decide) (by decide) (fx' := [(3, 0, a0_, .int x_1)]) rfl (fun fr_5 H locs hp hMr_5 g => ?_)
    refine lv_aload_n hx hb dX3_addCall_24 rfl (lv_at hl 0 rfl) ?_
    refine lv_dup hx hb dX3_addCall_25 rfl ?_
    refine g_getk (C := RX3) (T := TX3) (N := 6) hx hb hts (mc_ inX3) hown hK g rfl 0 (by decide) rfl (hts _ (List.mem_cons_of_mem _ t_801)) (fun _ h9 => h9) 0 rfl dX3_addCall_26 ?_
    refine lv_iconst (v := 1) hx hb dX3_addCall_29 (by decide) ?_
    have kb_1 : bd 1 1 (1 : Int32) := ⟨by decide, by decide⟩
    refine lv_iadd hx hb dX3_addCall_30 ?_
    refine lv_topi (fun y_6 ey_6 => ?_)
    have ty_6 := add_bd ey_6 b_4 kb_1 (by decide)
    have b_7 : bd 1 10 y_6 := add_rg ty_6 b_4 kb_1 (by decide)
    refine g_put (C := RX3) (T := TX3) (N := 6) hx hb hts (mc_ inX3) tyX3 tyX3_ok nmX3 hown hK g ma0_ ka0_ (by decide) rfl 0 (by decide) (hts _ (List.mem_cons_of_mem _ t_801)) (fun _ h9 => h9) rfl rfl (okV_i (bd_sub b_7 (by decide))) rfl rfl (by decide) (Or.inr (Or.inl (by decide))) (fx' := []) rfl dX3_addCall_31 (fun f H locs hM_8 g => ?_)
    subst hQ
    exact W.vret hx hb hr (fun t ht hW => ⟨⟨_, rfl, ⟨y_6, b_7, (g.fcts [0] rfl)⟩, q3_of g hK ht hW⟩, g.2.2.1.F ht⟩) g.2.2.1.2.2 dX3_addCall_34
set_option maxHeartbeats 4000000 in
set_option maxRecDepth 100000 in
theorem r_X10_drawCall (l : Launch) (dC : Nat → ClassId) (dI : Nat → Nat → Nat) (L : List Nat) (kd : Nat → Nat) (tys : List (ClassId × FieldType)) (f0 : Nat → va_E) (sz : Nat) (hWT : WT L kd tys f0) (a0_ : Nat) (ma0_ : a0_ ∈ L) (ka0_ : kd a0_ = 10) (a1_ : Nat) (ma1_ : a1_ ∈ L) (ka1_ : kd a1_ = 9) (q0_ : Nat) (mq0_ : q0_ ∈ L) (kq0_ : kd q0_ = 3) (hfx : Fs L kd f0 [(10, 3, a0_, .ref q0_)]) : Met l yX10_drawCall (.code yX10_drawCall cX10_drawCall 8 none :: lw_g) ({ frames := 2, cells := 0, slots := 0, locals := 51 }) (va_Pc [.ref a0_, .ref a1_] (P3 (dC, dI) L tys f0 sz)) (va_Qv (fun (f : Nat → va_E) => (∃ z0_ : Int32, bd 1 10 z0_ ∧ Fs L kd f [(3, 0, q0_, .int z0_)])) (Q3 (dC, dI) L kd tys [(3, 0), (10, 9)] [103, 122, 123] f0 sz) (pA L sz)) 0 0 (pA L sz) := by
  refine Met.ofW (cc := cX10_drawCall) (maxL := 8) (ret := none) (by decide) rfl ?_
  intro p e s m args below meth c s₁ B hml hv
  obtain ⟨rfl, hsz, hP, hK, hD0⟩ := hv
  have hx := B.exec
  have hb := B.bytes
  have hr := B.returns
  have hts := atoms_spec (ws := (.code yX10_drawCall cX10_drawCall 8 none :: lw_g)) B.pre
  have hown : s.vm.findClass RX10 = some m.cls := findClass_of_methodNamed B.named
  have hlocks := B.notSynchronized
  subst hsz
  have g : G3 (dC, dI) L kd tys s f0 [(3, 0), (10, 9)] [103, 122, 123] f0 s.heap [] [(10, 3, a0_, .ref q0_)] := G3.start hP hD0 hWT hfx
  have hl := lv_entry ([.ref a0_, .ref a1_]) (n := 8) (Nat.le_of_ble_eq_true rfl)
  rw [lg_entry_eq]
  generalize (lg_sl ([.ref a0_, .ref a1_]) ++ List.replicate (8 - (lg_sl ([.ref a0_, .ref a1_])).length) Slot.unset).toArray = ls at hl ⊢
  have hl : lv_has ls 8 [(0, .ref a0_), (1, .ref a1_)] := hl
  refine W_q (fun Q hQ => ?_)
  refine lv_aload_n hx hb dX10_drawCall_0 rfl (lv_at hl 0 rfl) ?_
  refine g_calli (va_runV (As := []) (rest := []) ⟨hx, hb, hml, hown, hts⟩ (r_X10_drawNext l dC dI L kd tys f0 s.heap.size g.2.2.2.1 a0_ ma0_ ka0_) (cwV 0 hts (gV_ t_1678 t_1680 t_80 t_194 t_1681) rfl rfl rfl (by decide +kernel) ⟨(Nat.le_of_ble_eq_true rfl), (Nat.le_of_ble_eq_true rfl)⟩) (pre3V g hK ma0_ ka0_ (by decide) (q := (RX10, TX10, 10)) rfl) rfl rfl hl.1 rfl (lv_room (Nat.le_of_ble_eq_true rfl)) dX10_drawCall_1 ⟨(Nat.le_of_ble_eq_true rfl), (Nat.le_of_ble_eq_true rfl)⟩) g hK (by decide) (by decide) (fx' := [(10, 3, a0_, .ref q0_)]) rfl (fun r_1 fr_1 H locs hp hMr_1 g => ?_)
  obtain ⟨h_2, -⟩ := hp
  refine lv_aload_n hx hb dX10_drawCall_4 rfl (lv_at hl 0 rfl) ?_
  refine g_getk (C := RX10) (T := TX10) (N := 10) hx hb hts (mc_ inX10) hown hK g rfl 3 (by decide) rfl (hts _ (List.mem_cons_of_mem _ t_916)) (fun _ h9 => h9) 0 rfl dX10_drawCall_5 ?_
  refine g_geti (C := RX3) (T := TX3) (N := 6) hx hb hts (mc_ inX3) hown hK g mq0_ kq0_ (by decide) rfl 4 (by decide) rfl (hts _ (List.mem_cons_of_mem _ t_814)) (fun _ h9 => h9) rfl dX10_drawCall_8 (fun x_3 bx_3 g => ?_)
  refine lv_iconst (v := 1) hx hb dX10_drawCall_11 (by decide) ?_
  have kb_1 : bd 1 1 (1 : Int32) := ⟨by decide, by decide⟩
  refine va_mmax hx hb (hml.trans hl.1.symm) hown (hts _ (List.mem_cons_of_mem _ t_1687)) (hts _ (List.mem_cons_of_mem _ t_1041)) (hts _ (List.mem_cons_of_mem _ t_204)) (hts _ (List.mem_cons_of_mem _ t_1042)) (Nat.le_of_ble_eq_true rfl) (Nat.le_of_ble_eq_true rfl) (Nat.le_of_ble_eq_true rfl) (Nat.le_of_ble_eq_true rfl) dX10_drawCall_12 ?_
  refine lv_topi (fun y_4 ey_4 => ?_)
  have ty_4 : y_4.toInt = max x_3.toInt (1 : Int32).toInt := by rw [ey_4]; exact mmax_ok _ _
  have b_5 : bd 1 3 y_4 := max_rg ty_4 bx_3 kb_1 (by decide)
  refine lv_irem hx hb dX10_drawCall_15 (nz_bd b_5 (Or.inl (by decide))) ?_
  refine lv_topi (fun y_6 ey_6 => ?_)
  have b_7 : bd 0 2 y_6 := rem_rg ey_6 h_2 b_5 (by decide)
  refine lv_istore_n (lv' := [(2, .int y_6), (0, .ref a0_), (1, .ref a1_)]) hx hb dX10_drawCall_16 rfl hl (by decide) rfl (fun ls hl => ?_)
  refine lv_aload_n hx hb dX10_drawCall_17 rfl (lv_at hl 1 rfl) ?_
  refine g_calli (va_runV (As := []) (rest := []) ⟨hx, hb, hml, hown, hts⟩ (r_X10_drawNext l dC dI L kd tys fr_1 H.size g.2.2.2.1 a0_ ma0_ ka0_) (cwV 0 hts (gV_ t_1678 t_1680 t_80 t_194 t_1681) rfl rfl rfl (by decide +kernel) ⟨(Nat.le_of_ble_eq_true rfl), (Nat.le_of_ble_eq_true rfl)⟩) (pre3V g hK ma0_ ka0_ (by decide) (q := (RX10, TX10, 10)) rfl) rfl rfl hl.1 rfl (lv_room (Nat.le_of_ble_eq_true rfl)) dX10_drawCall_18 ⟨(Nat.le_of_ble_eq_true rfl), (Nat.le_of_ble_eq_true rfl)⟩) g hK (by decide) (by decide) (fx' := [(3, 4, q0_, .int x_3), (10, 3, a0_, .ref q0_)]) rfl (fun r_8 fr_8 H locs hp hMr_8 g => ?_)
  obtain ⟨h_9, -⟩ := hp
  refine lv_aload_n hx hb dX10_drawCall_21 rfl (lv_at hl 2 rfl) ?_
  refine g_geti (C := RX9) (T := TX9) (N := 13) hx hb hts (mc_ inX9) hown hK g ma1_ ka1_ (by decide) rfl 8 (by decide) rfl (hts _ (List.mem_cons_of_mem _ t_501)) (fun _ h9 => h9) rfl dX10_drawCall_22 (fun x_10 bx_10 g => ?_)
  refine lv_iconst (v := 1) hx hb dX10_drawCall_25 (by decide) ?_
  refine va_mmax hx hb (hml.trans hl.1.symm) hown (hts _ (List.mem_cons_of_mem _ t_1687)) (hts _ (List.mem_cons_of_mem _ t_1041)) (hts _ (List.mem_cons_of_mem _ t_204)) (hts _ (List.mem_cons_of_mem _ t_1042)) (Nat.le_of_ble_eq_true rfl) (Nat.le_of_ble_eq_true rfl) (Nat.le_of_ble_eq_true rfl) (Nat.le_of_ble_eq_true rfl) dX10_drawCall_26 ?_
  refine lv_topi (fun y_11 ey_11 => ?_)
  have ty_11 : y_11.toInt = max x_10.toInt (1 : Int32).toInt := by rw [ey_11]; exact mmax_ok _ _
  have b_12 : bd 1 12 y_11 := max_rg ty_11 bx_10 kb_1 (by decide)
  refine lv_irem hx hb dX10_drawCall_29 (nz_bd b_12 (Or.inl (by decide))) ?_
  refine lv_topi (fun y_13 ey_13 => ?_)
  have b_14 : bd 0 11 y_13 := rem_rg ey_13 h_9 b_12 (by decide)
  refine lv_istore_n (lv' := [(3, .int y_13), (2, .int y_6), (0, .ref a0_), (1, .ref a1_)]) hx hb dX10_drawCall_30 rfl hl (by decide) rfl (fun ls hl => ?_)
  refine lv_aload_n hx hb dX10_drawCall_31 rfl (lv_at hl 2 rfl) ?_
  refine g_getr (K := 7) (C := RX10) (T := TX10) (N := 10) hx hb hts (mc_ inX10) hown hK g ma0_ ka0_ (by decide) rfl 0 (by decide) rfl (hts _ (List.mem_cons_of_mem _ t_912)) (fun _ h9 => h9) rfl dX10_drawCall_32 (fun a_15 ma_15 ka_15 g => ?_)
  refine g_getr (K := 137) (C := RX7) (T := TX7) (N := 19) hx hb hts (mc_ inX7) hown hK g ma_15 ka_15 (by decide) rfl 2 (by decide) rfl (hts _ (List.mem_cons_of_mem _ t_634)) (fun _ h9 => h9) rfl dX10_drawCall_35 (fun a_16 ma_16 ka_16 g => ?_)
  refine lv_aload_n hx hb dX10_drawCall_38 rfl (lv_at hl 3 rfl) ?_
  refine g_getr (K := 156) (C := RX9) (T := TX9) (N := 13) hx hb hts (mc_ inX9) hown hK g ma1_ ka1_ (by decide) rfl 9 (by decide) rfl (hts _ (List.mem_cons_of_mem _ t_509)) (fun _ h9 => h9) rfl dX10_drawCall_39 (fun a_17 ma_17 ka_17 g => ?_)
  refine lv_iload_n hx hb dX10_drawCall_42 rfl (lv_at hl 0 rfl) ?_
  refine g_iald hx hb hK g ma_17 ka_17 (by decide) rfl (in_bd b_14 (by decide)) dX10_drawCall_43 (fun x_18 bx_18 cx_18 => ?_)
  refine g_aald hx hb hK g ma_16 ka_16 (by decide) rfl (by decide) (in_bd bx_18 (by decide)) dX10_drawCall_44 (fun a_19 ma_19 ua_19 wa_19 => ?_)
  have ka_19 : kd a_19 = 6 := by omega
  refine lv_astore (lv' := [(4, .ref a_19), (3, .int y_13), (2, .int y_6), (0, .ref a0_), (1, .ref a1_)]) hx hb dX10_drawCall_45 hl (by decide) rfl (fun ls hl => ?_)
  refine lv_aload_n hx hb dX10_drawCall_47 rfl (lv_at hl 3 rfl) ?_
  refine lv_aload hx hb dX10_drawCall_48 (lv_at hl 0 rfl) ?_
  refine lv_iconst (v := 0) hx hb dX10_drawCall_50 (by decide) ?_
  have kb_0 : bd 0 0 (0 : Int32) := ⟨by decide, by decide⟩
  refine g_calli (va_runV (As := [.ref a_19, .int 0]) (rest := []) ⟨hx, hb, hml, hown, hts⟩ (r_X10_drawArgument l dC dI L kd tys fr_8 H.size g.2.2.2.1 a0_ ma0_ ka0_ a_19 ma_19 ka_19 0 kb_0) (cwV 2 hts (gV_ t_1688 t_1690 t_82 t_194 t_1691) rfl rfl rfl (by decide +kernel) ⟨(Nat.le_of_ble_eq_true rfl), (Nat.le_of_ble_eq_true rfl)⟩) (pre3V g hK ma0_ ka0_ (by decide) (q := (RX10, TX10, 10)) rfl) rfl rfl hl.1 rfl (lv_room (Nat.le_of_ble_eq_true rfl)) dX10_drawCall_51 ⟨(Nat.le_of_ble_eq_true rfl), (Nat.le_of_ble_eq_true rfl)⟩) g hK (by decide) (by decide) (fx' := [(9, 9, a1_, .ref a_17), (7, 2, a_15, .ref a_16), (10, 0, a0_, .ref a_15), (9, 8, a1_, .int x_10), (3, 4, q0_, .int x_3), (10, 3, a0_, .ref q0_)]) rfl (fun r_20 fr_20 H locs hp hMr_20 g => ?_)
  refine lv_istore (lv' := [(5, .int r_20), (4, .ref a_19), (3, .int y_13), (2, .int y_6), (0, .ref a0_), (1, .ref a1_)]) hx hb dX10_drawCall_54 hl (by decide) rfl (fun ls hl => ?_)
  refine lv_aload_n hx hb dX10_drawCall_56 rfl (lv_at hl 4 rfl) ?_
  refine lv_aload hx hb dX10_drawCall_57 (lv_at hl 1 rfl) ?_
  refine lv_iconst (v := 1) hx hb dX10_drawCall_59 (by decide) ?_
  refine g_calli (va_runV (As := [.ref a_19, .int 1]) (rest := []) ⟨hx, hb, hml, hown, hts⟩ (r_X10_drawArgument_2 l dC dI L kd tys fr_20 H.size g.2.2.2.1 a0_ ma0_ ka0_ a_19 ma_19 ka_19 1 kb_1) (cwV 2 hts (gV_ t_1688 t_1690 t_82 t_194 t_1691) rfl rfl rfl (by decide +kernel) ⟨(Nat.le_of_ble_eq_true rfl), (Nat.le_of_ble_eq_true rfl)⟩) (pre3V g hK ma0_ ka0_ (by decide) (q := (RX10, TX10, 10)) rfl) rfl rfl hl.1 rfl (lv_room (Nat.le_of_ble_eq_true rfl)) dX10_drawCall_60 ⟨(Nat.le_of_ble_eq_true rfl), (Nat.le_of_ble_eq_true rfl)⟩) g hK (by decide) (by decide) (fx' := [(9, 9, a1_, .ref a_17), (7, 2, a_15, .ref a_16), (10, 0, a0_, .ref a_15), (9, 8, a1_, .int x_10), (3, 4, q0_, .int x_3), (10, 3, a0_, .ref q0_)]) rfl (fun r_21 fr_21 H locs hp hMr_21 g => ?_)
  refine lv_istore (lv' := [(6, .int r_21), (5, .int r_20), (4, .ref a_19), (3, .int y_13), (2, .int y_6), (0, .ref a0_), (1, .ref a1_)]) hx hb dX10_drawCall_63 hl (by decide) rfl (fun ls hl => ?_)
  refine lv_aload_n hx hb dX10_drawCall_65 rfl (lv_at hl 5 rfl) ?_
  refine lv_aload hx hb dX10_drawCall_66 (lv_at hl 2 rfl) ?_
  refine lv_iconst (v := 2) hx hb dX10_drawCall_68 (by decide) ?_
  have kb_2 : bd 2 2 (2 : Int32) := ⟨by decide, by decide⟩
  refine g_calli (va_runV (As := [.ref a_19, .int 2]) (rest := []) ⟨hx, hb, hml, hown, hts⟩ (r_X10_drawArgument_3 l dC dI L kd tys fr_21 H.size g.2.2.2.1 a0_ ma0_ ka0_ a_19 ma_19 ka_19 2 kb_2) (cwV 2 hts (gV_ t_1688 t_1690 t_82 t_194 t_1691) rfl rfl rfl (by decide +kernel) ⟨(Nat.le_of_ble_eq_true rfl), (Nat.le_of_ble_eq_true rfl)⟩) (pre3V g hK ma0_ ka0_ (by decide) (q := (RX10, TX10, 10)) rfl) rfl rfl hl.1 rfl (lv_room (Nat.le_of_ble_eq_true rfl)) dX10_drawCall_69 ⟨(Nat.le_of_ble_eq_true rfl), (Nat.le_of_ble_eq_true rfl)⟩) g hK (by decide) (by decide) (fx' := [(9, 9, a1_, .ref a_17), (7, 2, a_15, .ref a_16), (10, 0, a0_, .ref a_15), (9, 8, a1_, .int x_10), (3, 4, q0_, .int x_3), (10, 3, a0_, .ref q0_)]) rfl (fun r_22 fr_22 H locs hp hMr_22 g => ?_)
  refine lv_istore (lv' := [(7, .int r_22), (6, .int r_21), (5, .int r_20), (4, .ref a_19), (3, .int y_13), (2, .int y_6), (0, .ref a0_), (1, .ref a1_)]) hx hb dX10_drawCall_72 hl (by decide) rfl (fun ls hl => ?_)
  refine lv_aload_n hx hb dX10_drawCall_74 rfl (lv_at hl 6 rfl) ?_
  refine g_getk (C := RX10) (T := TX10) (N := 10) hx hb hts (mc_ inX10) hown hK g rfl 3 (by decide) rfl (hts _ (List.mem_cons_of_mem _ t_916)) (fun _ h9 => h9) 5 rfl dX10_drawCall_75 ?_
  refine lv_iload_n hx hb dX10_drawCall_78 rfl (lv_at hl 5 rfl) ?_
  refine lv_iload_n hx hb dX10_drawCall_79 rfl (lv_at hl 4 rfl) ?_
  refine lv_iload hx hb dX10_drawCall_80 (lv_at hl 2 rfl) ?_
  refine lv_iload hx hb dX10_drawCall_82 (lv_at hl 1 rfl) ?_
  refine lv_iload hx hb dX10_drawCall_84 (lv_at hl 0 rfl) ?_
  refine g_callv (va_runV (As := [.int y_6, .int y_13, .int r_20, .int r_21, .int r_22]) (rest := []) ⟨hx, hb, hml, hown, hts⟩ (r_X3_addCall l dC dI L kd tys fr_22 H.size g.2.2.2.1 q0_ mq0_ kq0_ y_6 b_7 y_13 b_14 r_20 r_21 r_22) (cwV 5 hts (gV_ t_1514 t_1515 t_1516 t_196 t_1517) rfl rfl rfl (by decide +kernel) ⟨(Nat.le_of_ble_eq_true rfl), (Nat.le_of_ble_eq_true rfl)⟩) (pre3V g hK mq0_ kq0_ (by decide) (q := (RX3, TX3, 6)) rfl) rfl rfl hl.1 rfl (lv_room (Nat.le_of_ble_eq_true rfl)) dX10_drawCall_86 ⟨(Nat.le_of_ble_eq_true rfl), (Nat.le_of_ble_eq_true rfl)⟩) g hK (by decide) (by decide) (fx' := [(9, 9, a1_, .ref a_17), (7, 2, a_15, .ref a_16), (10, 0, a0_, .ref a_15), (9, 8, a1_, .int x_10), (3, 4, q0_, .int x_3), (10, 3, a0_, .ref q0_)]) rfl (fun fr_23 H locs hp hMr_23 g => ?_)
  obtain ⟨x_24, h_25, hF_26⟩ := hp
  have g := g.more hF_26
  subst hQ
  exact W.vret hx hb hr (fun t ht hW => ⟨⟨_, rfl, ⟨x_24, h_25, (g.fcts [0] rfl)⟩, q3_of g hK ht hW⟩, g.2.2.1.F ht⟩) g.2.2.1.2.2 dX10_drawCall_89
set_option maxHeartbeats 4000000 in
set_option maxRecDepth 100000 in
theorem r_X11_putBytes (l : Launch) (dC : Nat → ClassId) (dI : Nat → Nat → Nat) (L : List Nat) (kd : Nat → Nat) (tys : List (ClassId × FieldType)) (f0 : Nat → va_E) (sz : Nat) (hWT : WT L kd tys f0) (a0_ : Nat) (ma0_ : a0_ ∈ L) (ka0_ : kd a0_ = 11) (x1_ : Int32) : Met l yX11_putBytes (.code yX11_putBytes cX11_putBytes 3 none :: lw_g) ({ frames := 0, cells := 0, slots := 0, locals := 0 }) (va_Pc [.ref a0_, .int x1_] (P3 (dC, dI) L tys f0 sz)) (va_Qv (fun (f : Nat → va_E) => (∃ z0_ : Int32, bd 4 4000 z0_ ∧ Fs L kd f [(11, 1, a0_, .int z0_)])) (Q3 (dC, dI) L kd tys [(11, 1)] [104] f0 sz) (pA L sz)) 0 0 (pA L sz) := by
  refine Met.ofW (cc := cX11_putBytes) (maxL := 3) (ret := none) (by decide) rfl ?_
  intro p e s m args below meth c s₁ B hml hv
  obtain ⟨rfl, hsz, hP, hK, hD0⟩ := hv
  have hx := B.exec
  have hb := B.bytes
  have hr := B.returns
  have hts := atoms_spec (ws := (.code yX11_putBytes cX11_putBytes 3 none :: lw_g)) B.pre
  have hown : s.vm.findClass RX11 = some m.cls := findClass_of_methodNamed B.named
  have hlocks := B.notSynchronized
  subst hsz
  have g : G3 (dC, dI) L kd tys s f0 [(11, 1)] [104] f0 s.heap [] [] := G3.start hP hD0 hWT Fs.nil
  have hl := lv_entry ([.ref a0_, .int x1_]) (n := 3) (Nat.le_of_ble_eq_true rfl)
  rw [lg_entry_eq]
  generalize (lg_sl ([.ref a0_, .int x1_]) ++ List.replicate (3 - (lg_sl ([.ref a0_, .int x1_])).length) Slot.unset).toArray = ls at hl ⊢
  have hl : lv_has ls 3 [(0, .ref a0_), (1, .int x1_)] := hl
  refine W_q (fun Q hQ => ?_)
  refine lv_bipush (v := 24) hx hb dX11_putBytes_0 (by decide) ?_
  refine lv_istore_n (lv' := [(2, .int 24), (0, .ref a0_), (1, .int x1_)]) hx hb dX11_putBytes_2 rfl hl (by decide) rfl (fun ls hl => ?_)
  refine lv_iload_n hx hb dX11_putBytes_3 rfl (lv_at hl 0 rfl) ?_
  refine lv_if_lt (tgt := 46) hx hb dX11_putBytes_4 (by decide) (fun c_ => absurd c_ (by decide)) (fun c_ => ?_)
  refine lv_aload_n hx hb dX11_putBytes_7 rfl (lv_at hl 1 rfl) ?_
  refine g_geti (C := RX11) (T := TX11) (N := 8) hx hb hts (mc_ inX11) hown hK g ma0_ ka0_ (by decide) rfl 1 (by decide) rfl (hts _ (List.mem_cons_of_mem _ t_949)) (fun _ h9 => h9) rfl dX11_putBytes_8 (fun x_1 bx_1 g => ?_)
  refine lv_sipush (v := 4000) hx hb dX11_putBytes_11 (by decide) ?_
  have kb_4000 : bd 4000 4000 (4000 : Int32) := ⟨by decide, by decide⟩
  refine lv_icmp_ge (tgt := 46) hx hb dX11_putBytes_14 (by decide) (fun c_2 => ?_) (fun c_2 => ?_)
  · have fc_2 := le_f c_2
    have b_3 : bd 4000 4000 x_1 := leR fc_2 kb_4000 bx_1 (by decide)
    subst hQ
    exact W.vret hx hb hr (fun t ht hW => ⟨⟨_, rfl, ⟨x_1, (bd_sub b_3 (by decide)), (g.fcts [0] rfl)⟩, q3_of g hK ht hW⟩, g.2.2.1.F ht⟩) g.2.2.1.2.2 dX11_putBytes_46
  · have fc_2 := nle_f c_2
    have b_4 : bd 0 3999 x_1 := ltL fc_2 bx_1 kb_4000 (by decide)
    refine lv_aload_n hx hb dX11_putBytes_17 rfl (lv_at hl 1 rfl) ?_
    refine g_getr (K := 104) (C := RX11) (T := TX11) (N := 8) hx hb hts (mc_ inX11) hown hK g ma0_ ka0_ (by decide) rfl 0 (by decide) rfl (hts _ (List.mem_cons_of_mem _ t_948)) (fun _ h9 => h9) rfl dX11_putBytes_18 (fun a_5 ma_5 ka_5 g => ?_)
    refine lv_aload_n hx hb dX11_putBytes_21 rfl (lv_at hl 1 rfl) ?_
    refine g_getk (C := RX11) (T := TX11) (N := 8) hx hb hts (mc_ inX11) hown hK g rfl 1 (by decide) rfl (hts _ (List.mem_cons_of_mem _ t_949)) (fun _ h9 => h9) 1 rfl dX11_putBytes_22 ?_
    refine lv_iload_n hx hb dX11_putBytes_25 rfl (lv_at hl 2 rfl) ?_
    refine lv_iload_n hx hb dX11_putBytes_26 rfl (lv_at hl 0 rfl) ?_
    refine lv_iushr hx hb dX11_putBytes_27 rfl ?_
    refine lv_topi (fun y_6 ey_6 => ?_)
    refine lv_i2b hx hb dX11_putBytes_28 rfl ?_
    refine lv_topi (fun y_7 ey_7 => ?_)
    refine g_bast hx hb hK g ma_5 ka_5 (by decide) rfl (in_bd b_4 (by decide)) (by decide) dX11_putBytes_29 (fun f H locs hM_8 g => ?_)
    refine lv_aload_n hx hb dX11_putBytes_30 rfl (lv_at hl 1 rfl) ?_
    refine lv_dup hx hb dX11_putBytes_31 rfl ?_
    refine g_getk (C := RX11) (T := TX11) (N := 8) hx hb hts (mc_ inX11) hown hK g rfl 1 (by decide) rfl (hts _ (List.mem_cons_of_mem _ t_949)) (fun _ h9 => h9) 1 rfl dX11_putBytes_32 ?_
    refine lv_iconst (v := 1) hx hb dX11_putBytes_35 (by decide) ?_
    have kb_1 : bd 1 1 (1 : Int32) := ⟨by decide, by decide⟩
    refine lv_iadd hx hb dX11_putBytes_36 ?_
    refine lv_topi (fun y_9 ey_9 => ?_)
    have ty_9 := add_bd ey_9 b_4 kb_1 (by decide)
    have b_10 : bd 1 4000 y_9 := add_rg ty_9 b_4 kb_1 (by decide)
    refine g_put (C := RX11) (T := TX11) (N := 8) hx hb hts (mc_ inX11) tyX11 tyX11_ok nmX11 hown hK g ma0_ ka0_ (by decide) rfl 1 (by decide) (hts _ (List.mem_cons_of_mem _ t_949)) (fun _ h9 => h9) rfl rfl (okV_i (bd_sub b_10 (by decide))) rfl rfl (by decide) (Or.inr (Or.inl (by decide))) (fx' := [(11, 0, a0_, .ref a_5)]) rfl dX11_putBytes_37 (fun f H locs hM_11 g => ?_)
    refine lv_iinc (v := 16) (lv' := [(2, .int 16), (0, .ref a0_), (1, .int x1_)]) hx hb dX11_putBytes_40 hl (k := 0) rfl (by decide) (by decide) rfl (fun ls hl => ?_)
    refine lv_goto (tgt := 3) hx hb dX11_putBytes_43 (by decide) ?_
    refine lv_iload_n hx hb dX11_putBytes_3 rfl (lv_at hl 0 rfl) ?_
    refine lv_if_lt (tgt := 46) hx hb dX11_putBytes_4 (by decide) (fun c_ => absurd c_ (by decide)) (fun c_ => ?_)
    refine lv_aload_n hx hb dX11_putBytes_7 rfl (lv_at hl 1 rfl) ?_
    refine g_getk (C := RX11) (T := TX11) (N := 8) hx hb hts (mc_ inX11) hown hK g rfl 1 (by decide) rfl (hts _ (List.mem_cons_of_mem _ t_949)) (fun _ h9 => h9) 0 rfl dX11_putBytes_8 ?_
    refine lv_sipush (v := 4000) hx hb dX11_putBytes_11 (by decide) ?_
    refine lv_icmp_ge (tgt := 46) hx hb dX11_putBytes_14 (by decide) (fun c_12 => ?_) (fun c_12 => ?_)
    · have fc_12 := le_f c_12
      have b_13 : bd 4000 4000 y_9 := leR fc_12 kb_4000 b_10 (by decide)
      have b_14 : bd 3999 3999 x_1 := add_inv ty_9 b_13 b_4 kb_1 (by decide)
      subst hQ
      exact W.vret hx hb hr (fun t ht hW => ⟨⟨_, rfl, ⟨y_9, (bd_sub b_13 (by decide)), (g.fcts [0] rfl)⟩, q3_of g hK ht hW⟩, g.2.2.1.F ht⟩) g.2.2.1.2.2 dX11_putBytes_46
    · have fc_12 := nle_f c_12
      have b_15 : bd 1 3999 y_9 := ltL fc_12 b_10 kb_4000 (by decide)
      have b_16 : bd 0 3998 x_1 := add_inv ty_9 b_15 b_4 kb_1 (by decide)
      refine lv_aload_n hx hb dX11_putBytes_17 rfl (lv_at hl 1 rfl) ?_
      refine g_getk (C := RX11) (T := TX11) (N := 8) hx hb hts (mc_ inX11) hown hK g rfl 0 (by decide) rfl (hts _ (List.mem_cons_of_mem _ t_948)) (fun _ h9 => h9) 1 rfl dX11_putBytes_18 ?_
      refine lv_aload_n hx hb dX11_putBytes_21 rfl (lv_at hl 1 rfl) ?_
      refine g_getk (C := RX11) (T := TX11) (N := 8) hx hb hts (mc_ inX11) hown hK g rfl 1 (by decide) rfl (hts _ (List.mem_cons_of_mem _ t_949)) (fun _ h9 => h9) 0 rfl dX11_putBytes_22 ?_
      refine lv_iload_n hx hb dX11_putBytes_25 rfl (lv_at hl 2 rfl) ?_
      refine lv_iload_n hx hb dX11_putBytes_26 rfl (lv_at hl 0 rfl) ?_
      refine lv_iushr hx hb dX11_putBytes_27 rfl ?_
      refine lv_topi (fun y_17 ey_17 => ?_)
      refine lv_i2b hx hb dX11_putBytes_28 rfl ?_
      refine lv_topi (fun y_18 ey_18 => ?_)
      refine g_bast hx hb hK g ma_5 ka_5 (by decide) rfl (in_bd b_15 (by decide)) (by decide) dX11_putBytes_29 (fun f H locs hM_19 g => ?_)
      refine lv_aload_n hx hb dX11_putBytes_30 rfl (lv_at hl 1 rfl) ?_
      refine lv_dup hx hb dX11_putBytes_31 rfl ?_
      refine g_getk (C := RX11) (T := TX11) (N := 8) hx hb hts (mc_ inX11) hown hK g rfl 1 (by decide) rfl (hts _ (List.mem_cons_of_mem _ t_949)) (fun _ h9 => h9) 0 rfl dX11_putBytes_32 ?_
      refine lv_iconst (v := 1) hx hb dX11_putBytes_35 (by decide) ?_
      refine lv_iadd hx hb dX11_putBytes_36 ?_
      refine lv_topi (fun y_20 ey_20 => ?_)
      have ty_20 := add_bd ey_20 b_15 kb_1 (by decide)
      have b_21 : bd 2 4000 y_20 := add_rg ty_20 b_15 kb_1 (by decide)
      refine g_put (C := RX11) (T := TX11) (N := 8) hx hb hts (mc_ inX11) tyX11 tyX11_ok nmX11 hown hK g ma0_ ka0_ (by decide) rfl 1 (by decide) (hts _ (List.mem_cons_of_mem _ t_949)) (fun _ h9 => h9) rfl rfl (okV_i (bd_sub b_21 (by decide))) rfl rfl (by decide) (Or.inr (Or.inl (by decide))) (fx' := [(11, 0, a0_, .ref a_5)]) rfl dX11_putBytes_37 (fun f H locs hM_22 g => ?_)
      refine lv_iinc (v := 8) (lv' := [(2, .int 8), (0, .ref a0_), (1, .int x1_)]) hx hb dX11_putBytes_40 hl (k := 0) rfl (by decide) (by decide) rfl (fun ls hl => ?_)
      refine lv_goto (tgt := 3) hx hb dX11_putBytes_43 (by decide) ?_
      refine lv_iload_n hx hb dX11_putBytes_3 rfl (lv_at hl 0 rfl) ?_
      refine lv_if_lt (tgt := 46) hx hb dX11_putBytes_4 (by decide) (fun c_ => absurd c_ (by decide)) (fun c_ => ?_)
      refine lv_aload_n hx hb dX11_putBytes_7 rfl (lv_at hl 1 rfl) ?_
      refine g_getk (C := RX11) (T := TX11) (N := 8) hx hb hts (mc_ inX11) hown hK g rfl 1 (by decide) rfl (hts _ (List.mem_cons_of_mem _ t_949)) (fun _ h9 => h9) 0 rfl dX11_putBytes_8 ?_
      refine lv_sipush (v := 4000) hx hb dX11_putBytes_11 (by decide) ?_
      refine lv_icmp_ge (tgt := 46) hx hb dX11_putBytes_14 (by decide) (fun c_23 => ?_) (fun c_23 => ?_)
      · have fc_23 := le_f c_23
        have b_24 : bd 4000 4000 y_20 := leR fc_23 kb_4000 b_21 (by decide)
        have b_25 : bd 3999 3999 y_9 := add_inv ty_20 b_24 b_15 kb_1 (by decide)
        have b_26 : bd 3998 3998 x_1 := add_inv ty_9 b_25 b_16 kb_1 (by decide)
        subst hQ
        exact W.vret hx hb hr (fun t ht hW => ⟨⟨_, rfl, ⟨y_20, (bd_sub b_24 (by decide)), (g.fcts [0] rfl)⟩, q3_of g hK ht hW⟩, g.2.2.1.F ht⟩) g.2.2.1.2.2 dX11_putBytes_46
      · have fc_23 := nle_f c_23
        have b_27 : bd 2 3999 y_20 := ltL fc_23 b_21 kb_4000 (by decide)
        have b_28 : bd 1 3998 y_9 := add_inv ty_20 b_27 b_15 kb_1 (by decide)
        have b_29 : bd 0 3997 x_1 := add_inv ty_9 b_28 b_16 kb_1 (by decide)
        refine lv_aload_n hx hb dX11_putBytes_17 rfl (lv_at hl 1 rfl) ?_
        refine g_getk (C := RX11) (T := TX11) (N := 8) hx hb hts (mc_ inX11) hown hK g rfl 0 (by decide) rfl (hts _ (List.mem_cons_of_mem _ t_948)) (fun _ h9 => h9) 1 rfl dX11_putBytes_18 ?_
        refine lv_aload_n hx hb dX11_putBytes_21 rfl (lv_at hl 1 rfl) ?_
        refine g_getk (C := RX11) (T := TX11) (N := 8) hx hb hts (mc_ inX11) hown hK g rfl 1 (by decide) rfl (hts _ (List.mem_cons_of_mem _ t_949)) (fun _ h9 => h9) 0 rfl dX11_putBytes_22 ?_
        refine lv_iload_n hx hb dX11_putBytes_25 rfl (lv_at hl 2 rfl) ?_
        refine lv_iload_n hx hb dX11_putBytes_26 rfl (lv_at hl 0 rfl) ?_
        refine lv_iushr hx hb dX11_putBytes_27 rfl ?_
        refine lv_topi (fun y_30 ey_30 => ?_)
        refine lv_i2b hx hb dX11_putBytes_28 rfl ?_
        refine lv_topi (fun y_31 ey_31 => ?_)
        refine g_bast hx hb hK g ma_5 ka_5 (by decide) rfl (in_bd b_27 (by decide)) (by decide) dX11_putBytes_29 (fun f H locs hM_32 g => ?_)
        refine lv_aload_n hx hb dX11_putBytes_30 rfl (lv_at hl 1 rfl) ?_
        refine lv_dup hx hb dX11_putBytes_31 rfl ?_
        refine g_getk (C := RX11) (T := TX11) (N := 8) hx hb hts (mc_ inX11) hown hK g rfl 1 (by decide) rfl (hts _ (List.mem_cons_of_mem _ t_949)) (fun _ h9 => h9) 0 rfl dX11_putBytes_32 ?_
        refine lv_iconst (v := 1) hx hb dX11_putBytes_35 (by decide) ?_
        refine lv_iadd hx hb dX11_putBytes_36 ?_
        refine lv_topi (fun y_33 ey_33 => ?_)
        have ty_33 := add_bd ey_33 b_27 kb_1 (by decide)
        have b_34 : bd 3 4000 y_33 := add_rg ty_33 b_27 kb_1 (by decide)
        refine g_put (C := RX11) (T := TX11) (N := 8) hx hb hts (mc_ inX11) tyX11 tyX11_ok nmX11 hown hK g ma0_ ka0_ (by decide) rfl 1 (by decide) (hts _ (List.mem_cons_of_mem _ t_949)) (fun _ h9 => h9) rfl rfl (okV_i (bd_sub b_34 (by decide))) rfl rfl (by decide) (Or.inr (Or.inl (by decide))) (fx' := [(11, 0, a0_, .ref a_5)]) rfl dX11_putBytes_37 (fun f H locs hM_35 g => ?_)
        refine lv_iinc (v := 0) (lv' := [(2, .int 0), (0, .ref a0_), (1, .int x1_)]) hx hb dX11_putBytes_40 hl (k := 0) rfl (by decide) (by decide) rfl (fun ls hl => ?_)
        refine lv_goto (tgt := 3) hx hb dX11_putBytes_43 (by decide) ?_
        refine lv_iload_n hx hb dX11_putBytes_3 rfl (lv_at hl 0 rfl) ?_
        refine lv_if_lt (tgt := 46) hx hb dX11_putBytes_4 (by decide) (fun c_ => absurd c_ (by decide)) (fun c_ => ?_)
        refine lv_aload_n hx hb dX11_putBytes_7 rfl (lv_at hl 1 rfl) ?_
        refine g_getk (C := RX11) (T := TX11) (N := 8) hx hb hts (mc_ inX11) hown hK g rfl 1 (by decide) rfl (hts _ (List.mem_cons_of_mem _ t_949)) (fun _ h9 => h9) 0 rfl dX11_putBytes_8 ?_
        refine lv_sipush (v := 4000) hx hb dX11_putBytes_11 (by decide) ?_
        refine lv_icmp_ge (tgt := 46) hx hb dX11_putBytes_14 (by decide) (fun c_36 => ?_) (fun c_36 => ?_)
        · have fc_36 := le_f c_36
          have b_37 : bd 4000 4000 y_33 := leR fc_36 kb_4000 b_34 (by decide)
          have b_38 : bd 3999 3999 y_20 := add_inv ty_33 b_37 b_27 kb_1 (by decide)
          have b_39 : bd 3998 3998 y_9 := add_inv ty_20 b_38 b_28 kb_1 (by decide)
          have b_40 : bd 3997 3997 x_1 := add_inv ty_9 b_39 b_29 kb_1 (by decide)
          subst hQ
          exact W.vret hx hb hr (fun t ht hW => ⟨⟨_, rfl, ⟨y_33, (bd_sub b_37 (by decide)), (g.fcts [0] rfl)⟩, q3_of g hK ht hW⟩, g.2.2.1.F ht⟩) g.2.2.1.2.2 dX11_putBytes_46
        · have fc_36 := nle_f c_36
          have b_41 : bd 3 3999 y_33 := ltL fc_36 b_34 kb_4000 (by decide)
          have b_42 : bd 2 3998 y_20 := add_inv ty_33 b_41 b_27 kb_1 (by decide)
          have b_43 : bd 1 3997 y_9 := add_inv ty_20 b_42 b_28 kb_1 (by decide)
          have b_44 : bd 0 3996 x_1 := add_inv ty_9 b_43 b_29 kb_1 (by decide)
          refine lv_aload_n hx hb dX11_putBytes_17 rfl (lv_at hl 1 rfl) ?_
          refine g_getk (C := RX11) (T := TX11) (N := 8) hx hb hts (mc_ inX11) hown hK g rfl 0 (by decide) rfl (hts _ (List.mem_cons_of_mem _ t_948)) (fun _ h9 => h9) 1 rfl dX11_putBytes_18 ?_
          refine lv_aload_n hx hb dX11_putBytes_21 rfl (lv_at hl 1 rfl) ?_
          refine g_getk (C := RX11) (T := TX11) (N := 8) hx hb hts (mc_ inX11) hown hK g rfl 1 (by decide) rfl (hts _ (List.mem_cons_of_mem _ t_949)) (fun _ h9 => h9) 0 rfl dX11_putBytes_22 ?_
          refine lv_iload_n hx hb dX11_putBytes_25 rfl (lv_at hl 2 rfl) ?_
          refine lv_iload_n hx hb dX11_putBytes_26 rfl (lv_at hl 0 rfl) ?_
          refine lv_iushr hx hb dX11_putBytes_27 rfl ?_
          refine lv_topi (fun y_45 ey_45 => ?_)
          refine lv_i2b hx hb dX11_putBytes_28 rfl ?_
          refine lv_topi (fun y_46 ey_46 => ?_)
          refine g_bast hx hb hK g ma_5 ka_5 (by decide) rfl (in_bd b_41 (by decide)) (by decide) dX11_putBytes_29 (fun f H locs hM_47 g => ?_)
          refine lv_aload_n hx hb dX11_putBytes_30 rfl (lv_at hl 1 rfl) ?_
          refine lv_dup hx hb dX11_putBytes_31 rfl ?_
          refine g_getk (C := RX11) (T := TX11) (N := 8) hx hb hts (mc_ inX11) hown hK g rfl 1 (by decide) rfl (hts _ (List.mem_cons_of_mem _ t_949)) (fun _ h9 => h9) 0 rfl dX11_putBytes_32 ?_
          refine lv_iconst (v := 1) hx hb dX11_putBytes_35 (by decide) ?_
          refine lv_iadd hx hb dX11_putBytes_36 ?_
          refine lv_topi (fun y_48 ey_48 => ?_)
          have ty_48 := add_bd ey_48 b_41 kb_1 (by decide)
          have b_49 : bd 4 4000 y_48 := add_rg ty_48 b_41 kb_1 (by decide)
          refine g_put (C := RX11) (T := TX11) (N := 8) hx hb hts (mc_ inX11) tyX11 tyX11_ok nmX11 hown hK g ma0_ ka0_ (by decide) rfl 1 (by decide) (hts _ (List.mem_cons_of_mem _ t_949)) (fun _ h9 => h9) rfl rfl (okV_i (bd_sub b_49 (by decide))) rfl rfl (by decide) (Or.inr (Or.inl (by decide))) (fx' := [(11, 0, a0_, .ref a_5)]) rfl dX11_putBytes_37 (fun f H locs hM_50 g => ?_)
          refine lv_iinc (v := (-8)) (lv' := [(2, .int (-8)), (0, .ref a0_), (1, .int x1_)]) hx hb dX11_putBytes_40 hl (k := 0) rfl (by decide) (by decide) rfl (fun ls hl => ?_)
          refine lv_goto (tgt := 3) hx hb dX11_putBytes_43 (by decide) ?_
          refine lv_iload_n hx hb dX11_putBytes_3 rfl (lv_at hl 0 rfl) ?_
          refine lv_if_lt (tgt := 46) hx hb dX11_putBytes_4 (by decide) (fun c_ => ?_) (fun c_ => absurd (by decide) c_)
          subst hQ
          exact W.vret hx hb hr (fun t ht hW => ⟨⟨_, rfl, ⟨y_48, b_49, (g.fcts [0] rfl)⟩, q3_of g hK ht hW⟩, g.2.2.1.F ht⟩) g.2.2.1.2.2 dX11_putBytes_46
set_option maxHeartbeats 4000000 in
set_option maxRecDepth 100000 in
theorem r_X11_feed (l : Launch) (dC : Nat → ClassId) (dI : Nat → Nat → Nat) (L : List Nat) (kd : Nat → Nat) (tys : List (ClassId × FieldType)) (f0 : Nat → va_E) (sz : Nat) (hWT : WT L kd tys f0) (a0_ : Nat) (ma0_ : a0_ ∈ L) (ka0_ : kd a0_ = 11) (x1_ : Int32) (x2_ : Int32) (x3_ : Int32) (x4_ : Int32) (x5_ : Int32) : Met l yX11_feed (.code yX11_feed cX11_feed 6 (some .int) :: lw_g) ({ frames := 1, cells := 0, slots := 0, locals := 22 }) (va_Pc [.ref a0_, .int x1_, .int x2_, .int x3_, .int x4_, .int x5_] (P3 (dC, dI) L tys f0 sz)) (va_Qi (fun (r : Int32) (f : Nat → va_E) => (bd (-3) 4000 r ∧ ∃ z0_ : Int32, bd 4 4000 z0_ ∧ Fs L kd f [(11, 1, a0_, .int z0_)])) (Q3 (dC, dI) L kd tys [(11, 1)] [104] f0 sz) (pA L sz)) 0 0 (pA L sz) := by
  refine Met.ofW (cc := cX11_feed) (maxL := 6) (ret := (some .int)) (by decide) rfl ?_
  intro p e s m args below meth c s₁ B hml hv
  obtain ⟨rfl, hsz, hP, hK, hD0⟩ := hv
  have hx := B.exec
  have hb := B.bytes
  have hr := B.returns
  have hts := atoms_spec (ws := (.code yX11_feed cX11_feed 6 (some .int) :: lw_g)) B.pre
  have hown : s.vm.findClass RX11 = some m.cls := findClass_of_methodNamed B.named
  have hlocks := B.notSynchronized
  subst hsz
  have g : G3 (dC, dI) L kd tys s f0 [(11, 1)] [104] f0 s.heap [] [] := G3.start hP hD0 hWT Fs.nil
  have hl := lv_entry ([.ref a0_, .int x1_, .int x2_, .int x3_, .int x4_, .int x5_]) (n := 6) (Nat.le_of_ble_eq_true rfl)
  rw [lg_entry_eq]
  generalize (lg_sl ([.ref a0_, .int x1_, .int x2_, .int x3_, .int x4_, .int x5_]) ++ List.replicate (6 - (lg_sl ([.ref a0_, .int x1_, .int x2_, .int x3_, .int x4_, .int x5_])).length) Slot.unset).toArray = ls at hl ⊢
  have hl : lv_has ls 6 [(0, .ref a0_), (1, .int x1_), (2, .int x2_), (3, .int x3_), (4, .int x4_), (5, .int x5_)] := hl
  refine W_q (fun Q hQ => ?_)
  refine lv_aload_n hx hb dX11_feed_0 rfl (lv_at hl 0 rfl) ?_
  refine g_geti (C := RX11) (T := TX11) (N := 8) hx hb hts (mc_ inX11) hown hK g ma0_ ka0_ (by decide) rfl 1 (by decide) rfl (hts _ (List.mem_cons_of_mem _ t_949)) (fun _ h9 => h9) rfl dX11_feed_1 (fun x_1 bx_1 g => ?_)
  refine lv_bipush (v := 20) hx hb dX11_feed_4 (by decide) ?_
  have kb_20 : bd 20 20 (20 : Int32) := ⟨by decide, by decide⟩
  refine lv_iadd hx hb dX11_feed_6 ?_
  refine lv_topi (fun y_2 ey_2 => ?_)
  have ty_2 := add_bd ey_2 bx_1 kb_20 (by decide)
  have b_3 : bd 20 4020 y_2 := add_rg ty_2 bx_1 kb_20 (by decide)
  refine lv_sipush (v := 4000) hx hb dX11_feed_7 (by decide) ?_
  have kb_4000 : bd 4000 4000 (4000 : Int32) := ⟨by decide, by decide⟩
  refine lv_icmp_le (tgt := 16) hx hb dX11_feed_10 (by decide) (fun c_4 => ?_) (fun c_4 => ?_)
  · have fc_4 := le_f c_4
    have b_5 : bd 20 4000 y_2 := leL fc_4 b_3 kb_4000 (by decide)
    have b_6 : bd 0 3980 x_1 := add_inv ty_2 b_5 bx_1 kb_20 (by decide)
    refine lv_aload_n hx hb dX11_feed_16 rfl (lv_at hl 0 rfl) ?_
    refine lv_iload_n hx hb dX11_feed_17 rfl (lv_at hl 1 rfl) ?_
    refine g_callv (va_runV (As := [.int x1_]) (rest := []) ⟨hx, hb, hml, hown, hts⟩ (r_X11_putBytes l dC dI L kd tys f0 s.heap.size g.2.2.2.1 a0_ ma0_ ka0_ x1_) (cwV 1 hts (gV_ t_977 t_979 t_1 t_182 t_980) rfl rfl rfl (by decide +kernel) ⟨(Nat.le_of_ble_eq_true rfl), (Nat.le_of_ble_eq_true rfl)⟩) (pre3V g hK ma0_ ka0_ (by decide) (q := (RX11, TX11, 8)) rfl) rfl rfl hl.1 rfl (lv_room (Nat.le_of_ble_eq_true rfl)) dX11_feed_18 ⟨(Nat.le_of_ble_eq_true rfl), (Nat.le_of_ble_eq_true rfl)⟩) g hK (by decide) (by decide) (fx' := []) rfl (fun fr_7 H locs hp hMr_7 g => ?_)
    obtain ⟨x_8, h_9, hF_10⟩ := hp
    have g := g.more hF_10
    refine lv_aload_n hx hb dX11_feed_21 rfl (lv_at hl 0 rfl) ?_
    refine lv_iload_n hx hb dX11_feed_22 rfl (lv_at hl 2 rfl) ?_
    refine g_callv (va_runV (As := [.int x2_]) (rest := []) ⟨hx, hb, hml, hown, hts⟩ (r_X11_putBytes l dC dI L kd tys fr_7 H.size g.2.2.2.1 a0_ ma0_ ka0_ x2_) (cwV 1 hts (gV_ t_977 t_979 t_1 t_182 t_980) rfl rfl rfl (by decide +kernel) ⟨(Nat.le_of_ble_eq_true rfl), (Nat.le_of_ble_eq_true rfl)⟩) (pre3V g hK ma0_ ka0_ (by decide) (q := (RX11, TX11, 8)) rfl) rfl rfl hl.1 rfl (lv_room (Nat.le_of_ble_eq_true rfl)) dX11_feed_23 ⟨(Nat.le_of_ble_eq_true rfl), (Nat.le_of_ble_eq_true rfl)⟩) g hK (by decide) (by decide) (fx' := []) rfl (fun fr_11 H locs hp hMr_11 g => ?_)
    obtain ⟨x_12, h_13, hF_14⟩ := hp
    have g := g.more hF_14
    refine lv_aload_n hx hb dX11_feed_26 rfl (lv_at hl 0 rfl) ?_
    refine lv_iload_n hx hb dX11_feed_27 rfl (lv_at hl 3 rfl) ?_
    refine g_callv (va_runV (As := [.int x3_]) (rest := []) ⟨hx, hb, hml, hown, hts⟩ (r_X11_putBytes l dC dI L kd tys fr_11 H.size g.2.2.2.1 a0_ ma0_ ka0_ x3_) (cwV 1 hts (gV_ t_977 t_979 t_1 t_182 t_980) rfl rfl rfl (by decide +kernel) ⟨(Nat.le_of_ble_eq_true rfl), (Nat.le_of_ble_eq_true rfl)⟩) (pre3V g hK ma0_ ka0_ (by decide) (q := (RX11, TX11, 8)) rfl) rfl rfl hl.1 rfl (lv_room (Nat.le_of_ble_eq_true rfl)) dX11_feed_28 ⟨(Nat.le_of_ble_eq_true rfl), (Nat.le_of_ble_eq_true rfl)⟩) g hK (by decide) (by decide) (fx' := []) rfl (fun fr_15 H locs hp hMr_15 g => ?_)
    obtain ⟨x_16, h_17, hF_18⟩ := hp
    have g := g.more hF_18
    refine lv_aload_n hx hb dX11_feed_31 rfl (lv_at hl 0 rfl) ?_
    refine lv_iload hx hb dX11_feed_32 (lv_at hl 4 rfl) ?_
    refine g_callv (va_runV (As := [.int x4_]) (rest := []) ⟨hx, hb, hml, hown, hts⟩ (r_X11_putBytes l dC dI L kd tys fr_15 H.size g.2.2.2.1 a0_ ma0_ ka0_ x4_) (cwV 1 hts (gV_ t_977 t_979 t_1 t_182 t_980) rfl rfl rfl (by decide +kernel) ⟨(Nat.le_of_ble_eq_true rfl), (Nat.le_of_ble_eq_true rfl)⟩) (pre3V g hK ma0_ ka0_ (by decide) (q := (RX11, TX11, 8)) rfl) rfl rfl hl.1 rfl (lv_room (Nat.le_of_ble_eq_true rfl)) dX11_feed_34 ⟨(Nat.le_of_ble_eq_true rfl), (Nat.le_of_ble_eq_true rfl)⟩) g hK (by decide) (by decide) (fx' := []) rfl (fun fr_19 H locs hp hMr_19 g => ?_)
    obtain ⟨x_20, h_21, hF_22⟩ := hp
    have g := g.more hF_22
    refine lv_aload_n hx hb dX11_feed_37 rfl (lv_at hl 0 rfl) ?_
    refine lv_iload hx hb dX11_feed_38 (lv_at hl 5 rfl) ?_
    refine g_callv (va_runV (As := [.int x5_]) (rest := []) ⟨hx, hb, hml, hown, hts⟩ (r_X11_putBytes l dC dI L kd tys fr_19 H.size g.2.2.2.1 a0_ ma0_ ka0_ x5_) (cwV 1 hts (gV_ t_977 t_979 t_1 t_182 t_980) rfl rfl rfl (by decide +kernel) ⟨(Nat.le_of_ble_eq_true rfl), (Nat.le_of_ble_eq_true rfl)⟩) (pre3V g hK ma0_ ka0_ (by decide) (q := (RX11, TX11, 8)) rfl) rfl rfl hl.1 rfl (lv_room (Nat.le_of_ble_eq_true rfl)) dX11_feed_40 ⟨(Nat.le_of_ble_eq_true rfl), (Nat.le_of_ble_eq_true rfl)⟩) g hK (by decide) (by decide) (fx' := []) rfl (fun fr_23 H locs hp hMr_23 g => ?_)
    obtain ⟨x_24, h_25, hF_26⟩ := hp
    have g := g.more hF_26
    refine lv_aload_n hx hb dX11_feed_43 rfl (lv_at hl 0 rfl) ?_
    refine g_getk (C := RX11) (T := TX11) (N := 8) hx hb hts (mc_ inX11) hown hK g rfl 1 (by decide) rfl (hts _ (List.mem_cons_of_mem _ t_949)) (fun _ h9 => h9) 0 rfl dX11_feed_44 ?_
    subst hQ
    exact W.iret (v := x_24) hx hb hr (fun t ht hW => ⟨⟨_, _, rfl, ⟨(bd_sub h_25 (by decide)), x_24, h_25, (g.fcts [0] rfl)⟩, q3_of g hK ht hW⟩, g.2.2.1.F ht⟩) g.2.2.1.2.2 dX11_feed_47
  · have fc_4 := nle_f c_4
    have b_27 : bd 4001 4020 y_2 := ltR fc_4 kb_4000 b_3 (by decide)
    have b_28 : bd 3981 4000 x_1 := add_inv ty_2 b_27 bx_1 kb_20 (by decide)
    refine lv_bipush (v := (-3)) hx hb dX11_feed_13 (by decide) ?_
    have kb_m3 : bd (-3) (-3) ((-3) : Int32) := ⟨by decide, by decide⟩
    subst hQ
    exact W.iret (v := (-3)) hx hb hr (fun t ht hW => ⟨⟨_, _, rfl, ⟨(bd_sub kb_m3 (by decide)), x_1, (bd_sub b_28 (by decide)), (g.fcts [0] rfl)⟩, q3_of g hK ht hW⟩, g.2.2.1.F ht⟩) g.2.2.1.2.2 dX11_feed_15
set_option maxHeartbeats 4000000 in
set_option maxRecDepth 100000 in
theorem r_X11_end (l : Launch) (dC : Nat → ClassId) (dI : Nat → Nat → Nat) (L : List Nat) (kd : Nat → Nat) (tys : List (ClassId × FieldType)) (f0 : Nat → va_E) (sz : Nat) (hWT : WT L kd tys f0) (a0_ : Nat) (ma0_ : a0_ ∈ L) (ka0_ : kd a0_ = 11) (x1_ : Int32) : Met l yX11_end (.code yX11_end cX11_end 2 (some .int) :: lw_g) ({ frames := 0, cells := 0, slots := 0, locals := 0 }) (va_Pc [.ref a0_, .int x1_] (P3 (dC, dI) L tys f0 sz)) (va_Qi (fun (r : Int32) (f : Nat → va_E) => (bd (-1) 4000 r ∧ True)) (Q3 (dC, dI) L kd tys [(11, 1)] [] f0 sz) (pA L sz)) 0 0 (pA L sz) := by
  refine Met.ofW (cc := cX11_end) (maxL := 2) (ret := (some .int)) (by decide) rfl ?_
  intro p e s m args below meth c s₁ B hml hv
  obtain ⟨rfl, hsz, hP, hK, hD0⟩ := hv
  have hx := B.exec
  have hb := B.bytes
  have hr := B.returns
  have hts := atoms_spec (ws := (.code yX11_end cX11_end 2 (some .int) :: lw_g)) B.pre
  have hown : s.vm.findClass RX11 = some m.cls := findClass_of_methodNamed B.named
  have hlocks := B.notSynchronized
  subst hsz
  have g : G3 (dC, dI) L kd tys s f0 [(11, 1)] [] f0 s.heap [] [] := G3.start hP hD0 hWT Fs.nil
  have hl := lv_entry ([.ref a0_, .int x1_]) (n := 2) (Nat.le_of_ble_eq_true rfl)
  rw [lg_entry_eq]
  generalize (lg_sl ([.ref a0_, .int x1_]) ++ List.replicate (2 - (lg_sl ([.ref a0_, .int x1_])).length) Slot.unset).toArray = ls at hl ⊢
  have hl : lv_has ls 2 [(0, .ref a0_), (1, .int x1_)] := hl
  refine W_q (fun Q hQ => ?_)
  refine lv_iload_n hx hb dX11_end_0 rfl (lv_at hl 1 rfl) ?_
  have kb_0 : bd 0 0 (0 : Int32) := ⟨by decide, by decide⟩
  refine lv_if_lt (tgt := 12) hx hb dX11_end_1 (by decide) (fun c_1 => ?_) (fun c_1 => ?_)
  · have fc_1 := lt_f c_1
    have b_2 : bd (-2147483648) (-1) x1_ := ltL fc_1 (bdT x1_) kb_0 (by decide)
    refine lv_iconst (v := (-1)) hx hb dX11_end_12 (by decide) ?_
    have kb_m1 : bd (-1) (-1) ((-1) : Int32) := ⟨by decide, by decide⟩
    subst hQ
    exact W.iret (v := (-1)) hx hb hr (fun t ht hW => ⟨⟨_, _, rfl, ⟨(bd_sub kb_m1 (by decide)), trivial⟩, q3_of g hK ht hW⟩, g.2.2.1.F ht⟩) g.2.2.1.2.2 dX11_end_13
  · have fc_1 := nlt_f c_1
    have b_3 : bd 0 2147483647 x1_ := leR fc_1 kb_0 (bdT x1_) (by decide)
    refine lv_iload_n hx hb dX11_end_4 rfl (lv_at hl 1 rfl) ?_
    refine lv_aload_n hx hb dX11_end_5 rfl (lv_at hl 0 rfl) ?_
    refine g_geti (C := RX11) (T := TX11) (N := 8) hx hb hts (mc_ inX11) hown hK g ma0_ ka0_ (by decide) rfl 1 (by decide) rfl (hts _ (List.mem_cons_of_mem _ t_949)) (fun _ h9 => h9) rfl dX11_end_6 (fun x_4 bx_4 g => ?_)
    refine lv_icmp_le (tgt := 14) hx hb dX11_end_9 (by decide) (fun c_5 => ?_) (fun c_5 => ?_)
    · have fc_5 := le_f c_5
      have b_6 : bd 0 4000 x1_ := leL fc_5 b_3 bx_4 (by decide)
      refine lv_aload_n hx hb dX11_end_14 rfl (lv_at hl 0 rfl) ?_
      refine lv_iload_n hx hb dX11_end_15 rfl (lv_at hl 1 rfl) ?_
      refine g_put (C := RX11) (T := TX11) (N := 8) hx hb hts (mc_ inX11) tyX11 tyX11_ok nmX11 hown hK g ma0_ ka0_ (by decide) rfl 1 (by decide) (hts _ (List.mem_cons_of_mem _ t_949)) (fun _ h9 => h9) rfl rfl (okV_i b_6) rfl rfl (by decide) (Or.inr (Or.inl (by decide))) (fx' := []) rfl dX11_end_16 (fun f H locs hM_7 g => ?_)
      refine lv_iload_n hx hb dX11_end_19 rfl (lv_at hl 1 rfl) ?_
      subst hQ
      exact W.iret (v := x1_) hx hb hr (fun t ht hW => ⟨⟨_, _, rfl, ⟨(bd_sub b_6 (by decide)), trivial⟩, q3_of g hK ht hW⟩, g.2.2.1.F ht⟩) g.2.2.1.2.2 dX11_end_20
    · have fc_5 := nle_f c_5
      have b_8 : bd 1 2147483647 x1_ := ltR fc_5 bx_4 b_3 (by decide)
      refine lv_iconst (v := (-1)) hx hb dX11_end_12 (by decide) ?_
      have kb_m1 : bd (-1) (-1) ((-1) : Int32) := ⟨by decide, by decide⟩
      subst hQ
      exact W.iret (v := (-1)) hx hb hr (fun t ht hW => ⟨⟨_, _, rfl, ⟨(bd_sub kb_m1 (by decide)), trivial⟩, q3_of g hK ht hW⟩, g.2.2.1.F ht⟩) g.2.2.1.2.2 dX11_end_13
set_option maxHeartbeats 4000000 in
set_option maxRecDepth 100000 in
theorem r_X11_fault (l : Launch) (dC : Nat → ClassId) (dI : Nat → Nat → Nat) (L : List Nat) (kd : Nat → Nat) (tys : List (ClassId × FieldType)) (f0 : Nat → va_E) (sz : Nat) (hWT : WT L kd tys f0) (a0_ : Nat) (ma0_ : a0_ ∈ L) (ka0_ : kd a0_ = 11) (x1_ : Int32) : Met l yX11_fault (.code yX11_fault cX11_fault 2 (some .int) :: lw_g) ({ frames := 0, cells := 0, slots := 0, locals := 0 }) (va_Pc [.ref a0_, .int x1_] (P3 (dC, dI) L tys f0 sz)) (va_Qi (fun (r : Int32) (f : Nat → va_E) => (True)) (Q3 (dC, dI) L kd tys [] [] f0 sz) (pA L sz)) 0 0 (pA L sz) := by
  refine Met.ofW (cc := cX11_fault) (maxL := 2) (ret := (some .int)) (by decide) rfl ?_
  intro p e s m args below meth c s₁ B hml hv
  obtain ⟨rfl, hsz, hP, hK, hD0⟩ := hv
  have hx := B.exec
  have hb := B.bytes
  have hr := B.returns
  have hts := atoms_spec (ws := (.code yX11_fault cX11_fault 2 (some .int) :: lw_g)) B.pre
  have hown : s.vm.findClass RX11 = some m.cls := findClass_of_methodNamed B.named
  have hlocks := B.notSynchronized
  subst hsz
  have g : G3 (dC, dI) L kd tys s f0 [] [] f0 s.heap [] [] := G3.start hP hD0 hWT Fs.nil
  have hl := lv_entry ([.ref a0_, .int x1_]) (n := 2) (Nat.le_of_ble_eq_true rfl)
  rw [lg_entry_eq]
  generalize (lg_sl ([.ref a0_, .int x1_]) ++ List.replicate (2 - (lg_sl ([.ref a0_, .int x1_])).length) Slot.unset).toArray = ls at hl ⊢
  have hl : lv_has ls 2 [(0, .ref a0_), (1, .int x1_)] := hl
  refine W_q (fun Q hQ => ?_)
  refine lv_iload_n hx hb dX11_fault_0 rfl (lv_at hl 1 rfl) ?_
  have kb_0 : bd 0 0 (0 : Int32) := ⟨by decide, by decide⟩
  refine lv_if_ne (tgt := 9) hx hb dX11_fault_1 (by decide) (fun c_1 => ?_) (fun c_1 => ?_)
  · have fc_1 := neq_f c_1
    refine lv_iload_n hx hb dX11_fault_9 rfl (lv_at hl 1 rfl) ?_
    refine lv_iconst (v := 1) hx hb dX11_fault_10 (by decide) ?_
    have kb_1 : bd 1 1 (1 : Int32) := ⟨by decide, by decide⟩
    refine lv_icmp_ne (tgt := 21) hx hb dX11_fault_11 (by decide) (fun c_2 => ?_) (fun c_2 => ?_)
    · have fc_2 := neq_f c_2
      refine lv_iconst (v := (-1)) hx hb dX11_fault_21 (by decide) ?_
      subst hQ
      exact W.iret (v := (-1)) hx hb hr (fun t ht hW => ⟨⟨_, _, rfl, trivial, q3_of g hK ht hW⟩, g.2.2.1.F ht⟩) g.2.2.1.2.2 dX11_fault_22
    · have fc_2 := eq_f c_2
      have b_3 : bd 1 1 x1_ := eqX fc_2 (bdT x1_) kb_1 (by decide)
      refine lv_aload_n hx hb dX11_fault_14 rfl (lv_at hl 0 rfl) ?_
      refine g_geti (C := RX11) (T := TX11) (N := 8) hx hb hts (mc_ inX11) hown hK g ma0_ ka0_ (by decide) rfl 7 (by decide) rfl (hts _ (List.mem_cons_of_mem _ t_955)) (fun _ h9 => h9) rfl dX11_fault_15 (fun x_4 bx_4 g => ?_)
      refine lv_goto (tgt := 22) hx hb dX11_fault_18 (by decide) ?_
      subst hQ
      exact W.iret (v := x_4) hx hb hr (fun t ht hW => ⟨⟨_, _, rfl, trivial, q3_of g hK ht hW⟩, g.2.2.1.F ht⟩) g.2.2.1.2.2 dX11_fault_22
  · have fc_1 := eq_f c_1
    have b_5 : bd 0 0 x1_ := eqX fc_1 (bdT x1_) kb_0 (by decide)
    refine lv_aload_n hx hb dX11_fault_4 rfl (lv_at hl 0 rfl) ?_
    refine g_geti (C := RX11) (T := TX11) (N := 8) hx hb hts (mc_ inX11) hown hK g ma0_ ka0_ (by decide) rfl 6 (by decide) rfl (hts _ (List.mem_cons_of_mem _ t_954)) (fun _ h9 => h9) rfl dX11_fault_5 (fun x_6 bx_6 g => ?_)
    subst hQ
    exact W.iret (v := x_6) hx hb hr (fun t ht hW => ⟨⟨_, _, rfl, trivial, q3_of g hK ht hW⟩, g.2.2.1.F ht⟩) g.2.2.1.2.2 dX11_fault_8
set_option maxHeartbeats 4000000 in
set_option maxRecDepth 100000 in
theorem r_X11_about (l : Launch) (dC : Nat → ClassId) (dI : Nat → Nat → Nat) (L : List Nat) (kd : Nat → Nat) (tys : List (ClassId × FieldType)) (f0 : Nat → va_E) (sz : Nat) (hWT : WT L kd tys f0) (a0_ : Nat) (ma0_ : a0_ ∈ L) (ka0_ : kd a0_ = 11) (x1_ : Int32) (x2_ : Int32) : Met l yX11_about (.code yX11_about cX11_about 4 (some .int) :: lw_g) ({ frames := 1, cells := 0, slots := 0, locals := 21 }) (va_Pc [.ref a0_, .int x1_, .int x2_] (P3 (dC, dI) L tys f0 sz)) (va_Qi (fun (r : Int32) (f : Nat → va_E) => (True)) (Q3 (dC, dI) L kd tys [] [] f0 sz) (pA L sz)) 0 0 (pA L sz) := by
  refine Met.ofW (cc := cX11_about) (maxL := 4) (ret := (some .int)) (by decide) rfl ?_
  intro p e s m args below meth c s₁ B hml hv
  obtain ⟨rfl, hsz, hP, hK, hD0⟩ := hv
  have hx := B.exec
  have hb := B.bytes
  have hr := B.returns
  have hts := atoms_spec (ws := (.code yX11_about cX11_about 4 (some .int) :: lw_g)) B.pre
  have hown : s.vm.findClass RX11 = some m.cls := findClass_of_methodNamed B.named
  have hlocks := B.notSynchronized
  subst hsz
  have g : G3 (dC, dI) L kd tys s f0 [] [] f0 s.heap [] [] := G3.start hP hD0 hWT Fs.nil
  have hl := lv_entry ([.ref a0_, .int x1_, .int x2_]) (n := 4) (Nat.le_of_ble_eq_true rfl)
  rw [lg_entry_eq]
  generalize (lg_sl ([.ref a0_, .int x1_, .int x2_]) ++ List.replicate (4 - (lg_sl ([.ref a0_, .int x1_, .int x2_])).length) Slot.unset).toArray = ls at hl ⊢
  have hl : lv_has ls 4 [(0, .ref a0_), (1, .int x1_), (2, .int x2_)] := hl
  refine W_q (fun Q hQ => ?_)
  refine lv_aload_n hx hb dX11_about_0 rfl (lv_at hl 0 rfl) ?_
  refine g_getr (K := 7) (C := RX11) (T := TX11) (N := 8) hx hb hts (mc_ inX11) hown hK g ma0_ ka0_ (by decide) rfl 4 (by decide) rfl (hts _ (List.mem_cons_of_mem _ t_952)) (fun _ h9 => h9) rfl dX11_about_1 (fun a_1 ma_1 ka_1 g => ?_)
  refine lv_iload_n hx hb dX11_about_4 rfl (lv_at hl 1 rfl) ?_
  refine g_calli (va_runV (As := [.int x1_]) (rest := []) ⟨hx, hb, hml, hown, hts⟩ (r_X7_hasClass l dC dI L kd tys f0 s.heap.size g.2.2.2.1 a_1 ma_1 ka_1 x1_) (cwV 1 hts (gV_ t_1442 t_1281 t_1282 t_191 t_1283) rfl rfl rfl (by decide +kernel) ⟨(Nat.le_of_ble_eq_true rfl), (Nat.le_of_ble_eq_true rfl)⟩) (pre3V g hK ma_1 ka_1 (by decide) (q := (RX7, TX7, 19)) rfl) rfl rfl hl.1 rfl (lv_room (Nat.le_of_ble_eq_true rfl)) dX11_about_5 ⟨(Nat.le_of_ble_eq_true rfl), (Nat.le_of_ble_eq_true rfl)⟩) g hK (by decide) (by decide) (fx' := [(11, 4, a0_, .ref a_1)]) rfl (fun r_2 fr_2 H locs hp hMr_2 g => ?_)
  rcases hp with ⟨h_3, -⟩ | ⟨h_4, h_5, x_6, h_7, hF_8⟩
  · obtain rfl : r_2 = 0 := h_3
    refine lv_if_ne (tgt := 13) hx hb dX11_about_8 (by decide) (fun c_ => absurd c_ (by decide)) (fun c_ => ?_)
    refine lv_iconst (v := (-1)) hx hb dX11_about_11 (by decide) ?_
    subst hQ
    exact W.iret (v := (-1)) hx hb hr (fun t ht hW => ⟨⟨_, _, rfl, trivial, q3_of g hK ht hW⟩, g.2.2.1.F ht⟩) g.2.2.1.2.2 dX11_about_12
  · obtain rfl : r_2 = 1 := h_4
    have b_9 : bd 0 7 x1_ := eqX rfl (bdT x1_) h_5 (by decide)
    have g := g.more hF_8
    refine lv_if_ne (tgt := 13) hx hb dX11_about_8 (by decide) (fun c_ => ?_) (fun c_ => absurd c_ (by decide))
    refine lv_aload_n hx hb dX11_about_13 rfl (lv_at hl 0 rfl) ?_
    refine g_getk (C := RX11) (T := TX11) (N := 8) hx hb hts (mc_ inX11) hown hK g rfl 4 (by decide) rfl (hts _ (List.mem_cons_of_mem _ t_952)) (fun _ h9 => h9) 1 rfl dX11_about_14 ?_
    refine g_getr (K := 136) (C := RX7) (T := TX7) (N := 19) hx hb hts (mc_ inX7) hown hK g ma_1 ka_1 (by decide) rfl 0 (by decide) rfl (hts _ (List.mem_cons_of_mem _ t_623)) (fun _ h9 => h9) rfl dX11_about_17 (fun a_10 ma_10 ka_10 g => ?_)
    refine lv_iload_n hx hb dX11_about_20 rfl (lv_at hl 1 rfl) ?_
    refine g_aald hx hb hK g ma_10 ka_10 (by decide) rfl (by decide) (in_bd b_9 (by decide)) dX11_about_21 (fun a_11 ma_11 ua_11 wa_11 => ?_)
    have ka_11 : kd a_11 = 9 := by omega
    refine lv_astore_n (lv' := [(3, .ref a_11), (0, .ref a0_), (1, .int x1_), (2, .int x2_)]) hx hb dX11_about_22 rfl hl (by decide) rfl (fun ls hl => ?_)
    refine lv_iload_n hx hb dX11_about_23 rfl (lv_at hl 3 rfl) ?_
    by_cases e_12 : x2_ = 0
    · refine lv_topi (fun z_13 ez_13 => ?_)
      obtain rfl : z_13 = 0 := ez_13.trans e_12
      have kb_0 : bd 0 0 (0 : Int32) := ⟨by decide, by decide⟩
      have b_14 : bd 0 0 x2_ := eqX (eq_f e_12) (bdT x2_) kb_0 (by decide)
      refine lv_tableIn (off := 40) (tgt := 64) hx hb dX11_about_24 (by decide) (by decide) rfl (by decide) ?_
      refine lv_aload_n hx hb dX11_about_64 rfl (lv_at hl 0 rfl) ?_
      refine g_geti (C := RX9) (T := TX9) (N := 13) hx hb hts (mc_ inX9) hown hK g ma_11 ka_11 (by decide) rfl 1 (by decide) rfl (hts _ (List.mem_cons_of_mem _ t_481)) (fun _ h9 => h9) rfl dX11_about_65 (fun x_15 bx_15 g => ?_)
      subst hQ
      exact W.iret (v := x_15) hx hb hr (fun t ht hW => ⟨⟨_, _, rfl, trivial, q3_of g hK ht hW⟩, g.2.2.1.F ht⟩) g.2.2.1.2.2 dX11_about_68
    by_cases e_16 : x2_ = 1
    · refine lv_topi (fun z_17 ez_17 => ?_)
      obtain rfl : z_17 = 1 := ez_17.trans e_16
      have kb_1 : bd 1 1 (1 : Int32) := ⟨by decide, by decide⟩
      have b_18 : bd 1 1 x2_ := eqX (eq_f e_16) (bdT x2_) kb_1 (by decide)
      refine lv_tableIn (off := 45) (tgt := 69) hx hb dX11_about_24 (by decide) (by decide) rfl (by decide) ?_
      refine lv_aload_n hx hb dX11_about_69 rfl (lv_at hl 0 rfl) ?_
      refine g_geti (C := RX9) (T := TX9) (N := 13) hx hb hts (mc_ inX9) hown hK g ma_11 ka_11 (by decide) rfl 2 (by decide) rfl (hts _ (List.mem_cons_of_mem _ t_486)) (fun _ h9 => h9) rfl dX11_about_70 (fun x_19 bx_19 g => ?_)
      subst hQ
      exact W.iret (v := x_19) hx hb hr (fun t ht hW => ⟨⟨_, _, rfl, trivial, q3_of g hK ht hW⟩, g.2.2.1.F ht⟩) g.2.2.1.2.2 dX11_about_73
    by_cases e_20 : x2_ = 2
    · refine lv_topi (fun z_21 ez_21 => ?_)
      obtain rfl : z_21 = 2 := ez_21.trans e_20
      have kb_2 : bd 2 2 (2 : Int32) := ⟨by decide, by decide⟩
      have b_22 : bd 2 2 x2_ := eqX (eq_f e_20) (bdT x2_) kb_2 (by decide)
      refine lv_tableIn (off := 50) (tgt := 74) hx hb dX11_about_24 (by decide) (by decide) rfl (by decide) ?_
      refine lv_aload_n hx hb dX11_about_74 rfl (lv_at hl 0 rfl) ?_
      refine g_geti (C := RX9) (T := TX9) (N := 13) hx hb hts (mc_ inX9) hown hK g ma_11 ka_11 (by decide) rfl 7 (by decide) rfl (hts _ (List.mem_cons_of_mem _ t_495)) (fun _ h9 => h9) rfl dX11_about_75 (fun x_23 bx_23 g => ?_)
      subst hQ
      exact W.iret (v := x_23) hx hb hr (fun t ht hW => ⟨⟨_, _, rfl, trivial, q3_of g hK ht hW⟩, g.2.2.1.F ht⟩) g.2.2.1.2.2 dX11_about_78
    by_cases e_24 : x2_ = 3
    · refine lv_topi (fun z_25 ez_25 => ?_)
      obtain rfl : z_25 = 3 := ez_25.trans e_24
      have kb_3 : bd 3 3 (3 : Int32) := ⟨by decide, by decide⟩
      have b_26 : bd 3 3 x2_ := eqX (eq_f e_24) (bdT x2_) kb_3 (by decide)
      refine lv_tableIn (off := 55) (tgt := 79) hx hb dX11_about_24 (by decide) (by decide) rfl (by decide) ?_
      refine lv_aload_n hx hb dX11_about_79 rfl (lv_at hl 0 rfl) ?_
      refine g_geti (C := RX9) (T := TX9) (N := 13) hx hb hts (mc_ inX9) hown hK g ma_11 ka_11 (by decide) rfl 8 (by decide) rfl (hts _ (List.mem_cons_of_mem _ t_500)) (fun _ h9 => h9) rfl dX11_about_80 (fun x_27 bx_27 g => ?_)
      subst hQ
      exact W.iret (v := x_27) hx hb hr (fun t ht hW => ⟨⟨_, _, rfl, trivial, q3_of g hK ht hW⟩, g.2.2.1.F ht⟩) g.2.2.1.2.2 dX11_about_83
    by_cases e_28 : x2_ = 4
    · refine lv_topi (fun z_29 ez_29 => ?_)
      obtain rfl : z_29 = 4 := ez_29.trans e_28
      have kb_4 : bd 4 4 (4 : Int32) := ⟨by decide, by decide⟩
      have b_30 : bd 4 4 x2_ := eqX (eq_f e_28) (bdT x2_) kb_4 (by decide)
      refine lv_tableIn (off := 60) (tgt := 84) hx hb dX11_about_24 (by decide) (by decide) rfl (by decide) ?_
      refine lv_aload_n hx hb dX11_about_84 rfl (lv_at hl 0 rfl) ?_
      refine g_geti (C := RX9) (T := TX9) (N := 13) hx hb hts (mc_ inX9) hown hK g ma_11 ka_11 (by decide) rfl 11 (by decide) rfl (hts _ (List.mem_cons_of_mem _ t_515)) (fun _ h9 => h9) rfl dX11_about_85 (fun x_31 bx_31 g => ?_)
      subst hQ
      exact W.iret (v := x_31) hx hb hr (fun t ht hW => ⟨⟨_, _, rfl, trivial, q3_of g hK ht hW⟩, g.2.2.1.F ht⟩) g.2.2.1.2.2 dX11_about_88
    by_cases e_32 : x2_ = 5
    · refine lv_topi (fun z_33 ez_33 => ?_)
      obtain rfl : z_33 = 5 := ez_33.trans e_32
      have kb_5 : bd 5 5 (5 : Int32) := ⟨by decide, by decide⟩
      have b_34 : bd 5 5 x2_ := eqX (eq_f e_32) (bdT x2_) kb_5 (by decide)
      refine lv_tableIn (off := 65) (tgt := 89) hx hb dX11_about_24 (by decide) (by decide) rfl (by decide) ?_
      refine lv_aload_n hx hb dX11_about_89 rfl (lv_at hl 0 rfl) ?_
      refine g_geti (C := RX9) (T := TX9) (N := 13) hx hb hts (mc_ inX9) hown hK g ma_11 ka_11 (by decide) rfl 12 (by decide) rfl (hts _ (List.mem_cons_of_mem _ t_519)) (fun _ h9 => h9) rfl dX11_about_90 (fun x_35 bx_35 g => ?_)
      subst hQ
      exact W.iret (v := x_35) hx hb hr (fun t ht hW => ⟨⟨_, _, rfl, trivial, q3_of g hK ht hW⟩, g.2.2.1.F ht⟩) g.2.2.1.2.2 dX11_about_93
    refine lv_tableOut (tgt := 94) hx hb dX11_about_24 (by have a0 : x2_.toInt ≠ 0 := fun h => e_12 (Int32.toInt_inj.mp (h.trans (by decide))); have a1 : x2_.toInt ≠ 1 := fun h => e_16 (Int32.toInt_inj.mp (h.trans (by decide))); have a2 : x2_.toInt ≠ 2 := fun h => e_20 (Int32.toInt_inj.mp (h.trans (by decide))); have a3 : x2_.toInt ≠ 3 := fun h => e_24 (Int32.toInt_inj.mp (h.trans (by decide))); have a4 : x2_.toInt ≠ 4 := fun h => e_28 (Int32.toInt_inj.mp (h.trans (by decide))); have a5 : x2_.toInt ≠ 5 := fun h => e_32 (Int32.toInt_inj.mp (h.trans (by decide))); omega) (by decide) ?_
    refine lv_iconst (v := (-1)) hx hb dX11_about_94 (by decide) ?_
    subst hQ
    exact W.iret (v := (-1)) hx hb hr (fun t ht hW => ⟨⟨_, _, rfl, trivial, q3_of g hK ht hW⟩, g.2.2.1.F ht⟩) g.2.2.1.2.2 dX11_about_95
set_option maxHeartbeats 4000000 in
set_option maxRecDepth 100000 in
theorem r_X11_member (l : Launch) (dC : Nat → ClassId) (dI : Nat → Nat → Nat) (L : List Nat) (kd : Nat → Nat) (tys : List (ClassId × FieldType)) (f0 : Nat → va_E) (sz : Nat) (hWT : WT L kd tys f0) (a0_ : Nat) (ma0_ : a0_ ∈ L) (ka0_ : kd a0_ = 11) (x1_ : Int32) (x2_ : Int32) (x3_ : Int32) : Met l yX11_member (.code yX11_member cX11_member 5 (some .int) :: lw_g) ({ frames := 2, cells := 0, slots := 0, locals := 43 }) (va_Pc [.ref a0_, .int x1_, .int x2_, .int x3_] (P3 (dC, dI) L tys f0 sz)) (va_Qi (fun (r : Int32) (f : Nat → va_E) => (True)) (Q3 (dC, dI) L kd tys [] [] f0 sz) (pA L sz)) 0 0 (pA L sz) := by
  refine Met.ofW (cc := cX11_member) (maxL := 5) (ret := (some .int)) (by decide) rfl ?_
  intro p e s m args below meth c s₁ B hml hv
  obtain ⟨rfl, hsz, hP, hK, hD0⟩ := hv
  have hx := B.exec
  have hb := B.bytes
  have hr := B.returns
  have hts := atoms_spec (ws := (.code yX11_member cX11_member 5 (some .int) :: lw_g)) B.pre
  have hown : s.vm.findClass RX11 = some m.cls := findClass_of_methodNamed B.named
  have hlocks := B.notSynchronized
  subst hsz
  have g : G3 (dC, dI) L kd tys s f0 [] [] f0 s.heap [] [] := G3.start hP hD0 hWT Fs.nil
  have hl := lv_entry ([.ref a0_, .int x1_, .int x2_, .int x3_]) (n := 5) (Nat.le_of_ble_eq_true rfl)
  rw [lg_entry_eq]
  generalize (lg_sl ([.ref a0_, .int x1_, .int x2_, .int x3_]) ++ List.replicate (5 - (lg_sl ([.ref a0_, .int x1_, .int x2_, .int x3_])).length) Slot.unset).toArray = ls at hl ⊢
  have hl : lv_has ls 5 [(0, .ref a0_), (1, .int x1_), (2, .int x2_), (3, .int x3_)] := hl
  refine W_q (fun Q hQ => ?_)
  refine lv_aload_n hx hb dX11_member_0 rfl (lv_at hl 0 rfl) ?_
  refine g_getr (K := 7) (C := RX11) (T := TX11) (N := 8) hx hb hts (mc_ inX11) hown hK g ma0_ ka0_ (by decide) rfl 4 (by decide) rfl (hts _ (List.mem_cons_of_mem _ t_952)) (fun _ h9 => h9) rfl dX11_member_1 (fun a_1 ma_1 ka_1 g => ?_)
  refine lv_iload_n hx hb dX11_member_4 rfl (lv_at hl 1 rfl) ?_
  refine lv_iload_n hx hb dX11_member_5 rfl (lv_at hl 2 rfl) ?_
  refine g_calli (va_runV (As := [.int x1_, .int x2_]) (rest := []) ⟨hx, hb, hml, hown, hts⟩ (r_X7_hasMember l dC dI L kd tys f0 s.heap.size g.2.2.2.1 a_1 ma_1 ka_1 x1_ x2_) (cwV 2 hts (gV_ t_1447 t_1448 t_1449 t_191 t_1450) rfl rfl rfl (by decide +kernel) ⟨(Nat.le_of_ble_eq_true rfl), (Nat.le_of_ble_eq_true rfl)⟩) (pre3V g hK ma_1 ka_1 (by decide) (q := (RX7, TX7, 19)) rfl) rfl rfl hl.1 rfl (lv_room (Nat.le_of_ble_eq_true rfl)) dX11_member_6 ⟨(Nat.le_of_ble_eq_true rfl), (Nat.le_of_ble_eq_true rfl)⟩) g hK (by decide) (by decide) (fx' := [(11, 4, a0_, .ref a_1)]) rfl (fun r_2 fr_2 H locs hp hMr_2 g => ?_)
  rcases hp with ⟨h_3, -⟩ | ⟨h_4, h_5, h_6, x_7, h_8, hF_9⟩
  · obtain rfl : r_2 = 0 := h_3
    refine lv_if_ne (tgt := 14) hx hb dX11_member_9 (by decide) (fun c_ => absurd c_ (by decide)) (fun c_ => ?_)
    refine lv_iconst (v := (-1)) hx hb dX11_member_12 (by decide) ?_
    subst hQ
    exact W.iret (v := (-1)) hx hb hr (fun t ht hW => ⟨⟨_, _, rfl, trivial, q3_of g hK ht hW⟩, g.2.2.1.F ht⟩) g.2.2.1.2.2 dX11_member_13
  · obtain rfl : r_2 = 1 := h_4
    have b_10 : bd 0 7 x1_ := eqX rfl (bdT x1_) h_5 (by decide)
    have b_11 : bd 0 11 x2_ := eqX rfl (bdT x2_) h_6 (by decide)
    have g := g.more hF_9
    refine lv_if_ne (tgt := 14) hx hb dX11_member_9 (by decide) (fun c_ => ?_) (fun c_ => absurd c_ (by decide))
    refine lv_aload_n hx hb dX11_member_14 rfl (lv_at hl 0 rfl) ?_
    refine g_getk (C := RX11) (T := TX11) (N := 8) hx hb hts (mc_ inX11) hown hK g rfl 4 (by decide) rfl (hts _ (List.mem_cons_of_mem _ t_952)) (fun _ h9 => h9) 1 rfl dX11_member_15 ?_
    refine g_getr (K := 137) (C := RX7) (T := TX7) (N := 19) hx hb hts (mc_ inX7) hown hK g ma_1 ka_1 (by decide) rfl 2 (by decide) rfl (hts _ (List.mem_cons_of_mem _ t_632)) (fun _ h9 => h9) rfl dX11_member_18 (fun a_12 ma_12 ka_12 g => ?_)
    refine lv_aload_n hx hb dX11_member_21 rfl (lv_at hl 0 rfl) ?_
    refine g_getk (C := RX11) (T := TX11) (N := 8) hx hb hts (mc_ inX11) hown hK g rfl 4 (by decide) rfl (hts _ (List.mem_cons_of_mem _ t_952)) (fun _ h9 => h9) 2 rfl dX11_member_22 ?_
    refine g_getr (K := 136) (C := RX7) (T := TX7) (N := 19) hx hb hts (mc_ inX7) hown hK g ma_1 ka_1 (by decide) rfl 0 (by decide) rfl (hts _ (List.mem_cons_of_mem _ t_623)) (fun _ h9 => h9) rfl dX11_member_25 (fun a_13 ma_13 ka_13 g => ?_)
    refine lv_iload_n hx hb dX11_member_28 rfl (lv_at hl 1 rfl) ?_
    refine g_aald hx hb hK g ma_13 ka_13 (by decide) rfl (by decide) (in_bd b_10 (by decide)) dX11_member_29 (fun a_14 ma_14 ua_14 wa_14 => ?_)
    have ka_14 : kd a_14 = 9 := by omega
    refine g_getr (K := 156) (C := RX9) (T := TX9) (N := 13) hx hb hts (mc_ inX9) hown hK g ma_14 ka_14 (by decide) rfl 9 (by decide) rfl (hts _ (List.mem_cons_of_mem _ t_507)) (fun _ h9 => h9) rfl dX11_member_30 (fun a_15 ma_15 ka_15 g => ?_)
    refine lv_iload_n hx hb dX11_member_33 rfl (lv_at hl 2 rfl) ?_
    refine g_iald hx hb hK g ma_15 ka_15 (by decide) rfl (in_bd b_11 (by decide)) dX11_member_34 (fun x_16 bx_16 cx_16 => ?_)
    refine g_aald hx hb hK g ma_12 ka_12 (by decide) rfl (by decide) (in_bd bx_16 (by decide)) dX11_member_35 (fun a_17 ma_17 ua_17 wa_17 => ?_)
    have ka_17 : kd a_17 = 6 := by omega
    refine lv_astore (lv' := [(4, .ref a_17), (0, .ref a0_), (1, .int x1_), (2, .int x2_), (3, .int x3_)]) hx hb dX11_member_36 hl (by decide) rfl (fun ls hl => ?_)
    refine lv_iload_n hx hb dX11_member_38 rfl (lv_at hl 4 rfl) ?_
    by_cases e_18 : x3_ = 0
    · refine lv_topi (fun z_19 ez_19 => ?_)
      obtain rfl : z_19 = 0 := ez_19.trans e_18
      have kb_0 : bd 0 0 (0 : Int32) := ⟨by decide, by decide⟩
      have b_20 : bd 0 0 x3_ := eqX (eq_f e_18) (bdT x3_) kb_0 (by decide)
      refine lv_tableIn (off := 37) (tgt := 76) hx hb dX11_member_39 (by decide) (by decide) rfl (by decide) ?_
      refine lv_aload hx hb dX11_member_76 (lv_at hl 0 rfl) ?_
      refine g_geti (C := RX6) (T := TX6) (N := 13) hx hb hts (mc_ inX6) hown hK g ma_17 ka_17 (by decide) rfl 2 (by decide) rfl (hts _ (List.mem_cons_of_mem _ t_560)) (fun _ h9 => h9) rfl dX11_member_78 (fun x_21 bx_21 g => ?_)
      subst hQ
      exact W.iret (v := x_21) hx hb hr (fun t ht hW => ⟨⟨_, _, rfl, trivial, q3_of g hK ht hW⟩, g.2.2.1.F ht⟩) g.2.2.1.2.2 dX11_member_81
    by_cases e_22 : x3_ = 1
    · refine lv_topi (fun z_23 ez_23 => ?_)
      obtain rfl : z_23 = 1 := ez_23.trans e_22
      have kb_1 : bd 1 1 (1 : Int32) := ⟨by decide, by decide⟩
      have b_24 : bd 1 1 x3_ := eqX (eq_f e_22) (bdT x3_) kb_1 (by decide)
      refine lv_tableIn (off := 43) (tgt := 82) hx hb dX11_member_39 (by decide) (by decide) rfl (by decide) ?_
      refine lv_aload hx hb dX11_member_82 (lv_at hl 0 rfl) ?_
      refine g_geti (C := RX6) (T := TX6) (N := 13) hx hb hts (mc_ inX6) hown hK g ma_17 ka_17 (by decide) rfl 3 (by decide) rfl (hts _ (List.mem_cons_of_mem _ t_563)) (fun _ h9 => h9) rfl dX11_member_84 (fun x_25 bx_25 g => ?_)
      subst hQ
      exact W.iret (v := x_25) hx hb hr (fun t ht hW => ⟨⟨_, _, rfl, trivial, q3_of g hK ht hW⟩, g.2.2.1.F ht⟩) g.2.2.1.2.2 dX11_member_87
    by_cases e_26 : x3_ = 2
    · refine lv_topi (fun z_27 ez_27 => ?_)
      obtain rfl : z_27 = 2 := ez_27.trans e_26
      have kb_2 : bd 2 2 (2 : Int32) := ⟨by decide, by decide⟩
      have b_28 : bd 2 2 x3_ := eqX (eq_f e_26) (bdT x3_) kb_2 (by decide)
      refine lv_tableIn (off := 49) (tgt := 88) hx hb dX11_member_39 (by decide) (by decide) rfl (by decide) ?_
      refine lv_aload hx hb dX11_member_88 (lv_at hl 0 rfl) ?_
      refine g_geti (C := RX6) (T := TX6) (N := 13) hx hb hts (mc_ inX6) hown hK g ma_17 ka_17 (by decide) rfl 10 (by decide) rfl (hts _ (List.mem_cons_of_mem _ t_587)) (fun _ h9 => h9) rfl dX11_member_90 (fun x_29 bx_29 g => ?_)
      subst hQ
      exact W.iret (v := x_29) hx hb hr (fun t ht hW => ⟨⟨_, _, rfl, trivial, q3_of g hK ht hW⟩, g.2.2.1.F ht⟩) g.2.2.1.2.2 dX11_member_93
    by_cases e_30 : x3_ = 3
    · refine lv_topi (fun z_31 ez_31 => ?_)
      obtain rfl : z_31 = 3 := ez_31.trans e_30
      have kb_3 : bd 3 3 (3 : Int32) := ⟨by decide, by decide⟩
      have b_32 : bd 3 3 x3_ := eqX (eq_f e_30) (bdT x3_) kb_3 (by decide)
      refine lv_tableIn (off := 55) (tgt := 94) hx hb dX11_member_39 (by decide) (by decide) rfl (by decide) ?_
      refine lv_aload_n hx hb dX11_member_94 rfl (lv_at hl 1 rfl) ?_
      refine g_getk (C := RX11) (T := TX11) (N := 8) hx hb hts (mc_ inX11) hown hK g rfl 4 (by decide) rfl (hts _ (List.mem_cons_of_mem _ t_952)) (fun _ h9 => h9) 4 rfl dX11_member_95 ?_
      refine lv_aload hx hb dX11_member_98 (lv_at hl 0 rfl) ?_
      refine g_calli (va_runV (As := [.ref a_17]) (rest := []) ⟨hx, hb, hml, hown, hts⟩ (r_X7_begunOf l dC dI L kd tys fr_2 H.size g.2.2.2.1 a_1 ma_1 ka_1 a_17 ma_17 ka_17) (cwV 1 hts (gV_ t_1452 t_1453 t_1454 t_191 t_1455) rfl rfl rfl (by decide +kernel) ⟨(Nat.le_of_ble_eq_true rfl), (Nat.le_of_ble_eq_true rfl)⟩) (pre3V g hK ma_1 ka_1 (by decide) (q := (RX7, TX7, 19)) rfl) rfl rfl hl.1 rfl (lv_room (Nat.le_of_ble_eq_true rfl)) dX11_member_100 ⟨(Nat.le_of_ble_eq_true rfl), (Nat.le_of_ble_eq_true rfl)⟩) g hK (by decide) (by decide) (fx' := [(9, 9, a_14, .ref a_15), (7, 0, a_1, .ref a_13), (7, 2, a_1, .ref a_12), (7, 1, a_1, .int x_7), (11, 4, a0_, .ref a_1)]) rfl (fun r_33 fr_33 H locs hp hMr_33 g => ?_)
      subst hQ
      exact W.iret (v := r_33) hx hb hr (fun t ht hW => ⟨⟨_, _, rfl, trivial, q3_of g hK ht hW⟩, g.2.2.1.F ht⟩) g.2.2.1.2.2 dX11_member_103
    by_cases e_34 : x3_ = 4
    · refine lv_topi (fun z_35 ez_35 => ?_)
      obtain rfl : z_35 = 4 := ez_35.trans e_34
      have kb_4 : bd 4 4 (4 : Int32) := ⟨by decide, by decide⟩
      have b_36 : bd 4 4 x3_ := eqX (eq_f e_34) (bdT x3_) kb_4 (by decide)
      refine lv_tableIn (off := 65) (tgt := 104) hx hb dX11_member_39 (by decide) (by decide) rfl (by decide) ?_
      refine lv_aload hx hb dX11_member_104 (lv_at hl 0 rfl) ?_
      refine g_geti (C := RX6) (T := TX6) (N := 13) hx hb hts (mc_ inX6) hown hK g ma_17 ka_17 (by decide) rfl 6 (by decide) rfl (hts _ (List.mem_cons_of_mem _ t_576)) (fun _ h9 => h9) rfl dX11_member_106 (fun x_37 bx_37 g => ?_)
      have kb_0 : bd 0 0 (0 : Int32) := ⟨by decide, by decide⟩
      refine lv_if_eq (tgt := 116) hx hb dX11_member_109 (by decide) (fun c_38 => ?_) (fun c_38 => ?_)
      · have fc_38 := eq_f c_38
        have b_39 : bd 0 0 x_37 := eqX fc_38 bx_37 kb_0 (by decide)
        refine lv_iconst (v := 0) hx hb dX11_member_116 (by decide) ?_
        subst hQ
        exact W.iret (v := 0) hx hb hr (fun t ht hW => ⟨⟨_, _, rfl, trivial, q3_of g hK ht hW⟩, g.2.2.1.F ht⟩) g.2.2.1.2.2 dX11_member_117
      · have fc_38 := neq_f c_38
        have b_40 : bd 1 1 x_37 := neX fc_38 bx_37 kb_0 (by decide)
        refine lv_iconst (v := 1) hx hb dX11_member_112 (by decide) ?_
        refine lv_goto (tgt := 117) hx hb dX11_member_113 (by decide) ?_
        subst hQ
        exact W.iret (v := 1) hx hb hr (fun t ht hW => ⟨⟨_, _, rfl, trivial, q3_of g hK ht hW⟩, g.2.2.1.F ht⟩) g.2.2.1.2.2 dX11_member_117
    by_cases e_41 : x3_ = 5
    · refine lv_topi (fun z_42 ez_42 => ?_)
      obtain rfl : z_42 = 5 := ez_42.trans e_41
      have kb_5 : bd 5 5 (5 : Int32) := ⟨by decide, by decide⟩
      have b_43 : bd 5 5 x3_ := eqX (eq_f e_41) (bdT x3_) kb_5 (by decide)
      refine lv_tableIn (off := 79) (tgt := 118) hx hb dX11_member_39 (by decide) (by decide) rfl (by decide) ?_
      refine lv_aload hx hb dX11_member_118 (lv_at hl 0 rfl) ?_
      refine g_geti (C := RX6) (T := TX6) (N := 13) hx hb hts (mc_ inX6) hown hK g ma_17 ka_17 (by decide) rfl 1 (by decide) rfl (hts _ (List.mem_cons_of_mem _ t_558)) (fun _ h9 => h9) rfl dX11_member_120 (fun x_44 bx_44 g => ?_)
      subst hQ
      exact W.iret (v := x_44) hx hb hr (fun t ht hW => ⟨⟨_, _, rfl, trivial, q3_of g hK ht hW⟩, g.2.2.1.F ht⟩) g.2.2.1.2.2 dX11_member_123
    refine lv_tableOut (tgt := 124) hx hb dX11_member_39 (by have a0 : x3_.toInt ≠ 0 := fun h => e_18 (Int32.toInt_inj.mp (h.trans (by decide))); have a1 : x3_.toInt ≠ 1 := fun h => e_22 (Int32.toInt_inj.mp (h.trans (by decide))); have a2 : x3_.toInt ≠ 2 := fun h => e_26 (Int32.toInt_inj.mp (h.trans (by decide))); have a3 : x3_.toInt ≠ 3 := fun h => e_30 (Int32.toInt_inj.mp (h.trans (by decide))); have a4 : x3_.toInt ≠ 4 := fun h => e_34 (Int32.toInt_inj.mp (h.trans (by decide))); have a5 : x3_.toInt ≠ 5 := fun h => e_41 (Int32.toInt_inj.mp (h.trans (by decide))); omega) (by decide) ?_
    refine lv_iconst (v := (-1)) hx hb dX11_member_124 (by decide) ?_
    subst hQ
    exact W.iret (v := (-1)) hx hb hr (fun t ht hW => ⟨⟨_, _, rfl, trivial, q3_of g hK ht hW⟩, g.2.2.1.F ht⟩) g.2.2.1.2.2 dX11_member_125
set_option maxHeartbeats 4000000 in
set_option maxRecDepth 100000 in
theorem r_X11_model (l : Launch) (dC : Nat → ClassId) (dI : Nat → Nat → Nat) (L : List Nat) (kd : Nat → Nat) (tys : List (ClassId × FieldType)) (f0 : Nat → va_E) (sz : Nat) (hWT : WT L kd tys f0) (a0_ : Nat) (ma0_ : a0_ ∈ L) (ka0_ : kd a0_ = 11) (x1_ : Int32) (x2_ : Int32) : Met l yX11_model (.code yX11_model cX11_model 3 (some .int) :: lw_g) ({ frames := 1, cells := 0, slots := 0, locals := 21 }) (va_Pc [.ref a0_, .int x1_, .int x2_] (P3 (dC, dI) L tys f0 sz)) (va_Qi (fun (r : Int32) (f : Nat → va_E) => (r = (-2) ∧ True) ∨ (r = 1 ∧ bd 0 7 x1_ ∧ bd (-1) 7 x2_ ∧ True)) (Q3 (dC, dI) L kd tys [(9, 12)] [] f0 sz) (pA L sz)) 0 0 (pA L sz) := by
  refine Met.ofW (cc := cX11_model) (maxL := 3) (ret := (some .int)) (by decide) rfl ?_
  intro p e s m args below meth c s₁ B hml hv
  obtain ⟨rfl, hsz, hP, hK, hD0⟩ := hv
  have hx := B.exec
  have hb := B.bytes
  have hr := B.returns
  have hts := atoms_spec (ws := (.code yX11_model cX11_model 3 (some .int) :: lw_g)) B.pre
  have hown : s.vm.findClass RX11 = some m.cls := findClass_of_methodNamed B.named
  have hlocks := B.notSynchronized
  subst hsz
  have g : G3 (dC, dI) L kd tys s f0 [(9, 12)] [] f0 s.heap [] [] := G3.start hP hD0 hWT Fs.nil
  have hl := lv_entry ([.ref a0_, .int x1_, .int x2_]) (n := 3) (Nat.le_of_ble_eq_true rfl)
  rw [lg_entry_eq]
  generalize (lg_sl ([.ref a0_, .int x1_, .int x2_]) ++ List.replicate (3 - (lg_sl ([.ref a0_, .int x1_, .int x2_])).length) Slot.unset).toArray = ls at hl ⊢
  have hl : lv_has ls 3 [(0, .ref a0_), (1, .int x1_), (2, .int x2_)] := hl
  refine W_q (fun Q hQ => ?_)
  refine lv_aload_n hx hb dX11_model_0 rfl (lv_at hl 0 rfl) ?_
  refine g_getr (K := 7) (C := RX11) (T := TX11) (N := 8) hx hb hts (mc_ inX11) hown hK g ma0_ ka0_ (by decide) rfl 4 (by decide) rfl (hts _ (List.mem_cons_of_mem _ t_952)) (fun _ h9 => h9) rfl dX11_model_1 (fun a_1 ma_1 ka_1 g => ?_)
  refine lv_iload_n hx hb dX11_model_4 rfl (lv_at hl 1 rfl) ?_
  refine g_calli (va_runV (As := [.int x1_]) (rest := []) ⟨hx, hb, hml, hown, hts⟩ (r_X7_hasClass l dC dI L kd tys f0 s.heap.size g.2.2.2.1 a_1 ma_1 ka_1 x1_) (cwV 1 hts (gV_ t_1442 t_1281 t_1282 t_191 t_1283) rfl rfl rfl (by decide +kernel) ⟨(Nat.le_of_ble_eq_true rfl), (Nat.le_of_ble_eq_true rfl)⟩) (pre3V g hK ma_1 ka_1 (by decide) (q := (RX7, TX7, 19)) rfl) rfl rfl hl.1 rfl (lv_room (Nat.le_of_ble_eq_true rfl)) dX11_model_5 ⟨(Nat.le_of_ble_eq_true rfl), (Nat.le_of_ble_eq_true rfl)⟩) g hK (by decide) (by decide) (fx' := [(11, 4, a0_, .ref a_1)]) rfl (fun r_2 fr_2 H locs hp hMr_2 g => ?_)
  rcases hp with ⟨h_3, -⟩ | ⟨h_4, h_5, x_6, h_7, hF_8⟩
  · obtain rfl : r_2 = 0 := h_3
    refine lv_if_eq (tgt := 27) hx hb dX11_model_8 (by decide) (fun c_ => ?_) (fun c_ => absurd (by decide) c_)
    refine lv_bipush (v := (-2)) hx hb dX11_model_27 (by decide) ?_
    subst hQ
    exact W.iret (v := (-2)) hx hb hr (fun t ht hW => ⟨⟨_, _, rfl, Or.inl ⟨rfl, trivial⟩, q3_of g hK ht hW⟩, g.2.2.1.F ht⟩) g.2.2.1.2.2 dX11_model_29
  · obtain rfl : r_2 = 1 := h_4
    have b_9 : bd 0 7 x1_ := eqX rfl (bdT x1_) h_5 (by decide)
    have g := g.more hF_8
    refine lv_if_eq (tgt := 27) hx hb dX11_model_8 (by decide) (fun c_ => absurd c_ (by decide)) (fun c_ => ?_)
    refine lv_iload_n hx hb dX11_model_11 rfl (lv_at hl 2 rfl) ?_
    refine lv_iconst (v := (-1)) hx hb dX11_model_12 (by decide) ?_
    have kb_m1 : bd (-1) (-1) ((-1) : Int32) := ⟨by decide, by decide⟩
    refine lv_icmp_eq (tgt := 30) hx hb dX11_model_13 (by decide) (fun c_10 => ?_) (fun c_10 => ?_)
    · have fc_10 := eq_f c_10
      have b_11 : bd (-1) (-1) x2_ := eqX fc_10 (bdT x2_) kb_m1 (by decide)
      refine lv_aload_n hx hb dX11_model_30 rfl (lv_at hl 0 rfl) ?_
      refine g_getk (C := RX11) (T := TX11) (N := 8) hx hb hts (mc_ inX11) hown hK g rfl 4 (by decide) rfl (hts _ (List.mem_cons_of_mem _ t_952)) (fun _ h9 => h9) 1 rfl dX11_model_31 ?_
      refine g_getr (K := 136) (C := RX7) (T := TX7) (N := 19) hx hb hts (mc_ inX7) hown hK g ma_1 ka_1 (by decide) rfl 0 (by decide) rfl (hts _ (List.mem_cons_of_mem _ t_623)) (fun _ h9 => h9) rfl dX11_model_34 (fun a_12 ma_12 ka_12 g => ?_)
      refine lv_iload_n hx hb dX11_model_37 rfl (lv_at hl 1 rfl) ?_
      refine g_aald hx hb hK g ma_12 ka_12 (by decide) rfl (by decide) (in_bd b_9 (by decide)) dX11_model_38 (fun a_13 ma_13 ua_13 wa_13 => ?_)
      have ka_13 : kd a_13 = 9 := by omega
      refine lv_iload_n hx hb dX11_model_39 rfl (lv_at hl 2 rfl) ?_
      refine g_put (C := RX9) (T := TX9) (N := 13) hx hb hts (mc_ inX9) tyX9 tyX9_ok nmX9 hown hK g ma_13 ka_13 (by decide) rfl 12 (by decide) (hts _ (List.mem_cons_of_mem _ t_519)) (fun _ h9 => h9) rfl rfl (okV_i (bd_sub b_11 (by decide))) rfl rfl (by decide) (Or.inr (Or.inl (by decide))) (fx' := [(7, 0, a_1, .ref a_12), (7, 1, a_1, .int x_6), (11, 4, a0_, .ref a_1)]) rfl dX11_model_40 (fun f H locs hM_14 g => ?_)
      refine lv_iconst (v := 1) hx hb dX11_model_43 (by decide) ?_
      subst hQ
      exact W.iret (v := 1) hx hb hr (fun t ht hW => ⟨⟨_, _, rfl, Or.inr (⟨rfl, b_9, (bd_sub b_11 (by decide)), trivial⟩), q3_of g hK ht hW⟩, g.2.2.1.F ht⟩) g.2.2.1.2.2 dX11_model_44
    · have fc_10 := neq_f c_10
      refine lv_aload_n hx hb dX11_model_16 rfl (lv_at hl 0 rfl) ?_
      refine g_getk (C := RX11) (T := TX11) (N := 8) hx hb hts (mc_ inX11) hown hK g rfl 4 (by decide) rfl (hts _ (List.mem_cons_of_mem _ t_952)) (fun _ h9 => h9) 1 rfl dX11_model_17 ?_
      refine lv_iload_n hx hb dX11_model_20 rfl (lv_at hl 2 rfl) ?_
      refine g_calli (va_runV (As := [.int x2_]) (rest := []) ⟨hx, hb, hml, hown, hts⟩ (r_X7_hasClass l dC dI L kd tys fr_2 H.size g.2.2.2.1 a_1 ma_1 ka_1 x2_) (cwV 1 hts (gV_ t_1442 t_1281 t_1282 t_191 t_1283) rfl rfl rfl (by decide +kernel) ⟨(Nat.le_of_ble_eq_true rfl), (Nat.le_of_ble_eq_true rfl)⟩) (pre3V g hK ma_1 ka_1 (by decide) (q := (RX7, TX7, 19)) rfl) rfl rfl hl.1 rfl (lv_room (Nat.le_of_ble_eq_true rfl)) dX11_model_21 ⟨(Nat.le_of_ble_eq_true rfl), (Nat.le_of_ble_eq_true rfl)⟩) g hK (by decide) (by decide) (fx' := [(7, 1, a_1, .int x_6), (11, 4, a0_, .ref a_1)]) rfl (fun r_15 fr_15 H locs hp hMr_15 g => ?_)
      rcases hp with ⟨h_16, -⟩ | ⟨h_17, h_18, x_19, h_20, hF_21⟩
      · obtain rfl : r_15 = 0 := h_16
        refine lv_if_ne (tgt := 30) hx hb dX11_model_24 (by decide) (fun c_ => absurd c_ (by decide)) (fun c_ => ?_)
        refine lv_bipush (v := (-2)) hx hb dX11_model_27 (by decide) ?_
        subst hQ
        exact W.iret (v := (-2)) hx hb hr (fun t ht hW => ⟨⟨_, _, rfl, Or.inl ⟨rfl, trivial⟩, q3_of g hK ht hW⟩, g.2.2.1.F ht⟩) g.2.2.1.2.2 dX11_model_29
      · obtain rfl : r_15 = 1 := h_17
        have b_22 : bd 0 7 x2_ := eqX rfl (bdT x2_) h_18 (by decide)
        have g := g.more hF_21
        have e_23 := fx_same g 1 0 rfl rfl
        have g := g.sub (fx' := [(7, 1, a_1, .int x_6), (11, 4, a0_, .ref a_1)]) [1, 2] rfl
        refine lv_if_ne (tgt := 30) hx hb dX11_model_24 (by decide) (fun c_ => ?_) (fun c_ => absurd c_ (by decide))
        refine lv_aload_n hx hb dX11_model_30 rfl (lv_at hl 0 rfl) ?_
        refine g_getk (C := RX11) (T := TX11) (N := 8) hx hb hts (mc_ inX11) hown hK g rfl 4 (by decide) rfl (hts _ (List.mem_cons_of_mem _ t_952)) (fun _ h9 => h9) 1 rfl dX11_model_31 ?_
        refine g_getr (K := 136) (C := RX7) (T := TX7) (N := 19) hx hb hts (mc_ inX7) hown hK g ma_1 ka_1 (by decide) rfl 0 (by decide) rfl (hts _ (List.mem_cons_of_mem _ t_623)) (fun _ h9 => h9) rfl dX11_model_34 (fun a_24 ma_24 ka_24 g => ?_)
        refine lv_iload_n hx hb dX11_model_37 rfl (lv_at hl 1 rfl) ?_
        refine g_aald hx hb hK g ma_24 ka_24 (by decide) rfl (by decide) (in_bd b_9 (by decide)) dX11_model_38 (fun a_25 ma_25 ua_25 wa_25 => ?_)
        have ka_25 : kd a_25 = 9 := by omega
        refine lv_iload_n hx hb dX11_model_39 rfl (lv_at hl 2 rfl) ?_
        refine g_put (C := RX9) (T := TX9) (N := 13) hx hb hts (mc_ inX9) tyX9 tyX9_ok nmX9 hown hK g ma_25 ka_25 (by decide) rfl 12 (by decide) (hts _ (List.mem_cons_of_mem _ t_519)) (fun _ h9 => h9) rfl rfl (okV_i (bd_sub b_22 (by decide))) rfl rfl (by decide) (Or.inr (Or.inl (by decide))) (fx' := [(7, 0, a_1, .ref a_24), (7, 1, a_1, .int x_6), (11, 4, a0_, .ref a_1)]) rfl dX11_model_40 (fun f H locs hM_26 g => ?_)
        refine lv_iconst (v := 1) hx hb dX11_model_43 (by decide) ?_
        subst hQ
        exact W.iret (v := 1) hx hb hr (fun t ht hW => ⟨⟨_, _, rfl, Or.inr (⟨rfl, b_9, (bd_sub b_22 (by decide)), trivial⟩), q3_of g hK ht hW⟩, g.2.2.1.F ht⟩) g.2.2.1.2.2 dX11_model_44
set_option maxHeartbeats 4000000 in
set_option maxRecDepth 100000 in
theorem r_X11_clear (l : Launch) (dC : Nat → ClassId) (dI : Nat → Nat → Nat) (L : List Nat) (kd : Nat → Nat) (tys : List (ClassId × FieldType)) (f0 : Nat → va_E) (sz : Nat) (hWT : WT L kd tys f0) (a0_ : Nat) (ma0_ : a0_ ∈ L) (ka0_ : kd a0_ = 11) (q0_ : Nat) (mq0_ : q0_ ∈ L) (kq0_ : kd q0_ = 10) (q1_ : Nat) (mq1_ : q1_ ∈ L) (kq1_ : kd q1_ = 3) (hfx : Fs L kd f0 [(11, 3, a0_, .ref q0_), (10, 2, q0_, .ref q1_)]) : Met l yX11_clear (.code yX11_clear cX11_clear 2 (some .int) :: lw_g) ({ frames := 2, cells := 0, slots := 0, locals := 40 }) (va_Pc [.ref a0_] (P3 (dC, dI) L tys f0 sz)) (va_Qi (fun (r : Int32) (f : Nat → va_E) => (bd 0 10 r ∧ Fs L kd f [(10, 8, q0_, .int 0), (3, 4, q1_, .int 0), (3, 0, q1_, .int 0)])) (Q3 (dC, dI) L kd tys [(3, 0), (3, 4), (10, 8)] [] f0 sz) (pA L sz)) 0 0 (pA L sz) := by
  refine Met.ofW (cc := cX11_clear) (maxL := 2) (ret := (some .int)) (by decide) rfl ?_
  intro p e s m args below meth c s₁ B hml hv
  obtain ⟨rfl, hsz, hP, hK, hD0⟩ := hv
  have hx := B.exec
  have hb := B.bytes
  have hr := B.returns
  have hts := atoms_spec (ws := (.code yX11_clear cX11_clear 2 (some .int) :: lw_g)) B.pre
  have hown : s.vm.findClass RX11 = some m.cls := findClass_of_methodNamed B.named
  have hlocks := B.notSynchronized
  subst hsz
  have g : G3 (dC, dI) L kd tys s f0 [(3, 0), (3, 4), (10, 8)] [] f0 s.heap [] [(11, 3, a0_, .ref q0_), (10, 2, q0_, .ref q1_)] := G3.start hP hD0 hWT hfx
  have hl := lv_entry ([.ref a0_]) (n := 2) (Nat.le_of_ble_eq_true rfl)
  rw [lg_entry_eq]
  generalize (lg_sl ([.ref a0_]) ++ List.replicate (2 - (lg_sl ([.ref a0_])).length) Slot.unset).toArray = ls at hl ⊢
  have hl : lv_has ls 2 [(0, .ref a0_)] := hl
  refine W_q (fun Q hQ => ?_)
  refine lv_aload_n hx hb dX11_clear_0 rfl (lv_at hl 0 rfl) ?_
  refine g_getk (C := RX11) (T := TX11) (N := 8) hx hb hts (mc_ inX11) hown hK g rfl 3 (by decide) rfl (hts _ (List.mem_cons_of_mem _ t_951)) (fun _ h9 => h9) 0 rfl dX11_clear_1 ?_
  refine g_getk (C := RX10) (T := TX10) (N := 10) hx hb hts (mc_ inX10) hown hK g rfl 2 (by decide) rfl (hts _ (List.mem_cons_of_mem _ t_915)) (fun _ h9 => h9) 1 rfl dX11_clear_4 ?_
  refine g_geti (C := RX3) (T := TX3) (N := 6) hx hb hts (mc_ inX3) hown hK g mq1_ kq1_ (by decide) rfl 0 (by decide) rfl (hts _ (List.mem_cons_of_mem _ t_803)) (fun _ h9 => h9) rfl dX11_clear_7 (fun x_1 bx_1 g => ?_)
  refine lv_istore_n (lv' := [(1, .int x_1), (0, .ref a0_)]) hx hb dX11_clear_10 rfl hl (by decide) rfl (fun ls hl => ?_)
  refine lv_aload_n hx hb dX11_clear_11 rfl (lv_at hl 1 rfl) ?_
  refine g_getk (C := RX11) (T := TX11) (N := 8) hx hb hts (mc_ inX11) hown hK g rfl 3 (by decide) rfl (hts _ (List.mem_cons_of_mem _ t_951)) (fun _ h9 => h9) 1 rfl dX11_clear_12 ?_
  refine g_callv (va_runV (As := []) (rest := []) ⟨hx, hb, hml, hown, hts⟩ (r_X10_emptyRow l dC dI L kd tys f0 s.heap.size g.2.2.2.1 q0_ mq0_ kq0_ q1_ mq1_ kq1_ (g.fcts [2] rfl)) (cwV 0 hts (gV_ t_1464 t_1465 t_1466 t_194 t_1467) rfl rfl rfl (by decide +kernel) ⟨(Nat.le_of_ble_eq_true rfl), (Nat.le_of_ble_eq_true rfl)⟩) (pre3V g hK mq0_ kq0_ (by decide) (q := (RX10, TX10, 10)) rfl) rfl rfl hl.1 rfl (lv_room (Nat.le_of_ble_eq_true rfl)) dX11_clear_15 ⟨(Nat.le_of_ble_eq_true rfl), (Nat.le_of_ble_eq_true rfl)⟩) g hK (by decide) (by decide) (fx' := [(11, 3, a0_, .ref q0_), (10, 2, q0_, .ref q1_)]) rfl (fun fr_2 H locs hp hMr_2 g => ?_)
  have hF_3 := hp
  have g := g.more hF_3
  refine lv_iload_n hx hb dX11_clear_18 rfl (lv_at hl 0 rfl) ?_
  subst hQ
  exact W.iret (v := x_1) hx hb hr (fun t ht hW => ⟨⟨_, _, rfl, ⟨bx_1, (g.fcts [0, 1, 2] rfl)⟩, q3_of g hK ht hW⟩, g.2.2.1.F ht⟩) g.2.2.1.2.2 dX11_clear_19
set_option maxHeartbeats 4000000 in
set_option maxRecDepth 100000 in
theorem r_X3_setTo_2 (l : Launch) (dC : Nat → ClassId) (dI : Nat → Nat → Nat) (L : List Nat) (kd : Nat → Nat) (tys : List (ClassId × FieldType)) (f0 : Nat → va_E) (sz : Nat) (hWT : WT L kd tys f0) (a0_ : Nat) (ma0_ : a0_ ∈ L) (ka0_ : kd a0_ = 3) (x1_ : Int32) (bx1_ : bd 0 9 x1_) (x2_ : Int32) (bx2_ : bd 0 2 x2_) (x3_ : Int32) (bx3_ : bd (-1) (-1) x3_) (x4_ : Int32) (bx4_ : bd 0 7 x4_) (x5_ : Int32) (bx5_ : bd 0 0 x5_) (x6_ : Int32) (bx6_ : bd 0 0 x6_) (y0_ : Int32) (by0_ : bd 0 2 y0_) (y1_ : Int32) (by1_ : bd 0 9 y1_) (hfx : Fs L kd f0 [(3, 4, a0_, .int y0_), (3, 0, a0_, .int y1_)]) : Met l yX3_setTo (.code yX3_setTo cX3_setTo 7 none :: lw_g) ({ frames := 0, cells := 0, slots := 0, locals := 0 }) (va_Pc [.ref a0_, .int x1_, .int x2_, .int x3_, .int x4_, .int x5_, .int x6_] (P3 (dC, dI) L tys f0 sz)) (va_Qv (fun (f : Nat → va_E) => (True)) (Q3 (dC, dI) L kd tys [] [103, 122, 123] f0 sz) (pA L sz)) 0 0 (pA L sz) := by
  refine Met.ofW (cc := cX3_setTo) (maxL := 7) (ret := none) (by decide) rfl ?_
  intro p e s m args below meth c s₁ B hml hv
  obtain ⟨rfl, hsz, hP, hK, hD0⟩ := hv
  have hx := B.exec
  have hb := B.bytes
  have hr := B.returns
  have hts := atoms_spec (ws := (.code yX3_setTo cX3_setTo 7 none :: lw_g)) B.pre
  have hown : s.vm.findClass RX3 = some m.cls := findClass_of_methodNamed B.named
  have hlocks := B.notSynchronized
  subst hsz
  have g : G3 (dC, dI) L kd tys s f0 [] [103, 122, 123] f0 s.heap [] [(3, 4, a0_, .int y0_), (3, 0, a0_, .int y1_)] := G3.start hP hD0 hWT hfx
  have hl := lv_entry ([.ref a0_, .int x1_, .int x2_, .int x3_, .int x4_, .int x5_, .int x6_]) (n := 7) (Nat.le_of_ble_eq_true rfl)
  rw [lg_entry_eq]
  generalize (lg_sl ([.ref a0_, .int x1_, .int x2_, .int x3_, .int x4_, .int x5_, .int x6_]) ++ List.replicate (7 - (lg_sl ([.ref a0_, .int x1_, .int x2_, .int x3_, .int x4_, .int x5_, .int x6_])).length) Slot.unset).toArray = ls at hl ⊢
  have hl : lv_has ls 7 [(0, .ref a0_), (1, .int x1_), (2, .int x2_), (3, .int x3_), (4, .int x4_), (5, .int x5_), (6, .int x6_)] := hl
  refine W_q (fun Q hQ => ?_)
  refine lv_aload_n hx hb dX3_setTo_0 rfl (lv_at hl 0 rfl) ?_
  refine g_getr (K := 122) (C := RX3) (T := TX3) (N := 6) hx hb hts (mc_ inX3) hown hK g ma0_ ka0_ (by decide) rfl 1 (by decide) rfl (hts _ (List.mem_cons_of_mem _ t_804)) (fun _ h9 => h9) rfl dX3_setTo_1 (fun a_1 ma_1 ka_1 g => ?_)
  refine lv_iload_n hx hb dX3_setTo_4 rfl (lv_at hl 1 rfl) ?_
  refine lv_iload_n hx hb dX3_setTo_5 rfl (lv_at hl 2 rfl) ?_
  refine g_iast hx hb hK g ma_1 ka_1 (by decide) rfl (in_bd bx1_ (by decide)) bx2_ (by decide) dX3_setTo_6 (fun f H locs hM_2 g => ?_)
  refine lv_aload_n hx hb dX3_setTo_7 rfl (lv_at hl 0 rfl) ?_
  refine g_getr (K := 123) (C := RX3) (T := TX3) (N := 6) hx hb hts (mc_ inX3) hown hK g ma0_ ka0_ (by decide) rfl 2 (by decide) rfl (hts _ (List.mem_cons_of_mem _ t_807)) (fun _ h9 => h9) rfl dX3_setTo_8 (fun a_3 ma_3 ka_3 g => ?_)
  refine lv_iload_n hx hb dX3_setTo_11 rfl (lv_at hl 1 rfl) ?_
  refine lv_iload_n hx hb dX3_setTo_12 rfl (lv_at hl 3 rfl) ?_
  refine g_iast hx hb hK g ma_3 ka_3 (by decide) rfl (in_bd bx1_ (by decide)) (bd_sub bx3_ (by decide)) (by decide) dX3_setTo_13 (fun f H locs hM_4 g => ?_)
  refine lv_aload_n hx hb dX3_setTo_14 rfl (lv_at hl 0 rfl) ?_
  refine g_getr (K := 124) (C := RX3) (T := TX3) (N := 6) hx hb hts (mc_ inX3) hown hK g ma0_ ka0_ (by decide) rfl 3 (by decide) rfl (hts _ (List.mem_cons_of_mem _ t_810)) (fun _ h9 => h9) rfl dX3_setTo_15 (fun a_5 ma_5 ka_5 g => ?_)
  refine lv_iload_n hx hb dX3_setTo_18 rfl (lv_at hl 1 rfl) ?_
  refine g_aald hx hb hK g ma_5 ka_5 (by decide) rfl (by decide) (in_bd bx1_ (by decide)) dX3_setTo_19 (fun a_6 ma_6 ua_6 wa_6 => ?_)
  have ka_6 : kd a_6 = 103 := by omega
  refine lv_iconst (v := 0) hx hb dX3_setTo_20 (by decide) ?_
  refine lv_iload hx hb dX3_setTo_21 (lv_at hl 4 rfl) ?_
  refine g_iast hx hb hK g ma_6 ka_6 (by decide) rfl (by unfold vp_in; decide) (bd_sub bx4_ (by decide)) (by decide) dX3_setTo_23 (fun f H locs hM_7 g => ?_)
  refine lv_aload_n hx hb dX3_setTo_24 rfl (lv_at hl 0 rfl) ?_
  refine g_getk (C := RX3) (T := TX3) (N := 6) hx hb hts (mc_ inX3) hown hK g rfl 3 (by decide) rfl (hts _ (List.mem_cons_of_mem _ t_810)) (fun _ h9 => h9) 0 rfl dX3_setTo_25 ?_
  refine lv_iload_n hx hb dX3_setTo_28 rfl (lv_at hl 1 rfl) ?_
  refine g_aald hx hb hK g ma_5 ka_5 (by decide) rfl (by decide) (in_bd bx1_ (by decide)) dX3_setTo_29 (fun a_8 ma_8 ua_8 wa_8 => ?_)
  have ka_8 : kd a_8 = 103 := by omega
  refine lv_iconst (v := 1) hx hb dX3_setTo_30 (by decide) ?_
  refine lv_iload hx hb dX3_setTo_31 (lv_at hl 5 rfl) ?_
  refine g_iast hx hb hK g ma_8 ka_8 (by decide) rfl (by unfold vp_in; decide) (bd_sub bx5_ (by decide)) (by decide) dX3_setTo_33 (fun f H locs hM_9 g => ?_)
  refine lv_aload_n hx hb dX3_setTo_34 rfl (lv_at hl 0 rfl) ?_
  refine g_getk (C := RX3) (T := TX3) (N := 6) hx hb hts (mc_ inX3) hown hK g rfl 3 (by decide) rfl (hts _ (List.mem_cons_of_mem _ t_810)) (fun _ h9 => h9) 0 rfl dX3_setTo_35 ?_
  refine lv_iload_n hx hb dX3_setTo_38 rfl (lv_at hl 1 rfl) ?_
  refine g_aald hx hb hK g ma_5 ka_5 (by decide) rfl (by decide) (in_bd bx1_ (by decide)) dX3_setTo_39 (fun a_10 ma_10 ua_10 wa_10 => ?_)
  have ka_10 : kd a_10 = 103 := by omega
  refine lv_iconst (v := 2) hx hb dX3_setTo_40 (by decide) ?_
  refine lv_iload hx hb dX3_setTo_41 (lv_at hl 6 rfl) ?_
  refine g_iast hx hb hK g ma_10 ka_10 (by decide) rfl (by unfold vp_in; decide) (bd_sub bx6_ (by decide)) (by decide) dX3_setTo_43 (fun f H locs hM_11 g => ?_)
  subst hQ
  exact W.vret hx hb hr (fun t ht hW => ⟨⟨_, rfl, trivial, q3_of g hK ht hW⟩, g.2.2.1.F ht⟩) g.2.2.1.2.2 dX3_setTo_44
