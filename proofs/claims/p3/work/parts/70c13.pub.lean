set_option maxHeartbeats 4000000 in
set_option maxRecDepth 100000 in
theorem r_X10_drawArgument_2 (l : Launch) (dC : Nat → ClassId) (dI : Nat → Nat → Nat) (L : List Nat) (kd : Nat → Nat) (tys : List (ClassId × FieldType)) (f0 : Nat → va_E) (sz : Nat) (hWT : WT L kd tys f0) (a0_ : Nat) (ma0_ : a0_ ∈ L) (ka0_ : kd a0_ = 10) (a1_ : Nat) (ma1_ : a1_ ∈ L) (ka1_ : kd a1_ = 6) (x2_ : Int32) (bx2_ : bd 1 1 x2_) : Met l yX10_drawArgument (.code yX10_drawArgument cX10_drawArgument 5 (some .int) :: lw_g) ({ frames := 1, cells := 0, slots := 0, locals := 21 }) (va_Pc [.ref a0_, .ref a1_, .int x2_] (P3 (dC, dI) L tys f0 sz)) (va_Qi (fun (r : Int32) (f : Nat → va_E) => (True)) (Q3 (dC, dI) L kd tys [(10, 9)] [] f0 sz) (pA L sz)) 0 0 (pA L sz) := by
  refine Met.ofW (cc := cX10_drawArgument) (maxL := 5) (ret := (some .int)) (by decide) rfl ?_
  intro p e s m args below meth c s₁ B hml hv
  obtain ⟨rfl, hsz, hP, hK, hD0⟩ := hv
  have hx := B.exec
  have hb := B.bytes
  have hr := B.returns
  have hts := atoms_spec (ws := (.code yX10_drawArgument cX10_drawArgument 5 (some .int) :: lw_g)) B.pre
  have hown : s.vm.findClass RX10 = some m.cls := findClass_of_methodNamed B.named
  have hlocks := B.notSynchronized
  subst hsz
  have g : G3 (dC, dI) L kd tys s f0 [(10, 9)] [] f0 s.heap [] [] := G3.start hP hD0 hWT Fs.nil
  have hl := lv_entry ([.ref a0_, .ref a1_, .int x2_]) (n := 5) (Nat.le_of_ble_eq_true rfl)
  rw [lg_entry_eq]
  generalize (lg_sl ([.ref a0_, .ref a1_, .int x2_]) ++ List.replicate (5 - (lg_sl ([.ref a0_, .ref a1_, .int x2_])).length) Slot.unset).toArray = ls at hl ⊢
  have hl : lv_has ls 5 [(0, .ref a0_), (1, .ref a1_), (2, .int x2_)] := hl
  refine W_q (fun Q hQ => ?_)
  refine lv_iload_n hx hb dX10_drawArgument_0 rfl (lv_at hl 2 rfl) ?_
  refine lv_aload_n hx hb dX10_drawArgument_1 rfl (lv_at hl 1 rfl) ?_
  refine g_geti (C := RX6) (T := TX6) (N := 13) hx hb hts (mc_ inX6) hown hK g ma1_ ka1_ (by decide) rfl 3 (by decide) rfl (hts _ (List.mem_cons_of_mem _ t_566)) (fun _ h9 => h9) rfl dX10_drawArgument_2 (fun x_1 bx_1 g => ?_)
  refine lv_icmp_lt (tgt := 10) hx hb dX10_drawArgument_5 (by decide) (fun c_2 => ?_) (fun c_2 => ?_)
  · have fc_2 := lt_f c_2
    have b_3 : bd 2 3 x_1 := ltR fc_2 bx2_ bx_1 (by decide)
    refine lv_aload_n hx hb dX10_drawArgument_10 rfl (lv_at hl 0 rfl) ?_
    refine g_calli (va_runV (As := []) (rest := []) ⟨hx, hb, hml, hown, hts⟩ (r_X10_drawNext l dC dI L kd tys f0 s.heap.size g.2.2.2.1 a0_ ma0_ ka0_) (cwV 0 hts (gV_ t_1678 t_1680 t_80 t_194 t_1681) rfl rfl rfl (by decide +kernel) ⟨(Nat.le_of_ble_eq_true rfl), (Nat.le_of_ble_eq_true rfl)⟩) (pre3V g hK ma0_ ka0_ (by decide) (q := (RX10, TX10, 10)) rfl) rfl rfl hl.1 rfl (lv_room (Nat.le_of_ble_eq_true rfl)) dX10_drawArgument_11 ⟨(Nat.le_of_ble_eq_true rfl), (Nat.le_of_ble_eq_true rfl)⟩) g hK (by decide) (by decide) (fx' := [(6, 3, a1_, .int x_1)]) rfl (fun r_4 fr_4 H locs hp hMr_4 g => ?_)
    obtain ⟨h_5, -⟩ := hp
    refine lv_iconst (v := 4) hx hb dX10_drawArgument_14 (by decide) ?_
    have kb_4 : bd 4 4 (4 : Int32) := ⟨by decide, by decide⟩
    refine lv_irem hx hb dX10_drawArgument_15 (by decide) ?_
    refine lv_topi (fun y_6 ey_6 => ?_)
    have b_7 : bd 0 3 y_6 := rem_rg ey_6 h_5 kb_4 (by decide)
    by_cases e_8 : y_6 = 0
    · refine lv_topi (fun z_9 ez_9 => ?_)
      obtain rfl : z_9 = 0 := ez_9.trans e_8
      have kb_0 : bd 0 0 (0 : Int32) := ⟨by decide, by decide⟩
      have b_10 : bd 0 0 y_6 := eqX (eq_f e_8) b_7 kb_0 (by decide)
      refine lv_tableIn (off := 28) (tgt := 44) hx hb dX10_drawArgument_16 (by decide) (by decide) rfl (by decide) ?_
      refine lv_aload_n hx hb dX10_drawArgument_44 rfl (lv_at hl 1 rfl) ?_
      refine g_getr (K := 134) (C := RX6) (T := TX6) (N := 13) hx hb hts (mc_ inX6) hown hK g ma1_ ka1_ (by decide) rfl 4 (by decide) rfl (hts _ (List.mem_cons_of_mem _ t_571)) (fun _ h9 => h9) rfl dX10_drawArgument_45 (fun a_11 ma_11 ka_11 g => ?_)
      refine lv_iload_n hx hb dX10_drawArgument_48 rfl (lv_at hl 2 rfl) ?_
      refine g_iald hx hb hK g ma_11 ka_11 (by decide) rfl (in_bd bx2_ (by decide)) dX10_drawArgument_49 (fun x_12 bx_12 cx_12 => ?_)
      subst hQ
      exact W.iret (v := x_12) hx hb hr (fun t ht hW => ⟨⟨_, _, rfl, trivial, q3_of g hK ht hW⟩, g.2.2.1.F ht⟩) g.2.2.1.2.2 dX10_drawArgument_50
    by_cases e_13 : y_6 = 1
    · refine lv_topi (fun z_14 ez_14 => ?_)
      obtain rfl : z_14 = 1 := ez_14.trans e_13
      have kb_1 : bd 1 1 (1 : Int32) := ⟨by decide, by decide⟩
      have b_15 : bd 1 1 y_6 := eqX (eq_f e_13) b_7 kb_1 (by decide)
      refine lv_tableIn (off := 35) (tgt := 51) hx hb dX10_drawArgument_16 (by decide) (by decide) rfl (by decide) ?_
      refine lv_aload_n hx hb dX10_drawArgument_51 rfl (lv_at hl 1 rfl) ?_
      refine g_getr (K := 135) (C := RX6) (T := TX6) (N := 13) hx hb hts (mc_ inX6) hown hK g ma1_ ka1_ (by decide) rfl 5 (by decide) rfl (hts _ (List.mem_cons_of_mem _ t_574)) (fun _ h9 => h9) rfl dX10_drawArgument_52 (fun a_16 ma_16 ka_16 g => ?_)
      refine lv_iload_n hx hb dX10_drawArgument_55 rfl (lv_at hl 2 rfl) ?_
      refine g_iald hx hb hK g ma_16 ka_16 (by decide) rfl (in_bd bx2_ (by decide)) dX10_drawArgument_56 (fun x_17 bx_17 cx_17 => ?_)
      subst hQ
      exact W.iret (v := x_17) hx hb hr (fun t ht hW => ⟨⟨_, _, rfl, trivial, q3_of g hK ht hW⟩, g.2.2.1.F ht⟩) g.2.2.1.2.2 dX10_drawArgument_57
    by_cases e_18 : y_6 = 2
    · refine lv_topi (fun z_19 ez_19 => ?_)
      obtain rfl : z_19 = 2 := ez_19.trans e_18
      have kb_2 : bd 2 2 (2 : Int32) := ⟨by decide, by decide⟩
      have b_20 : bd 2 2 y_6 := eqX (eq_f e_18) b_7 kb_2 (by decide)
      refine lv_tableIn (off := 42) (tgt := 58) hx hb dX10_drawArgument_16 (by decide) (by decide) rfl (by decide) ?_
      refine lv_aload_n hx hb dX10_drawArgument_58 rfl (lv_at hl 1 rfl) ?_
      refine lv_iload_n hx hb dX10_drawArgument_59 rfl (lv_at hl 2 rfl) ?_
      refine g_calli (va_runV (As := [.int x2_]) (rest := []) ⟨hx, hb, hml, hown, hts⟩ (r_X6_firstOf l dC dI L kd tys fr_4 H.size g.2.2.2.1 a1_ ma1_ ka1_ x2_) (cwV 1 hts (gV_ t_1692 t_1693 t_1694 t_193 t_1695) rfl rfl rfl (by decide +kernel) ⟨(Nat.le_of_ble_eq_true rfl), (Nat.le_of_ble_eq_true rfl)⟩) (pre3V g hK ma1_ ka1_ (by decide) (q := (RX6, TX6, 13)) rfl) rfl rfl hl.1 rfl (lv_room (Nat.le_of_ble_eq_true rfl)) dX10_drawArgument_60 ⟨(Nat.le_of_ble_eq_true rfl), (Nat.le_of_ble_eq_true rfl)⟩) g hK (by decide) (by decide) (fx' := [(6, 3, a1_, .int x_1)]) rfl (fun r_21 fr_21 H locs hp hMr_21 g => ?_)
      subst hQ
      exact W.iret (v := r_21) hx hb hr (fun t ht hW => ⟨⟨_, _, rfl, trivial, q3_of g hK ht hW⟩, g.2.2.1.F ht⟩) g.2.2.1.2.2 dX10_drawArgument_63
    refine lv_tableOut (tgt := 64) hx hb dX10_drawArgument_16 (by have a0 : y_6.toInt ≠ 0 := fun h => e_8 (Int32.toInt_inj.mp (h.trans (by decide))); have a1 : y_6.toInt ≠ 1 := fun h => e_13 (Int32.toInt_inj.mp (h.trans (by decide))); have a2 : y_6.toInt ≠ 2 := fun h => e_18 (Int32.toInt_inj.mp (h.trans (by decide))); omega) (by decide) ?_
    refine lv_aload_n hx hb dX10_drawArgument_64 rfl (lv_at hl 1 rfl) ?_
    refine g_getr (K := 135) (C := RX6) (T := TX6) (N := 13) hx hb hts (mc_ inX6) hown hK g ma1_ ka1_ (by decide) rfl 5 (by decide) rfl (hts _ (List.mem_cons_of_mem _ t_574)) (fun _ h9 => h9) rfl dX10_drawArgument_65 (fun a_22 ma_22 ka_22 g => ?_)
    refine lv_iload_n hx hb dX10_drawArgument_68 rfl (lv_at hl 2 rfl) ?_
    refine g_iald hx hb hK g ma_22 ka_22 (by decide) rfl (in_bd bx2_ (by decide)) dX10_drawArgument_69 (fun x_23 bx_23 cx_23 => ?_)
    refine lv_i2l hx hb dX10_drawArgument_70 rfl ?_
    refine lv_topl (fun y_24 ey_24 => ?_)
    refine lv_aload_n hx hb dX10_drawArgument_71 rfl (lv_at hl 1 rfl) ?_
    refine g_getr (K := 134) (C := RX6) (T := TX6) (N := 13) hx hb hts (mc_ inX6) hown hK g ma1_ ka1_ (by decide) rfl 4 (by decide) rfl (hts _ (List.mem_cons_of_mem _ t_571)) (fun _ h9 => h9) rfl dX10_drawArgument_72 (fun a_25 ma_25 ka_25 g => ?_)
    refine lv_iload_n hx hb dX10_drawArgument_75 rfl (lv_at hl 2 rfl) ?_
    refine g_iald hx hb hK g ma_25 ka_25 (by decide) rfl (in_bd bx2_ (by decide)) dX10_drawArgument_76 (fun x_26 bx_26 cx_26 => ?_)
    refine lv_i2l hx hb dX10_drawArgument_77 rfl ?_
    refine lv_topl (fun y_27 ey_27 => ?_)
    refine lv_lsub hx hb dX10_drawArgument_78 ?_
    refine lv_topl (fun y_28 ey_28 => ?_)
    refine lv_lconst (v := 1) hx hb dX10_drawArgument_79 (by decide) ?_
    refine lv_ladd hx hb dX10_drawArgument_80 ?_
    refine lv_topl (fun y_29 ey_29 => ?_)
    refine lv_lconst (v := 1) hx hb dX10_drawArgument_81 (by decide) ?_
    refine va_mmax_long hx hb (hml.trans hl.1.symm) hown (hts _ (List.mem_cons_of_mem _ t_1696)) (hts _ (List.mem_cons_of_mem _ t_1697)) (hts _ (List.mem_cons_of_mem _ t_204)) (hts _ (List.mem_cons_of_mem _ t_1698)) (Nat.le_of_ble_eq_true rfl) (Nat.le_of_ble_eq_true rfl) (Nat.le_of_ble_eq_true rfl) (Nat.le_of_ble_eq_true rfl) dX10_drawArgument_82 ?_
    refine lv_topl (fun y_30 ey_30 => ?_)
    refine lv_lstore_n (lv' := [(3, .long y_30), (0, .ref a0_), (1, .ref a1_), (2, .int x2_)]) hx hb dX10_drawArgument_85 rfl hl (by decide) rfl (fun ls hl => ?_)
    refine lv_aload_n hx hb dX10_drawArgument_86 rfl (lv_at hl 2 rfl) ?_
    refine g_getk (C := RX6) (T := TX6) (N := 13) hx hb hts (mc_ inX6) hown hK g rfl 4 (by decide) rfl (hts _ (List.mem_cons_of_mem _ t_571)) (fun _ h9 => h9) 0 rfl dX10_drawArgument_87 ?_
    refine lv_iload_n hx hb dX10_drawArgument_90 rfl (lv_at hl 3 rfl) ?_
    refine g_iald hx hb hK g ma_25 ka_25 (by decide) rfl (in_bd bx2_ (by decide)) dX10_drawArgument_91 (fun x_31 bx_31 cx_31 => ?_)
    obtain rfl : x_26 = x_31 := el_same cx_26 cx_31 rfl
    refine lv_i2l hx hb dX10_drawArgument_92 rfl ?_
    refine lv_topl (fun y_32 ey_32 => ?_)
    refine lv_aload_n hx hb dX10_drawArgument_93 rfl (lv_at hl 1 rfl) ?_
    refine g_calli (va_runV (As := []) (rest := [.long y_32]) ⟨hx, hb, hml, hown, hts⟩ (r_X10_drawNext l dC dI L kd tys fr_4 H.size g.2.2.2.1 a0_ ma0_ ka0_) (cwV 0 hts (gV_ t_1678 t_1680 t_80 t_194 t_1681) rfl rfl rfl (by decide +kernel) ⟨(Nat.le_of_ble_eq_true rfl), (Nat.le_of_ble_eq_true rfl)⟩) (pre3V g hK ma0_ ka0_ (by decide) (q := (RX10, TX10, 10)) rfl) rfl rfl hl.1 rfl (lv_room (Nat.le_of_ble_eq_true rfl)) dX10_drawArgument_94 ⟨(Nat.le_of_ble_eq_true rfl), (Nat.le_of_ble_eq_true rfl)⟩) g hK (by decide) (by decide) (fx' := [(6, 4, a1_, .ref a_25), (6, 5, a1_, .ref a_22), (6, 3, a1_, .int x_1)]) rfl (fun r_33 fr_33 H locs hp hMr_33 g => ?_)
    obtain ⟨h_34, -⟩ := hp
    refine lv_i2l hx hb dX10_drawArgument_97 rfl ?_
    refine lv_topl (fun y_35 ey_35 => ?_)
    refine lv_lload_n hx hb dX10_drawArgument_98 rfl (lv_at hl 0 rfl) ?_
    refine lv_lrem hx hb dX10_drawArgument_99 (mxl1 ey_30) ?_
    refine lv_topl (fun y_36 ey_36 => ?_)
    refine lv_ladd hx hb dX10_drawArgument_100 ?_
    refine lv_topl (fun y_37 ey_37 => ?_)
    refine lv_l2i hx hb dX10_drawArgument_101 rfl ?_
    refine lv_topi (fun y_38 ey_38 => ?_)
    subst hQ
    exact W.iret (v := y_38) hx hb hr (fun t ht hW => ⟨⟨_, _, rfl, trivial, q3_of g hK ht hW⟩, g.2.2.1.F ht⟩) g.2.2.1.2.2 dX10_drawArgument_102
  · have fc_2 := nlt_f c_2
    have b_39 : bd 0 1 x_1 := leL fc_2 bx_1 bx2_ (by decide)
    refine lv_iconst (v := 0) hx hb dX10_drawArgument_8 (by decide) ?_
    subst hQ
    exact W.iret (v := 0) hx hb hr (fun t ht hW => ⟨⟨_, _, rfl, trivial, q3_of g hK ht hW⟩, g.2.2.1.F ht⟩) g.2.2.1.2.2 dX10_drawArgument_9
set_option maxHeartbeats 4000000 in
set_option maxRecDepth 100000 in
theorem r_X10_drawArgument_3 (l : Launch) (dC : Nat → ClassId) (dI : Nat → Nat → Nat) (L : List Nat) (kd : Nat → Nat) (tys : List (ClassId × FieldType)) (f0 : Nat → va_E) (sz : Nat) (hWT : WT L kd tys f0) (a0_ : Nat) (ma0_ : a0_ ∈ L) (ka0_ : kd a0_ = 10) (a1_ : Nat) (ma1_ : a1_ ∈ L) (ka1_ : kd a1_ = 6) (x2_ : Int32) (bx2_ : bd 2 2 x2_) : Met l yX10_drawArgument (.code yX10_drawArgument cX10_drawArgument 5 (some .int) :: lw_g) ({ frames := 1, cells := 0, slots := 0, locals := 21 }) (va_Pc [.ref a0_, .ref a1_, .int x2_] (P3 (dC, dI) L tys f0 sz)) (va_Qi (fun (r : Int32) (f : Nat → va_E) => (True)) (Q3 (dC, dI) L kd tys [(10, 9)] [] f0 sz) (pA L sz)) 0 0 (pA L sz) := by
  refine Met.ofW (cc := cX10_drawArgument) (maxL := 5) (ret := (some .int)) (by decide) rfl ?_
  intro p e s m args below meth c s₁ B hml hv
  obtain ⟨rfl, hsz, hP, hK, hD0⟩ := hv
  have hx := B.exec
  have hb := B.bytes
  have hr := B.returns
  have hts := atoms_spec (ws := (.code yX10_drawArgument cX10_drawArgument 5 (some .int) :: lw_g)) B.pre
  have hown : s.vm.findClass RX10 = some m.cls := findClass_of_methodNamed B.named
  have hlocks := B.notSynchronized
  subst hsz
  have g : G3 (dC, dI) L kd tys s f0 [(10, 9)] [] f0 s.heap [] [] := G3.start hP hD0 hWT Fs.nil
  have hl := lv_entry ([.ref a0_, .ref a1_, .int x2_]) (n := 5) (Nat.le_of_ble_eq_true rfl)
  rw [lg_entry_eq]
  generalize (lg_sl ([.ref a0_, .ref a1_, .int x2_]) ++ List.replicate (5 - (lg_sl ([.ref a0_, .ref a1_, .int x2_])).length) Slot.unset).toArray = ls at hl ⊢
  have hl : lv_has ls 5 [(0, .ref a0_), (1, .ref a1_), (2, .int x2_)] := hl
  refine W_q (fun Q hQ => ?_)
  refine lv_iload_n hx hb dX10_drawArgument_0 rfl (lv_at hl 2 rfl) ?_
  refine lv_aload_n hx hb dX10_drawArgument_1 rfl (lv_at hl 1 rfl) ?_
  refine g_geti (C := RX6) (T := TX6) (N := 13) hx hb hts (mc_ inX6) hown hK g ma1_ ka1_ (by decide) rfl 3 (by decide) rfl (hts _ (List.mem_cons_of_mem _ t_566)) (fun _ h9 => h9) rfl dX10_drawArgument_2 (fun x_1 bx_1 g => ?_)
  refine lv_icmp_lt (tgt := 10) hx hb dX10_drawArgument_5 (by decide) (fun c_2 => ?_) (fun c_2 => ?_)
  · have fc_2 := lt_f c_2
    have b_3 : bd 3 3 x_1 := ltR fc_2 bx2_ bx_1 (by decide)
    refine lv_aload_n hx hb dX10_drawArgument_10 rfl (lv_at hl 0 rfl) ?_
    refine g_calli (va_runV (As := []) (rest := []) ⟨hx, hb, hml, hown, hts⟩ (r_X10_drawNext l dC dI L kd tys f0 s.heap.size g.2.2.2.1 a0_ ma0_ ka0_) (cwV 0 hts (gV_ t_1678 t_1680 t_80 t_194 t_1681) rfl rfl rfl (by decide +kernel) ⟨(Nat.le_of_ble_eq_true rfl), (Nat.le_of_ble_eq_true rfl)⟩) (pre3V g hK ma0_ ka0_ (by decide) (q := (RX10, TX10, 10)) rfl) rfl rfl hl.1 rfl (lv_room (Nat.le_of_ble_eq_true rfl)) dX10_drawArgument_11 ⟨(Nat.le_of_ble_eq_true rfl), (Nat.le_of_ble_eq_true rfl)⟩) g hK (by decide) (by decide) (fx' := [(6, 3, a1_, .int x_1)]) rfl (fun r_4 fr_4 H locs hp hMr_4 g => ?_)
    obtain ⟨h_5, -⟩ := hp
    refine lv_iconst (v := 4) hx hb dX10_drawArgument_14 (by decide) ?_
    have kb_4 : bd 4 4 (4 : Int32) := ⟨by decide, by decide⟩
    refine lv_irem hx hb dX10_drawArgument_15 (by decide) ?_
    refine lv_topi (fun y_6 ey_6 => ?_)
    have b_7 : bd 0 3 y_6 := rem_rg ey_6 h_5 kb_4 (by decide)
    by_cases e_8 : y_6 = 0
    · refine lv_topi (fun z_9 ez_9 => ?_)
      obtain rfl : z_9 = 0 := ez_9.trans e_8
      have kb_0 : bd 0 0 (0 : Int32) := ⟨by decide, by decide⟩
      have b_10 : bd 0 0 y_6 := eqX (eq_f e_8) b_7 kb_0 (by decide)
      refine lv_tableIn (off := 28) (tgt := 44) hx hb dX10_drawArgument_16 (by decide) (by decide) rfl (by decide) ?_
      refine lv_aload_n hx hb dX10_drawArgument_44 rfl (lv_at hl 1 rfl) ?_
      refine g_getr (K := 134) (C := RX6) (T := TX6) (N := 13) hx hb hts (mc_ inX6) hown hK g ma1_ ka1_ (by decide) rfl 4 (by decide) rfl (hts _ (List.mem_cons_of_mem _ t_571)) (fun _ h9 => h9) rfl dX10_drawArgument_45 (fun a_11 ma_11 ka_11 g => ?_)
      refine lv_iload_n hx hb dX10_drawArgument_48 rfl (lv_at hl 2 rfl) ?_
      refine g_iald hx hb hK g ma_11 ka_11 (by decide) rfl (in_bd bx2_ (by decide)) dX10_drawArgument_49 (fun x_12 bx_12 cx_12 => ?_)
      subst hQ
      exact W.iret (v := x_12) hx hb hr (fun t ht hW => ⟨⟨_, _, rfl, trivial, q3_of g hK ht hW⟩, g.2.2.1.F ht⟩) g.2.2.1.2.2 dX10_drawArgument_50
    by_cases e_13 : y_6 = 1
    · refine lv_topi (fun z_14 ez_14 => ?_)
      obtain rfl : z_14 = 1 := ez_14.trans e_13
      have kb_1 : bd 1 1 (1 : Int32) := ⟨by decide, by decide⟩
      have b_15 : bd 1 1 y_6 := eqX (eq_f e_13) b_7 kb_1 (by decide)
      refine lv_tableIn (off := 35) (tgt := 51) hx hb dX10_drawArgument_16 (by decide) (by decide) rfl (by decide) ?_
      refine lv_aload_n hx hb dX10_drawArgument_51 rfl (lv_at hl 1 rfl) ?_
      refine g_getr (K := 135) (C := RX6) (T := TX6) (N := 13) hx hb hts (mc_ inX6) hown hK g ma1_ ka1_ (by decide) rfl 5 (by decide) rfl (hts _ (List.mem_cons_of_mem _ t_574)) (fun _ h9 => h9) rfl dX10_drawArgument_52 (fun a_16 ma_16 ka_16 g => ?_)
      refine lv_iload_n hx hb dX10_drawArgument_55 rfl (lv_at hl 2 rfl) ?_
      refine g_iald hx hb hK g ma_16 ka_16 (by decide) rfl (in_bd bx2_ (by decide)) dX10_drawArgument_56 (fun x_17 bx_17 cx_17 => ?_)
      subst hQ
      exact W.iret (v := x_17) hx hb hr (fun t ht hW => ⟨⟨_, _, rfl, trivial, q3_of g hK ht hW⟩, g.2.2.1.F ht⟩) g.2.2.1.2.2 dX10_drawArgument_57
    by_cases e_18 : y_6 = 2
    · refine lv_topi (fun z_19 ez_19 => ?_)
      obtain rfl : z_19 = 2 := ez_19.trans e_18
      have kb_2 : bd 2 2 (2 : Int32) := ⟨by decide, by decide⟩
      have b_20 : bd 2 2 y_6 := eqX (eq_f e_18) b_7 kb_2 (by decide)
      refine lv_tableIn (off := 42) (tgt := 58) hx hb dX10_drawArgument_16 (by decide) (by decide) rfl (by decide) ?_
      refine lv_aload_n hx hb dX10_drawArgument_58 rfl (lv_at hl 1 rfl) ?_
      refine lv_iload_n hx hb dX10_drawArgument_59 rfl (lv_at hl 2 rfl) ?_
      refine g_calli (va_runV (As := [.int x2_]) (rest := []) ⟨hx, hb, hml, hown, hts⟩ (r_X6_firstOf l dC dI L kd tys fr_4 H.size g.2.2.2.1 a1_ ma1_ ka1_ x2_) (cwV 1 hts (gV_ t_1692 t_1693 t_1694 t_193 t_1695) rfl rfl rfl (by decide +kernel) ⟨(Nat.le_of_ble_eq_true rfl), (Nat.le_of_ble_eq_true rfl)⟩) (pre3V g hK ma1_ ka1_ (by decide) (q := (RX6, TX6, 13)) rfl) rfl rfl hl.1 rfl (lv_room (Nat.le_of_ble_eq_true rfl)) dX10_drawArgument_60 ⟨(Nat.le_of_ble_eq_true rfl), (Nat.le_of_ble_eq_true rfl)⟩) g hK (by decide) (by decide) (fx' := [(6, 3, a1_, .int x_1)]) rfl (fun r_21 fr_21 H locs hp hMr_21 g => ?_)
      subst hQ
      exact W.iret (v := r_21) hx hb hr (fun t ht hW => ⟨⟨_, _, rfl, trivial, q3_of g hK ht hW⟩, g.2.2.1.F ht⟩) g.2.2.1.2.2 dX10_drawArgument_63
    refine lv_tableOut (tgt := 64) hx hb dX10_drawArgument_16 (by have a0 : y_6.toInt ≠ 0 := fun h => e_8 (Int32.toInt_inj.mp (h.trans (by decide))); have a1 : y_6.toInt ≠ 1 := fun h => e_13 (Int32.toInt_inj.mp (h.trans (by decide))); have a2 : y_6.toInt ≠ 2 := fun h => e_18 (Int32.toInt_inj.mp (h.trans (by decide))); omega) (by decide) ?_
    refine lv_aload_n hx hb dX10_drawArgument_64 rfl (lv_at hl 1 rfl) ?_
    refine g_getr (K := 135) (C := RX6) (T := TX6) (N := 13) hx hb hts (mc_ inX6) hown hK g ma1_ ka1_ (by decide) rfl 5 (by decide) rfl (hts _ (List.mem_cons_of_mem _ t_574)) (fun _ h9 => h9) rfl dX10_drawArgument_65 (fun a_22 ma_22 ka_22 g => ?_)
    refine lv_iload_n hx hb dX10_drawArgument_68 rfl (lv_at hl 2 rfl) ?_
    refine g_iald hx hb hK g ma_22 ka_22 (by decide) rfl (in_bd bx2_ (by decide)) dX10_drawArgument_69 (fun x_23 bx_23 cx_23 => ?_)
    refine lv_i2l hx hb dX10_drawArgument_70 rfl ?_
    refine lv_topl (fun y_24 ey_24 => ?_)
    refine lv_aload_n hx hb dX10_drawArgument_71 rfl (lv_at hl 1 rfl) ?_
    refine g_getr (K := 134) (C := RX6) (T := TX6) (N := 13) hx hb hts (mc_ inX6) hown hK g ma1_ ka1_ (by decide) rfl 4 (by decide) rfl (hts _ (List.mem_cons_of_mem _ t_571)) (fun _ h9 => h9) rfl dX10_drawArgument_72 (fun a_25 ma_25 ka_25 g => ?_)
    refine lv_iload_n hx hb dX10_drawArgument_75 rfl (lv_at hl 2 rfl) ?_
    refine g_iald hx hb hK g ma_25 ka_25 (by decide) rfl (in_bd bx2_ (by decide)) dX10_drawArgument_76 (fun x_26 bx_26 cx_26 => ?_)
    refine lv_i2l hx hb dX10_drawArgument_77 rfl ?_
    refine lv_topl (fun y_27 ey_27 => ?_)
    refine lv_lsub hx hb dX10_drawArgument_78 ?_
    refine lv_topl (fun y_28 ey_28 => ?_)
    refine lv_lconst (v := 1) hx hb dX10_drawArgument_79 (by decide) ?_
    refine lv_ladd hx hb dX10_drawArgument_80 ?_
    refine lv_topl (fun y_29 ey_29 => ?_)
    refine lv_lconst (v := 1) hx hb dX10_drawArgument_81 (by decide) ?_
    refine va_mmax_long hx hb (hml.trans hl.1.symm) hown (hts _ (List.mem_cons_of_mem _ t_1696)) (hts _ (List.mem_cons_of_mem _ t_1697)) (hts _ (List.mem_cons_of_mem _ t_204)) (hts _ (List.mem_cons_of_mem _ t_1698)) (Nat.le_of_ble_eq_true rfl) (Nat.le_of_ble_eq_true rfl) (Nat.le_of_ble_eq_true rfl) (Nat.le_of_ble_eq_true rfl) dX10_drawArgument_82 ?_
    refine lv_topl (fun y_30 ey_30 => ?_)
    refine lv_lstore_n (lv' := [(3, .long y_30), (0, .ref a0_), (1, .ref a1_), (2, .int x2_)]) hx hb dX10_drawArgument_85 rfl hl (by decide) rfl (fun ls hl => ?_)
    refine lv_aload_n hx hb dX10_drawArgument_86 rfl (lv_at hl 2 rfl) ?_
    refine g_getk (C := RX6) (T := TX6) (N := 13) hx hb hts (mc_ inX6) hown hK g rfl 4 (by decide) rfl (hts _ (List.mem_cons_of_mem _ t_571)) (fun _ h9 => h9) 0 rfl dX10_drawArgument_87 ?_
    refine lv_iload_n hx hb dX10_drawArgument_90 rfl (lv_at hl 3 rfl) ?_
    refine g_iald hx hb hK g ma_25 ka_25 (by decide) rfl (in_bd bx2_ (by decide)) dX10_drawArgument_91 (fun x_31 bx_31 cx_31 => ?_)
    obtain rfl : x_26 = x_31 := el_same cx_26 cx_31 rfl
    refine lv_i2l hx hb dX10_drawArgument_92 rfl ?_
    refine lv_topl (fun y_32 ey_32 => ?_)
    refine lv_aload_n hx hb dX10_drawArgument_93 rfl (lv_at hl 1 rfl) ?_
    refine g_calli (va_runV (As := []) (rest := [.long y_32]) ⟨hx, hb, hml, hown, hts⟩ (r_X10_drawNext l dC dI L kd tys fr_4 H.size g.2.2.2.1 a0_ ma0_ ka0_) (cwV 0 hts (gV_ t_1678 t_1680 t_80 t_194 t_1681) rfl rfl rfl (by decide +kernel) ⟨(Nat.le_of_ble_eq_true rfl), (Nat.le_of_ble_eq_true rfl)⟩) (pre3V g hK ma0_ ka0_ (by decide) (q := (RX10, TX10, 10)) rfl) rfl rfl hl.1 rfl (lv_room (Nat.le_of_ble_eq_true rfl)) dX10_drawArgument_94 ⟨(Nat.le_of_ble_eq_true rfl), (Nat.le_of_ble_eq_true rfl)⟩) g hK (by decide) (by decide) (fx' := [(6, 4, a1_, .ref a_25), (6, 5, a1_, .ref a_22), (6, 3, a1_, .int x_1)]) rfl (fun r_33 fr_33 H locs hp hMr_33 g => ?_)
    obtain ⟨h_34, -⟩ := hp
    refine lv_i2l hx hb dX10_drawArgument_97 rfl ?_
    refine lv_topl (fun y_35 ey_35 => ?_)
    refine lv_lload_n hx hb dX10_drawArgument_98 rfl (lv_at hl 0 rfl) ?_
    refine lv_lrem hx hb dX10_drawArgument_99 (mxl1 ey_30) ?_
    refine lv_topl (fun y_36 ey_36 => ?_)
    refine lv_ladd hx hb dX10_drawArgument_100 ?_
    refine lv_topl (fun y_37 ey_37 => ?_)
    refine lv_l2i hx hb dX10_drawArgument_101 rfl ?_
    refine lv_topi (fun y_38 ey_38 => ?_)
    subst hQ
    exact W.iret (v := y_38) hx hb hr (fun t ht hW => ⟨⟨_, _, rfl, trivial, q3_of g hK ht hW⟩, g.2.2.1.F ht⟩) g.2.2.1.2.2 dX10_drawArgument_102
  · have fc_2 := nlt_f c_2
    have b_39 : bd 0 2 x_1 := leL fc_2 bx_1 bx2_ (by decide)
    refine lv_iconst (v := 0) hx hb dX10_drawArgument_8 (by decide) ?_
    subst hQ
    exact W.iret (v := 0) hx hb hr (fun t ht hW => ⟨⟨_, _, rfl, trivial, q3_of g hK ht hW⟩, g.2.2.1.F ht⟩) g.2.2.1.2.2 dX10_drawArgument_9
set_option maxHeartbeats 4000000 in
set_option maxRecDepth 100000 in
theorem r_X10_drawCall (l : Launch) (dC : Nat → ClassId) (dI : Nat → Nat → Nat) (L : List Nat) (kd : Nat → Nat) (tys : List (ClassId × FieldType)) (f0 : Nat → va_E) (sz : Nat) (hWT : WT L kd tys f0) (a0_ : Nat) (ma0_ : a0_ ∈ L) (ka0_ : kd a0_ = 10) (a1_ : Nat) (ma1_ : a1_ ∈ L) (ka1_ : kd a1_ = 9) (hGPa0_ : RP L kd f0 a0_) : Met l yX10_drawCall (.code yX10_drawCall cX10_drawCall 8 none :: lw_g) ({ frames := 2, cells := 0, slots := 0, locals := 51 }) (va_Pc [.ref a0_, .ref a1_] (P3 (dC, dI) L tys f0 sz)) (va_Qv (fun (f : Nat → va_E) => (RP L kd f a0_ ∧ True)) (Q3 (dC, dI) L kd tys [(3, 0), (10, 9)] [103, 122, 123] f0 sz) (pA L sz)) 0 0 (pA L sz) := by
  refine Met.ofW (cc := cX10_drawCall) (maxL := 8) (ret := none) (by decide) rfl ?_
  intro p e s m args below meth c s₁ B hml hv
  obtain ⟨rfl, hsz, hP, hK, hD0⟩ := hv
  have hx := B.exec
  have hb := B.bytes
  have hr := B.returns
  have hts := atoms_spec (ws := (.code yX10_drawCall cX10_drawCall 8 none :: lw_g)) B.pre
  have hown : s.vm.findClass RX10 = some m.cls := findClass_of_methodNamed B.named
  have hlocks := B.notSynchronized
  subst hsz
  have g : G3 (dC, dI) L kd tys s f0 [(3, 0), (10, 9)] [103, 122, 123] f0 s.heap [] [] := G3.start hP hD0 hWT Fs.nil
  have hl := lv_entry ([.ref a0_, .ref a1_]) (n := 8) (Nat.le_of_ble_eq_true rfl)
  rw [lg_entry_eq]
  generalize (lg_sl ([.ref a0_, .ref a1_]) ++ List.replicate (8 - (lg_sl ([.ref a0_, .ref a1_])).length) Slot.unset).toArray = ls at hl ⊢
  have hl : lv_has ls 8 [(0, .ref a0_), (1, .ref a1_)] := hl
  refine W_q (fun Q hQ => ?_)
  refine lv_aload_n hx hb dX10_drawCall_0 rfl (lv_at hl 0 rfl) ?_
  have go_ := g
  refine g_calli (va_runV (As := []) (rest := []) ⟨hx, hb, hml, hown, hts⟩ (r_X10_drawNext l dC dI L kd tys f0 s.heap.size g.2.2.2.1 a0_ ma0_ ka0_) (cwV 0 hts (gV_ t_1678 t_1680 t_80 t_194 t_1681) rfl rfl rfl (by decide +kernel) ⟨(Nat.le_of_ble_eq_true rfl), (Nat.le_of_ble_eq_true rfl)⟩) (pre3V g hK ma0_ ka0_ (by decide) (q := (RX10, TX10, 10)) rfl) rfl rfl hl.1 rfl (lv_room (Nat.le_of_ble_eq_true rfl)) dX10_drawCall_1 ⟨(Nat.le_of_ble_eq_true rfl), (Nat.le_of_ble_eq_true rfl)⟩) g hK (by decide) (by decide) (fx' := []) rfl (fun r_1 fr_1 H locs hp hMr_1 g => ?_)
  obtain ⟨h_2, -⟩ := hp
  have hG_3 := RP.frame hMr_1 go_.2.2.2.1 ma0_ ka0_ (by decide) (by decide) hGPa0_
  refine lv_aload_n hx hb dX10_drawCall_4 rfl (lv_at hl 0 rfl) ?_
  refine g_getr (K := 3) (C := RX10) (T := TX10) (N := 10) hx hb hts (mc_ inX10) hown hK g ma0_ ka0_ (by decide) rfl 3 (by decide) rfl (hts _ (List.mem_cons_of_mem _ t_916)) (fun _ h9 => h9) rfl dX10_drawCall_5 (fun a_4 ma_4 ka_4 g => ?_)
  refine g_geti (C := RX3) (T := TX3) (N := 6) hx hb hts (mc_ inX3) hown hK g ma_4 ka_4 (by decide) rfl 4 (by decide) rfl (hts _ (List.mem_cons_of_mem _ t_814)) (fun _ h9 => h9) rfl dX10_drawCall_8 (fun x_5 bx_5 g => ?_)
  refine lv_iconst (v := 1) hx hb dX10_drawCall_11 (by decide) ?_
  have kb_1 : bd 1 1 (1 : Int32) := ⟨by decide, by decide⟩
  refine va_mmax hx hb (hml.trans hl.1.symm) hown (hts _ (List.mem_cons_of_mem _ t_1687)) (hts _ (List.mem_cons_of_mem _ t_1041)) (hts _ (List.mem_cons_of_mem _ t_204)) (hts _ (List.mem_cons_of_mem _ t_1042)) (Nat.le_of_ble_eq_true rfl) (Nat.le_of_ble_eq_true rfl) (Nat.le_of_ble_eq_true rfl) (Nat.le_of_ble_eq_true rfl) dX10_drawCall_12 ?_
  refine lv_topi (fun y_6 ey_6 => ?_)
  have ty_6 : y_6.toInt = max x_5.toInt (1 : Int32).toInt := by rw [ey_6]; exact mmax_ok _ _
  have b_7 : bd 1 3 y_6 := max_rg ty_6 bx_5 kb_1 (by decide)
  refine lv_irem hx hb dX10_drawCall_15 (nz_bd b_7 (Or.inl (by decide))) ?_
  refine lv_topi (fun y_8 ey_8 => ?_)
  have b_9 : bd 0 2 y_8 := rem_rg ey_8 h_2 b_7 (by decide)
  refine lv_istore_n (lv' := [(2, .int y_8), (0, .ref a0_), (1, .ref a1_)]) hx hb dX10_drawCall_16 rfl hl (by decide) rfl (fun ls hl => ?_)
  refine lv_aload_n hx hb dX10_drawCall_17 rfl (lv_at hl 1 rfl) ?_
  have go_ := g
  refine g_calli (va_runV (As := []) (rest := []) ⟨hx, hb, hml, hown, hts⟩ (r_X10_drawNext l dC dI L kd tys fr_1 H.size g.2.2.2.1 a0_ ma0_ ka0_) (cwV 0 hts (gV_ t_1678 t_1680 t_80 t_194 t_1681) rfl rfl rfl (by decide +kernel) ⟨(Nat.le_of_ble_eq_true rfl), (Nat.le_of_ble_eq_true rfl)⟩) (pre3V g hK ma0_ ka0_ (by decide) (q := (RX10, TX10, 10)) rfl) rfl rfl hl.1 rfl (lv_room (Nat.le_of_ble_eq_true rfl)) dX10_drawCall_18 ⟨(Nat.le_of_ble_eq_true rfl), (Nat.le_of_ble_eq_true rfl)⟩) g hK (by decide) (by decide) (fx' := [(3, 4, a_4, .int x_5), (10, 3, a0_, .ref a_4)]) rfl (fun r_10 fr_10 H locs hp hMr_10 g => ?_)
  obtain ⟨h_11, -⟩ := hp
  have hG_12 := RP.frame hMr_10 go_.2.2.2.1 ma0_ ka0_ (by decide) (by decide) hG_3
  refine lv_aload_n hx hb dX10_drawCall_21 rfl (lv_at hl 2 rfl) ?_
  refine g_geti (C := RX9) (T := TX9) (N := 13) hx hb hts (mc_ inX9) hown hK g ma1_ ka1_ (by decide) rfl 8 (by decide) rfl (hts _ (List.mem_cons_of_mem _ t_501)) (fun _ h9 => h9) rfl dX10_drawCall_22 (fun x_13 bx_13 g => ?_)
  refine lv_iconst (v := 1) hx hb dX10_drawCall_25 (by decide) ?_
  refine va_mmax hx hb (hml.trans hl.1.symm) hown (hts _ (List.mem_cons_of_mem _ t_1687)) (hts _ (List.mem_cons_of_mem _ t_1041)) (hts _ (List.mem_cons_of_mem _ t_204)) (hts _ (List.mem_cons_of_mem _ t_1042)) (Nat.le_of_ble_eq_true rfl) (Nat.le_of_ble_eq_true rfl) (Nat.le_of_ble_eq_true rfl) (Nat.le_of_ble_eq_true rfl) dX10_drawCall_26 ?_
  refine lv_topi (fun y_14 ey_14 => ?_)
  have ty_14 : y_14.toInt = max x_13.toInt (1 : Int32).toInt := by rw [ey_14]; exact mmax_ok _ _
  have b_15 : bd 1 12 y_14 := max_rg ty_14 bx_13 kb_1 (by decide)
  refine lv_irem hx hb dX10_drawCall_29 (nz_bd b_15 (Or.inl (by decide))) ?_
  refine lv_topi (fun y_16 ey_16 => ?_)
  have b_17 : bd 0 11 y_16 := rem_rg ey_16 h_11 b_15 (by decide)
  refine lv_istore_n (lv' := [(3, .int y_16), (2, .int y_8), (0, .ref a0_), (1, .ref a1_)]) hx hb dX10_drawCall_30 rfl hl (by decide) rfl (fun ls hl => ?_)
  refine lv_aload_n hx hb dX10_drawCall_31 rfl (lv_at hl 2 rfl) ?_
  refine g_getr (K := 7) (C := RX10) (T := TX10) (N := 10) hx hb hts (mc_ inX10) hown hK g ma0_ ka0_ (by decide) rfl 0 (by decide) rfl (hts _ (List.mem_cons_of_mem _ t_912)) (fun _ h9 => h9) rfl dX10_drawCall_32 (fun a_18 ma_18 ka_18 g => ?_)
  refine g_getr (K := 137) (C := RX7) (T := TX7) (N := 19) hx hb hts (mc_ inX7) hown hK g ma_18 ka_18 (by decide) rfl 2 (by decide) rfl (hts _ (List.mem_cons_of_mem _ t_634)) (fun _ h9 => h9) rfl dX10_drawCall_35 (fun a_19 ma_19 ka_19 g => ?_)
  refine lv_aload_n hx hb dX10_drawCall_38 rfl (lv_at hl 3 rfl) ?_
  refine g_getr (K := 156) (C := RX9) (T := TX9) (N := 13) hx hb hts (mc_ inX9) hown hK g ma1_ ka1_ (by decide) rfl 9 (by decide) rfl (hts _ (List.mem_cons_of_mem _ t_509)) (fun _ h9 => h9) rfl dX10_drawCall_39 (fun a_20 ma_20 ka_20 g => ?_)
  refine lv_iload_n hx hb dX10_drawCall_42 rfl (lv_at hl 0 rfl) ?_
  refine g_iald hx hb hK g ma_20 ka_20 (by decide) rfl (in_bd b_17 (by decide)) dX10_drawCall_43 (fun x_21 bx_21 cx_21 => ?_)
  refine g_aald hx hb hK g ma_19 ka_19 (by decide) rfl (by decide) (in_bd bx_21 (by decide)) dX10_drawCall_44 (fun a_22 ma_22 ua_22 wa_22 => ?_)
  have ka_22 : kd a_22 = 6 := by omega
  refine lv_astore (lv' := [(4, .ref a_22), (3, .int y_16), (2, .int y_8), (0, .ref a0_), (1, .ref a1_)]) hx hb dX10_drawCall_45 hl (by decide) rfl (fun ls hl => ?_)
  refine lv_aload_n hx hb dX10_drawCall_47 rfl (lv_at hl 3 rfl) ?_
  refine lv_aload hx hb dX10_drawCall_48 (lv_at hl 0 rfl) ?_
  refine lv_iconst (v := 0) hx hb dX10_drawCall_50 (by decide) ?_
  have kb_0 : bd 0 0 (0 : Int32) := ⟨by decide, by decide⟩
  have go_ := g
  refine g_calli (va_runV (As := [.ref a_22, .int 0]) (rest := []) ⟨hx, hb, hml, hown, hts⟩ (r_X10_drawArgument l dC dI L kd tys fr_10 H.size g.2.2.2.1 a0_ ma0_ ka0_ a_22 ma_22 ka_22 0 kb_0) (cwV 2 hts (gV_ t_1688 t_1690 t_82 t_194 t_1691) rfl rfl rfl (by decide +kernel) ⟨(Nat.le_of_ble_eq_true rfl), (Nat.le_of_ble_eq_true rfl)⟩) (pre3V g hK ma0_ ka0_ (by decide) (q := (RX10, TX10, 10)) rfl) rfl rfl hl.1 rfl (lv_room (Nat.le_of_ble_eq_true rfl)) dX10_drawCall_51 ⟨(Nat.le_of_ble_eq_true rfl), (Nat.le_of_ble_eq_true rfl)⟩) g hK (by decide) (by decide) (fx' := [(9, 9, a1_, .ref a_20), (7, 2, a_18, .ref a_19), (10, 0, a0_, .ref a_18), (9, 8, a1_, .int x_13), (3, 4, a_4, .int x_5), (10, 3, a0_, .ref a_4)]) rfl (fun r_23 fr_23 H locs hp hMr_23 g => ?_)
  have hG_24 := RP.frame hMr_23 go_.2.2.2.1 ma0_ ka0_ (by decide) (by decide) hG_12
  refine lv_istore (lv' := [(5, .int r_23), (4, .ref a_22), (3, .int y_16), (2, .int y_8), (0, .ref a0_), (1, .ref a1_)]) hx hb dX10_drawCall_54 hl (by decide) rfl (fun ls hl => ?_)
  refine lv_aload_n hx hb dX10_drawCall_56 rfl (lv_at hl 4 rfl) ?_
  refine lv_aload hx hb dX10_drawCall_57 (lv_at hl 1 rfl) ?_
  refine lv_iconst (v := 1) hx hb dX10_drawCall_59 (by decide) ?_
  have go_ := g
  refine g_calli (va_runV (As := [.ref a_22, .int 1]) (rest := []) ⟨hx, hb, hml, hown, hts⟩ (r_X10_drawArgument_2 l dC dI L kd tys fr_23 H.size g.2.2.2.1 a0_ ma0_ ka0_ a_22 ma_22 ka_22 1 kb_1) (cwV 2 hts (gV_ t_1688 t_1690 t_82 t_194 t_1691) rfl rfl rfl (by decide +kernel) ⟨(Nat.le_of_ble_eq_true rfl), (Nat.le_of_ble_eq_true rfl)⟩) (pre3V g hK ma0_ ka0_ (by decide) (q := (RX10, TX10, 10)) rfl) rfl rfl hl.1 rfl (lv_room (Nat.le_of_ble_eq_true rfl)) dX10_drawCall_60 ⟨(Nat.le_of_ble_eq_true rfl), (Nat.le_of_ble_eq_true rfl)⟩) g hK (by decide) (by decide) (fx' := [(9, 9, a1_, .ref a_20), (7, 2, a_18, .ref a_19), (10, 0, a0_, .ref a_18), (9, 8, a1_, .int x_13), (3, 4, a_4, .int x_5), (10, 3, a0_, .ref a_4)]) rfl (fun r_25 fr_25 H locs hp hMr_25 g => ?_)
  have hG_26 := RP.frame hMr_25 go_.2.2.2.1 ma0_ ka0_ (by decide) (by decide) hG_24
  refine lv_istore (lv' := [(6, .int r_25), (5, .int r_23), (4, .ref a_22), (3, .int y_16), (2, .int y_8), (0, .ref a0_), (1, .ref a1_)]) hx hb dX10_drawCall_63 hl (by decide) rfl (fun ls hl => ?_)
  refine lv_aload_n hx hb dX10_drawCall_65 rfl (lv_at hl 5 rfl) ?_
  refine lv_aload hx hb dX10_drawCall_66 (lv_at hl 2 rfl) ?_
  refine lv_iconst (v := 2) hx hb dX10_drawCall_68 (by decide) ?_
  have kb_2 : bd 2 2 (2 : Int32) := ⟨by decide, by decide⟩
  have go_ := g
  refine g_calli (va_runV (As := [.ref a_22, .int 2]) (rest := []) ⟨hx, hb, hml, hown, hts⟩ (r_X10_drawArgument_3 l dC dI L kd tys fr_25 H.size g.2.2.2.1 a0_ ma0_ ka0_ a_22 ma_22 ka_22 2 kb_2) (cwV 2 hts (gV_ t_1688 t_1690 t_82 t_194 t_1691) rfl rfl rfl (by decide +kernel) ⟨(Nat.le_of_ble_eq_true rfl), (Nat.le_of_ble_eq_true rfl)⟩) (pre3V g hK ma0_ ka0_ (by decide) (q := (RX10, TX10, 10)) rfl) rfl rfl hl.1 rfl (lv_room (Nat.le_of_ble_eq_true rfl)) dX10_drawCall_69 ⟨(Nat.le_of_ble_eq_true rfl), (Nat.le_of_ble_eq_true rfl)⟩) g hK (by decide) (by decide) (fx' := [(9, 9, a1_, .ref a_20), (7, 2, a_18, .ref a_19), (10, 0, a0_, .ref a_18), (9, 8, a1_, .int x_13), (3, 4, a_4, .int x_5), (10, 3, a0_, .ref a_4)]) rfl (fun r_27 fr_27 H locs hp hMr_27 g => ?_)
  have hG_28 := RP.frame hMr_27 go_.2.2.2.1 ma0_ ka0_ (by decide) (by decide) hG_26
  refine lv_istore (lv' := [(7, .int r_27), (6, .int r_25), (5, .int r_23), (4, .ref a_22), (3, .int y_16), (2, .int y_8), (0, .ref a0_), (1, .ref a1_)]) hx hb dX10_drawCall_72 hl (by decide) rfl (fun ls hl => ?_)
  refine lv_aload_n hx hb dX10_drawCall_74 rfl (lv_at hl 6 rfl) ?_
  refine g_getk (C := RX10) (T := TX10) (N := 10) hx hb hts (mc_ inX10) hown hK g rfl 3 (by decide) rfl (hts _ (List.mem_cons_of_mem _ t_916)) (fun _ h9 => h9) 5 rfl dX10_drawCall_75 ?_
  refine lv_iload_n hx hb dX10_drawCall_78 rfl (lv_at hl 5 rfl) ?_
  refine lv_iload_n hx hb dX10_drawCall_79 rfl (lv_at hl 4 rfl) ?_
  refine lv_iload hx hb dX10_drawCall_80 (lv_at hl 2 rfl) ?_
  refine lv_iload hx hb dX10_drawCall_82 (lv_at hl 1 rfl) ?_
  refine lv_iload hx hb dX10_drawCall_84 (lv_at hl 0 rfl) ?_
  obtain ⟨r1_29, r2_30, p1_31, p2_32, m1_33, m2_34, A1_35, A2_36, Q1_37, Q2_38, n1_39, n2_40, k1_41, k2_42, e2_43, e3_44, pk1_45, pk2_46, hap_47⟩ := hG_28
  obtain ⟨⟨hr_48, kr_49⟩, ⟨hp_50, kp_51⟩, ⟨hm_52, km_53⟩, f2_54, f3_55, f0_56, f4_57, b0_58, b4_59, hJ_60, hQ_61, hw_62⟩ := pk1_45
  have g := G3.add g ma0_ ka0_ (by decide) e2_43
  have g := G3.add g hr_48 kr_49 (by decide) f2_54
  have g := G3.add g hr_48 kr_49 (by decide) f3_55
  have g := G3.add g hr_48 kr_49 (by decide) f0_56
  have g := G3.add g hr_48 kr_49 (by decide) f4_57
  obtain ⟨⟨hr_63, kr_64⟩, ⟨hp_65, kp_66⟩, ⟨hm_67, km_68⟩, f2_69, f3_70, f0_71, f4_72, b0_73, b4_74, hJ_75, hQ_76, hw_77⟩ := pk2_46
  obtain rfl : a_4 = r2_30 := by have h9 := (fx_at g (i := 10) rfl).2.2.2.symm.trans e3_44; cases h9; rfl
  have g := G3.add g ma_4 ka_4 (by decide) f2_69
  have g := G3.add g ma_4 ka_4 (by decide) f3_70
  have g := G3.add g ma_4 ka_4 (by decide) f0_71
  obtain rfl : x_5 = k2_42 := by have h9 := (fx_at g (i := 12) rfl).2.2.2.symm.trans f4_72; cases h9; rfl
  have ho_78 := (fx_at g (i := 4) rfl).2.2.2
  have ho_79 := (fx_at g (i := 3) rfl).2.2.2
  have go_ := g
  refine g_callv (va_runV (As := [.int y_8, .int y_16, .int r_23, .int r_25, .int r_27]) (rest := []) ⟨hx, hb, hml, hown, hts⟩ (r_X3_addCallQ l dC dI L kd tys fr_27 H.size g.2.2.2.1 a_4 ma_4 ka_4 p2_32 hp_65 kp_66 m2_34 hm_67 km_68 A2_36 Q2_38 n2_40 b0_73 x_5 bx_5 hJ_75 hQ_76 hw_77 y_8 b_9 y_16 b_17 r_23 r_25 r_27 (g.fcts [0, 12, 2, 1] rfl)) (cwV 5 hts (gV_ t_1514 t_1515 t_1516 t_196 t_1517) rfl rfl rfl (by decide +kernel) ⟨(Nat.le_of_ble_eq_true rfl), (Nat.le_of_ble_eq_true rfl)⟩) (pre3V g hK ma_4 ka_4 (by decide) (q := (RX3, TX3, 6)) rfl) rfl rfl hl.1 rfl (lv_room (Nat.le_of_ble_eq_true rfl)) dX10_drawCall_86 ⟨(Nat.le_of_ble_eq_true rfl), (Nat.le_of_ble_eq_true rfl)⟩) g hK (by decide) (by decide) (fx' := [(3, 3, a_4, .ref p2_32), (3, 2, a_4, .ref m2_34), (3, 4, r1_29, .int k1_41), (3, 3, r1_29, .ref p1_31), (3, 2, r1_29, .ref m1_33), (10, 2, a0_, .ref r1_29), (9, 9, a1_, .ref a_20), (7, 2, a_18, .ref a_19), (10, 0, a0_, .ref a_18), (9, 8, a1_, .int x_13), (3, 4, a_4, .int x_5), (10, 3, a0_, .ref a_4)]) rfl (fun fr_80 H locs hp hMr_80 g => ?_)
  obtain ⟨hx_81, -⟩ := hp
  have hG_82 := arP.frame hMr_80 go_.2.2.2.1 hp_50 kp_51 (by decide) (by decide) hJ_60
  have hG_83 := arP.frame hMr_80 go_.2.2.2.1 hp_65 kp_66 (by decide) (by decide) hJ_75
  obtain ⟨Q_84, n_85, k_86, hQ_87, hU_88, h0_89, h4_90, b0_91, b4_92, hP_93⟩ := hx_81
  have g := G3.add g ma_4 ka_4 (by decide) h0_89
  obtain rfl : x_5 = k_86 := by have h9 := (fx_at g (i := 11) rfl).2.2.2.symm.trans h4_90; cases h9; rfl
  have hQ_94 := QR.oth hU_88 hQ_61 (apQ.sym hap_47).2.1 (apQ.sym hap_47).2.2
  have g := G3.add g hr_48 kr_49 (by decide) (((hU_88 r1_29 hr_48).1 kr_49 (fun z => (apQ.sym hap_47).1 z.symm) 0).trans ho_78)
  have hP_96 : RP L kd fr_80 a0_ := ⟨r1_29, _, _, _, _, _, _, _, _, _, _, _, _, _, (fx_at g (i := 7) rfl).2.2.2, (fx_at g (i := 13) rfl).2.2.2, ⟨⟨hr_48, kr_49⟩, ⟨hp_50, kp_51⟩, ⟨hm_52, km_53⟩, (fx_at g (i := 6) rfl).2.2.2, (fx_at g (i := 5) rfl).2.2.2, (fx_at g (i := 0) rfl).2.2.2, (fx_at g (i := 4) rfl).2.2.2, b0_58, b4_59, hG_82, hQ_94, hw_62⟩, ⟨⟨ma_4, ka_4⟩, ⟨hp_65, kp_66⟩, ⟨hm_67, km_68⟩, (fx_at g (i := 3) rfl).2.2.2, (fx_at g (i := 2) rfl).2.2.2, (fx_at g (i := 1) rfl).2.2.2, (fx_at g (i := 12) rfl).2.2.2, b0_91, bx_5, hG_83, hQ_87, hP_93.1⟩, hap_47⟩
  subst hQ
  exact W.vret hx hb hr (fun t ht hW => ⟨⟨_, rfl, ⟨hP_96, trivial⟩, q3_of g hK ht hW⟩, g.2.2.1.F ht⟩) g.2.2.1.2.2 dX10_drawCall_89
set_option maxHeartbeats 4000000 in
set_option maxRecDepth 100000 in
theorem r_X10_drawRow (l : Launch) (dC : Nat → ClassId) (dI : Nat → Nat → Nat) (L : List Nat) (kd : Nat → Nat) (tys : List (ClassId × FieldType)) (f0 : Nat → va_E) (sz : Nat) (hWT : WT L kd tys f0) (a0_ : Nat) (ma0_ : a0_ ∈ L) (ka0_ : kd a0_ = 10) (x1_ : Int32) (bx1_ : bd 0 7 x1_) (x2_ : Int32) (hGPa0_ : RP L kd f0 a0_) : Met l yX10_drawRow (.code yX10_drawRow cX10_drawRow 7 none :: lw_g) ({ frames := 3, cells := 0, slots := 0, locals := 78 }) (va_Pc [.ref a0_, .int x1_, .int x2_] (P3 (dC, dI) L tys f0 sz)) (va_Qv (fun (f : Nat → va_E) => (RP L kd f a0_ ∧ True)) (Q3 (dC, dI) L kd tys [(3, 0), (3, 4), (10, 9)] [103, 122, 123, 125] f0 sz) (pA L sz)) 0 0 (pA L sz) := by
  refine Met.ofW (cc := cX10_drawRow) (maxL := 7) (ret := none) (by decide) rfl ?_
  intro p e s m args below meth c s₁ B hml hv
  obtain ⟨rfl, hsz, hP, hK, hD0⟩ := hv
  have hx := B.exec
  have hb := B.bytes
  have hr := B.returns
  have hts := atoms_spec (ws := (.code yX10_drawRow cX10_drawRow 7 none :: lw_g)) B.pre
  have hown : s.vm.findClass RX10 = some m.cls := findClass_of_methodNamed B.named
  have hlocks := B.notSynchronized
  subst hsz
  have g : G3 (dC, dI) L kd tys s f0 [(3, 0), (3, 4), (10, 9)] [103, 122, 123, 125] f0 s.heap [] [] := G3.start hP hD0 hWT Fs.nil
  have hl := lv_entry ([.ref a0_, .int x1_, .int x2_]) (n := 7) (Nat.le_of_ble_eq_true rfl)
  rw [lg_entry_eq]
  generalize (lg_sl ([.ref a0_, .int x1_, .int x2_]) ++ List.replicate (7 - (lg_sl ([.ref a0_, .int x1_, .int x2_])).length) Slot.unset).toArray = ls at hl ⊢
  have hl : lv_has ls 7 [(0, .ref a0_), (1, .int x1_), (2, .int x2_)] := hl
  refine W_q (fun Q hQ => ?_)
  refine lv_aload_n hx hb dX10_drawRow_0 rfl (lv_at hl 0 rfl) ?_
  refine lv_iload_n hx hb dX10_drawRow_1 rfl (lv_at hl 2 rfl) ?_
  have go_ := g
  refine g_put (C := RX10) (T := TX10) (N := 10) hx hb hts (mc_ inX10) tyX10 tyX10_ok nmX10 hown hK g ma0_ ka0_ (by decide) rfl 9 (by decide) (hts _ (List.mem_cons_of_mem _ t_926)) (fun _ h9 => h9) rfl rfl (okV_i (bdT x2_)) rfl rfl (by decide) (Or.inr (Or.inl (by decide))) (fx' := []) rfl dX10_drawRow_2 (fun f H locs hM_1 g => ?_)
  have hG_2 := RP.frame hM_1 go_.2.2.2.1 ma0_ ka0_ (by decide) (by decide) hGPa0_
  refine lv_aload_n hx hb dX10_drawRow_5 rfl (lv_at hl 0 rfl) ?_
  refine g_getr (K := 3) (C := RX10) (T := TX10) (N := 10) hx hb hts (mc_ inX10) hown hK g ma0_ ka0_ (by decide) rfl 3 (by decide) rfl (hts _ (List.mem_cons_of_mem _ t_916)) (fun _ h9 => h9) rfl dX10_drawRow_6 (fun a_3 ma_3 ka_3 g => ?_)
  obtain ⟨r1_4, r2_5, p1_6, p2_7, m1_8, m2_9, A1_10, A2_11, Q1_12, Q2_13, n1_14, n2_15, k1_16, k2_17, e2_18, e3_19, pk1_20, pk2_21, hap_22⟩ := hG_2
  obtain ⟨⟨hr_23, kr_24⟩, ⟨hp_25, kp_26⟩, ⟨hm_27, km_28⟩, f2_29, f3_30, f0_31, f4_32, b0_33, b4_34, hJ_35, hQ_36, hw_37⟩ := pk1_20
  have g := G3.add g ma0_ ka0_ (by decide) e2_18
  have g := G3.add g hr_23 kr_24 (by decide) f2_29
  have g := G3.add g hr_23 kr_24 (by decide) f3_30
  have g := G3.add g hr_23 kr_24 (by decide) f0_31
  have g := G3.add g hr_23 kr_24 (by decide) f4_32
  obtain ⟨⟨hr_38, kr_39⟩, ⟨hp_40, kp_41⟩, ⟨hm_42, km_43⟩, f2_44, f3_45, f0_46, f4_47, b0_48, b4_49, hJ_50, hQ_51, hw_52⟩ := pk2_21
  obtain rfl : a_3 = r2_5 := by have h9 := (fx_at g (i := 5) rfl).2.2.2.symm.trans e3_19; cases h9; rfl
  have g := G3.add g ma_3 ka_3 (by decide) f2_44
  have g := G3.add g ma_3 ka_3 (by decide) f3_45
  have g := G3.add g ma_3 ka_3 (by decide) f0_46
  have g := G3.add g ma_3 ka_3 (by decide) f4_47
  have ho_53 := (fx_at g (i := 5) rfl).2.2.2
  have ho_54 := (fx_at g (i := 4) rfl).2.2.2
  have go_ := g
  refine g_callv (va_runV (As := []) (rest := []) ⟨hx, hb, hml, hown, hts⟩ (r_X3_wipeQ l dC dI L kd tys f H.size g.2.2.2.1 a_3 ma_3 ka_3 p2_7 hp_40 kp_41 m2_9 hm_42 km_43 A2_11 Q2_13 n2_15 b0_48 k2_17 b4_49 hJ_50 hQ_51 (g.fcts [1, 0, 3, 2] rfl)) (cwV 0 hts (gV_ t_1422 t_1423 t_1424 t_196 t_1425) rfl rfl rfl (by decide +kernel) ⟨(Nat.le_of_ble_eq_true rfl), (Nat.le_of_ble_eq_true rfl)⟩) (pre3V g hK ma_3 ka_3 (by decide) (q := (RX3, TX3, 6)) rfl) rfl rfl hl.1 rfl (lv_room (Nat.le_of_ble_eq_true rfl)) dX10_drawRow_9 ⟨(Nat.le_of_ble_eq_true rfl), (Nat.le_of_ble_eq_true rfl)⟩) g hK (by decide) (by decide) (fx' := [(3, 3, a_3, .ref p2_7), (3, 2, a_3, .ref m2_9), (3, 3, r1_4, .ref p1_6), (3, 2, r1_4, .ref m1_8), (10, 2, a0_, .ref r1_4), (10, 3, a0_, .ref a_3), (10, 9, a0_, .int x2_)]) rfl (fun fr_55 H locs hp hMr_55 g => ?_)
  obtain ⟨hx_56, -⟩ := hp
  have hG_57 := isQ.frame hMr_55 go_.2.2.2.1 hr_23 kr_24 (by decide) (by decide) hQ_36
  have hG_58 := arP.frame hMr_55 go_.2.2.2.1 hp_25 kp_26 (by decide) (by decide) hJ_35
  have hG_59 := isQ.frame hMr_55 go_.2.2.2.1 ma_3 ka_3 (by decide) (by decide) hQ_51
  have hG_60 := arP.frame hMr_55 go_.2.2.2.1 hp_40 kp_41 (by decide) (by decide) hJ_50
  obtain ⟨Q_61, n_62, k_63, hQ_64, hU_65, h0_66, h4_67, b0_68, b4_69, hP_70⟩ := hx_56
  have g := G3.add g ma_3 ka_3 (by decide) h0_66
  have g := G3.add g ma_3 ka_3 (by decide) h4_67
  have hQ_71 := QR.oth hU_65 hQ_36 (apQ.sym hap_22).2.1 (apQ.sym hap_22).2.2
  have g := G3.add g hr_23 kr_24 (by decide) (((hU_65 r1_4 hr_23).1 kr_24 (fun z => (apQ.sym hap_22).1 z.symm) 0).trans ho_53)
  have g := G3.add g hr_23 kr_24 (by decide) (((hU_65 r1_4 hr_23).1 kr_24 (fun z => (apQ.sym hap_22).1 z.symm) 4).trans ho_54)
  have hP_74 : RP L kd fr_55 a0_ := ⟨r1_4, _, _, _, _, _, _, _, _, _, _, _, _, _, (fx_at g (i := 8) rfl).2.2.2, (fx_at g (i := 9) rfl).2.2.2, ⟨⟨hr_23, kr_24⟩, ⟨hp_25, kp_26⟩, ⟨hm_27, km_28⟩, (fx_at g (i := 7) rfl).2.2.2, (fx_at g (i := 6) rfl).2.2.2, (fx_at g (i := 1) rfl).2.2.2, (fx_at g (i := 0) rfl).2.2.2, b0_33, b4_34, hG_58, hQ_71, hw_37⟩, ⟨⟨ma_3, ka_3⟩, ⟨hp_40, kp_41⟩, ⟨hm_42, km_43⟩, (fx_at g (i := 5) rfl).2.2.2, (fx_at g (i := 4) rfl).2.2.2, (fx_at g (i := 3) rfl).2.2.2, (fx_at g (i := 2) rfl).2.2.2, b0_68, b4_69, hG_60, hQ_64, hP_70.1⟩, hap_22⟩
  refine lv_iconst (v := 1) hx hb dX10_drawRow_12 (by decide) ?_
  refine lv_aload_n hx hb dX10_drawRow_13 rfl (lv_at hl 0 rfl) ?_
  have go_ := g
  refine g_calli (va_runV (As := []) (rest := [.int 1]) ⟨hx, hb, hml, hown, hts⟩ (r_X10_drawNext l dC dI L kd tys fr_55 H.size g.2.2.2.1 a0_ ma0_ ka0_) (cwV 0 hts (gV_ t_1678 t_1680 t_80 t_194 t_1681) rfl rfl rfl (by decide +kernel) ⟨(Nat.le_of_ble_eq_true rfl), (Nat.le_of_ble_eq_true rfl)⟩) (pre3V g hK ma0_ ka0_ (by decide) (q := (RX10, TX10, 10)) rfl) rfl rfl hl.1 rfl (lv_room (Nat.le_of_ble_eq_true rfl)) dX10_drawRow_14 ⟨(Nat.le_of_ble_eq_true rfl), (Nat.le_of_ble_eq_true rfl)⟩) g hK (by decide) (by decide) (fx' := [(3, 4, r1_4, .int k1_16), (3, 0, r1_4, .int n1_14), (3, 4, a_3, .int k_63), (3, 0, a_3, .int n_62), (3, 3, a_3, .ref p2_7), (3, 2, a_3, .ref m2_9), (3, 3, r1_4, .ref p1_6), (3, 2, r1_4, .ref m1_8), (10, 2, a0_, .ref r1_4), (10, 3, a0_, .ref a_3)]) rfl (fun r_75 fr_75 H locs hp hMr_75 g => ?_)
  obtain ⟨h_76, -⟩ := hp
  have hG_77 := RP.frame hMr_75 go_.2.2.2.1 ma0_ ka0_ (by decide) (by decide) hP_74
  refine lv_bipush (v := 10) hx hb dX10_drawRow_17 (by decide) ?_
  have kb_10 : bd 10 10 (10 : Int32) := ⟨by decide, by decide⟩
  refine lv_irem hx hb dX10_drawRow_19 (by decide) ?_
  refine lv_topi (fun y_78 ey_78 => ?_)
  have b_79 : bd 0 9 y_78 := rem_rg ey_78 h_76 kb_10 (by decide)
  have kb_1 : bd 1 1 (1 : Int32) := ⟨by decide, by decide⟩
  refine lv_iadd hx hb dX10_drawRow_20 ?_
  refine lv_topi (fun y_80 ey_80 => ?_)
  have ty_80 := add_bd ey_80 kb_1 b_79 (by decide)
  have b_81 : bd 1 10 y_80 := add_rg ty_80 kb_1 b_79 (by decide)
  refine lv_istore_n (lv' := [(3, .int y_80), (0, .ref a0_), (1, .int x1_), (2, .int x2_)]) hx hb dX10_drawRow_21 rfl hl (by decide) rfl (fun ls hl => ?_)
  refine lv_aload_n hx hb dX10_drawRow_22 rfl (lv_at hl 1 rfl) ?_
  refine g_getk (C := RX10) (T := TX10) (N := 10) hx hb hts (mc_ inX10) hown hK g rfl 3 (by decide) rfl (hts _ (List.mem_cons_of_mem _ t_916)) (fun _ h9 => h9) 9 rfl dX10_drawRow_23 ?_
  refine lv_iload_n hx hb dX10_drawRow_26 rfl (lv_at hl 2 rfl) ?_
  obtain ⟨r1_82, r2_83, p1_84, p2_85, m1_86, m2_87, A1_88, A2_89, Q1_90, Q2_91, n1_92, n2_93, k1_94, k2_95, e2_96, e3_97, pk1_98, pk2_99, hap_100⟩ := hG_77
  obtain ⟨⟨hr_101, kr_102⟩, ⟨hp_103, kp_104⟩, ⟨hm_105, km_106⟩, f2_107, f3_108, f0_109, f4_110, b0_111, b4_112, hJ_113, hQ_114, hw_115⟩ := pk1_98
  obtain rfl : r1_4 = r1_82 := by have h9 := (fx_at g (i := 8) rfl).2.2.2.symm.trans e2_96; cases h9; rfl
  obtain rfl : m1_8 = m1_86 := by have h9 := (fx_at g (i := 7) rfl).2.2.2.symm.trans f2_107; cases h9; rfl
  obtain rfl : p1_6 = p1_84 := by have h9 := (fx_at g (i := 6) rfl).2.2.2.symm.trans f3_108; cases h9; rfl
  obtain rfl : n1_14 = n1_92 := by have h9 := (fx_at g (i := 1) rfl).2.2.2.symm.trans f0_109; cases h9; rfl
  obtain rfl : k1_16 = k1_94 := by have h9 := (fx_at g (i := 0) rfl).2.2.2.symm.trans f4_110; cases h9; rfl
  obtain ⟨⟨hr_116, kr_117⟩, ⟨hp_118, kp_119⟩, ⟨hm_120, km_121⟩, f2_122, f3_123, f0_124, f4_125, b0_126, b4_127, hJ_128, hQ_129, hw_130⟩ := pk2_99
  obtain rfl : a_3 = r2_83 := by have h9 := (fx_at g (i := 9) rfl).2.2.2.symm.trans e3_97; cases h9; rfl
  obtain rfl : m2_9 = m2_87 := by have h9 := (fx_at g (i := 5) rfl).2.2.2.symm.trans f2_122; cases h9; rfl
  obtain rfl : p2_7 = p2_85 := by have h9 := (fx_at g (i := 4) rfl).2.2.2.symm.trans f3_123; cases h9; rfl
  obtain rfl : n_62 = n2_93 := by have h9 := (fx_at g (i := 3) rfl).2.2.2.symm.trans f0_124; cases h9; rfl
  obtain rfl : k_63 = k2_95 := by have h9 := (fx_at g (i := 2) rfl).2.2.2.symm.trans f4_125; cases h9; rfl
  have ho_131 := (fx_at g (i := 1) rfl).2.2.2
  have ho_132 := (fx_at g (i := 0) rfl).2.2.2
  have go_ := g
  refine g_callv (va_runV (As := [.int x1_]) (rest := []) ⟨hx, hb, hml, hown, hts⟩ (r_X3_addMakeQ l dC dI L kd tys fr_75 H.size g.2.2.2.1 a_3 ma_3 ka_3 p2_7 hp_40 kp_41 m2_9 hm_42 km_43 A2_89 Q2_91 n_62 b0_68 k_63 b4_69 hJ_128 hQ_129 hw_130 x1_ bx1_ (g.fcts [3, 2, 5, 4] rfl)) (cwV 1 hts (gV_ t_1481 t_1482 t_1483 t_196 t_1484) rfl rfl rfl (by decide +kernel) ⟨(Nat.le_of_ble_eq_true rfl), (Nat.le_of_ble_eq_true rfl)⟩) (pre3V g hK ma_3 ka_3 (by decide) (q := (RX3, TX3, 6)) rfl) rfl rfl hl.1 rfl (lv_room (Nat.le_of_ble_eq_true rfl)) dX10_drawRow_27 ⟨(Nat.le_of_ble_eq_true rfl), (Nat.le_of_ble_eq_true rfl)⟩) g hK (by decide) (by decide) (fx' := [(3, 3, a_3, .ref p2_7), (3, 2, a_3, .ref m2_9), (3, 3, r1_4, .ref p1_6), (3, 2, r1_4, .ref m1_8), (10, 2, a0_, .ref r1_4), (10, 3, a0_, .ref a_3)]) rfl (fun fr_133 H locs hp hMr_133 g => ?_)
  obtain ⟨hx_134, -⟩ := hp
  have hG_135 := arP.frame hMr_133 go_.2.2.2.1 hp_25 kp_26 (by decide) (by decide) hJ_113
  have hG_136 := arP.frame hMr_133 go_.2.2.2.1 hp_40 kp_41 (by decide) (by decide) hJ_128
  obtain ⟨Q_137, n_138, k_139, hQ_140, hU_141, h0_142, h4_143, b0_144, b4_145, hP_146⟩ := hx_134
  have g := G3.add g ma_3 ka_3 (by decide) h0_142
  have g := G3.add g ma_3 ka_3 (by decide) h4_143
  have hQ_147 := QR.oth hU_141 hQ_114 (apQ.sym hap_100).2.1 (apQ.sym hap_100).2.2
  have g := G3.add g hr_23 kr_24 (by decide) (((hU_141 r1_4 hr_23).1 kr_24 (fun z => (apQ.sym hap_100).1 z.symm) 0).trans ho_131)
  have g := G3.add g hr_23 kr_24 (by decide) (((hU_141 r1_4 hr_23).1 kr_24 (fun z => (apQ.sym hap_100).1 z.symm) 4).trans ho_132)
  have hP_150 : RP L kd fr_133 a0_ := ⟨r1_4, _, _, _, _, _, _, _, _, _, _, _, _, _, (fx_at g (i := 8) rfl).2.2.2, (fx_at g (i := 9) rfl).2.2.2, ⟨⟨hr_23, kr_24⟩, ⟨hp_25, kp_26⟩, ⟨hm_27, km_28⟩, (fx_at g (i := 7) rfl).2.2.2, (fx_at g (i := 6) rfl).2.2.2, (fx_at g (i := 1) rfl).2.2.2, (fx_at g (i := 0) rfl).2.2.2, b0_33, b4_34, hG_135, hQ_147, hw_115⟩, ⟨⟨ma_3, ka_3⟩, ⟨hp_40, kp_41⟩, ⟨hm_42, km_43⟩, (fx_at g (i := 5) rfl).2.2.2, (fx_at g (i := 4) rfl).2.2.2, (fx_at g (i := 3) rfl).2.2.2, (fx_at g (i := 2) rfl).2.2.2, b0_144, b4_145, hG_136, hQ_140, hP_146.1⟩, hap_100⟩
  refine lv_iconst (v := 1) hx hb dX10_drawRow_30 (by decide) ?_
  refine lv_istore (lv' := [(4, .int 1), (3, .int y_80), (0, .ref a0_), (1, .int x1_), (2, .int x2_)]) hx hb dX10_drawRow_31 hl (by decide) rfl (fun ls hl => ?_)
  refine lv_iconst (v := 1) hx hb dX10_drawRow_33 (by decide) ?_
  refine lv_istore (lv' := [(5, .int 1), (4, .int 1), (3, .int y_80), (0, .ref a0_), (1, .int x1_), (2, .int x2_)]) hx hb dX10_drawRow_34 hl (by decide) rfl (fun ls hl => ?_)
  have loop_151 : ∀ (n : Nat) (v36_5 : Int32) (v36_4 : Int32) (w36_3_4_a_3 : Int32), bd 1 10 v36_5 → bd 0 1 v36_4 → bd 0 3 w36_3_4_a_3 → (10 - v36_5.toInt < (n : Int)) → ∀ (f : Nat → va_E) (H : Heap) (locs : List Loc) (ls : Array Slot), G3 (dC, dI) L kd tys s f0 [(3, 0), (3, 4), (10, 9)] [103, 122, 123, 125] f H locs [(3, 4, r1_4, .int k1_16), (3, 4, a_3, .int w36_3_4_a_3), (3, 3, a_3, .ref p2_7), (3, 2, a_3, .ref m2_9), (3, 3, r1_4, .ref p1_6), (3, 2, r1_4, .ref m1_8), (10, 2, a0_, .ref r1_4), (10, 3, a0_, .ref a_3)] → RP L kd f a0_ → lv_has ls 7 [(5, .int v36_5), (4, .int v36_4), (3, .int y_80), (0, .ref a0_), (1, .int x1_), (2, .int x2_)] → W p l e ({ frames := 3, cells := 0, slots := 0, locals := 78 } : Room) s m [.ref a0_, .int x1_, .int x2_].toArray below meth c H locs 0 0 Q (F0 m 36 ls []) := by
    intro n36
    induction n36 with
    | zero =>
      intro v36_5 v36_4 w36_3_4_a_3 bv36_5 bv36_4 bw36_3_4_a_3 hm36 f H locs ls g hG36_P_a0_ hl
      exact absurd hm36 (by have h9_v36_5 := bv36_5; unfold bd at h9_v36_5; have h9_v36_4 := bv36_4; unfold bd at h9_v36_4; have h9_w36_3_4_a_3 := bw36_3_4_a_3; unfold bd at h9_w36_3_4_a_3; omega)
    | succ n36 ih36 =>
      intro v36_5 v36_4 w36_3_4_a_3 bv36_5 bv36_4 bw36_3_4_a_3 hm36 f H locs ls g hG36_P_a0_ hl
      refine lv_iload hx hb dX10_drawRow_36 (lv_at hl 0 rfl) ?_
      refine lv_iload_n hx hb dX10_drawRow_38 rfl (lv_at hl 2 rfl) ?_
      refine lv_icmp_ge (tgt := 140) hx hb dX10_drawRow_39 (by decide) (fun c_152 => ?_) (fun c_152 => ?_)
      · have fc_152 := le_f c_152
        subst hQ
        exact W.vret hx hb hr (fun t ht hW => ⟨⟨_, rfl, ⟨hG36_P_a0_, trivial⟩, q3_of g hK ht hW⟩, g.2.2.1.F ht⟩) g.2.2.1.2.2 dX10_drawRow_140
      · have fc_152 := nle_f c_152
        have b_153 : bd 1 9 v36_5 := ltL fc_152 bv36_5 b_81 (by decide)
        have b_154 : bd 2 10 y_80 := ltR fc_152 bv36_5 b_81 (by decide)
        refine lv_iload hx hb dX10_drawRow_42 (lv_at hl 1 rfl) ?_
        have kb_0 : bd 0 0 (0 : Int32) := ⟨by decide, by decide⟩
        refine lv_if_eq (tgt := 140) hx hb dX10_drawRow_44 (by decide) (fun c_155 => ?_) (fun c_155 => ?_)
        · have fc_155 := eq_f c_155
          have b_156 : bd 0 0 v36_4 := eqX fc_155 bv36_4 kb_0 (by decide)
          subst hQ
          exact W.vret hx hb hr (fun t ht hW => ⟨⟨_, rfl, ⟨hG36_P_a0_, trivial⟩, q3_of g hK ht hW⟩, g.2.2.1.F ht⟩) g.2.2.1.2.2 dX10_drawRow_140
        · have fc_155 := neq_f c_155
          have b_157 : bd 1 1 v36_4 := neX fc_155 bv36_4 kb_0 (by decide)
          refine lv_aload_n hx hb dX10_drawRow_47 rfl (lv_at hl 3 rfl) ?_
          have go_ := g
          refine g_calli (va_runV (As := []) (rest := []) ⟨hx, hb, hml, hown, hts⟩ (r_X10_drawNext l dC dI L kd tys f H.size g.2.2.2.1 a0_ ma0_ ka0_) (cwV 0 hts (gV_ t_1678 t_1680 t_80 t_194 t_1681) rfl rfl rfl (by decide +kernel) ⟨(Nat.le_of_ble_eq_true rfl), (Nat.le_of_ble_eq_true rfl)⟩) (pre3V g hK ma0_ ka0_ (by decide) (q := (RX10, TX10, 10)) rfl) rfl rfl hl.1 rfl (lv_room (Nat.le_of_ble_eq_true rfl)) dX10_drawRow_48 ⟨(Nat.le_of_ble_eq_true rfl), (Nat.le_of_ble_eq_true rfl)⟩) g hK (by decide) (by decide) (fx' := [(3, 4, r1_4, .int k1_16), (3, 4, a_3, .int w36_3_4_a_3), (3, 3, a_3, .ref p2_7), (3, 2, a_3, .ref m2_9), (3, 3, r1_4, .ref p1_6), (3, 2, r1_4, .ref m1_8), (10, 2, a0_, .ref r1_4), (10, 3, a0_, .ref a_3)]) rfl (fun r_158 fr_158 H locs hp hMr_158 g => ?_)
          obtain ⟨h_159, -⟩ := hp
          have hG_160 := RP.frame hMr_158 go_.2.2.2.1 ma0_ ka0_ (by decide) (by decide) hG36_P_a0_
          refine lv_bipush (v := 8) hx hb dX10_drawRow_51 (by decide) ?_
          have kb_8 : bd 8 8 (8 : Int32) := ⟨by decide, by decide⟩
          refine lv_irem hx hb dX10_drawRow_53 (by decide) ?_
          refine lv_topi (fun y_161 ey_161 => ?_)
          have b_162 : bd 0 7 y_161 := rem_rg ey_161 h_159 kb_8 (by decide)
          refine lv_if_ne (tgt := 72) hx hb dX10_drawRow_54 (by decide) (fun c_163 => ?_) (fun c_163 => ?_)
          · have fc_163 := neq_f c_163
            have b_164 : bd 1 7 y_161 := neX fc_163 b_162 kb_0 (by decide)
            refine lv_iconst (v := 0) hx hb dX10_drawRow_72 (by decide) ?_
            refine lv_istore (lv' := [(6, .int 0), (5, .int v36_5), (4, .int v36_4), (3, .int y_80), (0, .ref a0_), (1, .int x1_), (2, .int x2_)]) hx hb dX10_drawRow_73 hl (by decide) rfl (fun ls hl => ?_)
            refine lv_iload hx hb dX10_drawRow_75 (lv_at hl 0 rfl) ?_
            refine lv_if_ne (tgt := 92) hx hb dX10_drawRow_77 (by decide) (fun c_ => absurd c_ (by decide)) (fun c_ => ?_)
            refine lv_aload_n hx hb dX10_drawRow_80 rfl (lv_at hl 4 rfl) ?_
            refine g_getr (K := 7) (C := RX10) (T := TX10) (N := 10) hx hb hts (mc_ inX10) hown hK g ma0_ ka0_ (by decide) rfl 0 (by decide) rfl (hts _ (List.mem_cons_of_mem _ t_912)) (fun _ h9 => h9) rfl dX10_drawRow_81 (fun a_165 ma_165 ka_165 g => ?_)
            refine lv_iload_n hx hb dX10_drawRow_84 rfl (lv_at hl 5 rfl) ?_
            refine lv_iconst (v := 0) hx hb dX10_drawRow_85 (by decide) ?_
            have go_ := g
            refine g_calli (va_runV (As := [.int x1_, .int 0]) (rest := []) ⟨hx, hb, hml, hown, hts⟩ (r_X7_hasMember l dC dI L kd tys fr_158 H.size g.2.2.2.1 a_165 ma_165 ka_165 x1_ 0) (cwV 2 hts (gV_ t_1614 t_1448 t_1449 t_191 t_1450) rfl rfl rfl (by decide +kernel) ⟨(Nat.le_of_ble_eq_true rfl), (Nat.le_of_ble_eq_true rfl)⟩) (pre3V g hK ma_165 ka_165 (by decide) (q := (RX7, TX7, 19)) rfl) rfl rfl hl.1 rfl (lv_room (Nat.le_of_ble_eq_true rfl)) dX10_drawRow_86 ⟨(Nat.le_of_ble_eq_true rfl), (Nat.le_of_ble_eq_true rfl)⟩) g hK (by decide) (by decide) (fx' := [(10, 0, a0_, .ref a_165), (3, 4, r1_4, .int k1_16), (3, 4, a_3, .int w36_3_4_a_3), (3, 3, a_3, .ref p2_7), (3, 2, a_3, .ref m2_9), (3, 3, r1_4, .ref p1_6), (3, 2, r1_4, .ref m1_8), (10, 2, a0_, .ref r1_4), (10, 3, a0_, .ref a_3)]) rfl (fun r_166 fr_166 H locs hp hMr_166 g => ?_)
            rcases hp with ⟨h_167, -⟩ | ⟨h_168, h_169, h_170, x_171, h_172, hF_173⟩
            · have hG_174 := RP.frame hMr_166 go_.2.2.2.1 ma0_ ka0_ (by decide) (by decide) hG_160
              obtain rfl : r_166 = 0 := h_167
              refine lv_if_ne (tgt := 121) hx hb dX10_drawRow_89 (by decide) (fun c_ => absurd c_ (by decide)) (fun c_ => ?_)
              refine lv_aload_n hx hb dX10_drawRow_92 rfl (lv_at hl 4 rfl) ?_
              refine g_getk (C := RX10) (T := TX10) (N := 10) hx hb hts (mc_ inX10) hown hK g rfl 3 (by decide) rfl (hts _ (List.mem_cons_of_mem _ t_916)) (fun _ h9 => h9) 8 rfl dX10_drawRow_93 ?_
              refine g_getk (C := RX3) (T := TX3) (N := 6) hx hb hts (mc_ inX3) hown hK g rfl 4 (by decide) rfl (hts _ (List.mem_cons_of_mem _ t_814)) (fun _ h9 => h9) 2 rfl dX10_drawRow_96 ?_
              refine lv_iconst (v := 3) hx hb dX10_drawRow_99 (by decide) ?_
              have kb_3 : bd 3 3 (3 : Int32) := ⟨by decide, by decide⟩
              refine lv_icmp_ge (tgt := 107) hx hb dX10_drawRow_100 (by decide) (fun c_175 => ?_) (fun c_175 => ?_)
              · have fc_175 := le_f c_175
                have b_176 : bd 3 3 w36_3_4_a_3 := leR fc_175 kb_3 bw36_3_4_a_3 (by decide)
                refine lv_iconst (v := 0) hx hb dX10_drawRow_107 (by decide) ?_
                refine lv_istore (lv' := [(4, .int 0), (6, .int 0), (5, .int v36_5), (3, .int y_80), (0, .ref a0_), (1, .int x1_), (2, .int x2_)]) hx hb dX10_drawRow_108 hl (by decide) rfl (fun ls hl => ?_)
                refine lv_aload_n hx hb dX10_drawRow_110 rfl (lv_at hl 4 rfl) ?_
                refine g_getk (C := RX10) (T := TX10) (N := 10) hx hb hts (mc_ inX10) hown hK g rfl 3 (by decide) rfl (hts _ (List.mem_cons_of_mem _ t_916)) (fun _ h9 => h9) 8 rfl dX10_drawRow_111 ?_
                refine lv_iload_n hx hb dX10_drawRow_114 rfl (lv_at hl 5 rfl) ?_
                obtain ⟨r1_177, r2_178, p1_179, p2_180, m1_181, m2_182, A1_183, A2_184, Q1_185, Q2_186, n1_187, n2_188, k1_189, k2_190, e2_191, e3_192, pk1_193, pk2_194, hap_195⟩ := hG_174
                obtain ⟨⟨hr_196, kr_197⟩, ⟨hp_198, kp_199⟩, ⟨hm_200, km_201⟩, f2_202, f3_203, f0_204, f4_205, b0_206, b4_207, hJ_208, hQ_209, hw_210⟩ := pk1_193
                obtain rfl : r1_4 = r1_177 := by have h9 := (fx_at g (i := 7) rfl).2.2.2.symm.trans e2_191; cases h9; rfl
                obtain rfl : m1_8 = m1_181 := by have h9 := (fx_at g (i := 6) rfl).2.2.2.symm.trans f2_202; cases h9; rfl
                obtain rfl : p1_6 = p1_179 := by have h9 := (fx_at g (i := 5) rfl).2.2.2.symm.trans f3_203; cases h9; rfl
                have g := G3.add g hr_23 kr_24 (by decide) f0_204
                obtain rfl : k1_16 = k1_189 := by have h9 := (fx_at g (i := 2) rfl).2.2.2.symm.trans f4_205; cases h9; rfl
                obtain ⟨⟨hr_211, kr_212⟩, ⟨hp_213, kp_214⟩, ⟨hm_215, km_216⟩, f2_217, f3_218, f0_219, f4_220, b0_221, b4_222, hJ_223, hQ_224, hw_225⟩ := pk2_194
                obtain rfl : a_3 = r2_178 := by have h9 := (fx_at g (i := 9) rfl).2.2.2.symm.trans e3_192; cases h9; rfl
                obtain rfl : m2_9 = m2_182 := by have h9 := (fx_at g (i := 5) rfl).2.2.2.symm.trans f2_217; cases h9; rfl
                obtain rfl : p2_7 = p2_180 := by have h9 := (fx_at g (i := 4) rfl).2.2.2.symm.trans f3_218; cases h9; rfl
                have g := G3.add g ma_3 ka_3 (by decide) f0_219
                obtain rfl : w36_3_4_a_3 = k2_190 := by have h9 := (fx_at g (i := 4) rfl).2.2.2.symm.trans f4_220; cases h9; rfl
                have ho_226 := (fx_at g (i := 1) rfl).2.2.2
                have ho_227 := (fx_at g (i := 3) rfl).2.2.2
                have go_ := g
                refine g_callv (va_runV (As := [.int x1_]) (rest := []) ⟨hx, hb, hml, hown, hts⟩ (r_X3_addMakeQ l dC dI L kd tys fr_166 H.size g.2.2.2.1 a_3 ma_3 ka_3 p2_7 hp_40 kp_41 m2_9 hm_42 km_43 A2_184 Q2_186 n2_188 b0_221 w36_3_4_a_3 (bd_sub b_176 (by decide)) hJ_223 hQ_224 hw_225 x1_ bx1_ (g.fcts [0, 4, 6, 5] rfl)) (cwV 1 hts (gV_ t_1481 t_1482 t_1483 t_196 t_1484) rfl rfl rfl (by decide +kernel) ⟨(Nat.le_of_ble_eq_true rfl), (Nat.le_of_ble_eq_true rfl)⟩) (pre3V g hK ma_3 ka_3 (by decide) (q := (RX3, TX3, 6)) rfl) rfl rfl hl.1 rfl (lv_room (Nat.le_of_ble_eq_true rfl)) dX10_drawRow_115 ⟨(Nat.le_of_ble_eq_true rfl), (Nat.le_of_ble_eq_true rfl)⟩) g hK (by decide) (by decide) (fx' := [(10, 0, a0_, .ref a_165), (3, 3, a_3, .ref p2_7), (3, 2, a_3, .ref m2_9), (3, 3, r1_4, .ref p1_6), (3, 2, r1_4, .ref m1_8), (10, 2, a0_, .ref r1_4), (10, 3, a0_, .ref a_3)]) rfl (fun fr_228 H locs hp hMr_228 g => ?_)
                obtain ⟨hx_229, -⟩ := hp
                have hG_230 := arP.frame hMr_228 go_.2.2.2.1 hp_25 kp_26 (by decide) (by decide) hJ_208
                have hG_231 := arP.frame hMr_228 go_.2.2.2.1 hp_40 kp_41 (by decide) (by decide) hJ_223
                obtain ⟨Q_232, n_233, k_234, hQ_235, hU_236, h0_237, h4_238, b0_239, b4_240, hP_241⟩ := hx_229
                have g := G3.add g ma_3 ka_3 (by decide) h0_237
                have g := G3.add g ma_3 ka_3 (by decide) h4_238
                have hQ_242 := QR.oth hU_236 hQ_209 (apQ.sym hap_195).2.1 (apQ.sym hap_195).2.2
                have g := G3.add g hr_23 kr_24 (by decide) (((hU_236 r1_4 hr_23).1 kr_24 (fun z => (apQ.sym hap_195).1 z.symm) 0).trans ho_226)
                have g := G3.add g hr_23 kr_24 (by decide) (((hU_236 r1_4 hr_23).1 kr_24 (fun z => (apQ.sym hap_195).1 z.symm) 4).trans ho_227)
                have hP_245 : RP L kd fr_228 a0_ := ⟨r1_4, _, _, _, _, _, _, _, _, _, _, _, _, _, (fx_at g (i := 9) rfl).2.2.2, (fx_at g (i := 10) rfl).2.2.2, ⟨⟨hr_23, kr_24⟩, ⟨hp_25, kp_26⟩, ⟨hm_27, km_28⟩, (fx_at g (i := 8) rfl).2.2.2, (fx_at g (i := 7) rfl).2.2.2, (fx_at g (i := 1) rfl).2.2.2, (fx_at g (i := 0) rfl).2.2.2, b0_206, b4_34, hG_230, hQ_242, hw_210⟩, ⟨⟨ma_3, ka_3⟩, ⟨hp_40, kp_41⟩, ⟨hm_42, km_43⟩, (fx_at g (i := 6) rfl).2.2.2, (fx_at g (i := 5) rfl).2.2.2, (fx_at g (i := 3) rfl).2.2.2, (fx_at g (i := 2) rfl).2.2.2, b0_239, b4_240, hG_231, hQ_235, hP_241.1⟩, hap_195⟩
                refine lv_goto (tgt := 134) hx hb dX10_drawRow_118 (by decide) ?_
                obtain ⟨y_246, ey_246⟩ : ∃ z : Int32, z = v36_5 + 1 := ⟨_, rfl⟩
                refine lv_iinc (v := y_246) (lv' := [(5, .int y_246), (4, .int 0), (6, .int 0), (3, .int y_80), (0, .ref a0_), (1, .int x1_), (2, .int x2_)]) hx hb dX10_drawRow_134 hl (k := 2) rfl (by rw [ey_246]; rfl) (by decide) rfl (fun ls hl => ?_)
                have ty_246 := add_bd ey_246 b_153 kb_1 (by decide)
                have b_247 : bd 2 10 y_246 := add_rg ty_246 b_153 kb_1 (by decide)
                refine lv_goto (tgt := 36) hx hb dX10_drawRow_137 (by decide) ?_
                have hl9 := lv_sub hl [0, 1, 3, 4, 5, 6] (by rfl : lv_pick [(5, .int y_246), (4, .int 0), (6, .int 0), (3, .int y_80), (0, .ref a0_), (1, .int x1_), (2, .int x2_)] [0, 1, 3, 4, 5, 6] = [(5, .int y_246), (4, .int 0), (3, .int y_80), (0, .ref a0_), (1, .int x1_), (2, .int x2_)])
                have g9 := g.sub (fx' := [(3, 4, r1_4, .int k1_16), (3, 4, a_3, .int k_234), (3, 3, a_3, .ref p2_7), (3, 2, a_3, .ref m2_9), (3, 3, r1_4, .ref p1_6), (3, 2, r1_4, .ref m1_8), (10, 2, a0_, .ref r1_4), (10, 3, a0_, .ref a_3)]) [0, 2, 5, 6, 7, 8, 9, 10] rfl
                exact ih36  y_246 0 k_234 (bd_sub b_247 (by decide)) (bd_sub kb_0 (by decide)) b4_240 (by have h9_0 := b0_239; unfold bd at h9_0; have h9_1 := b4_240; unfold bd at h9_1; have h9_2 := b_247; unfold bd at h9_2; have h9_3 := bv36_4; unfold bd at h9_3; have h9_4 := bv36_5; unfold bd at h9_4; have h9_5 := bw36_3_4_a_3; unfold bd at h9_5; have h9_6 := kb_0; unfold bd at h9_6; have h9_7 := kb_1; unfold bd at h9_7; have h9_8 := kb_10; unfold bd at h9_8; have h9_9 := kb_3; unfold bd at h9_9; have h9_10 := kb_8; unfold bd at h9_10; omega) _ _ _ _ g9 hP_245 hl9
              · have fc_175 := nle_f c_175
                have b_248 : bd 0 2 w36_3_4_a_3 := ltL fc_175 bw36_3_4_a_3 kb_3 (by decide)
                refine lv_iconst (v := 1) hx hb dX10_drawRow_103 (by decide) ?_
                refine lv_goto (tgt := 108) hx hb dX10_drawRow_104 (by decide) ?_
                refine lv_istore (lv' := [(4, .int 1), (6, .int 0), (5, .int v36_5), (3, .int y_80), (0, .ref a0_), (1, .int x1_), (2, .int x2_)]) hx hb dX10_drawRow_108 hl (by decide) rfl (fun ls hl => ?_)
                refine lv_aload_n hx hb dX10_drawRow_110 rfl (lv_at hl 4 rfl) ?_
                refine g_getk (C := RX10) (T := TX10) (N := 10) hx hb hts (mc_ inX10) hown hK g rfl 3 (by decide) rfl (hts _ (List.mem_cons_of_mem _ t_916)) (fun _ h9 => h9) 8 rfl dX10_drawRow_111 ?_
                refine lv_iload_n hx hb dX10_drawRow_114 rfl (lv_at hl 5 rfl) ?_
                obtain ⟨r1_249, r2_250, p1_251, p2_252, m1_253, m2_254, A1_255, A2_256, Q1_257, Q2_258, n1_259, n2_260, k1_261, k2_262, e2_263, e3_264, pk1_265, pk2_266, hap_267⟩ := hG_174
                obtain ⟨⟨hr_268, kr_269⟩, ⟨hp_270, kp_271⟩, ⟨hm_272, km_273⟩, f2_274, f3_275, f0_276, f4_277, b0_278, b4_279, hJ_280, hQ_281, hw_282⟩ := pk1_265
                obtain rfl : r1_4 = r1_249 := by have h9 := (fx_at g (i := 7) rfl).2.2.2.symm.trans e2_263; cases h9; rfl
                obtain rfl : m1_8 = m1_253 := by have h9 := (fx_at g (i := 6) rfl).2.2.2.symm.trans f2_274; cases h9; rfl
                obtain rfl : p1_6 = p1_251 := by have h9 := (fx_at g (i := 5) rfl).2.2.2.symm.trans f3_275; cases h9; rfl
                have g := G3.add g hr_23 kr_24 (by decide) f0_276
                obtain rfl : k1_16 = k1_261 := by have h9 := (fx_at g (i := 2) rfl).2.2.2.symm.trans f4_277; cases h9; rfl
                obtain ⟨⟨hr_283, kr_284⟩, ⟨hp_285, kp_286⟩, ⟨hm_287, km_288⟩, f2_289, f3_290, f0_291, f4_292, b0_293, b4_294, hJ_295, hQ_296, hw_297⟩ := pk2_266
                obtain rfl : a_3 = r2_250 := by have h9 := (fx_at g (i := 9) rfl).2.2.2.symm.trans e3_264; cases h9; rfl
                obtain rfl : m2_9 = m2_254 := by have h9 := (fx_at g (i := 5) rfl).2.2.2.symm.trans f2_289; cases h9; rfl
                obtain rfl : p2_7 = p2_252 := by have h9 := (fx_at g (i := 4) rfl).2.2.2.symm.trans f3_290; cases h9; rfl
                have g := G3.add g ma_3 ka_3 (by decide) f0_291
                obtain rfl : w36_3_4_a_3 = k2_262 := by have h9 := (fx_at g (i := 4) rfl).2.2.2.symm.trans f4_292; cases h9; rfl
                have ho_298 := (fx_at g (i := 1) rfl).2.2.2
                have ho_299 := (fx_at g (i := 3) rfl).2.2.2
                have go_ := g
                refine g_callv (va_runV (As := [.int x1_]) (rest := []) ⟨hx, hb, hml, hown, hts⟩ (r_X3_addMakeQ l dC dI L kd tys fr_166 H.size g.2.2.2.1 a_3 ma_3 ka_3 p2_7 hp_40 kp_41 m2_9 hm_42 km_43 A2_256 Q2_258 n2_260 b0_293 w36_3_4_a_3 (bd_sub b_248 (by decide)) hJ_295 hQ_296 hw_297 x1_ bx1_ (g.fcts [0, 4, 6, 5] rfl)) (cwV 1 hts (gV_ t_1481 t_1482 t_1483 t_196 t_1484) rfl rfl rfl (by decide +kernel) ⟨(Nat.le_of_ble_eq_true rfl), (Nat.le_of_ble_eq_true rfl)⟩) (pre3V g hK ma_3 ka_3 (by decide) (q := (RX3, TX3, 6)) rfl) rfl rfl hl.1 rfl (lv_room (Nat.le_of_ble_eq_true rfl)) dX10_drawRow_115 ⟨(Nat.le_of_ble_eq_true rfl), (Nat.le_of_ble_eq_true rfl)⟩) g hK (by decide) (by decide) (fx' := [(10, 0, a0_, .ref a_165), (3, 3, a_3, .ref p2_7), (3, 2, a_3, .ref m2_9), (3, 3, r1_4, .ref p1_6), (3, 2, r1_4, .ref m1_8), (10, 2, a0_, .ref r1_4), (10, 3, a0_, .ref a_3)]) rfl (fun fr_300 H locs hp hMr_300 g => ?_)
                obtain ⟨hx_301, -⟩ := hp
                have hG_302 := arP.frame hMr_300 go_.2.2.2.1 hp_25 kp_26 (by decide) (by decide) hJ_280
                have hG_303 := arP.frame hMr_300 go_.2.2.2.1 hp_40 kp_41 (by decide) (by decide) hJ_295
                obtain ⟨Q_304, n_305, k_306, hQ_307, hU_308, h0_309, h4_310, b0_311, b4_312, hP_313⟩ := hx_301
                have g := G3.add g ma_3 ka_3 (by decide) h0_309
                have g := G3.add g ma_3 ka_3 (by decide) h4_310
                have hQ_314 := QR.oth hU_308 hQ_281 (apQ.sym hap_267).2.1 (apQ.sym hap_267).2.2
                have g := G3.add g hr_23 kr_24 (by decide) (((hU_308 r1_4 hr_23).1 kr_24 (fun z => (apQ.sym hap_267).1 z.symm) 0).trans ho_298)
                have g := G3.add g hr_23 kr_24 (by decide) (((hU_308 r1_4 hr_23).1 kr_24 (fun z => (apQ.sym hap_267).1 z.symm) 4).trans ho_299)
                have hP_317 : RP L kd fr_300 a0_ := ⟨r1_4, _, _, _, _, _, _, _, _, _, _, _, _, _, (fx_at g (i := 9) rfl).2.2.2, (fx_at g (i := 10) rfl).2.2.2, ⟨⟨hr_23, kr_24⟩, ⟨hp_25, kp_26⟩, ⟨hm_27, km_28⟩, (fx_at g (i := 8) rfl).2.2.2, (fx_at g (i := 7) rfl).2.2.2, (fx_at g (i := 1) rfl).2.2.2, (fx_at g (i := 0) rfl).2.2.2, b0_278, b4_34, hG_302, hQ_314, hw_282⟩, ⟨⟨ma_3, ka_3⟩, ⟨hp_40, kp_41⟩, ⟨hm_42, km_43⟩, (fx_at g (i := 6) rfl).2.2.2, (fx_at g (i := 5) rfl).2.2.2, (fx_at g (i := 3) rfl).2.2.2, (fx_at g (i := 2) rfl).2.2.2, b0_311, b4_312, hG_303, hQ_307, hP_313.1⟩, hap_267⟩
                refine lv_goto (tgt := 134) hx hb dX10_drawRow_118 (by decide) ?_
                obtain ⟨y_318, ey_318⟩ : ∃ z : Int32, z = v36_5 + 1 := ⟨_, rfl⟩
                refine lv_iinc (v := y_318) (lv' := [(5, .int y_318), (4, .int 1), (6, .int 0), (3, .int y_80), (0, .ref a0_), (1, .int x1_), (2, .int x2_)]) hx hb dX10_drawRow_134 hl (k := 2) rfl (by rw [ey_318]; rfl) (by decide) rfl (fun ls hl => ?_)
                have ty_318 := add_bd ey_318 b_153 kb_1 (by decide)
                have b_319 : bd 2 10 y_318 := add_rg ty_318 b_153 kb_1 (by decide)
                refine lv_goto (tgt := 36) hx hb dX10_drawRow_137 (by decide) ?_
                have hl9 := lv_sub hl [0, 1, 3, 4, 5, 6] (by rfl : lv_pick [(5, .int y_318), (4, .int 1), (6, .int 0), (3, .int y_80), (0, .ref a0_), (1, .int x1_), (2, .int x2_)] [0, 1, 3, 4, 5, 6] = [(5, .int y_318), (4, .int 1), (3, .int y_80), (0, .ref a0_), (1, .int x1_), (2, .int x2_)])
                have g9 := g.sub (fx' := [(3, 4, r1_4, .int k1_16), (3, 4, a_3, .int k_306), (3, 3, a_3, .ref p2_7), (3, 2, a_3, .ref m2_9), (3, 3, r1_4, .ref p1_6), (3, 2, r1_4, .ref m1_8), (10, 2, a0_, .ref r1_4), (10, 3, a0_, .ref a_3)]) [0, 2, 5, 6, 7, 8, 9, 10] rfl
                exact ih36  y_318 1 k_306 (bd_sub b_319 (by decide)) (bd_sub kb_1 (by decide)) b4_312 (by have h9_0 := b0_311; unfold bd at h9_0; have h9_1 := b4_312; unfold bd at h9_1; have h9_2 := b_319; unfold bd at h9_2; have h9_3 := bv36_4; unfold bd at h9_3; have h9_4 := bv36_5; unfold bd at h9_4; have h9_5 := bw36_3_4_a_3; unfold bd at h9_5; have h9_6 := kb_0; unfold bd at h9_6; have h9_7 := kb_1; unfold bd at h9_7; have h9_8 := kb_10; unfold bd at h9_8; have h9_9 := kb_3; unfold bd at h9_9; have h9_10 := kb_8; unfold bd at h9_10; omega) _ _ _ _ g9 hP_317 hl9
            · have hG_320 := RP.frame hMr_166 go_.2.2.2.1 ma0_ ka0_ (by decide) (by decide) hG_160
              obtain rfl : r_166 = 1 := h_168
              have g := g.more hF_173
              refine lv_if_ne (tgt := 121) hx hb dX10_drawRow_89 (by decide) (fun c_ => ?_) (fun c_ => absurd c_ (by decide))
              refine lv_aload_n hx hb dX10_drawRow_121 rfl (lv_at hl 4 rfl) ?_
              refine lv_aload_n hx hb dX10_drawRow_122 rfl (lv_at hl 4 rfl) ?_
              refine g_getk (C := RX10) (T := TX10) (N := 10) hx hb hts (mc_ inX10) hown hK g rfl 0 (by decide) rfl (hts _ (List.mem_cons_of_mem _ t_912)) (fun _ h9 => h9) 1 rfl dX10_drawRow_123 ?_
              refine g_getr (K := 136) (C := RX7) (T := TX7) (N := 19) hx hb hts (mc_ inX7) hown hK g ma_165 ka_165 (by decide) rfl 0 (by decide) rfl (hts _ (List.mem_cons_of_mem _ t_624)) (fun _ h9 => h9) rfl dX10_drawRow_126 (fun a_321 ma_321 ka_321 g => ?_)
              refine lv_iload_n hx hb dX10_drawRow_129 rfl (lv_at hl 5 rfl) ?_
              refine g_aald hx hb hK g ma_321 ka_321 (by decide) rfl (by decide) (in_bd bx1_ (by decide)) dX10_drawRow_130 (fun a_322 ma_322 ua_322 wa_322 => ?_)
              have ka_322 : kd a_322 = 9 := by omega
              have go_ := g
              refine g_callv (va_runV (As := [.ref a_322]) (rest := []) ⟨hx, hb, hml, hown, hts⟩ (r_X10_drawCall l dC dI L kd tys fr_166 H.size g.2.2.2.1 a0_ ma0_ ka0_ a_322 ma_322 ka_322 hG_320) (cwV 1 hts (gV_ t_1683 t_1685 t_81 t_194 t_1686) rfl rfl rfl (by decide +kernel) ⟨(Nat.le_of_ble_eq_true rfl), (Nat.le_of_ble_eq_true rfl)⟩) (pre3V g hK ma0_ ka0_ (by decide) (q := (RX10, TX10, 10)) rfl) rfl rfl hl.1 rfl (lv_room (Nat.le_of_ble_eq_true rfl)) dX10_drawRow_131 ⟨(Nat.le_of_ble_eq_true rfl), (Nat.le_of_ble_eq_true rfl)⟩) g hK (by decide) (by decide) (fx' := [(7, 0, a_165, .ref a_321), (7, 1, a_165, .int x_171), (10, 0, a0_, .ref a_165), (3, 4, r1_4, .int k1_16), (3, 4, a_3, .int w36_3_4_a_3), (3, 3, a_3, .ref p2_7), (3, 2, a_3, .ref m2_9), (3, 3, r1_4, .ref p1_6), (3, 2, r1_4, .ref m1_8), (10, 2, a0_, .ref r1_4), (10, 3, a0_, .ref a_3)]) rfl (fun fr_323 H locs hp hMr_323 g => ?_)
              obtain ⟨hG_324, -⟩ := hp
              obtain ⟨y_325, ey_325⟩ : ∃ z : Int32, z = v36_5 + 1 := ⟨_, rfl⟩
              refine lv_iinc (v := y_325) (lv' := [(5, .int y_325), (6, .int 0), (4, .int v36_4), (3, .int y_80), (0, .ref a0_), (1, .int x1_), (2, .int x2_)]) hx hb dX10_drawRow_134 hl (k := 1) rfl (by rw [ey_325]; rfl) (by decide) rfl (fun ls hl => ?_)
              have ty_325 := add_bd ey_325 b_153 kb_1 (by decide)
              have b_326 : bd 2 10 y_325 := add_rg ty_325 b_153 kb_1 (by decide)
              refine lv_goto (tgt := 36) hx hb dX10_drawRow_137 (by decide) ?_
              have hl9 := lv_sub hl [0, 2, 3, 4, 5, 6] (by rfl : lv_pick [(5, .int y_325), (6, .int 0), (4, .int v36_4), (3, .int y_80), (0, .ref a0_), (1, .int x1_), (2, .int x2_)] [0, 2, 3, 4, 5, 6] = [(5, .int y_325), (4, .int v36_4), (3, .int y_80), (0, .ref a0_), (1, .int x1_), (2, .int x2_)])
              have g9 := g.sub (fx' := [(3, 4, r1_4, .int k1_16), (3, 4, a_3, .int w36_3_4_a_3), (3, 3, a_3, .ref p2_7), (3, 2, a_3, .ref m2_9), (3, 3, r1_4, .ref p1_6), (3, 2, r1_4, .ref m1_8), (10, 2, a0_, .ref r1_4), (10, 3, a0_, .ref a_3)]) [3, 4, 5, 6, 7, 8, 9, 10] rfl
              exact ih36  y_325 v36_4 w36_3_4_a_3 (bd_sub b_326 (by decide)) (bd_sub b_157 (by decide)) bw36_3_4_a_3 (by have h9_0 := b_157; unfold bd at h9_0; have h9_1 := b_326; unfold bd at h9_1; have h9_2 := bv36_4; unfold bd at h9_2; have h9_3 := bv36_5; unfold bd at h9_3; have h9_4 := bw36_3_4_a_3; unfold bd at h9_4; have h9_5 := kb_0; unfold bd at h9_5; have h9_6 := kb_1; unfold bd at h9_6; have h9_7 := kb_10; unfold bd at h9_7; have h9_8 := kb_8; unfold bd at h9_8; omega) _ _ _ _ g9 hG_324 hl9
          · have fc_163 := eq_f c_163
            have b_327 : bd 0 0 y_161 := eqX fc_163 b_162 kb_0 (by decide)
            refine lv_aload_n hx hb dX10_drawRow_57 rfl (lv_at hl 3 rfl) ?_
            refine g_getk (C := RX10) (T := TX10) (N := 10) hx hb hts (mc_ inX10) hown hK g rfl 3 (by decide) rfl (hts _ (List.mem_cons_of_mem _ t_916)) (fun _ h9 => h9) 7 rfl dX10_drawRow_58 ?_
            refine g_getk (C := RX3) (T := TX3) (N := 6) hx hb hts (mc_ inX3) hown hK g rfl 4 (by decide) rfl (hts _ (List.mem_cons_of_mem _ t_814)) (fun _ h9 => h9) 1 rfl dX10_drawRow_61 ?_
            refine lv_iconst (v := 3) hx hb dX10_drawRow_64 (by decide) ?_
            have kb_3 : bd 3 3 (3 : Int32) := ⟨by decide, by decide⟩
            refine lv_icmp_ge (tgt := 72) hx hb dX10_drawRow_65 (by decide) (fun c_328 => ?_) (fun c_328 => ?_)
            · have fc_328 := le_f c_328
              have b_329 : bd 3 3 w36_3_4_a_3 := leR fc_328 kb_3 bw36_3_4_a_3 (by decide)
              refine lv_iconst (v := 0) hx hb dX10_drawRow_72 (by decide) ?_
              refine lv_istore (lv' := [(6, .int 0), (5, .int v36_5), (4, .int v36_4), (3, .int y_80), (0, .ref a0_), (1, .int x1_), (2, .int x2_)]) hx hb dX10_drawRow_73 hl (by decide) rfl (fun ls hl => ?_)
              refine lv_iload hx hb dX10_drawRow_75 (lv_at hl 0 rfl) ?_
              refine lv_if_ne (tgt := 92) hx hb dX10_drawRow_77 (by decide) (fun c_ => absurd c_ (by decide)) (fun c_ => ?_)
              refine lv_aload_n hx hb dX10_drawRow_80 rfl (lv_at hl 4 rfl) ?_
              refine g_getr (K := 7) (C := RX10) (T := TX10) (N := 10) hx hb hts (mc_ inX10) hown hK g ma0_ ka0_ (by decide) rfl 0 (by decide) rfl (hts _ (List.mem_cons_of_mem _ t_912)) (fun _ h9 => h9) rfl dX10_drawRow_81 (fun a_330 ma_330 ka_330 g => ?_)
              refine lv_iload_n hx hb dX10_drawRow_84 rfl (lv_at hl 5 rfl) ?_
              refine lv_iconst (v := 0) hx hb dX10_drawRow_85 (by decide) ?_
              have go_ := g
              refine g_calli (va_runV (As := [.int x1_, .int 0]) (rest := []) ⟨hx, hb, hml, hown, hts⟩ (r_X7_hasMember l dC dI L kd tys fr_158 H.size g.2.2.2.1 a_330 ma_330 ka_330 x1_ 0) (cwV 2 hts (gV_ t_1614 t_1448 t_1449 t_191 t_1450) rfl rfl rfl (by decide +kernel) ⟨(Nat.le_of_ble_eq_true rfl), (Nat.le_of_ble_eq_true rfl)⟩) (pre3V g hK ma_330 ka_330 (by decide) (q := (RX7, TX7, 19)) rfl) rfl rfl hl.1 rfl (lv_room (Nat.le_of_ble_eq_true rfl)) dX10_drawRow_86 ⟨(Nat.le_of_ble_eq_true rfl), (Nat.le_of_ble_eq_true rfl)⟩) g hK (by decide) (by decide) (fx' := [(10, 0, a0_, .ref a_330), (3, 4, r1_4, .int k1_16), (3, 4, a_3, .int w36_3_4_a_3), (3, 3, a_3, .ref p2_7), (3, 2, a_3, .ref m2_9), (3, 3, r1_4, .ref p1_6), (3, 2, r1_4, .ref m1_8), (10, 2, a0_, .ref r1_4), (10, 3, a0_, .ref a_3)]) rfl (fun r_331 fr_331 H locs hp hMr_331 g => ?_)
              rcases hp with ⟨h_332, -⟩ | ⟨h_333, h_334, h_335, x_336, h_337, hF_338⟩
              · have hG_339 := RP.frame hMr_331 go_.2.2.2.1 ma0_ ka0_ (by decide) (by decide) hG_160
                obtain rfl : r_331 = 0 := h_332
                refine lv_if_ne (tgt := 121) hx hb dX10_drawRow_89 (by decide) (fun c_ => absurd c_ (by decide)) (fun c_ => ?_)
                refine lv_aload_n hx hb dX10_drawRow_92 rfl (lv_at hl 4 rfl) ?_
                refine g_getk (C := RX10) (T := TX10) (N := 10) hx hb hts (mc_ inX10) hown hK g rfl 3 (by decide) rfl (hts _ (List.mem_cons_of_mem _ t_916)) (fun _ h9 => h9) 8 rfl dX10_drawRow_93 ?_
                refine g_getk (C := RX3) (T := TX3) (N := 6) hx hb hts (mc_ inX3) hown hK g rfl 4 (by decide) rfl (hts _ (List.mem_cons_of_mem _ t_814)) (fun _ h9 => h9) 2 rfl dX10_drawRow_96 ?_
                refine lv_iconst (v := 3) hx hb dX10_drawRow_99 (by decide) ?_
                refine lv_icmp_ge (tgt := 107) hx hb dX10_drawRow_100 (by decide) (fun c_340 => ?_) (fun c_340 => ?_)
                · have fc_340 := le_f c_340
                  refine lv_iconst (v := 0) hx hb dX10_drawRow_107 (by decide) ?_
                  refine lv_istore (lv' := [(4, .int 0), (6, .int 0), (5, .int v36_5), (3, .int y_80), (0, .ref a0_), (1, .int x1_), (2, .int x2_)]) hx hb dX10_drawRow_108 hl (by decide) rfl (fun ls hl => ?_)
                  refine lv_aload_n hx hb dX10_drawRow_110 rfl (lv_at hl 4 rfl) ?_
                  refine g_getk (C := RX10) (T := TX10) (N := 10) hx hb hts (mc_ inX10) hown hK g rfl 3 (by decide) rfl (hts _ (List.mem_cons_of_mem _ t_916)) (fun _ h9 => h9) 8 rfl dX10_drawRow_111 ?_
                  refine lv_iload_n hx hb dX10_drawRow_114 rfl (lv_at hl 5 rfl) ?_
                  obtain ⟨r1_341, r2_342, p1_343, p2_344, m1_345, m2_346, A1_347, A2_348, Q1_349, Q2_350, n1_351, n2_352, k1_353, k2_354, e2_355, e3_356, pk1_357, pk2_358, hap_359⟩ := hG_339
                  obtain ⟨⟨hr_360, kr_361⟩, ⟨hp_362, kp_363⟩, ⟨hm_364, km_365⟩, f2_366, f3_367, f0_368, f4_369, b0_370, b4_371, hJ_372, hQ_373, hw_374⟩ := pk1_357
                  obtain rfl : r1_4 = r1_341 := by have h9 := (fx_at g (i := 7) rfl).2.2.2.symm.trans e2_355; cases h9; rfl
                  obtain rfl : m1_8 = m1_345 := by have h9 := (fx_at g (i := 6) rfl).2.2.2.symm.trans f2_366; cases h9; rfl
                  obtain rfl : p1_6 = p1_343 := by have h9 := (fx_at g (i := 5) rfl).2.2.2.symm.trans f3_367; cases h9; rfl
                  have g := G3.add g hr_23 kr_24 (by decide) f0_368
                  obtain rfl : k1_16 = k1_353 := by have h9 := (fx_at g (i := 2) rfl).2.2.2.symm.trans f4_369; cases h9; rfl
                  obtain ⟨⟨hr_375, kr_376⟩, ⟨hp_377, kp_378⟩, ⟨hm_379, km_380⟩, f2_381, f3_382, f0_383, f4_384, b0_385, b4_386, hJ_387, hQ_388, hw_389⟩ := pk2_358
                  obtain rfl : a_3 = r2_342 := by have h9 := (fx_at g (i := 9) rfl).2.2.2.symm.trans e3_356; cases h9; rfl
                  obtain rfl : m2_9 = m2_346 := by have h9 := (fx_at g (i := 5) rfl).2.2.2.symm.trans f2_381; cases h9; rfl
                  obtain rfl : p2_7 = p2_344 := by have h9 := (fx_at g (i := 4) rfl).2.2.2.symm.trans f3_382; cases h9; rfl
                  have g := G3.add g ma_3 ka_3 (by decide) f0_383
                  obtain rfl : w36_3_4_a_3 = k2_354 := by have h9 := (fx_at g (i := 4) rfl).2.2.2.symm.trans f4_384; cases h9; rfl
                  have ho_390 := (fx_at g (i := 1) rfl).2.2.2
                  have ho_391 := (fx_at g (i := 3) rfl).2.2.2
                  have go_ := g
                  refine g_callv (va_runV (As := [.int x1_]) (rest := []) ⟨hx, hb, hml, hown, hts⟩ (r_X3_addMakeQ l dC dI L kd tys fr_331 H.size g.2.2.2.1 a_3 ma_3 ka_3 p2_7 hp_40 kp_41 m2_9 hm_42 km_43 A2_348 Q2_350 n2_352 b0_385 w36_3_4_a_3 (bd_sub b_329 (by decide)) hJ_387 hQ_388 hw_389 x1_ bx1_ (g.fcts [0, 4, 6, 5] rfl)) (cwV 1 hts (gV_ t_1481 t_1482 t_1483 t_196 t_1484) rfl rfl rfl (by decide +kernel) ⟨(Nat.le_of_ble_eq_true rfl), (Nat.le_of_ble_eq_true rfl)⟩) (pre3V g hK ma_3 ka_3 (by decide) (q := (RX3, TX3, 6)) rfl) rfl rfl hl.1 rfl (lv_room (Nat.le_of_ble_eq_true rfl)) dX10_drawRow_115 ⟨(Nat.le_of_ble_eq_true rfl), (Nat.le_of_ble_eq_true rfl)⟩) g hK (by decide) (by decide) (fx' := [(10, 0, a0_, .ref a_330), (3, 3, a_3, .ref p2_7), (3, 2, a_3, .ref m2_9), (3, 3, r1_4, .ref p1_6), (3, 2, r1_4, .ref m1_8), (10, 2, a0_, .ref r1_4), (10, 3, a0_, .ref a_3)]) rfl (fun fr_392 H locs hp hMr_392 g => ?_)
                  obtain ⟨hx_393, -⟩ := hp
                  have hG_394 := arP.frame hMr_392 go_.2.2.2.1 hp_25 kp_26 (by decide) (by decide) hJ_372
                  have hG_395 := arP.frame hMr_392 go_.2.2.2.1 hp_40 kp_41 (by decide) (by decide) hJ_387
                  obtain ⟨Q_396, n_397, k_398, hQ_399, hU_400, h0_401, h4_402, b0_403, b4_404, hP_405⟩ := hx_393
                  have g := G3.add g ma_3 ka_3 (by decide) h0_401
                  have g := G3.add g ma_3 ka_3 (by decide) h4_402
                  have hQ_406 := QR.oth hU_400 hQ_373 (apQ.sym hap_359).2.1 (apQ.sym hap_359).2.2
                  have g := G3.add g hr_23 kr_24 (by decide) (((hU_400 r1_4 hr_23).1 kr_24 (fun z => (apQ.sym hap_359).1 z.symm) 0).trans ho_390)
                  have g := G3.add g hr_23 kr_24 (by decide) (((hU_400 r1_4 hr_23).1 kr_24 (fun z => (apQ.sym hap_359).1 z.symm) 4).trans ho_391)
                  have hP_409 : RP L kd fr_392 a0_ := ⟨r1_4, _, _, _, _, _, _, _, _, _, _, _, _, _, (fx_at g (i := 9) rfl).2.2.2, (fx_at g (i := 10) rfl).2.2.2, ⟨⟨hr_23, kr_24⟩, ⟨hp_25, kp_26⟩, ⟨hm_27, km_28⟩, (fx_at g (i := 8) rfl).2.2.2, (fx_at g (i := 7) rfl).2.2.2, (fx_at g (i := 1) rfl).2.2.2, (fx_at g (i := 0) rfl).2.2.2, b0_370, b4_34, hG_394, hQ_406, hw_374⟩, ⟨⟨ma_3, ka_3⟩, ⟨hp_40, kp_41⟩, ⟨hm_42, km_43⟩, (fx_at g (i := 6) rfl).2.2.2, (fx_at g (i := 5) rfl).2.2.2, (fx_at g (i := 3) rfl).2.2.2, (fx_at g (i := 2) rfl).2.2.2, b0_403, b4_404, hG_395, hQ_399, hP_405.1⟩, hap_359⟩
                  refine lv_goto (tgt := 134) hx hb dX10_drawRow_118 (by decide) ?_
                  obtain ⟨y_410, ey_410⟩ : ∃ z : Int32, z = v36_5 + 1 := ⟨_, rfl⟩
                  refine lv_iinc (v := y_410) (lv' := [(5, .int y_410), (4, .int 0), (6, .int 0), (3, .int y_80), (0, .ref a0_), (1, .int x1_), (2, .int x2_)]) hx hb dX10_drawRow_134 hl (k := 2) rfl (by rw [ey_410]; rfl) (by decide) rfl (fun ls hl => ?_)
                  have ty_410 := add_bd ey_410 b_153 kb_1 (by decide)
                  have b_411 : bd 2 10 y_410 := add_rg ty_410 b_153 kb_1 (by decide)
                  refine lv_goto (tgt := 36) hx hb dX10_drawRow_137 (by decide) ?_
                  have hl9 := lv_sub hl [0, 1, 3, 4, 5, 6] (by rfl : lv_pick [(5, .int y_410), (4, .int 0), (6, .int 0), (3, .int y_80), (0, .ref a0_), (1, .int x1_), (2, .int x2_)] [0, 1, 3, 4, 5, 6] = [(5, .int y_410), (4, .int 0), (3, .int y_80), (0, .ref a0_), (1, .int x1_), (2, .int x2_)])
                  have g9 := g.sub (fx' := [(3, 4, r1_4, .int k1_16), (3, 4, a_3, .int k_398), (3, 3, a_3, .ref p2_7), (3, 2, a_3, .ref m2_9), (3, 3, r1_4, .ref p1_6), (3, 2, r1_4, .ref m1_8), (10, 2, a0_, .ref r1_4), (10, 3, a0_, .ref a_3)]) [0, 2, 5, 6, 7, 8, 9, 10] rfl
                  exact ih36  y_410 0 k_398 (bd_sub b_411 (by decide)) (bd_sub kb_0 (by decide)) b4_404 (by have h9_0 := b0_403; unfold bd at h9_0; have h9_1 := b4_404; unfold bd at h9_1; have h9_2 := b_411; unfold bd at h9_2; have h9_3 := bv36_4; unfold bd at h9_3; have h9_4 := bv36_5; unfold bd at h9_4; have h9_5 := bw36_3_4_a_3; unfold bd at h9_5; have h9_6 := kb_0; unfold bd at h9_6; have h9_7 := kb_1; unfold bd at h9_7; have h9_8 := kb_10; unfold bd at h9_8; have h9_9 := kb_3; unfold bd at h9_9; have h9_10 := kb_8; unfold bd at h9_10; omega) _ _ _ _ g9 hP_409 hl9
                · have fc_340 := nle_f c_340
                  have b_412 : bd 3 2 w36_3_4_a_3 := ltL fc_340 b_329 kb_3 (by decide)
                  exact bd_no b_412 (by decide)
              · have hG_413 := RP.frame hMr_331 go_.2.2.2.1 ma0_ ka0_ (by decide) (by decide) hG_160
                obtain rfl : r_331 = 1 := h_333
                have g := g.more hF_338
                refine lv_if_ne (tgt := 121) hx hb dX10_drawRow_89 (by decide) (fun c_ => ?_) (fun c_ => absurd c_ (by decide))
                refine lv_aload_n hx hb dX10_drawRow_121 rfl (lv_at hl 4 rfl) ?_
                refine lv_aload_n hx hb dX10_drawRow_122 rfl (lv_at hl 4 rfl) ?_
                refine g_getk (C := RX10) (T := TX10) (N := 10) hx hb hts (mc_ inX10) hown hK g rfl 0 (by decide) rfl (hts _ (List.mem_cons_of_mem _ t_912)) (fun _ h9 => h9) 1 rfl dX10_drawRow_123 ?_
                refine g_getr (K := 136) (C := RX7) (T := TX7) (N := 19) hx hb hts (mc_ inX7) hown hK g ma_330 ka_330 (by decide) rfl 0 (by decide) rfl (hts _ (List.mem_cons_of_mem _ t_624)) (fun _ h9 => h9) rfl dX10_drawRow_126 (fun a_414 ma_414 ka_414 g => ?_)
                refine lv_iload_n hx hb dX10_drawRow_129 rfl (lv_at hl 5 rfl) ?_
                refine g_aald hx hb hK g ma_414 ka_414 (by decide) rfl (by decide) (in_bd bx1_ (by decide)) dX10_drawRow_130 (fun a_415 ma_415 ua_415 wa_415 => ?_)
                have ka_415 : kd a_415 = 9 := by omega
                have go_ := g
                refine g_callv (va_runV (As := [.ref a_415]) (rest := []) ⟨hx, hb, hml, hown, hts⟩ (r_X10_drawCall l dC dI L kd tys fr_331 H.size g.2.2.2.1 a0_ ma0_ ka0_ a_415 ma_415 ka_415 hG_413) (cwV 1 hts (gV_ t_1683 t_1685 t_81 t_194 t_1686) rfl rfl rfl (by decide +kernel) ⟨(Nat.le_of_ble_eq_true rfl), (Nat.le_of_ble_eq_true rfl)⟩) (pre3V g hK ma0_ ka0_ (by decide) (q := (RX10, TX10, 10)) rfl) rfl rfl hl.1 rfl (lv_room (Nat.le_of_ble_eq_true rfl)) dX10_drawRow_131 ⟨(Nat.le_of_ble_eq_true rfl), (Nat.le_of_ble_eq_true rfl)⟩) g hK (by decide) (by decide) (fx' := [(7, 0, a_330, .ref a_414), (7, 1, a_330, .int x_336), (10, 0, a0_, .ref a_330), (3, 4, r1_4, .int k1_16), (3, 4, a_3, .int w36_3_4_a_3), (3, 3, a_3, .ref p2_7), (3, 2, a_3, .ref m2_9), (3, 3, r1_4, .ref p1_6), (3, 2, r1_4, .ref m1_8), (10, 2, a0_, .ref r1_4), (10, 3, a0_, .ref a_3)]) rfl (fun fr_416 H locs hp hMr_416 g => ?_)
                obtain ⟨hG_417, -⟩ := hp
                obtain ⟨y_418, ey_418⟩ : ∃ z : Int32, z = v36_5 + 1 := ⟨_, rfl⟩
                refine lv_iinc (v := y_418) (lv' := [(5, .int y_418), (6, .int 0), (4, .int v36_4), (3, .int y_80), (0, .ref a0_), (1, .int x1_), (2, .int x2_)]) hx hb dX10_drawRow_134 hl (k := 1) rfl (by rw [ey_418]; rfl) (by decide) rfl (fun ls hl => ?_)
                have ty_418 := add_bd ey_418 b_153 kb_1 (by decide)
                have b_419 : bd 2 10 y_418 := add_rg ty_418 b_153 kb_1 (by decide)
                refine lv_goto (tgt := 36) hx hb dX10_drawRow_137 (by decide) ?_
                have hl9 := lv_sub hl [0, 2, 3, 4, 5, 6] (by rfl : lv_pick [(5, .int y_418), (6, .int 0), (4, .int v36_4), (3, .int y_80), (0, .ref a0_), (1, .int x1_), (2, .int x2_)] [0, 2, 3, 4, 5, 6] = [(5, .int y_418), (4, .int v36_4), (3, .int y_80), (0, .ref a0_), (1, .int x1_), (2, .int x2_)])
                have g9 := g.sub (fx' := [(3, 4, r1_4, .int k1_16), (3, 4, a_3, .int w36_3_4_a_3), (3, 3, a_3, .ref p2_7), (3, 2, a_3, .ref m2_9), (3, 3, r1_4, .ref p1_6), (3, 2, r1_4, .ref m1_8), (10, 2, a0_, .ref r1_4), (10, 3, a0_, .ref a_3)]) [3, 4, 5, 6, 7, 8, 9, 10] rfl
                exact ih36  y_418 v36_4 w36_3_4_a_3 (bd_sub b_419 (by decide)) (bd_sub b_157 (by decide)) (bd_sub b_329 (by decide)) (by have h9_0 := b_157; unfold bd at h9_0; have h9_1 := b_329; unfold bd at h9_1; have h9_2 := b_419; unfold bd at h9_2; have h9_3 := bv36_4; unfold bd at h9_3; have h9_4 := bv36_5; unfold bd at h9_4; have h9_5 := bw36_3_4_a_3; unfold bd at h9_5; have h9_6 := kb_0; unfold bd at h9_6; have h9_7 := kb_1; unfold bd at h9_7; have h9_8 := kb_10; unfold bd at h9_8; have h9_9 := kb_3; unfold bd at h9_9; have h9_10 := kb_8; unfold bd at h9_10; omega) _ _ _ _ g9 hG_417 hl9
            · have fc_328 := nle_f c_328
              have b_420 : bd 0 2 w36_3_4_a_3 := ltL fc_328 bw36_3_4_a_3 kb_3 (by decide)
              refine lv_iconst (v := 1) hx hb dX10_drawRow_68 (by decide) ?_
              refine lv_goto (tgt := 73) hx hb dX10_drawRow_69 (by decide) ?_
              refine lv_istore (lv' := [(6, .int 1), (5, .int v36_5), (4, .int v36_4), (3, .int y_80), (0, .ref a0_), (1, .int x1_), (2, .int x2_)]) hx hb dX10_drawRow_73 hl (by decide) rfl (fun ls hl => ?_)
              refine lv_iload hx hb dX10_drawRow_75 (lv_at hl 0 rfl) ?_
              refine lv_if_ne (tgt := 92) hx hb dX10_drawRow_77 (by decide) (fun c_ => ?_) (fun c_ => absurd c_ (by decide))
              refine lv_aload_n hx hb dX10_drawRow_92 rfl (lv_at hl 4 rfl) ?_
              refine g_getk (C := RX10) (T := TX10) (N := 10) hx hb hts (mc_ inX10) hown hK g rfl 3 (by decide) rfl (hts _ (List.mem_cons_of_mem _ t_916)) (fun _ h9 => h9) 7 rfl dX10_drawRow_93 ?_
              refine g_getk (C := RX3) (T := TX3) (N := 6) hx hb hts (mc_ inX3) hown hK g rfl 4 (by decide) rfl (hts _ (List.mem_cons_of_mem _ t_814)) (fun _ h9 => h9) 1 rfl dX10_drawRow_96 ?_
              refine lv_iconst (v := 3) hx hb dX10_drawRow_99 (by decide) ?_
              refine lv_icmp_ge (tgt := 107) hx hb dX10_drawRow_100 (by decide) (fun c_421 => ?_) (fun c_421 => ?_)
              · have fc_421 := le_f c_421
                have b_422 : bd 3 2 (3 : Int32) := leL fc_421 kb_3 b_420 (by decide)
                exact bd_no (eqX rfl b_422 kb_3 (lo := 3) (hi := 2) (by decide)) (by decide)
              · have fc_421 := nle_f c_421
                refine lv_iconst (v := 1) hx hb dX10_drawRow_103 (by decide) ?_
                refine lv_goto (tgt := 108) hx hb dX10_drawRow_104 (by decide) ?_
                refine lv_istore (lv' := [(4, .int 1), (6, .int 1), (5, .int v36_5), (3, .int y_80), (0, .ref a0_), (1, .int x1_), (2, .int x2_)]) hx hb dX10_drawRow_108 hl (by decide) rfl (fun ls hl => ?_)
                refine lv_aload_n hx hb dX10_drawRow_110 rfl (lv_at hl 4 rfl) ?_
                refine g_getk (C := RX10) (T := TX10) (N := 10) hx hb hts (mc_ inX10) hown hK g rfl 3 (by decide) rfl (hts _ (List.mem_cons_of_mem _ t_916)) (fun _ h9 => h9) 7 rfl dX10_drawRow_111 ?_
                refine lv_iload_n hx hb dX10_drawRow_114 rfl (lv_at hl 5 rfl) ?_
                obtain ⟨r1_423, r2_424, p1_425, p2_426, m1_427, m2_428, A1_429, A2_430, Q1_431, Q2_432, n1_433, n2_434, k1_435, k2_436, e2_437, e3_438, pk1_439, pk2_440, hap_441⟩ := hG_160
                obtain ⟨⟨hr_442, kr_443⟩, ⟨hp_444, kp_445⟩, ⟨hm_446, km_447⟩, f2_448, f3_449, f0_450, f4_451, b0_452, b4_453, hJ_454, hQ_455, hw_456⟩ := pk1_439
                obtain rfl : r1_4 = r1_423 := by have h9 := (fx_at g (i := 6) rfl).2.2.2.symm.trans e2_437; cases h9; rfl
                obtain rfl : m1_8 = m1_427 := by have h9 := (fx_at g (i := 5) rfl).2.2.2.symm.trans f2_448; cases h9; rfl
                obtain rfl : p1_6 = p1_425 := by have h9 := (fx_at g (i := 4) rfl).2.2.2.symm.trans f3_449; cases h9; rfl
                have g := G3.add g hr_23 kr_24 (by decide) f0_450
                obtain rfl : k1_16 = k1_435 := by have h9 := (fx_at g (i := 1) rfl).2.2.2.symm.trans f4_451; cases h9; rfl
                obtain ⟨⟨hr_457, kr_458⟩, ⟨hp_459, kp_460⟩, ⟨hm_461, km_462⟩, f2_463, f3_464, f0_465, f4_466, b0_467, b4_468, hJ_469, hQ_470, hw_471⟩ := pk2_440
                obtain rfl : a_3 = r2_424 := by have h9 := (fx_at g (i := 8) rfl).2.2.2.symm.trans e3_438; cases h9; rfl
                obtain rfl : m2_9 = m2_428 := by have h9 := (fx_at g (i := 4) rfl).2.2.2.symm.trans f2_463; cases h9; rfl
                obtain rfl : p2_7 = p2_426 := by have h9 := (fx_at g (i := 3) rfl).2.2.2.symm.trans f3_464; cases h9; rfl
                have g := G3.add g ma_3 ka_3 (by decide) f0_465
                obtain rfl : w36_3_4_a_3 = k2_436 := by have h9 := (fx_at g (i := 3) rfl).2.2.2.symm.trans f4_466; cases h9; rfl
                have ho_472 := (fx_at g (i := 1) rfl).2.2.2
                have ho_473 := (fx_at g (i := 2) rfl).2.2.2
                have go_ := g
                refine g_callv (va_runV (As := [.int x1_]) (rest := []) ⟨hx, hb, hml, hown, hts⟩ (r_X3_addMakeQ l dC dI L kd tys fr_158 H.size g.2.2.2.1 a_3 ma_3 ka_3 p2_7 hp_40 kp_41 m2_9 hm_42 km_43 A2_430 Q2_432 n2_434 b0_467 w36_3_4_a_3 (bd_sub b_420 (by decide)) hJ_469 hQ_470 hw_471 x1_ bx1_ (g.fcts [0, 3, 5, 4] rfl)) (cwV 1 hts (gV_ t_1481 t_1482 t_1483 t_196 t_1484) rfl rfl rfl (by decide +kernel) ⟨(Nat.le_of_ble_eq_true rfl), (Nat.le_of_ble_eq_true rfl)⟩) (pre3V g hK ma_3 ka_3 (by decide) (q := (RX3, TX3, 6)) rfl) rfl rfl hl.1 rfl (lv_room (Nat.le_of_ble_eq_true rfl)) dX10_drawRow_115 ⟨(Nat.le_of_ble_eq_true rfl), (Nat.le_of_ble_eq_true rfl)⟩) g hK (by decide) (by decide) (fx' := [(3, 3, a_3, .ref p2_7), (3, 2, a_3, .ref m2_9), (3, 3, r1_4, .ref p1_6), (3, 2, r1_4, .ref m1_8), (10, 2, a0_, .ref r1_4), (10, 3, a0_, .ref a_3)]) rfl (fun fr_474 H locs hp hMr_474 g => ?_)
                obtain ⟨hx_475, -⟩ := hp
                have hG_476 := arP.frame hMr_474 go_.2.2.2.1 hp_25 kp_26 (by decide) (by decide) hJ_454
                have hG_477 := arP.frame hMr_474 go_.2.2.2.1 hp_40 kp_41 (by decide) (by decide) hJ_469
                obtain ⟨Q_478, n_479, k_480, hQ_481, hU_482, h0_483, h4_484, b0_485, b4_486, hP_487⟩ := hx_475
                have g := G3.add g ma_3 ka_3 (by decide) h0_483
                have g := G3.add g ma_3 ka_3 (by decide) h4_484
                have hQ_488 := QR.oth hU_482 hQ_455 (apQ.sym hap_441).2.1 (apQ.sym hap_441).2.2
                have g := G3.add g hr_23 kr_24 (by decide) (((hU_482 r1_4 hr_23).1 kr_24 (fun z => (apQ.sym hap_441).1 z.symm) 0).trans ho_472)
                have g := G3.add g hr_23 kr_24 (by decide) (((hU_482 r1_4 hr_23).1 kr_24 (fun z => (apQ.sym hap_441).1 z.symm) 4).trans ho_473)
                have hP_491 : RP L kd fr_474 a0_ := ⟨r1_4, _, _, _, _, _, _, _, _, _, _, _, _, _, (fx_at g (i := 8) rfl).2.2.2, (fx_at g (i := 9) rfl).2.2.2, ⟨⟨hr_23, kr_24⟩, ⟨hp_25, kp_26⟩, ⟨hm_27, km_28⟩, (fx_at g (i := 7) rfl).2.2.2, (fx_at g (i := 6) rfl).2.2.2, (fx_at g (i := 1) rfl).2.2.2, (fx_at g (i := 0) rfl).2.2.2, b0_452, b4_34, hG_476, hQ_488, hw_456⟩, ⟨⟨ma_3, ka_3⟩, ⟨hp_40, kp_41⟩, ⟨hm_42, km_43⟩, (fx_at g (i := 5) rfl).2.2.2, (fx_at g (i := 4) rfl).2.2.2, (fx_at g (i := 3) rfl).2.2.2, (fx_at g (i := 2) rfl).2.2.2, b0_485, b4_486, hG_477, hQ_481, hP_487.1⟩, hap_441⟩
                refine lv_goto (tgt := 134) hx hb dX10_drawRow_118 (by decide) ?_
                obtain ⟨y_492, ey_492⟩ : ∃ z : Int32, z = v36_5 + 1 := ⟨_, rfl⟩
                refine lv_iinc (v := y_492) (lv' := [(5, .int y_492), (4, .int 1), (6, .int 1), (3, .int y_80), (0, .ref a0_), (1, .int x1_), (2, .int x2_)]) hx hb dX10_drawRow_134 hl (k := 2) rfl (by rw [ey_492]; rfl) (by decide) rfl (fun ls hl => ?_)
                have ty_492 := add_bd ey_492 b_153 kb_1 (by decide)
                have b_493 : bd 2 10 y_492 := add_rg ty_492 b_153 kb_1 (by decide)
                refine lv_goto (tgt := 36) hx hb dX10_drawRow_137 (by decide) ?_
                have hl9 := lv_sub hl [0, 1, 3, 4, 5, 6] (by rfl : lv_pick [(5, .int y_492), (4, .int 1), (6, .int 1), (3, .int y_80), (0, .ref a0_), (1, .int x1_), (2, .int x2_)] [0, 1, 3, 4, 5, 6] = [(5, .int y_492), (4, .int 1), (3, .int y_80), (0, .ref a0_), (1, .int x1_), (2, .int x2_)])
                have g9 := g.sub (fx' := [(3, 4, r1_4, .int k1_16), (3, 4, a_3, .int k_480), (3, 3, a_3, .ref p2_7), (3, 2, a_3, .ref m2_9), (3, 3, r1_4, .ref p1_6), (3, 2, r1_4, .ref m1_8), (10, 2, a0_, .ref r1_4), (10, 3, a0_, .ref a_3)]) [0, 2, 4, 5, 6, 7, 8, 9] rfl
                exact ih36  y_492 1 k_480 (bd_sub b_493 (by decide)) (bd_sub kb_1 (by decide)) b4_486 (by have h9_0 := b0_485; unfold bd at h9_0; have h9_1 := b4_486; unfold bd at h9_1; have h9_2 := b_493; unfold bd at h9_2; have h9_3 := bv36_4; unfold bd at h9_3; have h9_4 := bv36_5; unfold bd at h9_4; have h9_5 := bw36_3_4_a_3; unfold bd at h9_5; have h9_6 := kb_0; unfold bd at h9_6; have h9_7 := kb_1; unfold bd at h9_7; have h9_8 := kb_10; unfold bd at h9_8; have h9_9 := kb_3; unfold bd at h9_9; have h9_10 := kb_8; unfold bd at h9_10; omega) _ _ _ _ g9 hP_491 hl9
  have hl9 := lv_sub hl [0, 1, 2, 3, 4, 5] (by rfl : lv_pick [(5, .int 1), (4, .int 1), (3, .int y_80), (0, .ref a0_), (1, .int x1_), (2, .int x2_)] [0, 1, 2, 3, 4, 5] = [(5, .int 1), (4, .int 1), (3, .int y_80), (0, .ref a0_), (1, .int x1_), (2, .int x2_)])
  have g9 := g.sub (fx' := [(3, 4, r1_4, .int k1_16), (3, 4, a_3, .int k_139), (3, 3, a_3, .ref p2_7), (3, 2, a_3, .ref m2_9), (3, 3, r1_4, .ref p1_6), (3, 2, r1_4, .ref m1_8), (10, 2, a0_, .ref r1_4), (10, 3, a0_, .ref a_3)]) [0, 2, 4, 5, 6, 7, 8, 9] rfl
  exact loop_151 (21) 1 1 k_139 (bd_sub kb_1 (by decide)) (bd_sub kb_1 (by decide)) b4_145 (by have h9_0 := b0_144; unfold bd at h9_0; have h9_1 := b4_145; unfold bd at h9_1; have h9_2 := kb_1; unfold bd at h9_2; have h9_3 := kb_10; unfold bd at h9_3; omega) _ _ _ _ g9 hP_150 hl9
set_option maxHeartbeats 4000000 in
set_option maxRecDepth 100000 in
theorem r_X10_countSpare (l : Launch) (dC : Nat → ClassId) (dI : Nat → Nat → Nat) (L : List Nat) (kd : Nat → Nat) (tys : List (ClassId × FieldType)) (f0 : Nat → va_E) (sz : Nat) (hWT : WT L kd tys f0) (a0_ : Nat) (ma0_ : a0_ ∈ L) (ka0_ : kd a0_ = 10) : Met l yX10_countSpare (.code yX10_countSpare cX10_countSpare 1 none :: lw_g) ({ frames := 0, cells := 0, slots := 0, locals := 0 }) (va_Pc [.ref a0_] (P3 (dC, dI) L tys f0 sz)) (va_Qv (fun (f : Nat → va_E) => (True)) (Q3 (dC, dI) L kd tys [(10, 6), (10, 7)] [] f0 sz) (pA L sz)) 0 0 (pA L sz) := by
  refine Met.ofW (cc := cX10_countSpare) (maxL := 1) (ret := none) (by decide) rfl ?_
  intro p e s m args below meth c s₁ B hml hv
  obtain ⟨rfl, hsz, hP, hK, hD0⟩ := hv
  have hx := B.exec
  have hb := B.bytes
  have hr := B.returns
  have hts := atoms_spec (ws := (.code yX10_countSpare cX10_countSpare 1 none :: lw_g)) B.pre
  have hown : s.vm.findClass RX10 = some m.cls := findClass_of_methodNamed B.named
  have hlocks := B.notSynchronized
  subst hsz
  have g : G3 (dC, dI) L kd tys s f0 [(10, 6), (10, 7)] [] f0 s.heap [] [] := G3.start hP hD0 hWT Fs.nil
  have hl := lv_entry ([.ref a0_]) (n := 1) (Nat.le_of_ble_eq_true rfl)
  rw [lg_entry_eq]
  generalize (lg_sl ([.ref a0_]) ++ List.replicate (1 - (lg_sl ([.ref a0_])).length) Slot.unset).toArray = ls at hl ⊢
  have hl : lv_has ls 1 [(0, .ref a0_)] := hl
  refine W_q (fun Q hQ => ?_)
  refine lv_aload_n hx hb dX10_countSpare_0 rfl (lv_at hl 0 rfl) ?_
  refine lv_dup hx hb dX10_countSpare_1 rfl ?_
  refine g_geti (C := RX10) (T := TX10) (N := 10) hx hb hts (mc_ inX10) hown hK g ma0_ ka0_ (by decide) rfl 6 (by decide) rfl (hts _ (List.mem_cons_of_mem _ t_920)) (fun _ h9 => h9) rfl dX10_countSpare_2 (fun x_1 bx_1 g => ?_)
  refine lv_iconst (v := 1) hx hb dX10_countSpare_5 (by decide) ?_
  have kb_1 : bd 1 1 (1 : Int32) := ⟨by decide, by decide⟩
  refine lv_iadd hx hb dX10_countSpare_6 ?_
  refine lv_topi (fun y_2 ey_2 => ?_)
  refine g_put (C := RX10) (T := TX10) (N := 10) hx hb hts (mc_ inX10) tyX10 tyX10_ok nmX10 hown hK g ma0_ ka0_ (by decide) rfl 6 (by decide) (hts _ (List.mem_cons_of_mem _ t_920)) (fun _ h9 => h9) rfl rfl (okV_i (bdT y_2)) rfl rfl (by decide) (Or.inr (Or.inl (by decide))) (fx' := []) rfl dX10_countSpare_7 (fun f H locs hM_3 g => ?_)
  refine lv_aload_n hx hb dX10_countSpare_10 rfl (lv_at hl 0 rfl) ?_
  refine lv_dup hx hb dX10_countSpare_11 rfl ?_
  refine g_geti (C := RX10) (T := TX10) (N := 10) hx hb hts (mc_ inX10) hown hK g ma0_ ka0_ (by decide) rfl 7 (by decide) rfl (hts _ (List.mem_cons_of_mem _ t_922)) (fun _ h9 => h9) rfl dX10_countSpare_12 (fun x_4 bx_4 g => ?_)
  refine lv_aload_n hx hb dX10_countSpare_15 rfl (lv_at hl 0 rfl) ?_
  refine g_getr (K := 4) (C := RX10) (T := TX10) (N := 10) hx hb hts (mc_ inX10) hown hK g ma0_ ka0_ (by decide) rfl 5 (by decide) rfl (hts _ (List.mem_cons_of_mem _ t_919)) (fun _ h9 => h9) rfl dX10_countSpare_16 (fun a_5 ma_5 ka_5 g => ?_)
  refine g_geti (C := RX4) (T := TX4) (N := 17) hx hb hts (mc_ inX4) hown hK g ma_5 ka_5 (by decide) rfl 0 (by decide) rfl (hts _ (List.mem_cons_of_mem _ t_837)) (fun _ h9 => h9) rfl dX10_countSpare_19 (fun x_6 bx_6 g => ?_)
  refine lv_iconst (v := (-1)) hx hb dX10_countSpare_22 (by decide) ?_
  have kb_m1 : bd (-1) (-1) ((-1) : Int32) := ⟨by decide, by decide⟩
  refine lv_icmp_ne (tgt := 30) hx hb dX10_countSpare_23 (by decide) (fun c_7 => ?_) (fun c_7 => ?_)
  · have fc_7 := neq_f c_7
    refine lv_iconst (v := 0) hx hb dX10_countSpare_30 (by decide) ?_
    have kb_0 : bd 0 0 (0 : Int32) := ⟨by decide, by decide⟩
    refine lv_iadd hx hb dX10_countSpare_31 ?_
    refine lv_topi (fun y_8 ey_8 => ?_)
    have ty_8 := add_bd ey_8 (bdT x_4) kb_0 (by decide)
    have b_9 : bd (-2147483648) 2147483647 y_8 := add_rg ty_8 (bdT x_4) kb_0 (by decide)
    refine g_put (C := RX10) (T := TX10) (N := 10) hx hb hts (mc_ inX10) tyX10 tyX10_ok nmX10 hown hK g ma0_ ka0_ (by decide) rfl 7 (by decide) (hts _ (List.mem_cons_of_mem _ t_922)) (fun _ h9 => h9) rfl rfl (okV_i b_9) rfl rfl (by decide) (Or.inr (Or.inl (by decide))) (fx' := [(4, 0, a_5, .int x_6), (10, 5, a0_, .ref a_5), (10, 6, a0_, .int y_2)]) rfl dX10_countSpare_32 (fun f H locs hM_10 g => ?_)
    subst hQ
    exact W.vret hx hb hr (fun t ht hW => ⟨⟨_, rfl, trivial, q3_of g hK ht hW⟩, g.2.2.1.F ht⟩) g.2.2.1.2.2 dX10_countSpare_35
  · have fc_7 := eq_f c_7
    have b_11 : bd (-1) (-1) x_6 := eqX fc_7 (bdT x_6) kb_m1 (by decide)
    refine lv_iconst (v := 1) hx hb dX10_countSpare_26 (by decide) ?_
    refine lv_goto (tgt := 31) hx hb dX10_countSpare_27 (by decide) ?_
    refine lv_iadd hx hb dX10_countSpare_31 ?_
    refine lv_topi (fun y_12 ey_12 => ?_)
    refine g_put (C := RX10) (T := TX10) (N := 10) hx hb hts (mc_ inX10) tyX10 tyX10_ok nmX10 hown hK g ma0_ ka0_ (by decide) rfl 7 (by decide) (hts _ (List.mem_cons_of_mem _ t_922)) (fun _ h9 => h9) rfl rfl (okV_i (bdT y_12)) rfl rfl (by decide) (Or.inr (Or.inl (by decide))) (fx' := [(4, 0, a_5, .int x_6), (10, 5, a0_, .ref a_5), (10, 6, a0_, .int y_2)]) rfl dX10_countSpare_32 (fun f H locs hM_13 g => ?_)
    subst hQ
    exact W.vret hx hb hr (fun t ht hW => ⟨⟨_, rfl, trivial, q3_of g hK ht hW⟩, g.2.2.1.F ht⟩) g.2.2.1.2.2 dX10_countSpare_35
set_option maxHeartbeats 4000000 in
set_option maxRecDepth 100000 in
theorem r_X10_tellOfSpare (l : Launch) (dC : Nat → ClassId) (dI : Nat → Nat → Nat) (L : List Nat) (kd : Nat → Nat) (tys : List (ClassId × FieldType)) (f0 : Nat → va_E) (sz : Nat) (hWT : WT L kd tys f0) (a0_ : Nat) (ma0_ : a0_ ∈ L) (ka0_ : kd a0_ = 10) (hGPa0_ : RP L kd f0 a0_) : Met l yX10_tellOfSpare (.code yX10_tellOfSpare cX10_tellOfSpare 3 none :: lw_g) ({ frames := 0, cells := 0, slots := 0, locals := 0 }) (va_Pc [.ref a0_] (P3 (dC, dI) L tys f0 sz)) (va_Qv (fun (f : Nat → va_E) => (RP L kd f a0_ ∧ Fs L kd f [(10, 8, a0_, .int 1)])) (Q3 (dC, dI) L kd tys [(10, 2), (10, 3), (10, 4), (10, 5), (10, 8)] [] f0 sz) (pA L sz)) 0 0 (pA L sz) := by
  refine Met.ofW (cc := cX10_tellOfSpare) (maxL := 3) (ret := none) (by decide) rfl ?_
  intro p e s m args below meth c s₁ B hml hv
  obtain ⟨rfl, hsz, hP, hK, hD0⟩ := hv
  have hx := B.exec
  have hb := B.bytes
  have hr := B.returns
  have hts := atoms_spec (ws := (.code yX10_tellOfSpare cX10_tellOfSpare 3 none :: lw_g)) B.pre
  have hown : s.vm.findClass RX10 = some m.cls := findClass_of_methodNamed B.named
  have hlocks := B.notSynchronized
  subst hsz
  have g : G3 (dC, dI) L kd tys s f0 [(10, 2), (10, 3), (10, 4), (10, 5), (10, 8)] [] f0 s.heap [] [] := G3.start hP hD0 hWT Fs.nil
  have hl := lv_entry ([.ref a0_]) (n := 3) (Nat.le_of_ble_eq_true rfl)
  rw [lg_entry_eq]
  generalize (lg_sl ([.ref a0_]) ++ List.replicate (3 - (lg_sl ([.ref a0_])).length) Slot.unset).toArray = ls at hl ⊢
  have hl : lv_has ls 3 [(0, .ref a0_)] := hl
  refine W_q (fun Q hQ => ?_)
  refine lv_aload_n hx hb dX10_tellOfSpare_0 rfl (lv_at hl 0 rfl) ?_
  refine g_getr (K := 3) (C := RX10) (T := TX10) (N := 10) hx hb hts (mc_ inX10) hown hK g ma0_ ka0_ (by decide) rfl 2 (by decide) rfl (hts _ (List.mem_cons_of_mem _ t_914)) (fun _ h9 => h9) rfl dX10_tellOfSpare_1 (fun a_1 ma_1 ka_1 g => ?_)
  refine lv_astore_n (lv' := [(1, .ref a_1), (0, .ref a0_)]) hx hb dX10_tellOfSpare_4 rfl hl (by decide) rfl (fun ls hl => ?_)
  refine lv_aload_n hx hb dX10_tellOfSpare_5 rfl (lv_at hl 1 rfl) ?_
  refine lv_aload_n hx hb dX10_tellOfSpare_6 rfl (lv_at hl 1 rfl) ?_
  refine g_getr (K := 3) (C := RX10) (T := TX10) (N := 10) hx hb hts (mc_ inX10) hown hK g ma0_ ka0_ (by decide) rfl 3 (by decide) rfl (hts _ (List.mem_cons_of_mem _ t_916)) (fun _ h9 => h9) rfl dX10_tellOfSpare_7 (fun a_2 ma_2 ka_2 g => ?_)
  obtain ⟨r1_3, r2_4, p1_5, p2_6, m1_7, m2_8, A1_9, A2_10, Q1_11, Q2_12, n1_13, n2_14, k1_15, k2_16, e2_17, e3_18, pk1_19, pk2_20, hap_21⟩ := hGPa0_
  obtain rfl : a_1 = r1_3 := by have h9 := (fx_at g (i := 1) rfl).2.2.2.symm.trans e2_17; cases h9; rfl
  obtain rfl : a_2 = r2_4 := by have h9 := (fx_at g (i := 0) rfl).2.2.2.symm.trans e3_18; cases h9; rfl
  have go_ := g
  refine g_put (C := RX10) (T := TX10) (N := 10) hx hb hts (mc_ inX10) tyX10 tyX10_ok nmX10 hown hK g ma0_ ka0_ (by decide) rfl 2 (by decide) (hts _ (List.mem_cons_of_mem _ t_914)) (fun _ h9 => h9) rfl rfl (okV_r ma_2 ka_2 (by decide)) rfl rfl (by decide) (Or.inr (Or.inl (by decide))) (fx' := [(10, 3, a0_, .ref a_2)]) rfl dX10_tellOfSpare_10 (fun f H locs hM_22 g => ?_)
  have hG_23 := pkQ.frame hM_22 go_.2.2.2.1 ma_1 ka_1 (by decide) (by decide) pk1_19
  have hG_24 := pkQ.frame hM_22 go_.2.2.2.1 ma_2 ka_2 (by decide) (by decide) pk2_20
  refine lv_aload_n hx hb dX10_tellOfSpare_13 rfl (lv_at hl 1 rfl) ?_
  refine lv_aload_n hx hb dX10_tellOfSpare_14 rfl (lv_at hl 0 rfl) ?_
  have go_ := g
  refine g_put (C := RX10) (T := TX10) (N := 10) hx hb hts (mc_ inX10) tyX10 tyX10_ok nmX10 hown hK g ma0_ ka0_ (by decide) rfl 3 (by decide) (hts _ (List.mem_cons_of_mem _ t_916)) (fun _ h9 => h9) rfl rfl (okV_r ma_1 ka_1 (by decide)) rfl rfl (by decide) (Or.inr (Or.inl (by decide))) (fx' := [(10, 2, a0_, .ref a_2)]) rfl dX10_tellOfSpare_15 (fun f H locs hM_25 g => ?_)
  have hG_26 := pkQ.frame hM_25 go_.2.2.2.1 ma_1 ka_1 (by decide) (by decide) hG_23
  have hG_27 := pkQ.frame hM_25 go_.2.2.2.1 ma_2 ka_2 (by decide) (by decide) hG_24
  have hP_28 : RP L kd f a0_ := ⟨_, _, _, _, _, _, _, _, _, _, _, _, _, _, (fx_at g (i := 1) rfl).2.2.2, (fx_at g (i := 0) rfl).2.2.2, hG_27, hG_26, apQ.sym hap_21⟩
  refine lv_aload_n hx hb dX10_tellOfSpare_18 rfl (lv_at hl 1 rfl) ?_
  refine g_getr (K := 4) (C := RX10) (T := TX10) (N := 10) hx hb hts (mc_ inX10) hown hK g ma0_ ka0_ (by decide) rfl 4 (by decide) rfl (hts _ (List.mem_cons_of_mem _ t_917)) (fun _ h9 => h9) rfl dX10_tellOfSpare_19 (fun a_29 ma_29 ka_29 g => ?_)
  refine lv_astore_n (lv' := [(2, .ref a_29), (1, .ref a_1), (0, .ref a0_)]) hx hb dX10_tellOfSpare_22 rfl hl (by decide) rfl (fun ls hl => ?_)
  refine lv_aload_n hx hb dX10_tellOfSpare_23 rfl (lv_at hl 2 rfl) ?_
  refine lv_aload_n hx hb dX10_tellOfSpare_24 rfl (lv_at hl 2 rfl) ?_
  refine g_getr (K := 4) (C := RX10) (T := TX10) (N := 10) hx hb hts (mc_ inX10) hown hK g ma0_ ka0_ (by decide) rfl 5 (by decide) rfl (hts _ (List.mem_cons_of_mem _ t_919)) (fun _ h9 => h9) rfl dX10_tellOfSpare_25 (fun a_30 ma_30 ka_30 g => ?_)
  have go_ := g
  refine g_put (C := RX10) (T := TX10) (N := 10) hx hb hts (mc_ inX10) tyX10 tyX10_ok nmX10 hown hK g ma0_ ka0_ (by decide) rfl 4 (by decide) (hts _ (List.mem_cons_of_mem _ t_917)) (fun _ h9 => h9) rfl rfl (okV_r ma_30 ka_30 (by decide)) rfl rfl (by decide) (Or.inr (Or.inl (by decide))) (fx' := [(10, 5, a0_, .ref a_30), (10, 3, a0_, .ref a_1), (10, 2, a0_, .ref a_2)]) rfl dX10_tellOfSpare_28 (fun f H locs hM_31 g => ?_)
  have hG_32 := RP.frame hM_31 go_.2.2.2.1 ma0_ ka0_ (by decide) (by decide) hP_28
  refine lv_aload_n hx hb dX10_tellOfSpare_31 rfl (lv_at hl 2 rfl) ?_
  refine lv_aload_n hx hb dX10_tellOfSpare_32 rfl (lv_at hl 0 rfl) ?_
  have go_ := g
  refine g_put (C := RX10) (T := TX10) (N := 10) hx hb hts (mc_ inX10) tyX10 tyX10_ok nmX10 hown hK g ma0_ ka0_ (by decide) rfl 5 (by decide) (hts _ (List.mem_cons_of_mem _ t_919)) (fun _ h9 => h9) rfl rfl (okV_r ma_29 ka_29 (by decide)) rfl rfl (by decide) (Or.inr (Or.inl (by decide))) (fx' := [(10, 4, a0_, .ref a_30), (10, 3, a0_, .ref a_1), (10, 2, a0_, .ref a_2)]) rfl dX10_tellOfSpare_33 (fun f H locs hM_33 g => ?_)
  have hG_34 := RP.frame hM_33 go_.2.2.2.1 ma0_ ka0_ (by decide) (by decide) hG_32
  refine lv_aload_n hx hb dX10_tellOfSpare_36 rfl (lv_at hl 2 rfl) ?_
  refine lv_iconst (v := 1) hx hb dX10_tellOfSpare_37 (by decide) ?_
  have kb_1 : bd 1 1 (1 : Int32) := ⟨by decide, by decide⟩
  have go_ := g
  refine g_put (C := RX10) (T := TX10) (N := 10) hx hb hts (mc_ inX10) tyX10 tyX10_ok nmX10 hown hK g ma0_ ka0_ (by decide) rfl 8 (by decide) (hts _ (List.mem_cons_of_mem _ t_924)) (fun _ h9 => h9) rfl rfl (okV_i (bd_sub kb_1 (by decide))) rfl rfl (by decide) (Or.inr (Or.inl (by decide))) (fx' := [(10, 5, a0_, .ref a_29), (10, 4, a0_, .ref a_30), (10, 3, a0_, .ref a_1), (10, 2, a0_, .ref a_2)]) rfl dX10_tellOfSpare_38 (fun f H locs hM_35 g => ?_)
  have hG_36 := RP.frame hM_35 go_.2.2.2.1 ma0_ ka0_ (by decide) (by decide) hG_34
  subst hQ
  exact W.vret hx hb hr (fun t ht hW => ⟨⟨_, rfl, ⟨hG_36, (g.fcts [0] rfl)⟩, q3_of g hK ht hW⟩, g.2.2.1.F ht⟩) g.2.2.1.2.2 dX10_tellOfSpare_41
