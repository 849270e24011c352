set_option maxHeartbeats 4000000 in
set_option maxRecDepth 100000 in
theorem r_X10_drawArgument (l : Launch) (dC : Nat → ClassId) (dI : Nat → Nat → Nat) (L : List Nat) (kd : Nat → Nat) (tys : List (ClassId × FieldType)) (f0 : Nat → va_E) (sz : Nat) (hWT : WT L kd tys f0) (a0_ : Nat) (ma0_ : a0_ ∈ L) (ka0_ : kd a0_ = 10) (a1_ : Nat) (ma1_ : a1_ ∈ L) (ka1_ : kd a1_ = 6) (x2_ : Int32) (bx2_ : bd 0 0 x2_) : Met l yX10_drawArgument (.code yX10_drawArgument cX10_drawArgument 5 (some .int) :: lw_g) ({ frames := 1, cells := 0, slots := 0, locals := 21 }) (va_Pc [.ref a0_, .ref a1_, .int x2_] (P3 (dC, dI) L tys f0 sz)) (va_Qi (fun (r : Int32) (f : Nat → va_E) => (True)) (Q3 (dC, dI) L kd tys [(10, 9)] [] f0 sz) (pA L sz)) 0 0 (pA L sz) := by
  refine Met.ofW (cc := cX10_drawArgument) (maxL := 5) (ret := (some .int)) (by decide) rfl ?_
  intro p e s m args below meth c s₁ B hml hv
  obtain ⟨rfl, hsz, hP, hK, hD0⟩ := hv
  have hx := B.exec
  have hb := B.bytes
  have hr := B.returns
  have hts := atoms_spec (ws := (.code yX10_drawArgument cX10_drawArgument 5 (some .int) :: lw_g)) B.pre
  have hown : s.vm.findClass RX10 = some m.cls := findClass_of_methodNamed B.named
  have hlocks := B.notSynchronized
  subst hsz
  have g : G3 (dC, dI) L kd tys s f0 [(10, 9)] [] f0 s.heap [] [] := G3.start hP hD0 hWT Fs.nil
  have hl := lv_entry ([.ref a0_, .ref a1_, .int x2_]) (n := 5) (Nat.le_of_ble_eq_true rfl)
  rw [lg_entry_eq]
  generalize (lg_sl ([.ref a0_, .ref a1_, .int x2_]) ++ List.replicate (5 - (lg_sl ([.ref a0_, .ref a1_, .int x2_])).length) Slot.unset).toArray = ls at hl ⊢
  have hl : lv_has ls 5 [(0, .ref a0_), (1, .ref a1_), (2, .int x2_)] := hl
  refine W_q (fun Q hQ => ?_)
  refine lv_iload_n hx hb dX10_drawArgument_0 rfl (lv_at hl 2 rfl) ?_
  refine lv_aload_n hx hb dX10_drawArgument_1 rfl (lv_at hl 1 rfl) ?_
  refine g_geti (C := RX6) (T := TX6) (N := 13) hx hb hts (mc_ inX6) hown hK g ma1_ ka1_ (by decide) rfl 3 (by decide) rfl (hts _ (List.mem_cons_of_mem _ t_566)) (fun _ h9 => h9) rfl dX10_drawArgument_2 (fun x_1 bx_1 g => ?_)
  refine lv_icmp_lt (tgt := 10) hx hb dX10_drawArgument_5 (by decide) (fun c_2 => ?_) (fun c_2 => ?_)
  · have fc_2 := lt_f c_2
    have b_3 : bd 1 3 x_1 := ltR fc_2 bx2_ bx_1 (by decide)
    refine lv_aload_n hx hb dX10_drawArgument_10 rfl (lv_at hl 0 rfl) ?_
    refine g_calli (va_runV (As := []) (rest := []) ⟨hx, hb, hml, hown, hts⟩ (r_X10_drawNext l dC dI L kd tys f0 s.heap.size g.2.2.2.1 a0_ ma0_ ka0_) (cwV 0 hts (gV_ t_1678 t_1680 t_80 t_194 t_1681) rfl rfl rfl (by decide +kernel) ⟨(Nat.le_of_ble_eq_true rfl), (Nat.le_of_ble_eq_true rfl)⟩) (pre3V g hK ma0_ ka0_ (by decide) (q := (RX10, TX10, 10)) rfl) rfl rfl hl.1 rfl (lv_room (Nat.le_of_ble_eq_true rfl)) dX10_drawArgument_11 ⟨(Nat.le_of_ble_eq_true rfl), (Nat.le_of_ble_eq_true rfl)⟩) g hK (by decide) (by decide) (fx' := [(6, 3, a1_, .int x_1)]) rfl (fun r_4 fr_4 H locs hp hMr_4 g => ?_)
    obtain ⟨h_5, -⟩ := hp
    refine lv_iconst (v := 4) hx hb dX10_drawArgument_14 (by decide) ?_
    have kb_4 : bd 4 4 (4 : Int32) := ⟨by decide, by decide⟩
    refine lv_irem hx hb dX10_drawArgument_15 (by decide) ?_
    refine lv_topi (fun y_6 ey_6 => ?_)
    have b_7 : bd 0 3 y_6 := rem_rg ey_6 h_5 kb_4 (by decide)
    by_cases e_8 : y_6 = 0
    · refine lv_topi (fun z_9 ez_9 => ?_)
      obtain rfl : z_9 = 0 := ez_9.trans e_8
      have kb_0 : bd 0 0 (0 : Int32) := ⟨by decide, by decide⟩
      have b_10 : bd 0 0 y_6 := eqX (eq_f e_8) b_7 kb_0 (by decide)
      refine lv_tableIn (off := 28) (tgt := 44) hx hb dX10_drawArgument_16 (by decide) (by decide) rfl (by decide) ?_
      refine lv_aload_n hx hb dX10_drawArgument_44 rfl (lv_at hl 1 rfl) ?_
      refine g_getr (K := 134) (C := RX6) (T := TX6) (N := 13) hx hb hts (mc_ inX6) hown hK g ma1_ ka1_ (by decide) rfl 4 (by decide) rfl (hts _ (List.mem_cons_of_mem _ t_571)) (fun _ h9 => h9) rfl dX10_drawArgument_45 (fun a_11 ma_11 ka_11 g => ?_)
      refine lv_iload_n hx hb dX10_drawArgument_48 rfl (lv_at hl 2 rfl) ?_
      refine g_iald hx hb hK g ma_11 ka_11 (by decide) rfl (in_bd bx2_ (by decide)) dX10_drawArgument_49 (fun x_12 bx_12 cx_12 => ?_)
      subst hQ
      exact W.iret (v := x_12) hx hb hr (fun t ht hW => ⟨⟨_, _, rfl, trivial, q3_of g hK ht hW⟩, g.2.2.1.F ht⟩) g.2.2.1.2.2 dX10_drawArgument_50
    by_cases e_13 : y_6 = 1
    · refine lv_topi (fun z_14 ez_14 => ?_)
      obtain rfl : z_14 = 1 := ez_14.trans e_13
      have kb_1 : bd 1 1 (1 : Int32) := ⟨by decide, by decide⟩
      have b_15 : bd 1 1 y_6 := eqX (eq_f e_13) b_7 kb_1 (by decide)
      refine lv_tableIn (off := 35) (tgt := 51) hx hb dX10_drawArgument_16 (by decide) (by decide) rfl (by decide) ?_
      refine lv_aload_n hx hb dX10_drawArgument_51 rfl (lv_at hl 1 rfl) ?_
      refine g_getr (K := 135) (C := RX6) (T := TX6) (N := 13) hx hb hts (mc_ inX6) hown hK g ma1_ ka1_ (by decide) rfl 5 (by decide) rfl (hts _ (List.mem_cons_of_mem _ t_574)) (fun _ h9 => h9) rfl dX10_drawArgument_52 (fun a_16 ma_16 ka_16 g => ?_)
      refine lv_iload_n hx hb dX10_drawArgument_55 rfl (lv_at hl 2 rfl) ?_
      refine g_iald hx hb hK g ma_16 ka_16 (by decide) rfl (in_bd bx2_ (by decide)) dX10_drawArgument_56 (fun x_17 bx_17 cx_17 => ?_)
      subst hQ
      exact W.iret (v := x_17) hx hb hr (fun t ht hW => ⟨⟨_, _, rfl, trivial, q3_of g hK ht hW⟩, g.2.2.1.F ht⟩) g.2.2.1.2.2 dX10_drawArgument_57
    by_cases e_18 : y_6 = 2
    · refine lv_topi (fun z_19 ez_19 => ?_)
      obtain rfl : z_19 = 2 := ez_19.trans e_18
      have kb_2 : bd 2 2 (2 : Int32) := ⟨by decide, by decide⟩
      have b_20 : bd 2 2 y_6 := eqX (eq_f e_18) b_7 kb_2 (by decide)
      refine lv_tableIn (off := 42) (tgt := 58) hx hb dX10_drawArgument_16 (by decide) (by decide) rfl (by decide) ?_
      refine lv_aload_n hx hb dX10_drawArgument_58 rfl (lv_at hl 1 rfl) ?_
      refine lv_iload_n hx hb dX10_drawArgument_59 rfl (lv_at hl 2 rfl) ?_
      refine g_calli (va_runV (As := [.int x2_]) (rest := []) ⟨hx, hb, hml, hown, hts⟩ (r_X6_firstOf l dC dI L kd tys fr_4 H.size g.2.2.2.1 a1_ ma1_ ka1_ x2_) (cwV 1 hts (gV_ t_1692 t_1693 t_1694 t_193 t_1695) rfl rfl rfl (by decide +kernel) ⟨(Nat.le_of_ble_eq_true rfl), (Nat.le_of_ble_eq_true rfl)⟩) (pre3V g hK ma1_ ka1_ (by decide) (q := (RX6, TX6, 13)) rfl) rfl rfl hl.1 rfl (lv_room (Nat.le_of_ble_eq_true rfl)) dX10_drawArgument_60 ⟨(Nat.le_of_ble_eq_true rfl), (Nat.le_of_ble_eq_true rfl)⟩) g hK (by decide) (by decide) (fx' := [(6, 3, a1_, .int x_1)]) rfl (fun r_21 fr_21 H locs hp hMr_21 g => ?_)
      subst hQ
      exact W.iret (v := r_21) hx hb hr (fun t ht hW => ⟨⟨_, _, rfl, trivial, q3_of g hK ht hW⟩, g.2.2.1.F ht⟩) g.2.2.1.2.2 dX10_drawArgument_63
    refine lv_tableOut (tgt := 64) hx hb dX10_drawArgument_16 (by have a0 : y_6.toInt ≠ 0 := fun h => e_8 (Int32.toInt_inj.mp (h.trans (by decide))); have a1 : y_6.toInt ≠ 1 := fun h => e_13 (Int32.toInt_inj.mp (h.trans (by decide))); have a2 : y_6.toInt ≠ 2 := fun h => e_18 (Int32.toInt_inj.mp (h.trans (by decide))); omega) (by decide) ?_
    refine lv_aload_n hx hb dX10_drawArgument_64 rfl (lv_at hl 1 rfl) ?_
    refine g_getr (K := 135) (C := RX6) (T := TX6) (N := 13) hx hb hts (mc_ inX6) hown hK g ma1_ ka1_ (by decide) rfl 5 (by decide) rfl (hts _ (List.mem_cons_of_mem _ t_574)) (fun _ h9 => h9) rfl dX10_drawArgument_65 (fun a_22 ma_22 ka_22 g => ?_)
    refine lv_iload_n hx hb dX10_drawArgument_68 rfl (lv_at hl 2 rfl) ?_
    refine g_iald hx hb hK g ma_22 ka_22 (by decide) rfl (in_bd bx2_ (by decide)) dX10_drawArgument_69 (fun x_23 bx_23 cx_23 => ?_)
    refine lv_i2l hx hb dX10_drawArgument_70 rfl ?_
    refine lv_topl (fun y_24 ey_24 => ?_)
    refine lv_aload_n hx hb dX10_drawArgument_71 rfl (lv_at hl 1 rfl) ?_
    refine g_getr (K := 134) (C := RX6) (T := TX6) (N := 13) hx hb hts (mc_ inX6) hown hK g ma1_ ka1_ (by decide) rfl 4 (by decide) rfl (hts _ (List.mem_cons_of_mem _ t_571)) (fun _ h9 => h9) rfl dX10_drawArgument_72 (fun a_25 ma_25 ka_25 g => ?_)
    refine lv_iload_n hx hb dX10_drawArgument_75 rfl (lv_at hl 2 rfl) ?_
    refine g_iald hx hb hK g ma_25 ka_25 (by decide) rfl (in_bd bx2_ (by decide)) dX10_drawArgument_76 (fun x_26 bx_26 cx_26 => ?_)
    refine lv_i2l hx hb dX10_drawArgument_77 rfl ?_
    refine lv_topl (fun y_27 ey_27 => ?_)
    refine lv_lsub hx hb dX10_drawArgument_78 ?_
    refine lv_topl (fun y_28 ey_28 => ?_)
    refine lv_lconst (v := 1) hx hb dX10_drawArgument_79 (by decide) ?_
    refine lv_ladd hx hb dX10_drawArgument_80 ?_
    refine lv_topl (fun y_29 ey_29 => ?_)
    refine lv_lconst (v := 1) hx hb dX10_drawArgument_81 (by decide) ?_
    refine va_mmax_long hx hb (hml.trans hl.1.symm) hown (hts _ (List.mem_cons_of_mem _ t_1696)) (hts _ (List.mem_cons_of_mem _ t_1697)) (hts _ (List.mem_cons_of_mem _ t_204)) (hts _ (List.mem_cons_of_mem _ t_1698)) (Nat.le_of_ble_eq_true rfl) (Nat.le_of_ble_eq_true rfl) (Nat.le_of_ble_eq_true rfl) (Nat.le_of_ble_eq_true rfl) dX10_drawArgument_82 ?_
    refine lv_topl (fun y_30 ey_30 => ?_)
    refine lv_lstore_n (lv' := [(3, .long y_30), (0, .ref a0_), (1, .ref a1_), (2, .int x2_)]) hx hb dX10_drawArgument_85 rfl hl (by decide) rfl (fun ls hl => ?_)
    refine lv_aload_n hx hb dX10_drawArgument_86 rfl (lv_at hl 2 rfl) ?_
    refine g_getk (C := RX6) (T := TX6) (N := 13) hx hb hts (mc_ inX6) hown hK g rfl 4 (by decide) rfl (hts _ (List.mem_cons_of_mem _ t_571)) (fun _ h9 => h9) 0 rfl dX10_drawArgument_87 ?_
    refine lv_iload_n hx hb dX10_drawArgument_90 rfl (lv_at hl 3 rfl) ?_
    refine g_iald hx hb hK g ma_25 ka_25 (by decide) rfl (in_bd bx2_ (by decide)) dX10_drawArgument_91 (fun x_31 bx_31 cx_31 => ?_)
    obtain rfl : x_26 = x_31 := el_same cx_26 cx_31 rfl
    refine lv_i2l hx hb dX10_drawArgument_92 rfl ?_
    refine lv_topl (fun y_32 ey_32 => ?_)
    refine lv_aload_n hx hb dX10_drawArgument_93 rfl (lv_at hl 1 rfl) ?_
    refine g_calli (va_runV (As := []) (rest := [.long y_32]) ⟨hx, hb, hml, hown, hts⟩ (r_X10_drawNext l dC dI L kd tys fr_4 H.size g.2.2.2.1 a0_ ma0_ ka0_) (cwV 0 hts (gV_ t_1678 t_1680 t_80 t_194 t_1681) rfl rfl rfl (by decide +kernel) ⟨(Nat.le_of_ble_eq_true rfl), (Nat.le_of_ble_eq_true rfl)⟩) (pre3V g hK ma0_ ka0_ (by decide) (q := (RX10, TX10, 10)) rfl) rfl rfl hl.1 rfl (lv_room (Nat.le_of_ble_eq_true rfl)) dX10_drawArgument_94 ⟨(Nat.le_of_ble_eq_true rfl), (Nat.le_of_ble_eq_true rfl)⟩) g hK (by decide) (by decide) (fx' := [(6, 4, a1_, .ref a_25), (6, 5, a1_, .ref a_22), (6, 3, a1_, .int x_1)]) rfl (fun r_33 fr_33 H locs hp hMr_33 g => ?_)
    obtain ⟨h_34, -⟩ := hp
    refine lv_i2l hx hb dX10_drawArgument_97 rfl ?_
    refine lv_topl (fun y_35 ey_35 => ?_)
    refine lv_lload_n hx hb dX10_drawArgument_98 rfl (lv_at hl 0 rfl) ?_
    refine lv_lrem hx hb dX10_drawArgument_99 (mxl1 ey_30) ?_
    refine lv_topl (fun y_36 ey_36 => ?_)
    refine lv_ladd hx hb dX10_drawArgument_100 ?_
    refine lv_topl (fun y_37 ey_37 => ?_)
    refine lv_l2i hx hb dX10_drawArgument_101 rfl ?_
    refine lv_topi (fun y_38 ey_38 => ?_)
    subst hQ
    exact W.iret (v := y_38) hx hb hr (fun t ht hW => ⟨⟨_, _, rfl, trivial, q3_of g hK ht hW⟩, g.2.2.1.F ht⟩) g.2.2.1.2.2 dX10_drawArgument_102
  · have fc_2 := nlt_f c_2
    have b_39 : bd 0 0 x_1 := leL fc_2 bx_1 bx2_ (by decide)
    refine lv_iconst (v := 0) hx hb dX10_drawArgument_8 (by decide) ?_
    subst hQ
    exact W.iret (v := 0) hx hb hr (fun t ht hW => ⟨⟨_, _, rfl, trivial, q3_of g hK ht hW⟩, g.2.2.1.F ht⟩) g.2.2.1.2.2 dX10_drawArgument_9
set_option maxHeartbeats 4000000 in
set_option maxRecDepth 100000 in
theorem r_X10_drawArgument_2 (l : Launch) (dC : Nat → ClassId) (dI : Nat → Nat → Nat) (L : List Nat) (kd : Nat → Nat) (tys : List (ClassId × FieldType)) (f0 : Nat → va_E) (sz : Nat) (hWT : WT L kd tys f0) (a0_ : Nat) (ma0_ : a0_ ∈ L) (ka0_ : kd a0_ = 10) (a1_ : Nat) (ma1_ : a1_ ∈ L) (ka1_ : kd a1_ = 6) (x2_ : Int32) (bx2_ : bd 1 1 x2_) : Met l yX10_drawArgument (.code yX10_drawArgument cX10_drawArgument 5 (some .int) :: lw_g) ({ frames := 1, cells := 0, slots := 0, locals := 21 }) (va_Pc [.ref a0_, .ref a1_, .int x2_] (P3 (dC, dI) L tys f0 sz)) (va_Qi (fun (r : Int32) (f : Nat → va_E) => (True)) (Q3 (dC, dI) L kd tys [(10, 9)] [] f0 sz) (pA L sz)) 0 0 (pA L sz) := by
  refine Met.ofW (cc := cX10_drawArgument) (maxL := 5) (ret := (some .int)) (by decide) rfl ?_
  intro p e s m args below meth c s₁ B hml hv
  obtain ⟨rfl, hsz, hP, hK, hD0⟩ := hv
  have hx := B.exec
  have hb := B.bytes
  have hr := B.returns
  have hts := atoms_spec (ws := (.code yX10_drawArgument cX10_drawArgument 5 (some .int) :: lw_g)) B.pre
  have hown : s.vm.findClass RX10 = some m.cls := findClass_of_methodNamed B.named
  have hlocks := B.notSynchronized
  subst hsz
  have g : G3 (dC, dI) L kd tys s f0 [(10, 9)] [] f0 s.heap [] [] := G3.start hP hD0 hWT Fs.nil
  have hl := lv_entry ([.ref a0_, .ref a1_, .int x2_]) (n := 5) (Nat.le_of_ble_eq_true rfl)
  rw [lg_entry_eq]
  generalize (lg_sl ([.ref a0_, .ref a1_, .int x2_]) ++ List.replicate (5 - (lg_sl ([.ref a0_, .ref a1_, .int x2_])).length) Slot.unset).toArray = ls at hl ⊢
  have hl : lv_has ls 5 [(0, .ref a0_), (1, .ref a1_), (2, .int x2_)] := hl
  refine W_q (fun Q hQ => ?_)
  refine lv_iload_n hx hb dX10_drawArgument_0 rfl (lv_at hl 2 rfl) ?_
  refine lv_aload_n hx hb dX10_drawArgument_1 rfl (lv_at hl 1 rfl) ?_
  refine g_geti (C := RX6) (T := TX6) (N := 13) hx hb hts (mc_ inX6) hown hK g ma1_ ka1_ (by decide) rfl 3 (by decide) rfl (hts _ (List.mem_cons_of_mem _ t_566)) (fun _ h9 => h9) rfl dX10_drawArgument_2 (fun x_1 bx_1 g => ?_)
  refine lv_icmp_lt (tgt := 10) hx hb dX10_drawArgument_5 (by decide) (fun c_2 => ?_) (fun c_2 => ?_)
  · have fc_2 := lt_f c_2
    have b_3 : bd 2 3 x_1 := ltR fc_2 bx2_ bx_1 (by decide)
    refine lv_aload_n hx hb dX10_drawArgument_10 rfl (lv_at hl 0 rfl) ?_
    refine g_calli (va_runV (As := []) (rest := []) ⟨hx, hb, hml, hown, hts⟩ (r_X10_drawNext l dC dI L kd tys f0 s.heap.size g.2.2.2.1 a0_ ma0_ ka0_) (cwV 0 hts (gV_ t_1678 t_1680 t_80 t_194 t_1681) rfl rfl rfl (by decide +kernel) ⟨(Nat.le_of_ble_eq_true rfl), (Nat.le_of_ble_eq_true rfl)⟩) (pre3V g hK ma0_ ka0_ (by decide) (q := (RX10, TX10, 10)) rfl) rfl rfl hl.1 rfl (lv_room (Nat.le_of_ble_eq_true rfl)) dX10_drawArgument_11 ⟨(Nat.le_of_ble_eq_true rfl), (Nat.le_of_ble_eq_true rfl)⟩) g hK (by decide) (by decide) (fx' := [(6, 3, a1_, .int x_1)]) rfl (fun r_4 fr_4 H locs hp hMr_4 g => ?_)
    obtain ⟨h_5, -⟩ := hp
    refine lv_iconst (v := 4) hx hb dX10_drawArgument_14 (by decide) ?_
    have kb_4 : bd 4 4 (4 : Int32) := ⟨by decide, by decide⟩
    refine lv_irem hx hb dX10_drawArgument_15 (by decide) ?_
    refine lv_topi (fun y_6 ey_6 => ?_)
    have b_7 : bd 0 3 y_6 := rem_rg ey_6 h_5 kb_4 (by decide)
    by_cases e_8 : y_6 = 0
    · refine lv_topi (fun z_9 ez_9 => ?_)
      obtain rfl : z_9 = 0 := ez_9.trans e_8
      have kb_0 : bd 0 0 (0 : Int32) := ⟨by decide, by decide⟩
      have b_10 : bd 0 0 y_6 := eqX (eq_f e_8) b_7 kb_0 (by decide)
      refine lv_tableIn (off := 28) (tgt := 44) hx hb dX10_drawArgument_16 (by decide) (by decide) rfl (by decide) ?_
      refine lv_aload_n hx hb dX10_drawArgument_44 rfl (lv_at hl 1 rfl) ?_
      refine g_getr (K := 134) (C := RX6) (T := TX6) (N := 13) hx hb hts (mc_ inX6) hown hK g ma1_ ka1_ (by decide) rfl 4 (by decide) rfl (hts _ (List.mem_cons_of_mem _ t_571)) (fun _ h9 => h9) rfl dX10_drawArgument_45 (fun a_11 ma_11 ka_11 g => ?_)
      refine lv_iload_n hx hb dX10_drawArgument_48 rfl (lv_at hl 2 rfl) ?_
      refine g_iald hx hb hK g ma_11 ka_11 (by decide) rfl (in_bd bx2_ (by decide)) dX10_drawArgument_49 (fun x_12 bx_12 cx_12 => ?_)
      subst hQ
      exact W.iret (v := x_12) hx hb hr (fun t ht hW => ⟨⟨_, _, rfl, trivial, q3_of g hK ht hW⟩, g.2.2.1.F ht⟩) g.2.2.1.2.2 dX10_drawArgument_50
    by_cases e_13 : y_6 = 1
    · refine lv_topi (fun z_14 ez_14 => ?_)
      obtain rfl : z_14 = 1 := ez_14.trans e_13
      have kb_1 : bd 1 1 (1 : Int32) := ⟨by decide, by decide⟩
      have b_15 : bd 1 1 y_6 := eqX (eq_f e_13) b_7 kb_1 (by decide)
      refine lv_tableIn (off := 35) (tgt := 51) hx hb dX10_drawArgument_16 (by decide) (by decide) rfl (by decide) ?_
      refine lv_aload_n hx hb dX10_drawArgument_51 rfl (lv_at hl 1 rfl) ?_
      refine g_getr (K := 135) (C := RX6) (T := TX6) (N := 13) hx hb hts (mc_ inX6) hown hK g ma1_ ka1_ (by decide) rfl 5 (by decide) rfl (hts _ (List.mem_cons_of_mem _ t_574)) (fun _ h9 => h9) rfl dX10_drawArgument_52 (fun a_16 ma_16 ka_16 g => ?_)
      refine lv_iload_n hx hb dX10_drawArgument_55 rfl (lv_at hl 2 rfl) ?_
      refine g_iald hx hb hK g ma_16 ka_16 (by decide) rfl (in_bd bx2_ (by decide)) dX10_drawArgument_56 (fun x_17 bx_17 cx_17 => ?_)
      subst hQ
      exact W.iret (v := x_17) hx hb hr (fun t ht hW => ⟨⟨_, _, rfl, trivial, q3_of g hK ht hW⟩, g.2.2.1.F ht⟩) g.2.2.1.2.2 dX10_drawArgument_57
    by_cases e_18 : y_6 = 2
    · refine lv_topi (fun z_19 ez_19 => ?_)
      obtain rfl : z_19 = 2 := ez_19.trans e_18
      have kb_2 : bd 2 2 (2 : Int32) := ⟨by decide, by decide⟩
      have b_20 : bd 2 2 y_6 := eqX (eq_f e_18) b_7 kb_2 (by decide)
      refine lv_tableIn (off := 42) (tgt := 58) hx hb dX10_drawArgument_16 (by decide) (by decide) rfl (by decide) ?_
      refine lv_aload_n hx hb dX10_drawArgument_58 rfl (lv_at hl 1 rfl) ?_
      refine lv_iload_n hx hb dX10_drawArgument_59 rfl (lv_at hl 2 rfl) ?_
      refine g_calli (va_runV (As := [.int x2_]) (rest := []) ⟨hx, hb, hml, hown, hts⟩ (r_X6_firstOf l dC dI L kd tys fr_4 H.size g.2.2.2.1 a1_ ma1_ ka1_ x2_) (cwV 1 hts (gV_ t_1692 t_1693 t_1694 t_193 t_1695) rfl rfl rfl (by decide +kernel) ⟨(Nat.le_of_ble_eq_true rfl), (Nat.le_of_ble_eq_true rfl)⟩) (pre3V g hK ma1_ ka1_ (by decide) (q := (RX6, TX6, 13)) rfl) rfl rfl hl.1 rfl (lv_room (Nat.le_of_ble_eq_true rfl)) dX10_drawArgument_60 ⟨(Nat.le_of_ble_eq_true rfl), (Nat.le_of_ble_eq_true rfl)⟩) g hK (by decide) (by decide) (fx' := [(6, 3, a1_, .int x_1)]) rfl (fun r_21 fr_21 H locs hp hMr_21 g => ?_)
      subst hQ
      exact W.iret (v := r_21) hx hb hr (fun t ht hW => ⟨⟨_, _, rfl, trivial, q3_of g hK ht hW⟩, g.2.2.1.F ht⟩) g.2.2.1.2.2 dX10_drawArgument_63
    refine lv_tableOut (tgt := 64) hx hb dX10_drawArgument_16 (by have a0 : y_6.toInt ≠ 0 := fun h => e_8 (Int32.toInt_inj.mp (h.trans (by decide))); have a1 : y_6.toInt ≠ 1 := fun h => e_13 (Int32.toInt_inj.mp (h.trans (by decide))); have a2 : y_6.toInt ≠ 2 := fun h => e_18 (Int32.toInt_inj.mp (h.trans (by decide))); omega) (by decide) ?_
    refine lv_aload_n hx hb dX10_drawArgument_64 rfl (lv_at hl 1 rfl) ?_
    refine g_getr (K := 135) (C := RX6) (T := TX6) (N := 13) hx hb hts (mc_ inX6) hown hK g ma1_ ka1_ (by decide) rfl 5 (by decide) rfl (hts _ (List.mem_cons_of_mem _ t_574)) (fun _ h9 => h9) rfl dX10_drawArgument_65 (fun a_22 ma_22 ka_22 g => ?_)
    refine lv_iload_n hx hb dX10_drawArgument_68 rfl (lv_at hl 2 rfl) ?_
    refine g_iald hx hb hK g ma_22 ka_22 (by decide) rfl (in_bd bx2_ (by decide)) dX10_drawArgument_69 (fun x_23 bx_23 cx_23 => ?_)
    refine lv_i2l hx hb dX10_drawArgument_70 rfl ?_
    refine lv_topl (fun y_24 ey_24 => ?_)
    refine lv_aload_n hx hb dX10_drawArgument_71 rfl (lv_at hl 1 rfl) ?_
    refine g_getr (K := 134) (C := RX6) (T := TX6) (N := 13) hx hb hts (mc_ inX6) hown hK g ma1_ ka1_ (by decide) rfl 4 (by decide) rfl (hts _ (List.mem_cons_of_mem _ t_571)) (fun _ h9 => h9) rfl dX10_drawArgument_72 (fun a_25 ma_25 ka_25 g => ?_)
    refine lv_iload_n hx hb dX10_drawArgument_75 rfl (lv_at hl 2 rfl) ?_
    refine g_iald hx hb hK g ma_25 ka_25 (by decide) rfl (in_bd bx2_ (by decide)) dX10_drawArgument_76 (fun x_26 bx_26 cx_26 => ?_)
    refine lv_i2l hx hb dX10_drawArgument_77 rfl ?_
    refine lv_topl (fun y_27 ey_27 => ?_)
    refine lv_lsub hx hb dX10_drawArgument_78 ?_
    refine lv_topl (fun y_28 ey_28 => ?_)
    refine lv_lconst (v := 1) hx hb dX10_drawArgument_79 (by decide) ?_
    refine lv_ladd hx hb dX10_drawArgument_80 ?_
    refine lv_topl (fun y_29 ey_29 => ?_)
    refine lv_lconst (v := 1) hx hb dX10_drawArgument_81 (by decide) ?_
    refine va_mmax_long hx hb (hml.trans hl.1.symm) hown (hts _ (List.mem_cons_of_mem _ t_1696)) (hts _ (List.mem_cons_of_mem _ t_1697)) (hts _ (List.mem_cons_of_mem _ t_204)) (hts _ (List.mem_cons_of_mem _ t_1698)) (Nat.le_of_ble_eq_true rfl) (Nat.le_of_ble_eq_true rfl) (Nat.le_of_ble_eq_true rfl) (Nat.le_of_ble_eq_true rfl) dX10_drawArgument_82 ?_
    refine lv_topl (fun y_30 ey_30 => ?_)
    refine lv_lstore_n (lv' := [(3, .long y_30), (0, .ref a0_), (1, .ref a1_), (2, .int x2_)]) hx hb dX10_drawArgument_85 rfl hl (by decide) rfl (fun ls hl => ?_)
    refine lv_aload_n hx hb dX10_drawArgument_86 rfl (lv_at hl 2 rfl) ?_
    refine g_getk (C := RX6) (T := TX6) (N := 13) hx hb hts (mc_ inX6) hown hK g rfl 4 (by decide) rfl (hts _ (List.mem_cons_of_mem _ t_571)) (fun _ h9 => h9) 0 rfl dX10_drawArgument_87 ?_
    refine lv_iload_n hx hb dX10_drawArgument_90 rfl (lv_at hl 3 rfl) ?_
    refine g_iald hx hb hK g ma_25 ka_25 (by decide) rfl (in_bd bx2_ (by decide)) dX10_drawArgument_91 (fun x_31 bx_31 cx_31 => ?_)
    obtain rfl : x_26 = x_31 := el_same cx_26 cx_31 rfl
    refine lv_i2l hx hb dX10_drawArgument_92 rfl ?_
    refine lv_topl (fun y_32 ey_32 => ?_)
    refine lv_aload_n hx hb dX10_drawArgument_93 rfl (lv_at hl 1 rfl) ?_
    refine g_calli (va_runV (As := []) (rest := [.long y_32]) ⟨hx, hb, hml, hown, hts⟩ (r_X10_drawNext l dC dI L kd tys fr_4 H.size g.2.2.2.1 a0_ ma0_ ka0_) (cwV 0 hts (gV_ t_1678 t_1680 t_80 t_194 t_1681) rfl rfl rfl (by decide +kernel) ⟨(Nat.le_of_ble_eq_true rfl), (Nat.le_of_ble_eq_true rfl)⟩) (pre3V g hK ma0_ ka0_ (by decide) (q := (RX10, TX10, 10)) rfl) rfl rfl hl.1 rfl (lv_room (Nat.le_of_ble_eq_true rfl)) dX10_drawArgument_94 ⟨(Nat.le_of_ble_eq_true rfl), (Nat.le_of_ble_eq_true rfl)⟩) g hK (by decide) (by decide) (fx' := [(6, 4, a1_, .ref a_25), (6, 5, a1_, .ref a_22), (6, 3, a1_, .int x_1)]) rfl (fun r_33 fr_33 H locs hp hMr_33 g => ?_)
    obtain ⟨h_34, -⟩ := hp
    refine lv_i2l hx hb dX10_drawArgument_97 rfl ?_
    refine lv_topl (fun y_35 ey_35 => ?_)
    refine lv_lload_n hx hb dX10_drawArgument_98 rfl (lv_at hl 0 rfl) ?_
    refine lv_lrem hx hb dX10_drawArgument_99 (mxl1 ey_30) ?_
    refine lv_topl (fun y_36 ey_36 => ?_)
    refine lv_ladd hx hb dX10_drawArgument_100 ?_
    refine lv_topl (fun y_37 ey_37 => ?_)
    refine lv_l2i hx hb dX10_drawArgument_101 rfl ?_
    refine lv_topi (fun y_38 ey_38 => ?_)
    subst hQ
    exact W.iret (v := y_38) hx hb hr (fun t ht hW => ⟨⟨_, _, rfl, trivial, q3_of g hK ht hW⟩, g.2.2.1.F ht⟩) g.2.2.1.2.2 dX10_drawArgument_102
  · have fc_2 := nlt_f c_2
    have b_39 : bd 0 1 x_1 := leL fc_2 bx_1 bx2_ (by decide)
    refine lv_iconst (v := 0) hx hb dX10_drawArgument_8 (by decide) ?_
    subst hQ
    exact W.iret (v := 0) hx hb hr (fun t ht hW => ⟨⟨_, _, rfl, trivial, q3_of g hK ht hW⟩, g.2.2.1.F ht⟩) g.2.2.1.2.2 dX10_drawArgument_9
set_option maxHeartbeats 4000000 in
set_option maxRecDepth 100000 in
theorem r_X10_drawArgument_3 (l : Launch) (dC : Nat → ClassId) (dI : Nat → Nat → Nat) (L : List Nat) (kd : Nat → Nat) (tys : List (ClassId × FieldType)) (f0 : Nat → va_E) (sz : Nat) (hWT : WT L kd tys f0) (a0_ : Nat) (ma0_ : a0_ ∈ L) (ka0_ : kd a0_ = 10) (a1_ : Nat) (ma1_ : a1_ ∈ L) (ka1_ : kd a1_ = 6) (x2_ : Int32) (bx2_ : bd 2 2 x2_) : Met l yX10_drawArgument (.code yX10_drawArgument cX10_drawArgument 5 (some .int) :: lw_g) ({ frames := 1, cells := 0, slots := 0, locals := 21 }) (va_Pc [.ref a0_, .ref a1_, .int x2_] (P3 (dC, dI) L tys f0 sz)) (va_Qi (fun (r : Int32) (f : Nat → va_E) => (True)) (Q3 (dC, dI) L kd tys [(10, 9)] [] f0 sz) (pA L sz)) 0 0 (pA L sz) := by
  refine Met.ofW (cc := cX10_drawArgument) (maxL := 5) (ret := (some .int)) (by decide) rfl ?_
  intro p e s m args below meth c s₁ B hml hv
  obtain ⟨rfl, hsz, hP, hK, hD0⟩ := hv
  have hx := B.exec
  have hb := B.bytes
  have hr := B.returns
  have hts := atoms_spec (ws := (.code yX10_drawArgument cX10_drawArgument 5 (some .int) :: lw_g)) B.pre
  have hown : s.vm.findClass RX10 = some m.cls := findClass_of_methodNamed B.named
  have hlocks := B.notSynchronized
  subst hsz
  have g : G3 (dC, dI) L kd tys s f0 [(10, 9)] [] f0 s.heap [] [] := G3.start hP hD0 hWT Fs.nil
  have hl := lv_entry ([.ref a0_, .ref a1_, .int x2_]) (n := 5) (Nat.le_of_ble_eq_true rfl)
  rw [lg_entry_eq]
  generalize (lg_sl ([.ref a0_, .ref a1_, .int x2_]) ++ List.replicate (5 - (lg_sl ([.ref a0_, .ref a1_, .int x2_])).length) Slot.unset).toArray = ls at hl ⊢
  have hl : lv_has ls 5 [(0, .ref a0_), (1, .ref a1_), (2, .int x2_)] := hl
  refine W_q (fun Q hQ => ?_)
  refine lv_iload_n hx hb dX10_drawArgument_0 rfl (lv_at hl 2 rfl) ?_
  refine lv_aload_n hx hb dX10_drawArgument_1 rfl (lv_at hl 1 rfl) ?_
  refine g_geti (C := RX6) (T := TX6) (N := 13) hx hb hts (mc_ inX6) hown hK g ma1_ ka1_ (by decide) rfl 3 (by decide) rfl (hts _ (List.mem_cons_of_mem _ t_566)) (fun _ h9 => h9) rfl dX10_drawArgument_2 (fun x_1 bx_1 g => ?_)
  refine lv_icmp_lt (tgt := 10) hx hb dX10_drawArgument_5 (by decide) (fun c_2 => ?_) (fun c_2 => ?_)
  · have fc_2 := lt_f c_2
    have b_3 : bd 3 3 x_1 := ltR fc_2 bx2_ bx_1 (by decide)
    refine lv_aload_n hx hb dX10_drawArgument_10 rfl (lv_at hl 0 rfl) ?_
    refine g_calli (va_runV (As := []) (rest := []) ⟨hx, hb, hml, hown, hts⟩ (r_X10_drawNext l dC dI L kd tys f0 s.heap.size g.2.2.2.1 a0_ ma0_ ka0_) (cwV 0 hts (gV_ t_1678 t_1680 t_80 t_194 t_1681) rfl rfl rfl (by decide +kernel) ⟨(Nat.le_of_ble_eq_true rfl), (Nat.le_of_ble_eq_true rfl)⟩) (pre3V g hK ma0_ ka0_ (by decide) (q := (RX10, TX10, 10)) rfl) rfl rfl hl.1 rfl (lv_room (Nat.le_of_ble_eq_true rfl)) dX10_drawArgument_11 ⟨(Nat.le_of_ble_eq_true rfl), (Nat.le_of_ble_eq_true rfl)⟩) g hK (by decide) (by decide) (fx' := [(6, 3, a1_, .int x_1)]) rfl (fun r_4 fr_4 H locs hp hMr_4 g => ?_)
    obtain ⟨h_5, -⟩ := hp
    refine lv_iconst (v := 4) hx hb dX10_drawArgument_14 (by decide) ?_
    have kb_4 : bd 4 4 (4 : Int32) := ⟨by decide, by decide⟩
    refine lv_irem hx hb dX10_drawArgument_15 (by decide) ?_
    refine lv_topi (fun y_6 ey_6 => ?_)
    have b_7 : bd 0 3 y_6 := rem_rg ey_6 h_5 kb_4 (by decide)
    by_cases e_8 : y_6 = 0
    · refine lv_topi (fun z_9 ez_9 => ?_)
      obtain rfl : z_9 = 0 := ez_9.trans e_8
      have kb_0 : bd 0 0 (0 : Int32) := ⟨by decide, by decide⟩
      have b_10 : bd 0 0 y_6 := eqX (eq_f e_8) b_7 kb_0 (by decide)
      refine lv_tableIn (off := 28) (tgt := 44) hx hb dX10_drawArgument_16 (by decide) (by decide) rfl (by decide) ?_
      refine lv_aload_n hx hb dX10_drawArgument_44 rfl (lv_at hl 1 rfl) ?_
      refine g_getr (K := 134) (C := RX6) (T := TX6) (N := 13) hx hb hts (mc_ inX6) hown hK g ma1_ ka1_ (by decide) rfl 4 (by decide) rfl (hts _ (List.mem_cons_of_mem _ t_571)) (fun _ h9 => h9) rfl dX10_drawArgument_45 (fun a_11 ma_11 ka_11 g => ?_)
      refine lv_iload_n hx hb dX10_drawArgument_48 rfl (lv_at hl 2 rfl) ?_
      refine g_iald hx hb hK g ma_11 ka_11 (by decide) rfl (in_bd bx2_ (by decide)) dX10_drawArgument_49 (fun x_12 bx_12 cx_12 => ?_)
      subst hQ
      exact W.iret (v := x_12) hx hb hr (fun t ht hW => ⟨⟨_, _, rfl, trivial, q3_of g hK ht hW⟩, g.2.2.1.F ht⟩) g.2.2.1.2.2 dX10_drawArgument_50
    by_cases e_13 : y_6 = 1
    · refine lv_topi (fun z_14 ez_14 => ?_)
      obtain rfl : z_14 = 1 := ez_14.trans e_13
      have kb_1 : bd 1 1 (1 : Int32) := ⟨by decide, by decide⟩
      have b_15 : bd 1 1 y_6 := eqX (eq_f e_13) b_7 kb_1 (by decide)
      refine lv_tableIn (off := 35) (tgt := 51) hx hb dX10_drawArgument_16 (by decide) (by decide) rfl (by decide) ?_
      refine lv_aload_n hx hb dX10_drawArgument_51 rfl (lv_at hl 1 rfl) ?_
      refine g_getr (K := 135) (C := RX6) (T := TX6) (N := 13) hx hb hts (mc_ inX6) hown hK g ma1_ ka1_ (by decide) rfl 5 (by decide) rfl (hts _ (List.mem_cons_of_mem _ t_574)) (fun _ h9 => h9) rfl dX10_drawArgument_52 (fun a_16 ma_16 ka_16 g => ?_)
      refine lv_iload_n hx hb dX10_drawArgument_55 rfl (lv_at hl 2 rfl) ?_
      refine g_iald hx hb hK g ma_16 ka_16 (by decide) rfl (in_bd bx2_ (by decide)) dX10_drawArgument_56 (fun x_17 bx_17 cx_17 => ?_)
      subst hQ
      exact W.iret (v := x_17) hx hb hr (fun t ht hW => ⟨⟨_, _, rfl, trivial, q3_of g hK ht hW⟩, g.2.2.1.F ht⟩) g.2.2.1.2.2 dX10_drawArgument_57
    by_cases e_18 : y_6 = 2
    · refine lv_topi (fun z_19 ez_19 => ?_)
      obtain rfl : z_19 = 2 := ez_19.trans e_18
      have kb_2 : bd 2 2 (2 : Int32) := ⟨by decide, by decide⟩
      have b_20 : bd 2 2 y_6 := eqX (eq_f e_18) b_7 kb_2 (by decide)
      refine lv_tableIn (off := 42) (tgt := 58) hx hb dX10_drawArgument_16 (by decide) (by decide) rfl (by decide) ?_
      refine lv_aload_n hx hb dX10_drawArgument_58 rfl (lv_at hl 1 rfl) ?_
      refine lv_iload_n hx hb dX10_drawArgument_59 rfl (lv_at hl 2 rfl) ?_
      refine g_calli (va_runV (As := [.int x2_]) (rest := []) ⟨hx, hb, hml, hown, hts⟩ (r_X6_firstOf l dC dI L kd tys fr_4 H.size g.2.2.2.1 a1_ ma1_ ka1_ x2_) (cwV 1 hts (gV_ t_1692 t_1693 t_1694 t_193 t_1695) rfl rfl rfl (by decide +kernel) ⟨(Nat.le_of_ble_eq_true rfl), (Nat.le_of_ble_eq_true rfl)⟩) (pre3V g hK ma1_ ka1_ (by decide) (q := (RX6, TX6, 13)) rfl) rfl rfl hl.1 rfl (lv_room (Nat.le_of_ble_eq_true rfl)) dX10_drawArgument_60 ⟨(Nat.le_of_ble_eq_true rfl), (Nat.le_of_ble_eq_true rfl)⟩) g hK (by decide) (by decide) (fx' := [(6, 3, a1_, .int x_1)]) rfl (fun r_21 fr_21 H locs hp hMr_21 g => ?_)
      subst hQ
      exact W.iret (v := r_21) hx hb hr (fun t ht hW => ⟨⟨_, _, rfl, trivial, q3_of g hK ht hW⟩, g.2.2.1.F ht⟩) g.2.2.1.2.2 dX10_drawArgument_63
    refine lv_tableOut (tgt := 64) hx hb dX10_drawArgument_16 (by have a0 : y_6.toInt ≠ 0 := fun h => e_8 (Int32.toInt_inj.mp (h.trans (by decide))); have a1 : y_6.toInt ≠ 1 := fun h => e_13 (Int32.toInt_inj.mp (h.trans (by decide))); have a2 : y_6.toInt ≠ 2 := fun h => e_18 (Int32.toInt_inj.mp (h.trans (by decide))); omega) (by decide) ?_
    refine lv_aload_n hx hb dX10_drawArgument_64 rfl (lv_at hl 1 rfl) ?_
    refine g_getr (K := 135) (C := RX6) (T := TX6) (N := 13) hx hb hts (mc_ inX6) hown hK g ma1_ ka1_ (by decide) rfl 5 (by decide) rfl (hts _ (List.mem_cons_of_mem _ t_574)) (fun _ h9 => h9) rfl dX10_drawArgument_65 (fun a_22 ma_22 ka_22 g => ?_)
    refine lv_iload_n hx hb dX10_drawArgument_68 rfl (lv_at hl 2 rfl) ?_
    refine g_iald hx hb hK g ma_22 ka_22 (by decide) rfl (in_bd bx2_ (by decide)) dX10_drawArgument_69 (fun x_23 bx_23 cx_23 => ?_)
    refine lv_i2l hx hb dX10_drawArgument_70 rfl ?_
    refine lv_topl (fun y_24 ey_24 => ?_)
    refine lv_aload_n hx hb dX10_drawArgument_71 rfl (lv_at hl 1 rfl) ?_
    refine g_getr (K := 134) (C := RX6) (T := TX6) (N := 13) hx hb hts (mc_ inX6) hown hK g ma1_ ka1_ (by decide) rfl 4 (by decide) rfl (hts _ (List.mem_cons_of_mem _ t_571)) (fun _ h9 => h9) rfl dX10_drawArgument_72 (fun a_25 ma_25 ka_25 g => ?_)
    refine lv_iload_n hx hb dX10_drawArgument_75 rfl (lv_at hl 2 rfl) ?_
    refine g_iald hx hb hK g ma_25 ka_25 (by decide) rfl (in_bd bx2_ (by decide)) dX10_drawArgument_76 (fun x_26 bx_26 cx_26 => ?_)
    refine lv_i2l hx hb dX10_drawArgument_77 rfl ?_
    refine lv_topl (fun y_27 ey_27 => ?_)
    refine lv_lsub hx hb dX10_drawArgument_78 ?_
    refine lv_topl (fun y_28 ey_28 => ?_)
    refine lv_lconst (v := 1) hx hb dX10_drawArgument_79 (by decide) ?_
    refine lv_ladd hx hb dX10_drawArgument_80 ?_
    refine lv_topl (fun y_29 ey_29 => ?_)
    refine lv_lconst (v := 1) hx hb dX10_drawArgument_81 (by decide) ?_
    refine va_mmax_long hx hb (hml.trans hl.1.symm) hown (hts _ (List.mem_cons_of_mem _ t_1696)) (hts _ (List.mem_cons_of_mem _ t_1697)) (hts _ (List.mem_cons_of_mem _ t_204)) (hts _ (List.mem_cons_of_mem _ t_1698)) (Nat.le_of_ble_eq_true rfl) (Nat.le_of_ble_eq_true rfl) (Nat.le_of_ble_eq_true rfl) (Nat.le_of_ble_eq_true rfl) dX10_drawArgument_82 ?_
    refine lv_topl (fun y_30 ey_30 => ?_)
    refine lv_lstore_n (lv' := [(3, .long y_30), (0, .ref a0_), (1, .ref a1_), (2, .int x2_)]) hx hb dX10_drawArgument_85 rfl hl (by decide) rfl (fun ls hl => ?_)
    refine lv_aload_n hx hb dX10_drawArgument_86 rfl (lv_at hl 2 rfl) ?_
    refine g_getk (C := RX6) (T := TX6) (N := 13) hx hb hts (mc_ inX6) hown hK g rfl 4 (by decide) rfl (hts _ (List.mem_cons_of_mem _ t_571)) (fun _ h9 => h9) 0 rfl dX10_drawArgument_87 ?_
    refine lv_iload_n hx hb dX10_drawArgument_90 rfl (lv_at hl 3 rfl) ?_
    refine g_iald hx hb hK g ma_25 ka_25 (by decide) rfl (in_bd bx2_ (by decide)) dX10_drawArgument_91 (fun x_31 bx_31 cx_31 => ?_)
    obtain rfl : x_26 = x_31 := el_same cx_26 cx_31 rfl
    refine lv_i2l hx hb dX10_drawArgument_92 rfl ?_
    refine lv_topl (fun y_32 ey_32 => ?_)
    refine lv_aload_n hx hb dX10_drawArgument_93 rfl (lv_at hl 1 rfl) ?_
    refine g_calli (va_runV (As := []) (rest := [.long y_32]) ⟨hx, hb, hml, hown, hts⟩ (r_X10_drawNext l dC dI L kd tys fr_4 H.size g.2.2.2.1 a0_ ma0_ ka0_) (cwV 0 hts (gV_ t_1678 t_1680 t_80 t_194 t_1681) rfl rfl rfl (by decide +kernel) ⟨(Nat.le_of_ble_eq_true rfl), (Nat.le_of_ble_eq_true rfl)⟩) (pre3V g hK ma0_ ka0_ (by decide) (q := (RX10, TX10, 10)) rfl) rfl rfl hl.1 rfl (lv_room (Nat.le_of_ble_eq_true rfl)) dX10_drawArgument_94 ⟨(Nat.le_of_ble_eq_true rfl), (Nat.le_of_ble_eq_true rfl)⟩) g hK (by decide) (by decide) (fx' := [(6, 4, a1_, .ref a_25), (6, 5, a1_, .ref a_22), (6, 3, a1_, .int x_1)]) rfl (fun r_33 fr_33 H locs hp hMr_33 g => ?_)
    obtain ⟨h_34, -⟩ := hp
    refine lv_i2l hx hb dX10_drawArgument_97 rfl ?_
    refine lv_topl (fun y_35 ey_35 => ?_)
    refine lv_lload_n hx hb dX10_drawArgument_98 rfl (lv_at hl 0 rfl) ?_
    refine lv_lrem hx hb dX10_drawArgument_99 (mxl1 ey_30) ?_
    refine lv_topl (fun y_36 ey_36 => ?_)
    refine lv_ladd hx hb dX10_drawArgument_100 ?_
    refine lv_topl (fun y_37 ey_37 => ?_)
    refine lv_l2i hx hb dX10_drawArgument_101 rfl ?_
    refine lv_topi (fun y_38 ey_38 => ?_)
    subst hQ
    exact W.iret (v := y_38) hx hb hr (fun t ht hW => ⟨⟨_, _, rfl, trivial, q3_of g hK ht hW⟩, g.2.2.1.F ht⟩) g.2.2.1.2.2 dX10_drawArgument_102
  · have fc_2 := nlt_f c_2
    have b_39 : bd 0 2 x_1 := leL fc_2 bx_1 bx2_ (by decide)
    refine lv_iconst (v := 0) hx hb dX10_drawArgument_8 (by decide) ?_
    subst hQ
    exact W.iret (v := 0) hx hb hr (fun t ht hW => ⟨⟨_, _, rfl, trivial, q3_of g hK ht hW⟩, g.2.2.1.F ht⟩) g.2.2.1.2.2 dX10_drawArgument_9
set_option maxHeartbeats 4000000 in
set_option maxRecDepth 100000 in
theorem r_X10_drawCall (l : Launch) (dC : Nat → ClassId) (dI : Nat → Nat → Nat) (L : List Nat) (kd : Nat → Nat) (tys : List (ClassId × FieldType)) (f0 : Nat → va_E) (sz : Nat) (hWT : WT L kd tys f0) (a0_ : Nat) (ma0_ : a0_ ∈ L) (ka0_ : kd a0_ = 10) (a1_ : Nat) (ma1_ : a1_ ∈ L) (ka1_ : kd a1_ = 9) (q0_ : Nat) (mq0_ : q0_ ∈ L) (kq0_ : kd q0_ = 3) (hfx : Fs L kd f0 [(10, 3, a0_, .ref q0_)]) : Met l yX10_drawCall (.code yX10_drawCall cX10_drawCall 8 none :: lw_g) ({ frames := 2, cells := 0, slots := 0, locals := 51 }) (va_Pc [.ref a0_, .ref a1_] (P3 (dC, dI) L tys f0 sz)) (va_Qv (fun (f : Nat → va_E) => (∃ z0_ : Int32, bd 1 10 z0_ ∧ Fs L kd f [(3, 0, q0_, .int z0_)])) (Q3 (dC, dI) L kd tys [(3, 0), (10, 9)] [103, 122, 123] f0 sz) (pA L sz)) 0 0 (pA L sz) := by
  refine Met.ofW (cc := cX10_drawCall) (maxL := 8) (ret := none) (by decide) rfl ?_
  intro p e s m args below meth c s₁ B hml hv
  obtain ⟨rfl, hsz, hP, hK, hD0⟩ := hv
  have hx := B.exec
  have hb := B.bytes
  have hr := B.returns
  have hts := atoms_spec (ws := (.code yX10_drawCall cX10_drawCall 8 none :: lw_g)) B.pre
  have hown : s.vm.findClass RX10 = some m.cls := findClass_of_methodNamed B.named
  have hlocks := B.notSynchronized
  subst hsz
  have g : G3 (dC, dI) L kd tys s f0 [(3, 0), (10, 9)] [103, 122, 123] f0 s.heap [] [(10, 3, a0_, .ref q0_)] := G3.start hP hD0 hWT hfx
  have hl := lv_entry ([.ref a0_, .ref a1_]) (n := 8) (Nat.le_of_ble_eq_true rfl)
  rw [lg_entry_eq]
  generalize (lg_sl ([.ref a0_, .ref a1_]) ++ List.replicate (8 - (lg_sl ([.ref a0_, .ref a1_])).length) Slot.unset).toArray = ls at hl ⊢
  have hl : lv_has ls 8 [(0, .ref a0_), (1, .ref a1_)] := hl
  refine W_q (fun Q hQ => ?_)
  refine lv_aload_n hx hb dX10_drawCall_0 rfl (lv_at hl 0 rfl) ?_
  refine g_calli (va_runV (As := []) (rest := []) ⟨hx, hb, hml, hown, hts⟩ (r_X10_drawNext l dC dI L kd tys f0 s.heap.size g.2.2.2.1 a0_ ma0_ ka0_) (cwV 0 hts (gV_ t_1678 t_1680 t_80 t_194 t_1681) rfl rfl rfl (by decide +kernel) ⟨(Nat.le_of_ble_eq_true rfl), (Nat.le_of_ble_eq_true rfl)⟩) (pre3V g hK ma0_ ka0_ (by decide) (q := (RX10, TX10, 10)) rfl) rfl rfl hl.1 rfl (lv_room (Nat.le_of_ble_eq_true rfl)) dX10_drawCall_1 ⟨(Nat.le_of_ble_eq_true rfl), (Nat.le_of_ble_eq_true rfl)⟩) g hK (by decide) (by decide) (fx' := [(10, 3, a0_, .ref q0_)]) rfl (fun r_1 fr_1 H locs hp hMr_1 g => ?_)
  obtain ⟨h_2, -⟩ := hp
  refine lv_aload_n hx hb dX10_drawCall_4 rfl (lv_at hl 0 rfl) ?_
  refine g_getk (C := RX10) (T := TX10) (N := 10) hx hb hts (mc_ inX10) hown hK g rfl 3 (by decide) rfl (hts _ (List.mem_cons_of_mem _ t_916)) (fun _ h9 => h9) 0 rfl dX10_drawCall_5 ?_
  refine g_geti (C := RX3) (T := TX3) (N := 6) hx hb hts (mc_ inX3) hown hK g mq0_ kq0_ (by decide) rfl 4 (by decide) rfl (hts _ (List.mem_cons_of_mem _ t_814)) (fun _ h9 => h9) rfl dX10_drawCall_8 (fun x_3 bx_3 g => ?_)
  refine lv_iconst (v := 1) hx hb dX10_drawCall_11 (by decide) ?_
  have kb_1 : bd 1 1 (1 : Int32) := ⟨by decide, by decide⟩
  refine va_mmax hx hb (hml.trans hl.1.symm) hown (hts _ (List.mem_cons_of_mem _ t_1687)) (hts _ (List.mem_cons_of_mem _ t_1041)) (hts _ (List.mem_cons_of_mem _ t_204)) (hts _ (List.mem_cons_of_mem _ t_1042)) (Nat.le_of_ble_eq_true rfl) (Nat.le_of_ble_eq_true rfl) (Nat.le_of_ble_eq_true rfl) (Nat.le_of_ble_eq_true rfl) dX10_drawCall_12 ?_
  refine lv_topi (fun y_4 ey_4 => ?_)
  have ty_4 : y_4.toInt = max x_3.toInt (1 : Int32).toInt := by rw [ey_4]; exact mmax_ok _ _
  have b_5 : bd 1 3 y_4 := max_rg ty_4 bx_3 kb_1 (by decide)
  refine lv_irem hx hb dX10_drawCall_15 (nz_bd b_5 (Or.inl (by decide))) ?_
  refine lv_topi (fun y_6 ey_6 => ?_)
  have b_7 : bd 0 2 y_6 := rem_rg ey_6 h_2 b_5 (by decide)
  refine lv_istore_n (lv' := [(2, .int y_6), (0, .ref a0_), (1, .ref a1_)]) hx hb dX10_drawCall_16 rfl hl (by decide) rfl (fun ls hl => ?_)
  refine lv_aload_n hx hb dX10_drawCall_17 rfl (lv_at hl 1 rfl) ?_
  refine g_calli (va_runV (As := []) (rest := []) ⟨hx, hb, hml, hown, hts⟩ (r_X10_drawNext l dC dI L kd tys fr_1 H.size g.2.2.2.1 a0_ ma0_ ka0_) (cwV 0 hts (gV_ t_1678 t_1680 t_80 t_194 t_1681) rfl rfl rfl (by decide +kernel) ⟨(Nat.le_of_ble_eq_true rfl), (Nat.le_of_ble_eq_true rfl)⟩) (pre3V g hK ma0_ ka0_ (by decide) (q := (RX10, TX10, 10)) rfl) rfl rfl hl.1 rfl (lv_room (Nat.le_of_ble_eq_true rfl)) dX10_drawCall_18 ⟨(Nat.le_of_ble_eq_true rfl), (Nat.le_of_ble_eq_true rfl)⟩) g hK (by decide) (by decide) (fx' := [(3, 4, q0_, .int x_3), (10, 3, a0_, .ref q0_)]) rfl (fun r_8 fr_8 H locs hp hMr_8 g => ?_)
  obtain ⟨h_9, -⟩ := hp
  refine lv_aload_n hx hb dX10_drawCall_21 rfl (lv_at hl 2 rfl) ?_
  refine g_geti (C := RX9) (T := TX9) (N := 13) hx hb hts (mc_ inX9) hown hK g ma1_ ka1_ (by decide) rfl 8 (by decide) rfl (hts _ (List.mem_cons_of_mem _ t_501)) (fun _ h9 => h9) rfl dX10_drawCall_22 (fun x_10 bx_10 g => ?_)
  refine lv_iconst (v := 1) hx hb dX10_drawCall_25 (by decide) ?_
  refine va_mmax hx hb (hml.trans hl.1.symm) hown (hts _ (List.mem_cons_of_mem _ t_1687)) (hts _ (List.mem_cons_of_mem _ t_1041)) (hts _ (List.mem_cons_of_mem _ t_204)) (hts _ (List.mem_cons_of_mem _ t_1042)) (Nat.le_of_ble_eq_true rfl) (Nat.le_of_ble_eq_true rfl) (Nat.le_of_ble_eq_true rfl) (Nat.le_of_ble_eq_true rfl) dX10_drawCall_26 ?_
  refine lv_topi (fun y_11 ey_11 => ?_)
  have ty_11 : y_11.toInt = max x_10.toInt (1 : Int32).toInt := by rw [ey_11]; exact mmax_ok _ _
  have b_12 : bd 1 12 y_11 := max_rg ty_11 bx_10 kb_1 (by decide)
  refine lv_irem hx hb dX10_drawCall_29 (nz_bd b_12 (Or.inl (by decide))) ?_
  refine lv_topi (fun y_13 ey_13 => ?_)
  have b_14 : bd 0 11 y_13 := rem_rg ey_13 h_9 b_12 (by decide)
  refine lv_istore_n (lv' := [(3, .int y_13), (2, .int y_6), (0, .ref a0_), (1, .ref a1_)]) hx hb dX10_drawCall_30 rfl hl (by decide) rfl (fun ls hl => ?_)
  refine lv_aload_n hx hb dX10_drawCall_31 rfl (lv_at hl 2 rfl) ?_
  refine g_getr (K := 7) (C := RX10) (T := TX10) (N := 10) hx hb hts (mc_ inX10) hown hK g ma0_ ka0_ (by decide) rfl 0 (by decide) rfl (hts _ (List.mem_cons_of_mem _ t_912)) (fun _ h9 => h9) rfl dX10_drawCall_32 (fun a_15 ma_15 ka_15 g => ?_)
  refine g_getr (K := 137) (C := RX7) (T := TX7) (N := 19) hx hb hts (mc_ inX7) hown hK g ma_15 ka_15 (by decide) rfl 2 (by decide) rfl (hts _ (List.mem_cons_of_mem _ t_634)) (fun _ h9 => h9) rfl dX10_drawCall_35 (fun a_16 ma_16 ka_16 g => ?_)
  refine lv_aload_n hx hb dX10_drawCall_38 rfl (lv_at hl 3 rfl) ?_
  refine g_getr (K := 156) (C := RX9) (T := TX9) (N := 13) hx hb hts (mc_ inX9) hown hK g ma1_ ka1_ (by decide) rfl 9 (by decide) rfl (hts _ (List.mem_cons_of_mem _ t_509)) (fun _ h9 => h9) rfl dX10_drawCall_39 (fun a_17 ma_17 ka_17 g => ?_)
  refine lv_iload_n hx hb dX10_drawCall_42 rfl (lv_at hl 0 rfl) ?_
  refine g_iald hx hb hK g ma_17 ka_17 (by decide) rfl (in_bd b_14 (by decide)) dX10_drawCall_43 (fun x_18 bx_18 cx_18 => ?_)
  refine g_aald hx hb hK g ma_16 ka_16 (by decide) rfl (by decide) (in_bd bx_18 (by decide)) dX10_drawCall_44 (fun a_19 ma_19 ua_19 wa_19 => ?_)
  have ka_19 : kd a_19 = 6 := by omega
  refine lv_astore (lv' := [(4, .ref a_19), (3, .int y_13), (2, .int y_6), (0, .ref a0_), (1, .ref a1_)]) hx hb dX10_drawCall_45 hl (by decide) rfl (fun ls hl => ?_)
  refine lv_aload_n hx hb dX10_drawCall_47 rfl (lv_at hl 3 rfl) ?_
  refine lv_aload hx hb dX10_drawCall_48 (lv_at hl 0 rfl) ?_
  refine lv_iconst (v := 0) hx hb dX10_drawCall_50 (by decide) ?_
  have kb_0 : bd 0 0 (0 : Int32) := ⟨by decide, by decide⟩
  refine g_calli (va_runV (As := [.ref a_19, .int 0]) (rest := []) ⟨hx, hb, hml, hown, hts⟩ (r_X10_drawArgument l dC dI L kd tys fr_8 H.size g.2.2.2.1 a0_ ma0_ ka0_ a_19 ma_19 ka_19 0 kb_0) (cwV 2 hts (gV_ t_1688 t_1690 t_82 t_194 t_1691) rfl rfl rfl (by decide +kernel) ⟨(Nat.le_of_ble_eq_true rfl), (Nat.le_of_ble_eq_true rfl)⟩) (pre3V g hK ma0_ ka0_ (by decide) (q := (RX10, TX10, 10)) rfl) rfl rfl hl.1 rfl (lv_room (Nat.le_of_ble_eq_true rfl)) dX10_drawCall_51 ⟨(Nat.le_of_ble_eq_true rfl), (Nat.le_of_ble_eq_true rfl)⟩) g hK (by decide) (by decide) (fx' := [(9, 9, a1_, .ref a_17), (7, 2, a_15, .ref a_16), (10, 0, a0_, .ref a_15), (9, 8, a1_, .int x_10), (3, 4, q0_, .int x_3), (10, 3, a0_, .ref q0_)]) rfl (fun r_20 fr_20 H locs hp hMr_20 g => ?_)
  refine lv_istore (lv' := [(5, .int r_20), (4, .ref a_19), (3, .int y_13), (2, .int y_6), (0, .ref a0_), (1, .ref a1_)]) hx hb dX10_drawCall_54 hl (by decide) rfl (fun ls hl => ?_)
  refine lv_aload_n hx hb dX10_drawCall_56 rfl (lv_at hl 4 rfl) ?_
  refine lv_aload hx hb dX10_drawCall_57 (lv_at hl 1 rfl) ?_
  refine lv_iconst (v := 1) hx hb dX10_drawCall_59 (by decide) ?_
  refine g_calli (va_runV (As := [.ref a_19, .int 1]) (rest := []) ⟨hx, hb, hml, hown, hts⟩ (r_X10_drawArgument_2 l dC dI L kd tys fr_20 H.size g.2.2.2.1 a0_ ma0_ ka0_ a_19 ma_19 ka_19 1 kb_1) (cwV 2 hts (gV_ t_1688 t_1690 t_82 t_194 t_1691) rfl rfl rfl (by decide +kernel) ⟨(Nat.le_of_ble_eq_true rfl), (Nat.le_of_ble_eq_true rfl)⟩) (pre3V g hK ma0_ ka0_ (by decide) (q := (RX10, TX10, 10)) rfl) rfl rfl hl.1 rfl (lv_room (Nat.le_of_ble_eq_true rfl)) dX10_drawCall_60 ⟨(Nat.le_of_ble_eq_true rfl), (Nat.le_of_ble_eq_true rfl)⟩) g hK (by decide) (by decide) (fx' := [(9, 9, a1_, .ref a_17), (7, 2, a_15, .ref a_16), (10, 0, a0_, .ref a_15), (9, 8, a1_, .int x_10), (3, 4, q0_, .int x_3), (10, 3, a0_, .ref q0_)]) rfl (fun r_21 fr_21 H locs hp hMr_21 g => ?_)
  refine lv_istore (lv' := [(6, .int r_21), (5, .int r_20), (4, .ref a_19), (3, .int y_13), (2, .int y_6), (0, .ref a0_), (1, .ref a1_)]) hx hb dX10_drawCall_63 hl (by decide) rfl (fun ls hl => ?_)
  refine lv_aload_n hx hb dX10_drawCall_65 rfl (lv_at hl 5 rfl) ?_
  refine lv_aload hx hb dX10_drawCall_66 (lv_at hl 2 rfl) ?_
  refine lv_iconst (v := 2) hx hb dX10_drawCall_68 (by decide) ?_
  have kb_2 : bd 2 2 (2 : Int32) := ⟨by decide, by decide⟩
  refine g_calli (va_runV (As := [.ref a_19, .int 2]) (rest := []) ⟨hx, hb, hml, hown, hts⟩ (r_X10_drawArgument_3 l dC dI L kd tys fr_21 H.size g.2.2.2.1 a0_ ma0_ ka0_ a_19 ma_19 ka_19 2 kb_2) (cwV 2 hts (gV_ t_1688 t_1690 t_82 t_194 t_1691) rfl rfl rfl (by decide +kernel) ⟨(Nat.le_of_ble_eq_true rfl), (Nat.le_of_ble_eq_true rfl)⟩) (pre3V g hK ma0_ ka0_ (by decide) (q := (RX10, TX10, 10)) rfl) rfl rfl hl.1 rfl (lv_room (Nat.le_of_ble_eq_true rfl)) dX10_drawCall_69 ⟨(Nat.le_of_ble_eq_true rfl), (Nat.le_of_ble_eq_true rfl)⟩) g hK (by decide) (by decide) (fx' := [(9, 9, a1_, .ref a_17), (7, 2, a_15, .ref a_16), (10, 0, a0_, .ref a_15), (9, 8, a1_, .int x_10), (3, 4, q0_, .int x_3), (10, 3, a0_, .ref q0_)]) rfl (fun r_22 fr_22 H locs hp hMr_22 g => ?_)
  refine lv_istore (lv' := [(7, .int r_22), (6, .int r_21), (5, .int r_20), (4, .ref a_19), (3, .int y_13), (2, .int y_6), (0, .ref a0_), (1, .ref a1_)]) hx hb dX10_drawCall_72 hl (by decide) rfl (fun ls hl => ?_)
  refine lv_aload_n hx hb dX10_drawCall_74 rfl (lv_at hl 6 rfl) ?_
  refine g_getk (C := RX10) (T := TX10) (N := 10) hx hb hts (mc_ inX10) hown hK g rfl 3 (by decide) rfl (hts _ (List.mem_cons_of_mem _ t_916)) (fun _ h9 => h9) 5 rfl dX10_drawCall_75 ?_
  refine lv_iload_n hx hb dX10_drawCall_78 rfl (lv_at hl 5 rfl) ?_
  refine lv_iload_n hx hb dX10_drawCall_79 rfl (lv_at hl 4 rfl) ?_
  refine lv_iload hx hb dX10_drawCall_80 (lv_at hl 2 rfl) ?_
  refine lv_iload hx hb dX10_drawCall_82 (lv_at hl 1 rfl) ?_
  refine lv_iload hx hb dX10_drawCall_84 (lv_at hl 0 rfl) ?_
  refine g_callv (va_runV (As := [.int y_6, .int y_13, .int r_20, .int r_21, .int r_22]) (rest := []) ⟨hx, hb, hml, hown, hts⟩ (r_X3_addCall l dC dI L kd tys fr_22 H.size g.2.2.2.1 q0_ mq0_ kq0_ y_6 b_7 y_13 b_14 r_20 r_21 r_22) (cwV 5 hts (gV_ t_1514 t_1515 t_1516 t_196 t_1517) rfl rfl rfl (by decide +kernel) ⟨(Nat.le_of_ble_eq_true rfl), (Nat.le_of_ble_eq_true rfl)⟩) (pre3V g hK mq0_ kq0_ (by decide) (q := (RX3, TX3, 6)) rfl) rfl rfl hl.1 rfl (lv_room (Nat.le_of_ble_eq_true rfl)) dX10_drawCall_86 ⟨(Nat.le_of_ble_eq_true rfl), (Nat.le_of_ble_eq_true rfl)⟩) g hK (by decide) (by decide) (fx' := [(9, 9, a1_, .ref a_17), (7, 2, a_15, .ref a_16), (10, 0, a0_, .ref a_15), (9, 8, a1_, .int x_10), (3, 4, q0_, .int x_3), (10, 3, a0_, .ref q0_)]) rfl (fun fr_23 H locs hp hMr_23 g => ?_)
  obtain ⟨x_24, h_25, hF_26⟩ := hp
  have g := g.more hF_26
  subst hQ
  exact W.vret hx hb hr (fun t ht hW => ⟨⟨_, rfl, ⟨x_24, h_25, (g.fcts [0] rfl)⟩, q3_of g hK ht hW⟩, g.2.2.1.F ht⟩) g.2.2.1.2.2 dX10_drawCall_89
set_option maxHeartbeats 4000000 in
set_option maxRecDepth 100000 in
theorem r_X3_addMake_4 (l : Launch) (dC : Nat → ClassId) (dI : Nat → Nat → Nat) (L : List Nat) (kd : Nat → Nat) (tys : List (ClassId × FieldType)) (f0 : Nat → va_E) (sz : Nat) (hWT : WT L kd tys f0) (a0_ : Nat) (ma0_ : a0_ ∈ L) (ka0_ : kd a0_ = 3) (x1_ : Int32) (bx1_ : bd 0 7 x1_) (y0_ : Int32) (by0_ : bd 1 10 y0_) (y1_ : Int32) (by1_ : bd 3 3 y1_) (hfx : Fs L kd f0 [(3, 0, a0_, .int y0_), (3, 4, a0_, .int y1_)]) : Met l yX3_addMake (.code yX3_addMake cX3_addMake 2 none :: lw_g) ({ frames := 0, cells := 0, slots := 0, locals := 0 }) (va_Pc [.ref a0_, .int x1_] (P3 (dC, dI) L tys f0 sz)) (va_Qv (fun (f : Nat → va_E) => (True)) (Q3 (dC, dI) L kd tys [] [] f0 sz) (pA L sz)) 0 0 (pA L sz) := by
  refine Met.ofW (cc := cX3_addMake) (maxL := 2) (ret := none) (by decide) rfl ?_
  intro p e s m args below meth c s₁ B hml hv
  obtain ⟨rfl, hsz, hP, hK, hD0⟩ := hv
  have hx := B.exec
  have hb := B.bytes
  have hr := B.returns
  have hts := atoms_spec (ws := (.code yX3_addMake cX3_addMake 2 none :: lw_g)) B.pre
  have hown : s.vm.findClass RX3 = some m.cls := findClass_of_methodNamed B.named
  have hlocks := B.notSynchronized
  subst hsz
  have g : G3 (dC, dI) L kd tys s f0 [] [] f0 s.heap [] [(3, 0, a0_, .int y0_), (3, 4, a0_, .int y1_)] := G3.start hP hD0 hWT hfx
  have hl := lv_entry ([.ref a0_, .int x1_]) (n := 2) (Nat.le_of_ble_eq_true rfl)
  rw [lg_entry_eq]
  generalize (lg_sl ([.ref a0_, .int x1_]) ++ List.replicate (2 - (lg_sl ([.ref a0_, .int x1_])).length) Slot.unset).toArray = ls at hl ⊢
  have hl : lv_has ls 2 [(0, .ref a0_), (1, .int x1_)] := hl
  refine W_q (fun Q hQ => ?_)
  refine lv_aload_n hx hb dX3_addMake_0 rfl (lv_at hl 0 rfl) ?_
  refine g_getk (C := RX3) (T := TX3) (N := 6) hx hb hts (mc_ inX3) hown hK g rfl 0 (by decide) rfl (hts _ (List.mem_cons_of_mem _ t_801)) (fun _ h9 => h9) 0 rfl dX3_addMake_1 ?_
  refine lv_bipush (v := 10) hx hb dX3_addMake_4 (by decide) ?_
  have kb_10 : bd 10 10 (10 : Int32) := ⟨by decide, by decide⟩
  refine lv_icmp_ge (tgt := 63) hx hb dX3_addMake_6 (by decide) (fun c_1 => ?_) (fun c_1 => ?_)
  · have fc_1 := le_f c_1
    have b_2 : bd 10 10 y0_ := leR fc_1 kb_10 by0_ (by decide)
    subst hQ
    exact W.vret hx hb hr (fun t ht hW => ⟨⟨_, rfl, trivial, q3_of g hK ht hW⟩, g.2.2.1.F ht⟩) g.2.2.1.2.2 dX3_addMake_63
  · have fc_1 := nle_f c_1
    have b_3 : bd 1 9 y0_ := ltL fc_1 by0_ kb_10 (by decide)
    refine lv_aload_n hx hb dX3_addMake_9 rfl (lv_at hl 0 rfl) ?_
    refine g_getk (C := RX3) (T := TX3) (N := 6) hx hb hts (mc_ inX3) hown hK g rfl 4 (by decide) rfl (hts _ (List.mem_cons_of_mem _ t_813)) (fun _ h9 => h9) 1 rfl dX3_addMake_10 ?_
    refine lv_iconst (v := 3) hx hb dX3_addMake_13 (by decide) ?_
    have kb_3 : bd 3 3 (3 : Int32) := ⟨by decide, by decide⟩
    refine lv_icmp_ge (tgt := 63) hx hb dX3_addMake_14 (by decide) (fun c_4 => ?_) (fun c_4 => ?_)
    · have fc_4 := le_f c_4
      subst hQ
      exact W.vret hx hb hr (fun t ht hW => ⟨⟨_, rfl, trivial, q3_of g hK ht hW⟩, g.2.2.1.F ht⟩) g.2.2.1.2.2 dX3_addMake_63
    · have fc_4 := nle_f c_4
      have b_5 : bd 3 2 y1_ := ltL fc_4 by1_ kb_3 (by decide)
      exact bd_no b_5 (by decide)
set_option maxHeartbeats 4000000 in
set_option maxRecDepth 100000 in
theorem r_X3_setTo_6 (l : Launch) (dC : Nat → ClassId) (dI : Nat → Nat → Nat) (L : List Nat) (kd : Nat → Nat) (tys : List (ClassId × FieldType)) (f0 : Nat → va_E) (sz : Nat) (hWT : WT L kd tys f0) (a0_ : Nat) (ma0_ : a0_ ∈ L) (ka0_ : kd a0_ = 3) (x1_ : Int32) (bx1_ : bd 1 9 x1_) (x2_ : Int32) (bx2_ : bd 1 2 x2_) (x3_ : Int32) (bx3_ : bd (-1) (-1) x3_) (x4_ : Int32) (bx4_ : bd 0 7 x4_) (x5_ : Int32) (bx5_ : bd 0 0 x5_) (x6_ : Int32) (bx6_ : bd 0 0 x6_) (y0_ : Int32) (by0_ : bd 1 9 y0_) (y1_ : Int32) (by1_ : bd 1 2 y1_) (hfx : Fs L kd f0 [(3, 0, a0_, .int y0_), (3, 4, a0_, .int y1_)]) : Met l yX3_setTo (.code yX3_setTo cX3_setTo 7 none :: lw_g) ({ frames := 0, cells := 0, slots := 0, locals := 0 }) (va_Pc [.ref a0_, .int x1_, .int x2_, .int x3_, .int x4_, .int x5_, .int x6_] (P3 (dC, dI) L tys f0 sz)) (va_Qv (fun (f : Nat → va_E) => (True)) (Q3 (dC, dI) L kd tys [] [103, 122, 123] f0 sz) (pA L sz)) 0 0 (pA L sz) := by
  refine Met.ofW (cc := cX3_setTo) (maxL := 7) (ret := none) (by decide) rfl ?_
  intro p e s m args below meth c s₁ B hml hv
  obtain ⟨rfl, hsz, hP, hK, hD0⟩ := hv
  have hx := B.exec
  have hb := B.bytes
  have hr := B.returns
  have hts := atoms_spec (ws := (.code yX3_setTo cX3_setTo 7 none :: lw_g)) B.pre
  have hown : s.vm.findClass RX3 = some m.cls := findClass_of_methodNamed B.named
  have hlocks := B.notSynchronized
  subst hsz
  have g : G3 (dC, dI) L kd tys s f0 [] [103, 122, 123] f0 s.heap [] [(3, 0, a0_, .int y0_), (3, 4, a0_, .int y1_)] := G3.start hP hD0 hWT hfx
  have hl := lv_entry ([.ref a0_, .int x1_, .int x2_, .int x3_, .int x4_, .int x5_, .int x6_]) (n := 7) (Nat.le_of_ble_eq_true rfl)
  rw [lg_entry_eq]
  generalize (lg_sl ([.ref a0_, .int x1_, .int x2_, .int x3_, .int x4_, .int x5_, .int x6_]) ++ List.replicate (7 - (lg_sl ([.ref a0_, .int x1_, .int x2_, .int x3_, .int x4_, .int x5_, .int x6_])).length) Slot.unset).toArray = ls at hl ⊢
  have hl : lv_has ls 7 [(0, .ref a0_), (1, .int x1_), (2, .int x2_), (3, .int x3_), (4, .int x4_), (5, .int x5_), (6, .int x6_)] := hl
  refine W_q (fun Q hQ => ?_)
  refine lv_aload_n hx hb dX3_setTo_0 rfl (lv_at hl 0 rfl) ?_
  refine g_getr (K := 122) (C := RX3) (T := TX3) (N := 6) hx hb hts (mc_ inX3) hown hK g ma0_ ka0_ (by decide) rfl 1 (by decide) rfl (hts _ (List.mem_cons_of_mem _ t_804)) (fun _ h9 => h9) rfl dX3_setTo_1 (fun a_1 ma_1 ka_1 g => ?_)
  refine lv_iload_n hx hb dX3_setTo_4 rfl (lv_at hl 1 rfl) ?_
  refine lv_iload_n hx hb dX3_setTo_5 rfl (lv_at hl 2 rfl) ?_
  refine g_iast hx hb hK g ma_1 ka_1 (by decide) rfl (in_bd bx1_ (by decide)) (bd_sub bx2_ (by decide)) (by decide) dX3_setTo_6 (fun f H locs hM_2 g => ?_)
  refine lv_aload_n hx hb dX3_setTo_7 rfl (lv_at hl 0 rfl) ?_
  refine g_getr (K := 123) (C := RX3) (T := TX3) (N := 6) hx hb hts (mc_ inX3) hown hK g ma0_ ka0_ (by decide) rfl 2 (by decide) rfl (hts _ (List.mem_cons_of_mem _ t_807)) (fun _ h9 => h9) rfl dX3_setTo_8 (fun a_3 ma_3 ka_3 g => ?_)
  refine lv_iload_n hx hb dX3_setTo_11 rfl (lv_at hl 1 rfl) ?_
  refine lv_iload_n hx hb dX3_setTo_12 rfl (lv_at hl 3 rfl) ?_
  refine g_iast hx hb hK g ma_3 ka_3 (by decide) rfl (in_bd bx1_ (by decide)) (bd_sub bx3_ (by decide)) (by decide) dX3_setTo_13 (fun f H locs hM_4 g => ?_)
  refine lv_aload_n hx hb dX3_setTo_14 rfl (lv_at hl 0 rfl) ?_
  refine g_getr (K := 124) (C := RX3) (T := TX3) (N := 6) hx hb hts (mc_ inX3) hown hK g ma0_ ka0_ (by decide) rfl 3 (by decide) rfl (hts _ (List.mem_cons_of_mem _ t_810)) (fun _ h9 => h9) rfl dX3_setTo_15 (fun a_5 ma_5 ka_5 g => ?_)
  refine lv_iload_n hx hb dX3_setTo_18 rfl (lv_at hl 1 rfl) ?_
  refine g_aald hx hb hK g ma_5 ka_5 (by decide) rfl (by decide) (in_bd bx1_ (by decide)) dX3_setTo_19 (fun a_6 ma_6 ua_6 wa_6 => ?_)
  have ka_6 : kd a_6 = 103 := by omega
  refine lv_iconst (v := 0) hx hb dX3_setTo_20 (by decide) ?_
  refine lv_iload hx hb dX3_setTo_21 (lv_at hl 4 rfl) ?_
  refine g_iast hx hb hK g ma_6 ka_6 (by decide) rfl (by unfold vp_in; decide) (bd_sub bx4_ (by decide)) (by decide) dX3_setTo_23 (fun f H locs hM_7 g => ?_)
  refine lv_aload_n hx hb dX3_setTo_24 rfl (lv_at hl 0 rfl) ?_
  refine g_getk (C := RX3) (T := TX3) (N := 6) hx hb hts (mc_ inX3) hown hK g rfl 3 (by decide) rfl (hts _ (List.mem_cons_of_mem _ t_810)) (fun _ h9 => h9) 0 rfl dX3_setTo_25 ?_
  refine lv_iload_n hx hb dX3_setTo_28 rfl (lv_at hl 1 rfl) ?_
  refine g_aald hx hb hK g ma_5 ka_5 (by decide) rfl (by decide) (in_bd bx1_ (by decide)) dX3_setTo_29 (fun a_8 ma_8 ua_8 wa_8 => ?_)
  have ka_8 : kd a_8 = 103 := by omega
  refine lv_iconst (v := 1) hx hb dX3_setTo_30 (by decide) ?_
  refine lv_iload hx hb dX3_setTo_31 (lv_at hl 5 rfl) ?_
  refine g_iast hx hb hK g ma_8 ka_8 (by decide) rfl (by unfold vp_in; decide) (bd_sub bx5_ (by decide)) (by decide) dX3_setTo_33 (fun f H locs hM_9 g => ?_)
  refine lv_aload_n hx hb dX3_setTo_34 rfl (lv_at hl 0 rfl) ?_
  refine g_getk (C := RX3) (T := TX3) (N := 6) hx hb hts (mc_ inX3) hown hK g rfl 3 (by decide) rfl (hts _ (List.mem_cons_of_mem _ t_810)) (fun _ h9 => h9) 0 rfl dX3_setTo_35 ?_
  refine lv_iload_n hx hb dX3_setTo_38 rfl (lv_at hl 1 rfl) ?_
  refine g_aald hx hb hK g ma_5 ka_5 (by decide) rfl (by decide) (in_bd bx1_ (by decide)) dX3_setTo_39 (fun a_10 ma_10 ua_10 wa_10 => ?_)
  have ka_10 : kd a_10 = 103 := by omega
  refine lv_iconst (v := 2) hx hb dX3_setTo_40 (by decide) ?_
  refine lv_iload hx hb dX3_setTo_41 (lv_at hl 6 rfl) ?_
  refine g_iast hx hb hK g ma_10 ka_10 (by decide) rfl (by unfold vp_in; decide) (bd_sub bx6_ (by decide)) (by decide) dX3_setTo_43 (fun f H locs hM_11 g => ?_)
  subst hQ
  exact W.vret hx hb hr (fun t ht hW => ⟨⟨_, rfl, trivial, q3_of g hK ht hW⟩, g.2.2.1.F ht⟩) g.2.2.1.2.2 dX3_setTo_44
set_option maxHeartbeats 4000000 in
set_option maxRecDepth 100000 in
theorem r_X3_addMake_5 (l : Launch) (dC : Nat → ClassId) (dI : Nat → Nat → Nat) (L : List Nat) (kd : Nat → Nat) (tys : List (ClassId × FieldType)) (f0 : Nat → va_E) (sz : Nat) (hWT : WT L kd tys f0) (a0_ : Nat) (ma0_ : a0_ ∈ L) (ka0_ : kd a0_ = 3) (x1_ : Int32) (bx1_ : bd 0 7 x1_) (y0_ : Int32) (by0_ : bd 1 10 y0_) (y1_ : Int32) (by1_ : bd 1 2 y1_) (hfx : Fs L kd f0 [(3, 0, a0_, .int y0_), (3, 4, a0_, .int y1_)]) : Met l yX3_addMake (.code yX3_addMake cX3_addMake 2 none :: lw_g) ({ frames := 1, cells := 0, slots := 0, locals := 26 }) (va_Pc [.ref a0_, .int x1_] (P3 (dC, dI) L tys f0 sz)) (va_Qv (fun (f : Nat → va_E) => (∃ z0_ : Int32, bd 2 10 z0_ ∧ ∃ z1_ : Int32, bd 1 3 z1_ ∧ Fs L kd f [(3, 0, a0_, .int z0_), (3, 4, a0_, .int z1_)])) (Q3 (dC, dI) L kd tys [(3, 0), (3, 4)] [103, 122, 123, 125] f0 sz) (pA L sz)) 0 0 (pA L sz) := by
  refine Met.ofW (cc := cX3_addMake) (maxL := 2) (ret := none) (by decide) rfl ?_
  intro p e s m args below meth c s₁ B hml hv
  obtain ⟨rfl, hsz, hP, hK, hD0⟩ := hv
  have hx := B.exec
  have hb := B.bytes
  have hr := B.returns
  have hts := atoms_spec (ws := (.code yX3_addMake cX3_addMake 2 none :: lw_g)) B.pre
  have hown : s.vm.findClass RX3 = some m.cls := findClass_of_methodNamed B.named
  have hlocks := B.notSynchronized
  subst hsz
  have g : G3 (dC, dI) L kd tys s f0 [(3, 0), (3, 4)] [103, 122, 123, 125] f0 s.heap [] [(3, 0, a0_, .int y0_), (3, 4, a0_, .int y1_)] := G3.start hP hD0 hWT hfx
  have hl := lv_entry ([.ref a0_, .int x1_]) (n := 2) (Nat.le_of_ble_eq_true rfl)
  rw [lg_entry_eq]
  generalize (lg_sl ([.ref a0_, .int x1_]) ++ List.replicate (2 - (lg_sl ([.ref a0_, .int x1_])).length) Slot.unset).toArray = ls at hl ⊢
  have hl : lv_has ls 2 [(0, .ref a0_), (1, .int x1_)] := hl
  refine W_q (fun Q hQ => ?_)
  refine lv_aload_n hx hb dX3_addMake_0 rfl (lv_at hl 0 rfl) ?_
  refine g_getk (C := RX3) (T := TX3) (N := 6) hx hb hts (mc_ inX3) hown hK g rfl 0 (by decide) rfl (hts _ (List.mem_cons_of_mem _ t_801)) (fun _ h9 => h9) 0 rfl dX3_addMake_1 ?_
  refine lv_bipush (v := 10) hx hb dX3_addMake_4 (by decide) ?_
  have kb_10 : bd 10 10 (10 : Int32) := ⟨by decide, by decide⟩
  refine lv_icmp_ge (tgt := 63) hx hb dX3_addMake_6 (by decide) (fun c_1 => ?_) (fun c_1 => ?_)
  · have fc_1 := le_f c_1
    have b_2 : bd 10 10 y0_ := leR fc_1 kb_10 by0_ (by decide)
    subst hQ
    exact W.vret hx hb hr (fun t ht hW => ⟨⟨_, rfl, ⟨y0_, (bd_sub b_2 (by decide)), y1_, (bd_sub by1_ (by decide)), (g.fcts [0, 1] rfl)⟩, q3_of g hK ht hW⟩, g.2.2.1.F ht⟩) g.2.2.1.2.2 dX3_addMake_63
  · have fc_1 := nle_f c_1
    have b_3 : bd 1 9 y0_ := ltL fc_1 by0_ kb_10 (by decide)
    refine lv_aload_n hx hb dX3_addMake_9 rfl (lv_at hl 0 rfl) ?_
    refine g_getk (C := RX3) (T := TX3) (N := 6) hx hb hts (mc_ inX3) hown hK g rfl 4 (by decide) rfl (hts _ (List.mem_cons_of_mem _ t_813)) (fun _ h9 => h9) 1 rfl dX3_addMake_10 ?_
    refine lv_iconst (v := 3) hx hb dX3_addMake_13 (by decide) ?_
    have kb_3 : bd 3 3 (3 : Int32) := ⟨by decide, by decide⟩
    refine lv_icmp_ge (tgt := 63) hx hb dX3_addMake_14 (by decide) (fun c_4 => ?_) (fun c_4 => ?_)
    · have fc_4 := le_f c_4
      have b_5 : bd 3 2 (3 : Int32) := leL fc_4 kb_3 by1_ (by decide)
      exact bd_no (eqX rfl b_5 kb_3 (lo := 3) (hi := 2) (by decide)) (by decide)
    · have fc_4 := nle_f c_4
      refine lv_aload_n hx hb dX3_addMake_17 rfl (lv_at hl 0 rfl) ?_
      refine g_getr (K := 125) (C := RX3) (T := TX3) (N := 6) hx hb hts (mc_ inX3) hown hK g ma0_ ka0_ (by decide) rfl 5 (by decide) rfl (hts _ (List.mem_cons_of_mem _ t_815)) (fun _ h9 => h9) rfl dX3_addMake_18 (fun a_6 ma_6 ka_6 g => ?_)
      refine lv_aload_n hx hb dX3_addMake_21 rfl (lv_at hl 0 rfl) ?_
      refine g_getk (C := RX3) (T := TX3) (N := 6) hx hb hts (mc_ inX3) hown hK g rfl 4 (by decide) rfl (hts _ (List.mem_cons_of_mem _ t_813)) (fun _ h9 => h9) 2 rfl dX3_addMake_22 ?_
      refine lv_iload_n hx hb dX3_addMake_25 rfl (lv_at hl 1 rfl) ?_
      refine g_iast hx hb hK g ma_6 ka_6 (by decide) rfl (in_bd by1_ (by decide)) bx1_ (by decide) dX3_addMake_26 (fun f H locs hM_7 g => ?_)
      refine lv_aload_n hx hb dX3_addMake_27 rfl (lv_at hl 0 rfl) ?_
      refine lv_aload_n hx hb dX3_addMake_28 rfl (lv_at hl 0 rfl) ?_
      refine g_getk (C := RX3) (T := TX3) (N := 6) hx hb hts (mc_ inX3) hown hK g rfl 0 (by decide) rfl (hts _ (List.mem_cons_of_mem _ t_801)) (fun _ h9 => h9) 1 rfl dX3_addMake_29 ?_
      refine lv_aload_n hx hb dX3_addMake_32 rfl (lv_at hl 0 rfl) ?_
      refine g_getk (C := RX3) (T := TX3) (N := 6) hx hb hts (mc_ inX3) hown hK g rfl 4 (by decide) rfl (hts _ (List.mem_cons_of_mem _ t_813)) (fun _ h9 => h9) 2 rfl dX3_addMake_33 ?_
      refine lv_iconst (v := (-1)) hx hb dX3_addMake_36 (by decide) ?_
      refine lv_iload_n hx hb dX3_addMake_37 rfl (lv_at hl 1 rfl) ?_
      refine lv_iconst (v := 0) hx hb dX3_addMake_38 (by decide) ?_
      refine lv_iconst (v := 0) hx hb dX3_addMake_39 (by decide) ?_
      have kb_m1 : bd (-1) (-1) ((-1) : Int32) := ⟨by decide, by decide⟩
      have kb_0 : bd 0 0 (0 : Int32) := ⟨by decide, by decide⟩
      refine g_callv (va_runV (As := [.int y0_, .int y1_, .int (-1), .int x1_, .int 0, .int 0]) (rest := []) ⟨hx, hb, hml, hown, hts⟩ (r_X3_setTo_6 l dC dI L kd tys f H.size g.2.2.2.1 a0_ ma0_ ka0_ y0_ b_3 y1_ by1_ (-1) kb_m1 x1_ bx1_ 0 kb_0 0 kb_0 y0_ b_3 y1_ by1_ (g.fcts [1, 2] rfl)) (cwV 6 hts (gV_ t_1485 t_1487 t_52 t_196 t_1488) rfl rfl rfl (by decide +kernel) ⟨(Nat.le_of_ble_eq_true rfl), (Nat.le_of_ble_eq_true rfl)⟩) (pre3V g hK ma0_ ka0_ (by decide) (q := (RX3, TX3, 6)) rfl) rfl rfl hl.1 rfl (lv_room (Nat.le_of_ble_eq_true rfl)) dX3_addMake_40 ⟨(Nat.le_of_ble_eq_true rfl), (Nat.le_of_ble_eq_true rfl)⟩) g hK (by decide) (by decide) (fx' := [(3, 5, a0_, .ref a_6), (3, 0, a0_, .int y0_), (3, 4, a0_, .int y1_)]) rfl (fun fr_8 H locs hp hMr_8 g => ?_)
      refine lv_aload_n hx hb dX3_addMake_43 rfl (lv_at hl 0 rfl) ?_
      refine lv_dup hx hb dX3_addMake_44 rfl ?_
      refine g_getk (C := RX3) (T := TX3) (N := 6) hx hb hts (mc_ inX3) hown hK g rfl 4 (by decide) rfl (hts _ (List.mem_cons_of_mem _ t_813)) (fun _ h9 => h9) 2 rfl dX3_addMake_45 ?_
      refine lv_iconst (v := 1) hx hb dX3_addMake_48 (by decide) ?_
      have kb_1 : bd 1 1 (1 : Int32) := ⟨by decide, by decide⟩
      refine lv_iadd hx hb dX3_addMake_49 ?_
      refine lv_topi (fun y_9 ey_9 => ?_)
      have ty_9 := add_bd ey_9 by1_ kb_1 (by decide)
      have b_10 : bd 2 3 y_9 := add_rg ty_9 by1_ kb_1 (by decide)
      refine g_put (C := RX3) (T := TX3) (N := 6) hx hb hts (mc_ inX3) tyX3 tyX3_ok nmX3 hown hK g ma0_ ka0_ (by decide) rfl 4 (by decide) (hts _ (List.mem_cons_of_mem _ t_813)) (fun _ h9 => h9) rfl rfl (okV_i (bd_sub b_10 (by decide))) rfl rfl (by decide) (Or.inr (Or.inl (by decide))) (fx' := [(3, 5, a0_, .ref a_6), (3, 0, a0_, .int y0_)]) rfl dX3_addMake_50 (fun f H locs hM_11 g => ?_)
      refine lv_aload_n hx hb dX3_addMake_53 rfl (lv_at hl 0 rfl) ?_
      refine lv_dup hx hb dX3_addMake_54 rfl ?_
      refine g_getk (C := RX3) (T := TX3) (N := 6) hx hb hts (mc_ inX3) hown hK g rfl 0 (by decide) rfl (hts _ (List.mem_cons_of_mem _ t_801)) (fun _ h9 => h9) 2 rfl dX3_addMake_55 ?_
      refine lv_iconst (v := 1) hx hb dX3_addMake_58 (by decide) ?_
      refine lv_iadd hx hb dX3_addMake_59 ?_
      refine lv_topi (fun y_12 ey_12 => ?_)
      have ty_12 := add_bd ey_12 b_3 kb_1 (by decide)
      have b_13 : bd 2 10 y_12 := add_rg ty_12 b_3 kb_1 (by decide)
      refine g_put (C := RX3) (T := TX3) (N := 6) hx hb hts (mc_ inX3) tyX3 tyX3_ok nmX3 hown hK g ma0_ ka0_ (by decide) rfl 0 (by decide) (hts _ (List.mem_cons_of_mem _ t_801)) (fun _ h9 => h9) rfl rfl (okV_i (bd_sub b_13 (by decide))) rfl rfl (by decide) (Or.inr (Or.inl (by decide))) (fx' := [(3, 4, a0_, .int y_9), (3, 5, a0_, .ref a_6)]) rfl dX3_addMake_60 (fun f H locs hM_14 g => ?_)
      subst hQ
      exact W.vret hx hb hr (fun t ht hW => ⟨⟨_, rfl, ⟨y_12, b_13, y_9, (bd_sub b_10 (by decide)), (g.fcts [0, 1] rfl)⟩, q3_of g hK ht hW⟩, g.2.2.1.F ht⟩) g.2.2.1.2.2 dX3_addMake_63
set_option maxHeartbeats 4000000 in
set_option maxRecDepth 100000 in
theorem r_X10_countSpare (l : Launch) (dC : Nat → ClassId) (dI : Nat → Nat → Nat) (L : List Nat) (kd : Nat → Nat) (tys : List (ClassId × FieldType)) (f0 : Nat → va_E) (sz : Nat) (hWT : WT L kd tys f0) (a0_ : Nat) (ma0_ : a0_ ∈ L) (ka0_ : kd a0_ = 10) : Met l yX10_countSpare (.code yX10_countSpare cX10_countSpare 1 none :: lw_g) ({ frames := 0, cells := 0, slots := 0, locals := 0 }) (va_Pc [.ref a0_] (P3 (dC, dI) L tys f0 sz)) (va_Qv (fun (f : Nat → va_E) => (True)) (Q3 (dC, dI) L kd tys [(10, 6), (10, 7)] [] f0 sz) (pA L sz)) 0 0 (pA L sz) := by
  refine Met.ofW (cc := cX10_countSpare) (maxL := 1) (ret := none) (by decide) rfl ?_
  intro p e s m args below meth c s₁ B hml hv
  obtain ⟨rfl, hsz, hP, hK, hD0⟩ := hv
  have hx := B.exec
  have hb := B.bytes
  have hr := B.returns
  have hts := atoms_spec (ws := (.code yX10_countSpare cX10_countSpare 1 none :: lw_g)) B.pre
  have hown : s.vm.findClass RX10 = some m.cls := findClass_of_methodNamed B.named
  have hlocks := B.notSynchronized
  subst hsz
  have g : G3 (dC, dI) L kd tys s f0 [(10, 6), (10, 7)] [] f0 s.heap [] [] := G3.start hP hD0 hWT Fs.nil
  have hl := lv_entry ([.ref a0_]) (n := 1) (Nat.le_of_ble_eq_true rfl)
  rw [lg_entry_eq]
  generalize (lg_sl ([.ref a0_]) ++ List.replicate (1 - (lg_sl ([.ref a0_])).length) Slot.unset).toArray = ls at hl ⊢
  have hl : lv_has ls 1 [(0, .ref a0_)] := hl
  refine W_q (fun Q hQ => ?_)
  refine lv_aload_n hx hb dX10_countSpare_0 rfl (lv_at hl 0 rfl) ?_
  refine lv_dup hx hb dX10_countSpare_1 rfl ?_
  refine g_geti (C := RX10) (T := TX10) (N := 10) hx hb hts (mc_ inX10) hown hK g ma0_ ka0_ (by decide) rfl 6 (by decide) rfl (hts _ (List.mem_cons_of_mem _ t_920)) (fun _ h9 => h9) rfl dX10_countSpare_2 (fun x_1 bx_1 g => ?_)
  refine lv_iconst (v := 1) hx hb dX10_countSpare_5 (by decide) ?_
  have kb_1 : bd 1 1 (1 : Int32) := ⟨by decide, by decide⟩
  refine lv_iadd hx hb dX10_countSpare_6 ?_
  refine lv_topi (fun y_2 ey_2 => ?_)
  refine g_put (C := RX10) (T := TX10) (N := 10) hx hb hts (mc_ inX10) tyX10 tyX10_ok nmX10 hown hK g ma0_ ka0_ (by decide) rfl 6 (by decide) (hts _ (List.mem_cons_of_mem _ t_920)) (fun _ h9 => h9) rfl rfl (okV_i (bdT y_2)) rfl rfl (by decide) (Or.inr (Or.inl (by decide))) (fx' := []) rfl dX10_countSpare_7 (fun f H locs hM_3 g => ?_)
  refine lv_aload_n hx hb dX10_countSpare_10 rfl (lv_at hl 0 rfl) ?_
  refine lv_dup hx hb dX10_countSpare_11 rfl ?_
  refine g_geti (C := RX10) (T := TX10) (N := 10) hx hb hts (mc_ inX10) hown hK g ma0_ ka0_ (by decide) rfl 7 (by decide) rfl (hts _ (List.mem_cons_of_mem _ t_922)) (fun _ h9 => h9) rfl dX10_countSpare_12 (fun x_4 bx_4 g => ?_)
  refine lv_aload_n hx hb dX10_countSpare_15 rfl (lv_at hl 0 rfl) ?_
  refine g_getr (K := 4) (C := RX10) (T := TX10) (N := 10) hx hb hts (mc_ inX10) hown hK g ma0_ ka0_ (by decide) rfl 5 (by decide) rfl (hts _ (List.mem_cons_of_mem _ t_919)) (fun _ h9 => h9) rfl dX10_countSpare_16 (fun a_5 ma_5 ka_5 g => ?_)
  refine g_geti (C := RX4) (T := TX4) (N := 17) hx hb hts (mc_ inX4) hown hK g ma_5 ka_5 (by decide) rfl 0 (by decide) rfl (hts _ (List.mem_cons_of_mem _ t_837)) (fun _ h9 => h9) rfl dX10_countSpare_19 (fun x_6 bx_6 g => ?_)
  refine lv_iconst (v := (-1)) hx hb dX10_countSpare_22 (by decide) ?_
  have kb_m1 : bd (-1) (-1) ((-1) : Int32) := ⟨by decide, by decide⟩
  refine lv_icmp_ne (tgt := 30) hx hb dX10_countSpare_23 (by decide) (fun c_7 => ?_) (fun c_7 => ?_)
  · have fc_7 := neq_f c_7
    refine lv_iconst (v := 0) hx hb dX10_countSpare_30 (by decide) ?_
    have kb_0 : bd 0 0 (0 : Int32) := ⟨by decide, by decide⟩
    refine lv_iadd hx hb dX10_countSpare_31 ?_
    refine lv_topi (fun y_8 ey_8 => ?_)
    have ty_8 := add_bd ey_8 (bdT x_4) kb_0 (by decide)
    have b_9 : bd (-2147483648) 2147483647 y_8 := add_rg ty_8 (bdT x_4) kb_0 (by decide)
    refine g_put (C := RX10) (T := TX10) (N := 10) hx hb hts (mc_ inX10) tyX10 tyX10_ok nmX10 hown hK g ma0_ ka0_ (by decide) rfl 7 (by decide) (hts _ (List.mem_cons_of_mem _ t_922)) (fun _ h9 => h9) rfl rfl (okV_i b_9) rfl rfl (by decide) (Or.inr (Or.inl (by decide))) (fx' := [(4, 0, a_5, .int x_6), (10, 5, a0_, .ref a_5), (10, 6, a0_, .int y_2)]) rfl dX10_countSpare_32 (fun f H locs hM_10 g => ?_)
    subst hQ
    exact W.vret hx hb hr (fun t ht hW => ⟨⟨_, rfl, trivial, q3_of g hK ht hW⟩, g.2.2.1.F ht⟩) g.2.2.1.2.2 dX10_countSpare_35
  · have fc_7 := eq_f c_7
    have b_11 : bd (-1) (-1) x_6 := eqX fc_7 (bdT x_6) kb_m1 (by decide)
    refine lv_iconst (v := 1) hx hb dX10_countSpare_26 (by decide) ?_
    refine lv_goto (tgt := 31) hx hb dX10_countSpare_27 (by decide) ?_
    refine lv_iadd hx hb dX10_countSpare_31 ?_
    refine lv_topi (fun y_12 ey_12 => ?_)
    refine g_put (C := RX10) (T := TX10) (N := 10) hx hb hts (mc_ inX10) tyX10 tyX10_ok nmX10 hown hK g ma0_ ka0_ (by decide) rfl 7 (by decide) (hts _ (List.mem_cons_of_mem _ t_922)) (fun _ h9 => h9) rfl rfl (okV_i (bdT y_12)) rfl rfl (by decide) (Or.inr (Or.inl (by decide))) (fx' := [(4, 0, a_5, .int x_6), (10, 5, a0_, .ref a_5), (10, 6, a0_, .int y_2)]) rfl dX10_countSpare_32 (fun f H locs hM_13 g => ?_)
    subst hQ
    exact W.vret hx hb hr (fun t ht hW => ⟨⟨_, rfl, trivial, q3_of g hK ht hW⟩, g.2.2.1.F ht⟩) g.2.2.1.2.2 dX10_countSpare_35
set_option maxHeartbeats 4000000 in
set_option maxRecDepth 100000 in
theorem r_X10_tellOfSpare (l : Launch) (dC : Nat → ClassId) (dI : Nat → Nat → Nat) (L : List Nat) (kd : Nat → Nat) (tys : List (ClassId × FieldType)) (f0 : Nat → va_E) (sz : Nat) (hWT : WT L kd tys f0) (a0_ : Nat) (ma0_ : a0_ ∈ L) (ka0_ : kd a0_ = 10) : Met l yX10_tellOfSpare (.code yX10_tellOfSpare cX10_tellOfSpare 3 none :: lw_g) ({ frames := 0, cells := 0, slots := 0, locals := 0 }) (va_Pc [.ref a0_] (P3 (dC, dI) L tys f0 sz)) (va_Qv (fun (f : Nat → va_E) => (Fs L kd f [(10, 8, a0_, .int 1)])) (Q3 (dC, dI) L kd tys [(10, 2), (10, 3), (10, 4), (10, 5), (10, 8)] [] f0 sz) (pA L sz)) 0 0 (pA L sz) := by
  refine Met.ofW (cc := cX10_tellOfSpare) (maxL := 3) (ret := none) (by decide) rfl ?_
  intro p e s m args below meth c s₁ B hml hv
  obtain ⟨rfl, hsz, hP, hK, hD0⟩ := hv
  have hx := B.exec
  have hb := B.bytes
  have hr := B.returns
  have hts := atoms_spec (ws := (.code yX10_tellOfSpare cX10_tellOfSpare 3 none :: lw_g)) B.pre
  have hown : s.vm.findClass RX10 = some m.cls := findClass_of_methodNamed B.named
  have hlocks := B.notSynchronized
  subst hsz
  have g : G3 (dC, dI) L kd tys s f0 [(10, 2), (10, 3), (10, 4), (10, 5), (10, 8)] [] f0 s.heap [] [] := G3.start hP hD0 hWT Fs.nil
  have hl := lv_entry ([.ref a0_]) (n := 3) (Nat.le_of_ble_eq_true rfl)
  rw [lg_entry_eq]
  generalize (lg_sl ([.ref a0_]) ++ List.replicate (3 - (lg_sl ([.ref a0_])).length) Slot.unset).toArray = ls at hl ⊢
  have hl : lv_has ls 3 [(0, .ref a0_)] := hl
  refine W_q (fun Q hQ => ?_)
  refine lv_aload_n hx hb dX10_tellOfSpare_0 rfl (lv_at hl 0 rfl) ?_
  refine g_getr (K := 3) (C := RX10) (T := TX10) (N := 10) hx hb hts (mc_ inX10) hown hK g ma0_ ka0_ (by decide) rfl 2 (by decide) rfl (hts _ (List.mem_cons_of_mem _ t_914)) (fun _ h9 => h9) rfl dX10_tellOfSpare_1 (fun a_1 ma_1 ka_1 g => ?_)
  refine lv_astore_n (lv' := [(1, .ref a_1), (0, .ref a0_)]) hx hb dX10_tellOfSpare_4 rfl hl (by decide) rfl (fun ls hl => ?_)
  refine lv_aload_n hx hb dX10_tellOfSpare_5 rfl (lv_at hl 1 rfl) ?_
  refine lv_aload_n hx hb dX10_tellOfSpare_6 rfl (lv_at hl 1 rfl) ?_
  refine g_getr (K := 3) (C := RX10) (T := TX10) (N := 10) hx hb hts (mc_ inX10) hown hK g ma0_ ka0_ (by decide) rfl 3 (by decide) rfl (hts _ (List.mem_cons_of_mem _ t_916)) (fun _ h9 => h9) rfl dX10_tellOfSpare_7 (fun a_2 ma_2 ka_2 g => ?_)
  refine g_put (C := RX10) (T := TX10) (N := 10) hx hb hts (mc_ inX10) tyX10 tyX10_ok nmX10 hown hK g ma0_ ka0_ (by decide) rfl 2 (by decide) (hts _ (List.mem_cons_of_mem _ t_914)) (fun _ h9 => h9) rfl rfl (okV_r ma_2 ka_2 (by decide)) rfl rfl (by decide) (Or.inr (Or.inl (by decide))) (fx' := [(10, 3, a0_, .ref a_2)]) rfl dX10_tellOfSpare_10 (fun f H locs hM_3 g => ?_)
  refine lv_aload_n hx hb dX10_tellOfSpare_13 rfl (lv_at hl 1 rfl) ?_
  refine lv_aload_n hx hb dX10_tellOfSpare_14 rfl (lv_at hl 0 rfl) ?_
  refine g_put (C := RX10) (T := TX10) (N := 10) hx hb hts (mc_ inX10) tyX10 tyX10_ok nmX10 hown hK g ma0_ ka0_ (by decide) rfl 3 (by decide) (hts _ (List.mem_cons_of_mem _ t_916)) (fun _ h9 => h9) rfl rfl (okV_r ma_1 ka_1 (by decide)) rfl rfl (by decide) (Or.inr (Or.inl (by decide))) (fx' := [(10, 2, a0_, .ref a_2)]) rfl dX10_tellOfSpare_15 (fun f H locs hM_4 g => ?_)
  refine lv_aload_n hx hb dX10_tellOfSpare_18 rfl (lv_at hl 1 rfl) ?_
  refine g_getr (K := 4) (C := RX10) (T := TX10) (N := 10) hx hb hts (mc_ inX10) hown hK g ma0_ ka0_ (by decide) rfl 4 (by decide) rfl (hts _ (List.mem_cons_of_mem _ t_917)) (fun _ h9 => h9) rfl dX10_tellOfSpare_19 (fun a_5 ma_5 ka_5 g => ?_)
  refine lv_astore_n (lv' := [(2, .ref a_5), (1, .ref a_1), (0, .ref a0_)]) hx hb dX10_tellOfSpare_22 rfl hl (by decide) rfl (fun ls hl => ?_)
  refine lv_aload_n hx hb dX10_tellOfSpare_23 rfl (lv_at hl 2 rfl) ?_
  refine lv_aload_n hx hb dX10_tellOfSpare_24 rfl (lv_at hl 2 rfl) ?_
  refine g_getr (K := 4) (C := RX10) (T := TX10) (N := 10) hx hb hts (mc_ inX10) hown hK g ma0_ ka0_ (by decide) rfl 5 (by decide) rfl (hts _ (List.mem_cons_of_mem _ t_919)) (fun _ h9 => h9) rfl dX10_tellOfSpare_25 (fun a_6 ma_6 ka_6 g => ?_)
  refine g_put (C := RX10) (T := TX10) (N := 10) hx hb hts (mc_ inX10) tyX10 tyX10_ok nmX10 hown hK g ma0_ ka0_ (by decide) rfl 4 (by decide) (hts _ (List.mem_cons_of_mem _ t_917)) (fun _ h9 => h9) rfl rfl (okV_r ma_6 ka_6 (by decide)) rfl rfl (by decide) (Or.inr (Or.inl (by decide))) (fx' := [(10, 5, a0_, .ref a_6), (10, 3, a0_, .ref a_1), (10, 2, a0_, .ref a_2)]) rfl dX10_tellOfSpare_28 (fun f H locs hM_7 g => ?_)
  refine lv_aload_n hx hb dX10_tellOfSpare_31 rfl (lv_at hl 2 rfl) ?_
  refine lv_aload_n hx hb dX10_tellOfSpare_32 rfl (lv_at hl 0 rfl) ?_
  refine g_put (C := RX10) (T := TX10) (N := 10) hx hb hts (mc_ inX10) tyX10 tyX10_ok nmX10 hown hK g ma0_ ka0_ (by decide) rfl 5 (by decide) (hts _ (List.mem_cons_of_mem _ t_919)) (fun _ h9 => h9) rfl rfl (okV_r ma_5 ka_5 (by decide)) rfl rfl (by decide) (Or.inr (Or.inl (by decide))) (fx' := [(10, 4, a0_, .ref a_6), (10, 3, a0_, .ref a_1), (10, 2, a0_, .ref a_2)]) rfl dX10_tellOfSpare_33 (fun f H locs hM_8 g => ?_)
  refine lv_aload_n hx hb dX10_tellOfSpare_36 rfl (lv_at hl 2 rfl) ?_
  refine lv_iconst (v := 1) hx hb dX10_tellOfSpare_37 (by decide) ?_
  have kb_1 : bd 1 1 (1 : Int32) := ⟨by decide, by decide⟩
  refine g_put (C := RX10) (T := TX10) (N := 10) hx hb hts (mc_ inX10) tyX10 tyX10_ok nmX10 hown hK g ma0_ ka0_ (by decide) rfl 8 (by decide) (hts _ (List.mem_cons_of_mem _ t_924)) (fun _ h9 => h9) rfl rfl (okV_i (bd_sub kb_1 (by decide))) rfl rfl (by decide) (Or.inr (Or.inl (by decide))) (fx' := [(10, 5, a0_, .ref a_5), (10, 4, a0_, .ref a_6), (10, 3, a0_, .ref a_1), (10, 2, a0_, .ref a_2)]) rfl dX10_tellOfSpare_38 (fun f H locs hM_9 g => ?_)
  subst hQ
  exact W.vret hx hb hr (fun t ht hW => ⟨⟨_, rfl, (g.fcts [0] rfl), q3_of g hK ht hW⟩, g.2.2.1.F ht⟩) g.2.2.1.2.2 dX10_tellOfSpare_41
set_option maxHeartbeats 4000000 in
set_option maxRecDepth 100000 in
theorem r_X10_drawRow_2 (l : Launch) (dC : Nat → ClassId) (dI : Nat → Nat → Nat) (L : List Nat) (kd : Nat → Nat) (tys : List (ClassId × FieldType)) (f0 : Nat → va_E) (sz : Nat) (hWT : WT L kd tys f0) (a0_ : Nat) (ma0_ : a0_ ∈ L) (ka0_ : kd a0_ = 10) (x1_ : Int32) (bx1_ : bd 0 7 x1_) (x2_ : Int32) (q0_ : Nat) (mq0_ : q0_ ∈ L) (kq0_ : kd q0_ = 3) (hfx : Fs L kd f0 [(10, 3, a0_, .ref q0_)]) : Met l yX10_drawRow (.code yX10_drawRow cX10_drawRow 7 none :: lw_g) ({ frames := 3, cells := 0, slots := 0, locals := 78 }) (va_Pc [.ref a0_, .int x1_, .int x2_] (P3 (dC, dI) L tys f0 sz)) (va_Qv (fun (f : Nat → va_E) => (∃ z0_ : Int32, bd 1 10 z0_ ∧ ∃ z1_ : Int32, bd 1 3 z1_ ∧ Fs L kd f [(3, 0, q0_, .int z0_), (3, 4, q0_, .int z1_)])) (Q3 (dC, dI) L kd tys [(3, 0), (3, 4), (10, 9)] [103, 122, 123, 125] f0 sz) (pA L sz)) 0 0 (pA L sz) := by
  refine Met.ofW (cc := cX10_drawRow) (maxL := 7) (ret := none) (by decide) rfl ?_
  intro p e s m args below meth c s₁ B hml hv
  obtain ⟨rfl, hsz, hP, hK, hD0⟩ := hv
  have hx := B.exec
  have hb := B.bytes
  have hr := B.returns
  have hts := atoms_spec (ws := (.code yX10_drawRow cX10_drawRow 7 none :: lw_g)) B.pre
  have hown : s.vm.findClass RX10 = some m.cls := findClass_of_methodNamed B.named
  have hlocks := B.notSynchronized
  subst hsz
  have g : G3 (dC, dI) L kd tys s f0 [(3, 0), (3, 4), (10, 9)] [103, 122, 123, 125] f0 s.heap [] [(10, 3, a0_, .ref q0_)] := G3.start hP hD0 hWT hfx
  have hl := lv_entry ([.ref a0_, .int x1_, .int x2_]) (n := 7) (Nat.le_of_ble_eq_true rfl)
  rw [lg_entry_eq]
  generalize (lg_sl ([.ref a0_, .int x1_, .int x2_]) ++ List.replicate (7 - (lg_sl ([.ref a0_, .int x1_, .int x2_])).length) Slot.unset).toArray = ls at hl ⊢
  have hl : lv_has ls 7 [(0, .ref a0_), (1, .int x1_), (2, .int x2_)] := hl
  refine W_q (fun Q hQ => ?_)
  refine lv_aload_n hx hb dX10_drawRow_0 rfl (lv_at hl 0 rfl) ?_
  refine lv_iload_n hx hb dX10_drawRow_1 rfl (lv_at hl 2 rfl) ?_
  refine g_put (C := RX10) (T := TX10) (N := 10) hx hb hts (mc_ inX10) tyX10 tyX10_ok nmX10 hown hK g ma0_ ka0_ (by decide) rfl 9 (by decide) (hts _ (List.mem_cons_of_mem _ t_926)) (fun _ h9 => h9) rfl rfl (okV_i (bdT x2_)) rfl rfl (by decide) (Or.inr (Or.inl (by decide))) (fx' := [(10, 3, a0_, .ref q0_)]) rfl dX10_drawRow_2 (fun f H locs hM_1 g => ?_)
  refine lv_aload_n hx hb dX10_drawRow_5 rfl (lv_at hl 0 rfl) ?_
  refine g_getk (C := RX10) (T := TX10) (N := 10) hx hb hts (mc_ inX10) hown hK g rfl 3 (by decide) rfl (hts _ (List.mem_cons_of_mem _ t_916)) (fun _ h9 => h9) 1 rfl dX10_drawRow_6 ?_
  refine g_callv (va_runV (As := []) (rest := []) ⟨hx, hb, hml, hown, hts⟩ (r_X3_wipe l dC dI L kd tys f H.size g.2.2.2.1 q0_ mq0_ kq0_) (cwV 0 hts (gV_ t_1422 t_1423 t_1424 t_196 t_1425) rfl rfl rfl (by decide +kernel) ⟨(Nat.le_of_ble_eq_true rfl), (Nat.le_of_ble_eq_true rfl)⟩) (pre3V g hK mq0_ kq0_ (by decide) (q := (RX3, TX3, 6)) rfl) rfl rfl hl.1 rfl (lv_room (Nat.le_of_ble_eq_true rfl)) dX10_drawRow_9 ⟨(Nat.le_of_ble_eq_true rfl), (Nat.le_of_ble_eq_true rfl)⟩) g hK (by decide) (by decide) (fx' := [(10, 9, a0_, .int x2_), (10, 3, a0_, .ref q0_)]) rfl (fun fr_2 H locs hp hMr_2 g => ?_)
  have hF_3 := hp
  have g := g.more hF_3
  refine lv_iconst (v := 1) hx hb dX10_drawRow_12 (by decide) ?_
  refine lv_aload_n hx hb dX10_drawRow_13 rfl (lv_at hl 0 rfl) ?_
  refine g_calli (va_runV (As := []) (rest := [.int 1]) ⟨hx, hb, hml, hown, hts⟩ (r_X10_drawNext l dC dI L kd tys fr_2 H.size g.2.2.2.1 a0_ ma0_ ka0_) (cwV 0 hts (gV_ t_1678 t_1680 t_80 t_194 t_1681) rfl rfl rfl (by decide +kernel) ⟨(Nat.le_of_ble_eq_true rfl), (Nat.le_of_ble_eq_true rfl)⟩) (pre3V g hK ma0_ ka0_ (by decide) (q := (RX10, TX10, 10)) rfl) rfl rfl hl.1 rfl (lv_room (Nat.le_of_ble_eq_true rfl)) dX10_drawRow_14 ⟨(Nat.le_of_ble_eq_true rfl), (Nat.le_of_ble_eq_true rfl)⟩) g hK (by decide) (by decide) (fx' := [(3, 4, q0_, .int 0), (3, 0, q0_, .int 0), (10, 3, a0_, .ref q0_)]) rfl (fun r_4 fr_4 H locs hp hMr_4 g => ?_)
  obtain ⟨h_5, -⟩ := hp
  refine lv_bipush (v := 10) hx hb dX10_drawRow_17 (by decide) ?_
  have kb_10 : bd 10 10 (10 : Int32) := ⟨by decide, by decide⟩
  refine lv_irem hx hb dX10_drawRow_19 (by decide) ?_
  refine lv_topi (fun y_6 ey_6 => ?_)
  have b_7 : bd 0 9 y_6 := rem_rg ey_6 h_5 kb_10 (by decide)
  have kb_1 : bd 1 1 (1 : Int32) := ⟨by decide, by decide⟩
  refine lv_iadd hx hb dX10_drawRow_20 ?_
  refine lv_topi (fun y_8 ey_8 => ?_)
  have ty_8 := add_bd ey_8 kb_1 b_7 (by decide)
  have b_9 : bd 1 10 y_8 := add_rg ty_8 kb_1 b_7 (by decide)
  refine lv_istore_n (lv' := [(3, .int y_8), (0, .ref a0_), (1, .int x1_), (2, .int x2_)]) hx hb dX10_drawRow_21 rfl hl (by decide) rfl (fun ls hl => ?_)
  refine lv_aload_n hx hb dX10_drawRow_22 rfl (lv_at hl 1 rfl) ?_
  refine g_getk (C := RX10) (T := TX10) (N := 10) hx hb hts (mc_ inX10) hown hK g rfl 3 (by decide) rfl (hts _ (List.mem_cons_of_mem _ t_916)) (fun _ h9 => h9) 2 rfl dX10_drawRow_23 ?_
  refine lv_iload_n hx hb dX10_drawRow_26 rfl (lv_at hl 2 rfl) ?_
  have kb_0 : bd 0 0 (0 : Int32) := ⟨by decide, by decide⟩
  refine g_callv (va_runV (As := [.int x1_]) (rest := []) ⟨hx, hb, hml, hown, hts⟩ (r_X3_addMake_2 l dC dI L kd tys fr_4 H.size g.2.2.2.1 q0_ mq0_ kq0_ x1_ bx1_ 0 kb_0 0 kb_0 (g.fcts [0, 1] rfl)) (cwV 1 hts (gV_ t_1481 t_1482 t_1483 t_196 t_1484) rfl rfl rfl (by decide +kernel) ⟨(Nat.le_of_ble_eq_true rfl), (Nat.le_of_ble_eq_true rfl)⟩) (pre3V g hK mq0_ kq0_ (by decide) (q := (RX3, TX3, 6)) rfl) rfl rfl hl.1 rfl (lv_room (Nat.le_of_ble_eq_true rfl)) dX10_drawRow_27 ⟨(Nat.le_of_ble_eq_true rfl), (Nat.le_of_ble_eq_true rfl)⟩) g hK (by decide) (by decide) (fx' := [(10, 3, a0_, .ref q0_)]) rfl (fun fr_10 H locs hp hMr_10 g => ?_)
  obtain ⟨x_11, h_12, x_13, h_14, hF_15⟩ := hp
  have g := g.more hF_15
  refine lv_iconst (v := 1) hx hb dX10_drawRow_30 (by decide) ?_
  refine lv_istore (lv' := [(4, .int 1), (3, .int y_8), (0, .ref a0_), (1, .int x1_), (2, .int x2_)]) hx hb dX10_drawRow_31 hl (by decide) rfl (fun ls hl => ?_)
  refine lv_iconst (v := 1) hx hb dX10_drawRow_33 (by decide) ?_
  refine lv_istore (lv' := [(5, .int 1), (4, .int 1), (3, .int y_8), (0, .ref a0_), (1, .int x1_), (2, .int x2_)]) hx hb dX10_drawRow_34 hl (by decide) rfl (fun ls hl => ?_)
  have loop_16 : ∀ (n : Nat) (v36_5 : Int32) (v36_4 : Int32) (w36_3_0_q0_ : Int32) (w36_3_4_q0_ : Int32), bd 1 10 v36_5 → bd 0 1 v36_4 → bd 1 10 w36_3_0_q0_ → bd 1 3 w36_3_4_q0_ → (10 - v36_5.toInt < (n : Int)) → ∀ (f : Nat → va_E) (H : Heap) (locs : List Loc) (ls : Array Slot), G3 (dC, dI) L kd tys s f0 [(3, 0), (3, 4), (10, 9)] [103, 122, 123, 125] f H locs [(3, 0, q0_, .int w36_3_0_q0_), (3, 4, q0_, .int w36_3_4_q0_), (10, 3, a0_, .ref q0_)] → lv_has ls 7 [(5, .int v36_5), (4, .int v36_4), (3, .int y_8), (0, .ref a0_), (1, .int x1_), (2, .int x2_)] → W p l e ({ frames := 3, cells := 0, slots := 0, locals := 78 } : Room) s m [.ref a0_, .int x1_, .int x2_].toArray below meth c H locs 0 0 Q (F0 m 36 ls []) := by
    intro n36
    induction n36 with
    | zero =>
      intro v36_5 v36_4 w36_3_0_q0_ w36_3_4_q0_ bv36_5 bv36_4 bw36_3_0_q0_ bw36_3_4_q0_ hm36 f H locs ls g  hl
      exact absurd hm36 (by have h9_v36_5 := bv36_5; unfold bd at h9_v36_5; have h9_v36_4 := bv36_4; unfold bd at h9_v36_4; have h9_w36_3_0_q0_ := bw36_3_0_q0_; unfold bd at h9_w36_3_0_q0_; have h9_w36_3_4_q0_ := bw36_3_4_q0_; unfold bd at h9_w36_3_4_q0_; omega)
    | succ n36 ih36 =>
      intro v36_5 v36_4 w36_3_0_q0_ w36_3_4_q0_ bv36_5 bv36_4 bw36_3_0_q0_ bw36_3_4_q0_ hm36 f H locs ls g  hl
      refine lv_iload hx hb dX10_drawRow_36 (lv_at hl 0 rfl) ?_
      refine lv_iload_n hx hb dX10_drawRow_38 rfl (lv_at hl 2 rfl) ?_
      refine lv_icmp_ge (tgt := 140) hx hb dX10_drawRow_39 (by decide) (fun c_17 => ?_) (fun c_17 => ?_)
      · have fc_17 := le_f c_17
        subst hQ
        exact W.vret hx hb hr (fun t ht hW => ⟨⟨_, rfl, ⟨w36_3_0_q0_, bw36_3_0_q0_, w36_3_4_q0_, bw36_3_4_q0_, (g.fcts [0, 1] rfl)⟩, q3_of g hK ht hW⟩, g.2.2.1.F ht⟩) g.2.2.1.2.2 dX10_drawRow_140
      · have fc_17 := nle_f c_17
        have b_18 : bd 1 9 v36_5 := ltL fc_17 bv36_5 b_9 (by decide)
        have b_19 : bd 2 10 y_8 := ltR fc_17 bv36_5 b_9 (by decide)
        refine lv_iload hx hb dX10_drawRow_42 (lv_at hl 1 rfl) ?_
        refine lv_if_eq (tgt := 140) hx hb dX10_drawRow_44 (by decide) (fun c_20 => ?_) (fun c_20 => ?_)
        · have fc_20 := eq_f c_20
          have b_21 : bd 0 0 v36_4 := eqX fc_20 bv36_4 kb_0 (by decide)
          subst hQ
          exact W.vret hx hb hr (fun t ht hW => ⟨⟨_, rfl, ⟨w36_3_0_q0_, bw36_3_0_q0_, w36_3_4_q0_, bw36_3_4_q0_, (g.fcts [0, 1] rfl)⟩, q3_of g hK ht hW⟩, g.2.2.1.F ht⟩) g.2.2.1.2.2 dX10_drawRow_140
        · have fc_20 := neq_f c_20
          have b_22 : bd 1 1 v36_4 := neX fc_20 bv36_4 kb_0 (by decide)
          refine lv_aload_n hx hb dX10_drawRow_47 rfl (lv_at hl 3 rfl) ?_
          refine g_calli (va_runV (As := []) (rest := []) ⟨hx, hb, hml, hown, hts⟩ (r_X10_drawNext l dC dI L kd tys f H.size g.2.2.2.1 a0_ ma0_ ka0_) (cwV 0 hts (gV_ t_1678 t_1680 t_80 t_194 t_1681) rfl rfl rfl (by decide +kernel) ⟨(Nat.le_of_ble_eq_true rfl), (Nat.le_of_ble_eq_true rfl)⟩) (pre3V g hK ma0_ ka0_ (by decide) (q := (RX10, TX10, 10)) rfl) rfl rfl hl.1 rfl (lv_room (Nat.le_of_ble_eq_true rfl)) dX10_drawRow_48 ⟨(Nat.le_of_ble_eq_true rfl), (Nat.le_of_ble_eq_true rfl)⟩) g hK (by decide) (by decide) (fx' := [(3, 0, q0_, .int w36_3_0_q0_), (3, 4, q0_, .int w36_3_4_q0_), (10, 3, a0_, .ref q0_)]) rfl (fun r_23 fr_23 H locs hp hMr_23 g => ?_)
          obtain ⟨h_24, -⟩ := hp
          refine lv_bipush (v := 8) hx hb dX10_drawRow_51 (by decide) ?_
          have kb_8 : bd 8 8 (8 : Int32) := ⟨by decide, by decide⟩
          refine lv_irem hx hb dX10_drawRow_53 (by decide) ?_
          refine lv_topi (fun y_25 ey_25 => ?_)
          have b_26 : bd 0 7 y_25 := rem_rg ey_25 h_24 kb_8 (by decide)
          refine lv_if_ne (tgt := 72) hx hb dX10_drawRow_54 (by decide) (fun c_27 => ?_) (fun c_27 => ?_)
          · have fc_27 := neq_f c_27
            have b_28 : bd 1 7 y_25 := neX fc_27 b_26 kb_0 (by decide)
            refine lv_iconst (v := 0) hx hb dX10_drawRow_72 (by decide) ?_
            refine lv_istore (lv' := [(6, .int 0), (5, .int v36_5), (4, .int v36_4), (3, .int y_8), (0, .ref a0_), (1, .int x1_), (2, .int x2_)]) hx hb dX10_drawRow_73 hl (by decide) rfl (fun ls hl => ?_)
            refine lv_iload hx hb dX10_drawRow_75 (lv_at hl 0 rfl) ?_
            refine lv_if_ne (tgt := 92) hx hb dX10_drawRow_77 (by decide) (fun c_ => absurd c_ (by decide)) (fun c_ => ?_)
            refine lv_aload_n hx hb dX10_drawRow_80 rfl (lv_at hl 4 rfl) ?_
            refine g_getr (K := 7) (C := RX10) (T := TX10) (N := 10) hx hb hts (mc_ inX10) hown hK g ma0_ ka0_ (by decide) rfl 0 (by decide) rfl (hts _ (List.mem_cons_of_mem _ t_912)) (fun _ h9 => h9) rfl dX10_drawRow_81 (fun a_29 ma_29 ka_29 g => ?_)
            refine lv_iload_n hx hb dX10_drawRow_84 rfl (lv_at hl 5 rfl) ?_
            refine lv_iconst (v := 0) hx hb dX10_drawRow_85 (by decide) ?_
            refine g_calli (va_runV (As := [.int x1_, .int 0]) (rest := []) ⟨hx, hb, hml, hown, hts⟩ (r_X7_hasMember l dC dI L kd tys fr_23 H.size g.2.2.2.1 a_29 ma_29 ka_29 x1_ 0) (cwV 2 hts (gV_ t_1614 t_1448 t_1449 t_191 t_1450) rfl rfl rfl (by decide +kernel) ⟨(Nat.le_of_ble_eq_true rfl), (Nat.le_of_ble_eq_true rfl)⟩) (pre3V g hK ma_29 ka_29 (by decide) (q := (RX7, TX7, 19)) rfl) rfl rfl hl.1 rfl (lv_room (Nat.le_of_ble_eq_true rfl)) dX10_drawRow_86 ⟨(Nat.le_of_ble_eq_true rfl), (Nat.le_of_ble_eq_true rfl)⟩) g hK (by decide) (by decide) (fx' := [(10, 0, a0_, .ref a_29), (3, 0, q0_, .int w36_3_0_q0_), (3, 4, q0_, .int w36_3_4_q0_), (10, 3, a0_, .ref q0_)]) rfl (fun r_30 fr_30 H locs hp hMr_30 g => ?_)
            rcases hp with ⟨h_31, -⟩ | ⟨h_32, h_33, h_34, x_35, h_36, hF_37⟩
            · obtain rfl : r_30 = 0 := h_31
              refine lv_if_ne (tgt := 121) hx hb dX10_drawRow_89 (by decide) (fun c_ => absurd c_ (by decide)) (fun c_ => ?_)
              refine lv_aload_n hx hb dX10_drawRow_92 rfl (lv_at hl 4 rfl) ?_
              refine g_getk (C := RX10) (T := TX10) (N := 10) hx hb hts (mc_ inX10) hown hK g rfl 3 (by decide) rfl (hts _ (List.mem_cons_of_mem _ t_916)) (fun _ h9 => h9) 3 rfl dX10_drawRow_93 ?_
              refine g_getk (C := RX3) (T := TX3) (N := 6) hx hb hts (mc_ inX3) hown hK g rfl 4 (by decide) rfl (hts _ (List.mem_cons_of_mem _ t_814)) (fun _ h9 => h9) 2 rfl dX10_drawRow_96 ?_
              refine lv_iconst (v := 3) hx hb dX10_drawRow_99 (by decide) ?_
              have kb_3 : bd 3 3 (3 : Int32) := ⟨by decide, by decide⟩
              refine lv_icmp_ge (tgt := 107) hx hb dX10_drawRow_100 (by decide) (fun c_38 => ?_) (fun c_38 => ?_)
              · have fc_38 := le_f c_38
                have b_39 : bd 3 3 w36_3_4_q0_ := leR fc_38 kb_3 bw36_3_4_q0_ (by decide)
                refine lv_iconst (v := 0) hx hb dX10_drawRow_107 (by decide) ?_
                refine lv_istore (lv' := [(4, .int 0), (6, .int 0), (5, .int v36_5), (3, .int y_8), (0, .ref a0_), (1, .int x1_), (2, .int x2_)]) hx hb dX10_drawRow_108 hl (by decide) rfl (fun ls hl => ?_)
                refine lv_aload_n hx hb dX10_drawRow_110 rfl (lv_at hl 4 rfl) ?_
                refine g_getk (C := RX10) (T := TX10) (N := 10) hx hb hts (mc_ inX10) hown hK g rfl 3 (by decide) rfl (hts _ (List.mem_cons_of_mem _ t_916)) (fun _ h9 => h9) 3 rfl dX10_drawRow_111 ?_
                refine lv_iload_n hx hb dX10_drawRow_114 rfl (lv_at hl 5 rfl) ?_
                refine g_callv (va_runV (As := [.int x1_]) (rest := []) ⟨hx, hb, hml, hown, hts⟩ (r_X3_addMake_4 l dC dI L kd tys fr_30 H.size g.2.2.2.1 q0_ mq0_ kq0_ x1_ bx1_ w36_3_0_q0_ bw36_3_0_q0_ w36_3_4_q0_ b_39 (g.fcts [1, 2] rfl)) (cwV 1 hts (gV_ t_1481 t_1482 t_1483 t_196 t_1484) rfl rfl rfl (by decide +kernel) ⟨(Nat.le_of_ble_eq_true rfl), (Nat.le_of_ble_eq_true rfl)⟩) (pre3V g hK mq0_ kq0_ (by decide) (q := (RX3, TX3, 6)) rfl) rfl rfl hl.1 rfl (lv_room (Nat.le_of_ble_eq_true rfl)) dX10_drawRow_115 ⟨(Nat.le_of_ble_eq_true rfl), (Nat.le_of_ble_eq_true rfl)⟩) g hK (by decide) (by decide) (fx' := [(10, 0, a0_, .ref a_29), (3, 0, q0_, .int w36_3_0_q0_), (3, 4, q0_, .int w36_3_4_q0_), (10, 3, a0_, .ref q0_)]) rfl (fun fr_40 H locs hp hMr_40 g => ?_)
                refine lv_goto (tgt := 134) hx hb dX10_drawRow_118 (by decide) ?_
                obtain ⟨y_41, ey_41⟩ : ∃ z : Int32, z = v36_5 + 1 := ⟨_, rfl⟩
                refine lv_iinc (v := y_41) (lv' := [(5, .int y_41), (4, .int 0), (6, .int 0), (3, .int y_8), (0, .ref a0_), (1, .int x1_), (2, .int x2_)]) hx hb dX10_drawRow_134 hl (k := 2) rfl (by rw [ey_41]; rfl) (by decide) rfl (fun ls hl => ?_)
                have ty_41 := add_bd ey_41 b_18 kb_1 (by decide)
                have b_42 : bd 2 10 y_41 := add_rg ty_41 b_18 kb_1 (by decide)
                refine lv_goto (tgt := 36) hx hb dX10_drawRow_137 (by decide) ?_
                have hl9 := lv_sub hl [0, 1, 3, 4, 5, 6] (by rfl : lv_pick [(5, .int y_41), (4, .int 0), (6, .int 0), (3, .int y_8), (0, .ref a0_), (1, .int x1_), (2, .int x2_)] [0, 1, 3, 4, 5, 6] = [(5, .int y_41), (4, .int 0), (3, .int y_8), (0, .ref a0_), (1, .int x1_), (2, .int x2_)])
                have g9 := g.sub (fx' := [(3, 0, q0_, .int w36_3_0_q0_), (3, 4, q0_, .int w36_3_4_q0_), (10, 3, a0_, .ref q0_)]) [1, 2, 3] rfl
                exact ih36  y_41 0 w36_3_0_q0_ w36_3_4_q0_ (bd_sub b_42 (by decide)) (bd_sub kb_0 (by decide)) bw36_3_0_q0_ (bd_sub b_39 (by decide)) (by have h9_0 := b_39; unfold bd at h9_0; have h9_1 := b_42; unfold bd at h9_1; have h9_2 := bv36_4; unfold bd at h9_2; have h9_3 := bv36_5; unfold bd at h9_3; have h9_4 := bw36_3_0_q0_; unfold bd at h9_4; have h9_5 := bw36_3_4_q0_; unfold bd at h9_5; have h9_6 := kb_0; unfold bd at h9_6; have h9_7 := kb_1; unfold bd at h9_7; have h9_8 := kb_10; unfold bd at h9_8; have h9_9 := kb_3; unfold bd at h9_9; have h9_10 := kb_8; unfold bd at h9_10; omega) _ _ _ _ g9  hl9
              · have fc_38 := nle_f c_38
                have b_43 : bd 1 2 w36_3_4_q0_ := ltL fc_38 bw36_3_4_q0_ kb_3 (by decide)
                refine lv_iconst (v := 1) hx hb dX10_drawRow_103 (by decide) ?_
                refine lv_goto (tgt := 108) hx hb dX10_drawRow_104 (by decide) ?_
                refine lv_istore (lv' := [(4, .int 1), (6, .int 0), (5, .int v36_5), (3, .int y_8), (0, .ref a0_), (1, .int x1_), (2, .int x2_)]) hx hb dX10_drawRow_108 hl (by decide) rfl (fun ls hl => ?_)
                refine lv_aload_n hx hb dX10_drawRow_110 rfl (lv_at hl 4 rfl) ?_
                refine g_getk (C := RX10) (T := TX10) (N := 10) hx hb hts (mc_ inX10) hown hK g rfl 3 (by decide) rfl (hts _ (List.mem_cons_of_mem _ t_916)) (fun _ h9 => h9) 3 rfl dX10_drawRow_111 ?_
                refine lv_iload_n hx hb dX10_drawRow_114 rfl (lv_at hl 5 rfl) ?_
                refine g_callv (va_runV (As := [.int x1_]) (rest := []) ⟨hx, hb, hml, hown, hts⟩ (r_X3_addMake_5 l dC dI L kd tys fr_30 H.size g.2.2.2.1 q0_ mq0_ kq0_ x1_ bx1_ w36_3_0_q0_ bw36_3_0_q0_ w36_3_4_q0_ b_43 (g.fcts [1, 2] rfl)) (cwV 1 hts (gV_ t_1481 t_1482 t_1483 t_196 t_1484) rfl rfl rfl (by decide +kernel) ⟨(Nat.le_of_ble_eq_true rfl), (Nat.le_of_ble_eq_true rfl)⟩) (pre3V g hK mq0_ kq0_ (by decide) (q := (RX3, TX3, 6)) rfl) rfl rfl hl.1 rfl (lv_room (Nat.le_of_ble_eq_true rfl)) dX10_drawRow_115 ⟨(Nat.le_of_ble_eq_true rfl), (Nat.le_of_ble_eq_true rfl)⟩) g hK (by decide) (by decide) (fx' := [(10, 0, a0_, .ref a_29), (10, 3, a0_, .ref q0_)]) rfl (fun fr_44 H locs hp hMr_44 g => ?_)
                obtain ⟨x_45, h_46, x_47, h_48, hF_49⟩ := hp
                have g := g.more hF_49
                refine lv_goto (tgt := 134) hx hb dX10_drawRow_118 (by decide) ?_
                obtain ⟨y_50, ey_50⟩ : ∃ z : Int32, z = v36_5 + 1 := ⟨_, rfl⟩
                refine lv_iinc (v := y_50) (lv' := [(5, .int y_50), (4, .int 1), (6, .int 0), (3, .int y_8), (0, .ref a0_), (1, .int x1_), (2, .int x2_)]) hx hb dX10_drawRow_134 hl (k := 2) rfl (by rw [ey_50]; rfl) (by decide) rfl (fun ls hl => ?_)
                have ty_50 := add_bd ey_50 b_18 kb_1 (by decide)
                have b_51 : bd 2 10 y_50 := add_rg ty_50 b_18 kb_1 (by decide)
                refine lv_goto (tgt := 36) hx hb dX10_drawRow_137 (by decide) ?_
                have hl9 := lv_sub hl [0, 1, 3, 4, 5, 6] (by rfl : lv_pick [(5, .int y_50), (4, .int 1), (6, .int 0), (3, .int y_8), (0, .ref a0_), (1, .int x1_), (2, .int x2_)] [0, 1, 3, 4, 5, 6] = [(5, .int y_50), (4, .int 1), (3, .int y_8), (0, .ref a0_), (1, .int x1_), (2, .int x2_)])
                have g9 := g.sub (fx' := [(3, 0, q0_, .int x_45), (3, 4, q0_, .int x_47), (10, 3, a0_, .ref q0_)]) [0, 1, 3] rfl
                exact ih36  y_50 1 x_45 x_47 (bd_sub b_51 (by decide)) (bd_sub kb_1 (by decide)) (bd_sub h_46 (by decide)) h_48 (by have h9_0 := b_51; unfold bd at h9_0; have h9_1 := bv36_4; unfold bd at h9_1; have h9_2 := bv36_5; unfold bd at h9_2; have h9_3 := bw36_3_0_q0_; unfold bd at h9_3; have h9_4 := bw36_3_4_q0_; unfold bd at h9_4; have h9_5 := h_46; unfold bd at h9_5; have h9_6 := h_48; unfold bd at h9_6; have h9_7 := kb_0; unfold bd at h9_7; have h9_8 := kb_1; unfold bd at h9_8; have h9_9 := kb_10; unfold bd at h9_9; have h9_10 := kb_3; unfold bd at h9_10; have h9_11 := kb_8; unfold bd at h9_11; omega) _ _ _ _ g9  hl9
            · obtain rfl : r_30 = 1 := h_32
              have g := g.more hF_37
              refine lv_if_ne (tgt := 121) hx hb dX10_drawRow_89 (by decide) (fun c_ => ?_) (fun c_ => absurd c_ (by decide))
              refine lv_aload_n hx hb dX10_drawRow_121 rfl (lv_at hl 4 rfl) ?_
              refine lv_aload_n hx hb dX10_drawRow_122 rfl (lv_at hl 4 rfl) ?_
              refine g_getk (C := RX10) (T := TX10) (N := 10) hx hb hts (mc_ inX10) hown hK g rfl 0 (by decide) rfl (hts _ (List.mem_cons_of_mem _ t_912)) (fun _ h9 => h9) 1 rfl dX10_drawRow_123 ?_
              refine g_getr (K := 136) (C := RX7) (T := TX7) (N := 19) hx hb hts (mc_ inX7) hown hK g ma_29 ka_29 (by decide) rfl 0 (by decide) rfl (hts _ (List.mem_cons_of_mem _ t_624)) (fun _ h9 => h9) rfl dX10_drawRow_126 (fun a_52 ma_52 ka_52 g => ?_)
              refine lv_iload_n hx hb dX10_drawRow_129 rfl (lv_at hl 5 rfl) ?_
              refine g_aald hx hb hK g ma_52 ka_52 (by decide) rfl (by decide) (in_bd bx1_ (by decide)) dX10_drawRow_130 (fun a_53 ma_53 ua_53 wa_53 => ?_)
              have ka_53 : kd a_53 = 9 := by omega
              refine g_callv (va_runV (As := [.ref a_53]) (rest := []) ⟨hx, hb, hml, hown, hts⟩ (r_X10_drawCall l dC dI L kd tys fr_30 H.size g.2.2.2.1 a0_ ma0_ ka0_ a_53 ma_53 ka_53 q0_ mq0_ kq0_ (g.fcts [5] rfl)) (cwV 1 hts (gV_ t_1683 t_1685 t_81 t_194 t_1686) rfl rfl rfl (by decide +kernel) ⟨(Nat.le_of_ble_eq_true rfl), (Nat.le_of_ble_eq_true rfl)⟩) (pre3V g hK ma0_ ka0_ (by decide) (q := (RX10, TX10, 10)) rfl) rfl rfl hl.1 rfl (lv_room (Nat.le_of_ble_eq_true rfl)) dX10_drawRow_131 ⟨(Nat.le_of_ble_eq_true rfl), (Nat.le_of_ble_eq_true rfl)⟩) g hK (by decide) (by decide) (fx' := [(7, 0, a_29, .ref a_52), (7, 1, a_29, .int x_35), (10, 0, a0_, .ref a_29), (3, 4, q0_, .int w36_3_4_q0_), (10, 3, a0_, .ref q0_)]) rfl (fun fr_54 H locs hp hMr_54 g => ?_)
              obtain ⟨x_55, h_56, hF_57⟩ := hp
              have g := g.more hF_57
              obtain ⟨y_58, ey_58⟩ : ∃ z : Int32, z = v36_5 + 1 := ⟨_, rfl⟩
              refine lv_iinc (v := y_58) (lv' := [(5, .int y_58), (6, .int 0), (4, .int v36_4), (3, .int y_8), (0, .ref a0_), (1, .int x1_), (2, .int x2_)]) hx hb dX10_drawRow_134 hl (k := 1) rfl (by rw [ey_58]; rfl) (by decide) rfl (fun ls hl => ?_)
              have ty_58 := add_bd ey_58 b_18 kb_1 (by decide)
              have b_59 : bd 2 10 y_58 := add_rg ty_58 b_18 kb_1 (by decide)
              refine lv_goto (tgt := 36) hx hb dX10_drawRow_137 (by decide) ?_
              have hl9 := lv_sub hl [0, 2, 3, 4, 5, 6] (by rfl : lv_pick [(5, .int y_58), (6, .int 0), (4, .int v36_4), (3, .int y_8), (0, .ref a0_), (1, .int x1_), (2, .int x2_)] [0, 2, 3, 4, 5, 6] = [(5, .int y_58), (4, .int v36_4), (3, .int y_8), (0, .ref a0_), (1, .int x1_), (2, .int x2_)])
              have g9 := g.sub (fx' := [(3, 0, q0_, .int x_55), (3, 4, q0_, .int w36_3_4_q0_), (10, 3, a0_, .ref q0_)]) [0, 4, 5] rfl
              exact ih36  y_58 v36_4 x_55 w36_3_4_q0_ (bd_sub b_59 (by decide)) (bd_sub b_22 (by decide)) h_56 bw36_3_4_q0_ (by have h9_0 := b_22; unfold bd at h9_0; have h9_1 := b_59; unfold bd at h9_1; have h9_2 := bv36_4; unfold bd at h9_2; have h9_3 := bv36_5; unfold bd at h9_3; have h9_4 := bw36_3_0_q0_; unfold bd at h9_4; have h9_5 := bw36_3_4_q0_; unfold bd at h9_5; have h9_6 := h_56; unfold bd at h9_6; have h9_7 := kb_0; unfold bd at h9_7; have h9_8 := kb_1; unfold bd at h9_8; have h9_9 := kb_10; unfold bd at h9_9; have h9_10 := kb_8; unfold bd at h9_10; omega) _ _ _ _ g9  hl9
          · have fc_27 := eq_f c_27
            have b_60 : bd 0 0 y_25 := eqX fc_27 b_26 kb_0 (by decide)
            refine lv_aload_n hx hb dX10_drawRow_57 rfl (lv_at hl 3 rfl) ?_
            refine g_getk (C := RX10) (T := TX10) (N := 10) hx hb hts (mc_ inX10) hown hK g rfl 3 (by decide) rfl (hts _ (List.mem_cons_of_mem _ t_916)) (fun _ h9 => h9) 2 rfl dX10_drawRow_58 ?_
            refine g_getk (C := RX3) (T := TX3) (N := 6) hx hb hts (mc_ inX3) hown hK g rfl 4 (by decide) rfl (hts _ (List.mem_cons_of_mem _ t_814)) (fun _ h9 => h9) 1 rfl dX10_drawRow_61 ?_
            refine lv_iconst (v := 3) hx hb dX10_drawRow_64 (by decide) ?_
            have kb_3 : bd 3 3 (3 : Int32) := ⟨by decide, by decide⟩
            refine lv_icmp_ge (tgt := 72) hx hb dX10_drawRow_65 (by decide) (fun c_61 => ?_) (fun c_61 => ?_)
            · have fc_61 := le_f c_61
              have b_62 : bd 3 3 w36_3_4_q0_ := leR fc_61 kb_3 bw36_3_4_q0_ (by decide)
              refine lv_iconst (v := 0) hx hb dX10_drawRow_72 (by decide) ?_
              refine lv_istore (lv' := [(6, .int 0), (5, .int v36_5), (4, .int v36_4), (3, .int y_8), (0, .ref a0_), (1, .int x1_), (2, .int x2_)]) hx hb dX10_drawRow_73 hl (by decide) rfl (fun ls hl => ?_)
              refine lv_iload hx hb dX10_drawRow_75 (lv_at hl 0 rfl) ?_
              refine lv_if_ne (tgt := 92) hx hb dX10_drawRow_77 (by decide) (fun c_ => absurd c_ (by decide)) (fun c_ => ?_)
              refine lv_aload_n hx hb dX10_drawRow_80 rfl (lv_at hl 4 rfl) ?_
              refine g_getr (K := 7) (C := RX10) (T := TX10) (N := 10) hx hb hts (mc_ inX10) hown hK g ma0_ ka0_ (by decide) rfl 0 (by decide) rfl (hts _ (List.mem_cons_of_mem _ t_912)) (fun _ h9 => h9) rfl dX10_drawRow_81 (fun a_63 ma_63 ka_63 g => ?_)
              refine lv_iload_n hx hb dX10_drawRow_84 rfl (lv_at hl 5 rfl) ?_
              refine lv_iconst (v := 0) hx hb dX10_drawRow_85 (by decide) ?_
              refine g_calli (va_runV (As := [.int x1_, .int 0]) (rest := []) ⟨hx, hb, hml, hown, hts⟩ (r_X7_hasMember l dC dI L kd tys fr_23 H.size g.2.2.2.1 a_63 ma_63 ka_63 x1_ 0) (cwV 2 hts (gV_ t_1614 t_1448 t_1449 t_191 t_1450) rfl rfl rfl (by decide +kernel) ⟨(Nat.le_of_ble_eq_true rfl), (Nat.le_of_ble_eq_true rfl)⟩) (pre3V g hK ma_63 ka_63 (by decide) (q := (RX7, TX7, 19)) rfl) rfl rfl hl.1 rfl (lv_room (Nat.le_of_ble_eq_true rfl)) dX10_drawRow_86 ⟨(Nat.le_of_ble_eq_true rfl), (Nat.le_of_ble_eq_true rfl)⟩) g hK (by decide) (by decide) (fx' := [(10, 0, a0_, .ref a_63), (3, 0, q0_, .int w36_3_0_q0_), (3, 4, q0_, .int w36_3_4_q0_), (10, 3, a0_, .ref q0_)]) rfl (fun r_64 fr_64 H locs hp hMr_64 g => ?_)
              rcases hp with ⟨h_65, -⟩ | ⟨h_66, h_67, h_68, x_69, h_70, hF_71⟩
              · obtain rfl : r_64 = 0 := h_65
                refine lv_if_ne (tgt := 121) hx hb dX10_drawRow_89 (by decide) (fun c_ => absurd c_ (by decide)) (fun c_ => ?_)
                refine lv_aload_n hx hb dX10_drawRow_92 rfl (lv_at hl 4 rfl) ?_
                refine g_getk (C := RX10) (T := TX10) (N := 10) hx hb hts (mc_ inX10) hown hK g rfl 3 (by decide) rfl (hts _ (List.mem_cons_of_mem _ t_916)) (fun _ h9 => h9) 3 rfl dX10_drawRow_93 ?_
                refine g_getk (C := RX3) (T := TX3) (N := 6) hx hb hts (mc_ inX3) hown hK g rfl 4 (by decide) rfl (hts _ (List.mem_cons_of_mem _ t_814)) (fun _ h9 => h9) 2 rfl dX10_drawRow_96 ?_
                refine lv_iconst (v := 3) hx hb dX10_drawRow_99 (by decide) ?_
                refine lv_icmp_ge (tgt := 107) hx hb dX10_drawRow_100 (by decide) (fun c_72 => ?_) (fun c_72 => ?_)
                · have fc_72 := le_f c_72
                  refine lv_iconst (v := 0) hx hb dX10_drawRow_107 (by decide) ?_
                  refine lv_istore (lv' := [(4, .int 0), (6, .int 0), (5, .int v36_5), (3, .int y_8), (0, .ref a0_), (1, .int x1_), (2, .int x2_)]) hx hb dX10_drawRow_108 hl (by decide) rfl (fun ls hl => ?_)
                  refine lv_aload_n hx hb dX10_drawRow_110 rfl (lv_at hl 4 rfl) ?_
                  refine g_getk (C := RX10) (T := TX10) (N := 10) hx hb hts (mc_ inX10) hown hK g rfl 3 (by decide) rfl (hts _ (List.mem_cons_of_mem _ t_916)) (fun _ h9 => h9) 3 rfl dX10_drawRow_111 ?_
                  refine lv_iload_n hx hb dX10_drawRow_114 rfl (lv_at hl 5 rfl) ?_
                  refine g_callv (va_runV (As := [.int x1_]) (rest := []) ⟨hx, hb, hml, hown, hts⟩ (r_X3_addMake_4 l dC dI L kd tys fr_64 H.size g.2.2.2.1 q0_ mq0_ kq0_ x1_ bx1_ w36_3_0_q0_ bw36_3_0_q0_ w36_3_4_q0_ b_62 (g.fcts [1, 2] rfl)) (cwV 1 hts (gV_ t_1481 t_1482 t_1483 t_196 t_1484) rfl rfl rfl (by decide +kernel) ⟨(Nat.le_of_ble_eq_true rfl), (Nat.le_of_ble_eq_true rfl)⟩) (pre3V g hK mq0_ kq0_ (by decide) (q := (RX3, TX3, 6)) rfl) rfl rfl hl.1 rfl (lv_room (Nat.le_of_ble_eq_true rfl)) dX10_drawRow_115 ⟨(Nat.le_of_ble_eq_true rfl), (Nat.le_of_ble_eq_true rfl)⟩) g hK (by decide) (by decide) (fx' := [(10, 0, a0_, .ref a_63), (3, 0, q0_, .int w36_3_0_q0_), (3, 4, q0_, .int w36_3_4_q0_), (10, 3, a0_, .ref q0_)]) rfl (fun fr_73 H locs hp hMr_73 g => ?_)
                  refine lv_goto (tgt := 134) hx hb dX10_drawRow_118 (by decide) ?_
                  obtain ⟨y_74, ey_74⟩ : ∃ z : Int32, z = v36_5 + 1 := ⟨_, rfl⟩
                  refine lv_iinc (v := y_74) (lv' := [(5, .int y_74), (4, .int 0), (6, .int 0), (3, .int y_8), (0, .ref a0_), (1, .int x1_), (2, .int x2_)]) hx hb dX10_drawRow_134 hl (k := 2) rfl (by rw [ey_74]; rfl) (by decide) rfl (fun ls hl => ?_)
                  have ty_74 := add_bd ey_74 b_18 kb_1 (by decide)
                  have b_75 : bd 2 10 y_74 := add_rg ty_74 b_18 kb_1 (by decide)
                  refine lv_goto (tgt := 36) hx hb dX10_drawRow_137 (by decide) ?_
                  have hl9 := lv_sub hl [0, 1, 3, 4, 5, 6] (by rfl : lv_pick [(5, .int y_74), (4, .int 0), (6, .int 0), (3, .int y_8), (0, .ref a0_), (1, .int x1_), (2, .int x2_)] [0, 1, 3, 4, 5, 6] = [(5, .int y_74), (4, .int 0), (3, .int y_8), (0, .ref a0_), (1, .int x1_), (2, .int x2_)])
                  have g9 := g.sub (fx' := [(3, 0, q0_, .int w36_3_0_q0_), (3, 4, q0_, .int w36_3_4_q0_), (10, 3, a0_, .ref q0_)]) [1, 2, 3] rfl
                  exact ih36  y_74 0 w36_3_0_q0_ w36_3_4_q0_ (bd_sub b_75 (by decide)) (bd_sub kb_0 (by decide)) bw36_3_0_q0_ (bd_sub b_62 (by decide)) (by have h9_0 := b_62; unfold bd at h9_0; have h9_1 := b_75; unfold bd at h9_1; have h9_2 := bv36_4; unfold bd at h9_2; have h9_3 := bv36_5; unfold bd at h9_3; have h9_4 := bw36_3_0_q0_; unfold bd at h9_4; have h9_5 := bw36_3_4_q0_; unfold bd at h9_5; have h9_6 := kb_0; unfold bd at h9_6; have h9_7 := kb_1; unfold bd at h9_7; have h9_8 := kb_10; unfold bd at h9_8; have h9_9 := kb_3; unfold bd at h9_9; have h9_10 := kb_8; unfold bd at h9_10; omega) _ _ _ _ g9  hl9
                · have fc_72 := nle_f c_72
                  have b_76 : bd 3 2 w36_3_4_q0_ := ltL fc_72 b_62 kb_3 (by decide)
                  exact bd_no b_76 (by decide)
              · obtain rfl : r_64 = 1 := h_66
                have g := g.more hF_71
                refine lv_if_ne (tgt := 121) hx hb dX10_drawRow_89 (by decide) (fun c_ => ?_) (fun c_ => absurd c_ (by decide))
                refine lv_aload_n hx hb dX10_drawRow_121 rfl (lv_at hl 4 rfl) ?_
                refine lv_aload_n hx hb dX10_drawRow_122 rfl (lv_at hl 4 rfl) ?_
                refine g_getk (C := RX10) (T := TX10) (N := 10) hx hb hts (mc_ inX10) hown hK g rfl 0 (by decide) rfl (hts _ (List.mem_cons_of_mem _ t_912)) (fun _ h9 => h9) 1 rfl dX10_drawRow_123 ?_
                refine g_getr (K := 136) (C := RX7) (T := TX7) (N := 19) hx hb hts (mc_ inX7) hown hK g ma_63 ka_63 (by decide) rfl 0 (by decide) rfl (hts _ (List.mem_cons_of_mem _ t_624)) (fun _ h9 => h9) rfl dX10_drawRow_126 (fun a_77 ma_77 ka_77 g => ?_)
                refine lv_iload_n hx hb dX10_drawRow_129 rfl (lv_at hl 5 rfl) ?_
                refine g_aald hx hb hK g ma_77 ka_77 (by decide) rfl (by decide) (in_bd bx1_ (by decide)) dX10_drawRow_130 (fun a_78 ma_78 ua_78 wa_78 => ?_)
                have ka_78 : kd a_78 = 9 := by omega
                refine g_callv (va_runV (As := [.ref a_78]) (rest := []) ⟨hx, hb, hml, hown, hts⟩ (r_X10_drawCall l dC dI L kd tys fr_64 H.size g.2.2.2.1 a0_ ma0_ ka0_ a_78 ma_78 ka_78 q0_ mq0_ kq0_ (g.fcts [5] rfl)) (cwV 1 hts (gV_ t_1683 t_1685 t_81 t_194 t_1686) rfl rfl rfl (by decide +kernel) ⟨(Nat.le_of_ble_eq_true rfl), (Nat.le_of_ble_eq_true rfl)⟩) (pre3V g hK ma0_ ka0_ (by decide) (q := (RX10, TX10, 10)) rfl) rfl rfl hl.1 rfl (lv_room (Nat.le_of_ble_eq_true rfl)) dX10_drawRow_131 ⟨(Nat.le_of_ble_eq_true rfl), (Nat.le_of_ble_eq_true rfl)⟩) g hK (by decide) (by decide) (fx' := [(7, 0, a_63, .ref a_77), (7, 1, a_63, .int x_69), (10, 0, a0_, .ref a_63), (3, 4, q0_, .int w36_3_4_q0_), (10, 3, a0_, .ref q0_)]) rfl (fun fr_79 H locs hp hMr_79 g => ?_)
                obtain ⟨x_80, h_81, hF_82⟩ := hp
                have g := g.more hF_82
                obtain ⟨y_83, ey_83⟩ : ∃ z : Int32, z = v36_5 + 1 := ⟨_, rfl⟩
                refine lv_iinc (v := y_83) (lv' := [(5, .int y_83), (6, .int 0), (4, .int v36_4), (3, .int y_8), (0, .ref a0_), (1, .int x1_), (2, .int x2_)]) hx hb dX10_drawRow_134 hl (k := 1) rfl (by rw [ey_83]; rfl) (by decide) rfl (fun ls hl => ?_)
                have ty_83 := add_bd ey_83 b_18 kb_1 (by decide)
                have b_84 : bd 2 10 y_83 := add_rg ty_83 b_18 kb_1 (by decide)
                refine lv_goto (tgt := 36) hx hb dX10_drawRow_137 (by decide) ?_
                have hl9 := lv_sub hl [0, 2, 3, 4, 5, 6] (by rfl : lv_pick [(5, .int y_83), (6, .int 0), (4, .int v36_4), (3, .int y_8), (0, .ref a0_), (1, .int x1_), (2, .int x2_)] [0, 2, 3, 4, 5, 6] = [(5, .int y_83), (4, .int v36_4), (3, .int y_8), (0, .ref a0_), (1, .int x1_), (2, .int x2_)])
                have g9 := g.sub (fx' := [(3, 0, q0_, .int x_80), (3, 4, q0_, .int w36_3_4_q0_), (10, 3, a0_, .ref q0_)]) [0, 4, 5] rfl
                exact ih36  y_83 v36_4 x_80 w36_3_4_q0_ (bd_sub b_84 (by decide)) (bd_sub b_22 (by decide)) h_81 (bd_sub b_62 (by decide)) (by have h9_0 := b_22; unfold bd at h9_0; have h9_1 := b_62; unfold bd at h9_1; have h9_2 := b_84; unfold bd at h9_2; have h9_3 := bv36_4; unfold bd at h9_3; have h9_4 := bv36_5; unfold bd at h9_4; have h9_5 := bw36_3_0_q0_; unfold bd at h9_5; have h9_6 := bw36_3_4_q0_; unfold bd at h9_6; have h9_7 := h_81; unfold bd at h9_7; have h9_8 := kb_0; unfold bd at h9_8; have h9_9 := kb_1; unfold bd at h9_9; have h9_10 := kb_10; unfold bd at h9_10; have h9_11 := kb_3; unfold bd at h9_11; have h9_12 := kb_8; unfold bd at h9_12; omega) _ _ _ _ g9  hl9
            · have fc_61 := nle_f c_61
              have b_85 : bd 1 2 w36_3_4_q0_ := ltL fc_61 bw36_3_4_q0_ kb_3 (by decide)
              refine lv_iconst (v := 1) hx hb dX10_drawRow_68 (by decide) ?_
              refine lv_goto (tgt := 73) hx hb dX10_drawRow_69 (by decide) ?_
              refine lv_istore (lv' := [(6, .int 1), (5, .int v36_5), (4, .int v36_4), (3, .int y_8), (0, .ref a0_), (1, .int x1_), (2, .int x2_)]) hx hb dX10_drawRow_73 hl (by decide) rfl (fun ls hl => ?_)
              refine lv_iload hx hb dX10_drawRow_75 (lv_at hl 0 rfl) ?_
              refine lv_if_ne (tgt := 92) hx hb dX10_drawRow_77 (by decide) (fun c_ => ?_) (fun c_ => absurd c_ (by decide))
              refine lv_aload_n hx hb dX10_drawRow_92 rfl (lv_at hl 4 rfl) ?_
              refine g_getk (C := RX10) (T := TX10) (N := 10) hx hb hts (mc_ inX10) hown hK g rfl 3 (by decide) rfl (hts _ (List.mem_cons_of_mem _ t_916)) (fun _ h9 => h9) 2 rfl dX10_drawRow_93 ?_
              refine g_getk (C := RX3) (T := TX3) (N := 6) hx hb hts (mc_ inX3) hown hK g rfl 4 (by decide) rfl (hts _ (List.mem_cons_of_mem _ t_814)) (fun _ h9 => h9) 1 rfl dX10_drawRow_96 ?_
              refine lv_iconst (v := 3) hx hb dX10_drawRow_99 (by decide) ?_
              refine lv_icmp_ge (tgt := 107) hx hb dX10_drawRow_100 (by decide) (fun c_86 => ?_) (fun c_86 => ?_)
              · have fc_86 := le_f c_86
                have b_87 : bd 3 2 (3 : Int32) := leL fc_86 kb_3 b_85 (by decide)
                exact bd_no (eqX rfl b_87 kb_3 (lo := 3) (hi := 2) (by decide)) (by decide)
              · have fc_86 := nle_f c_86
                refine lv_iconst (v := 1) hx hb dX10_drawRow_103 (by decide) ?_
                refine lv_goto (tgt := 108) hx hb dX10_drawRow_104 (by decide) ?_
                refine lv_istore (lv' := [(4, .int 1), (6, .int 1), (5, .int v36_5), (3, .int y_8), (0, .ref a0_), (1, .int x1_), (2, .int x2_)]) hx hb dX10_drawRow_108 hl (by decide) rfl (fun ls hl => ?_)
                refine lv_aload_n hx hb dX10_drawRow_110 rfl (lv_at hl 4 rfl) ?_
                refine g_getk (C := RX10) (T := TX10) (N := 10) hx hb hts (mc_ inX10) hown hK g rfl 3 (by decide) rfl (hts _ (List.mem_cons_of_mem _ t_916)) (fun _ h9 => h9) 2 rfl dX10_drawRow_111 ?_
                refine lv_iload_n hx hb dX10_drawRow_114 rfl (lv_at hl 5 rfl) ?_
                refine g_callv (va_runV (As := [.int x1_]) (rest := []) ⟨hx, hb, hml, hown, hts⟩ (r_X3_addMake_5 l dC dI L kd tys fr_23 H.size g.2.2.2.1 q0_ mq0_ kq0_ x1_ bx1_ w36_3_0_q0_ bw36_3_0_q0_ w36_3_4_q0_ b_85 (g.fcts [0, 1] rfl)) (cwV 1 hts (gV_ t_1481 t_1482 t_1483 t_196 t_1484) rfl rfl rfl (by decide +kernel) ⟨(Nat.le_of_ble_eq_true rfl), (Nat.le_of_ble_eq_true rfl)⟩) (pre3V g hK mq0_ kq0_ (by decide) (q := (RX3, TX3, 6)) rfl) rfl rfl hl.1 rfl (lv_room (Nat.le_of_ble_eq_true rfl)) dX10_drawRow_115 ⟨(Nat.le_of_ble_eq_true rfl), (Nat.le_of_ble_eq_true rfl)⟩) g hK (by decide) (by decide) (fx' := [(10, 3, a0_, .ref q0_)]) rfl (fun fr_88 H locs hp hMr_88 g => ?_)
                obtain ⟨x_89, h_90, x_91, h_92, hF_93⟩ := hp
                have g := g.more hF_93
                refine lv_goto (tgt := 134) hx hb dX10_drawRow_118 (by decide) ?_
                obtain ⟨y_94, ey_94⟩ : ∃ z : Int32, z = v36_5 + 1 := ⟨_, rfl⟩
                refine lv_iinc (v := y_94) (lv' := [(5, .int y_94), (4, .int 1), (6, .int 1), (3, .int y_8), (0, .ref a0_), (1, .int x1_), (2, .int x2_)]) hx hb dX10_drawRow_134 hl (k := 2) rfl (by rw [ey_94]; rfl) (by decide) rfl (fun ls hl => ?_)
                have ty_94 := add_bd ey_94 b_18 kb_1 (by decide)
                have b_95 : bd 2 10 y_94 := add_rg ty_94 b_18 kb_1 (by decide)
                refine lv_goto (tgt := 36) hx hb dX10_drawRow_137 (by decide) ?_
                have hl9 := lv_sub hl [0, 1, 3, 4, 5, 6] (by rfl : lv_pick [(5, .int y_94), (4, .int 1), (6, .int 1), (3, .int y_8), (0, .ref a0_), (1, .int x1_), (2, .int x2_)] [0, 1, 3, 4, 5, 6] = [(5, .int y_94), (4, .int 1), (3, .int y_8), (0, .ref a0_), (1, .int x1_), (2, .int x2_)])
                have g9 := g.sub (fx' := [(3, 0, q0_, .int x_89), (3, 4, q0_, .int x_91), (10, 3, a0_, .ref q0_)]) [0, 1, 2] rfl
                exact ih36  y_94 1 x_89 x_91 (bd_sub b_95 (by decide)) (bd_sub kb_1 (by decide)) (bd_sub h_90 (by decide)) h_92 (by have h9_0 := b_95; unfold bd at h9_0; have h9_1 := bv36_4; unfold bd at h9_1; have h9_2 := bv36_5; unfold bd at h9_2; have h9_3 := bw36_3_0_q0_; unfold bd at h9_3; have h9_4 := bw36_3_4_q0_; unfold bd at h9_4; have h9_5 := h_90; unfold bd at h9_5; have h9_6 := h_92; unfold bd at h9_6; have h9_7 := kb_0; unfold bd at h9_7; have h9_8 := kb_1; unfold bd at h9_8; have h9_9 := kb_10; unfold bd at h9_9; have h9_10 := kb_3; unfold bd at h9_10; have h9_11 := kb_8; unfold bd at h9_11; omega) _ _ _ _ g9  hl9
  have hl9 := lv_sub hl [0, 1, 2, 3, 4, 5] (by rfl : lv_pick [(5, .int 1), (4, .int 1), (3, .int y_8), (0, .ref a0_), (1, .int x1_), (2, .int x2_)] [0, 1, 2, 3, 4, 5] = [(5, .int 1), (4, .int 1), (3, .int y_8), (0, .ref a0_), (1, .int x1_), (2, .int x2_)])
  have g9 := g.sub (fx' := [(3, 0, q0_, .int x_11), (3, 4, q0_, .int x_13), (10, 3, a0_, .ref q0_)]) [0, 1, 2] rfl
  exact loop_16 (21) 1 1 x_11 x_13 (bd_sub kb_1 (by decide)) (bd_sub kb_1 (by decide)) (bd_sub h_12 (by decide)) (bd_sub h_14 (by decide)) (by have h9_0 := h_12; unfold bd at h9_0; have h9_1 := h_14; unfold bd at h9_1; have h9_2 := kb_0; unfold bd at h9_2; have h9_3 := kb_1; unfold bd at h9_3; have h9_4 := kb_10; unfold bd at h9_4; omega) _ _ _ _ g9  hl9
