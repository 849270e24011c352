set_option maxHeartbeats 4000000 in
set_option maxRecDepth 100000 in
theorem r_X0_closeIndex (l : Launch) (dC : Nat → ClassId) (dI : Nat → Nat → Nat) (L : List Nat) (kd : Nat → Nat) (tys : List (ClassId × FieldType)) (f0 : Nat → va_E) (sz : Nat) (hWT : WT L kd tys f0) (a0_ : Nat) (ma0_ : a0_ ∈ L) (ka0_ : kd a0_ = 0) (q0_ : Nat) (mq0_ : q0_ ∈ L) (kq0_ : kd q0_ = 8) (q1_ : Nat) (mq1_ : q1_ ∈ L) (kq1_ : kd q1_ = 7) (y0_ : Int32) (by0_ : bd 1 300 y0_) (y1_ : Int32) (by1_ : bd 0 0 y1_) (hfx : Fs L kd f0 [(0, 0, a0_, .ref q0_), (0, 2, a0_, .ref q1_), (0, 8, a0_, .int y0_), (8, 8, q0_, .int y1_)]) : Met l yX0_closeIndex (.code yX0_closeIndex cX0_closeIndex 3 none :: lw_g) ({ frames := 1, cells := 0, slots := 0, locals := 23 }) (va_Pc [.ref a0_] (P3 (dC, dI) L tys f0 sz)) (va_Qv (fun (f : Nat → va_E) => (∃ z1_ : Int32, bd 1 300 z1_ ∧ ∃ z2_ : Int32, bd 1 2000 z2_ ∧ ∃ z3_ : Int32, bd 0 299 z3_ ∧ ∃ z4_ : Int32, bd 1 1201 z4_ ∧ Fs L kd f [(0, 12, a0_, .int 0), (0, 10, a0_, .int z1_), (7, 6, q1_, .int z2_), (0, 8, a0_, .int z3_), (8, 6, q0_, .int z4_), (8, 8, q0_, .int y1_)]) ∨ (∃ z1_ : Int32, bd 1 300 z1_ ∧ ∃ z3_ : Int32, bd 1 2000 z3_ ∧ ∃ z4_ : Int32, bd 1 7 z4_ ∧ ∃ z5_ : Int32, bd 0 299 z5_ ∧ Fs L kd f [(0, 12, a0_, .int 0), (0, 10, a0_, .int z1_), (8, 6, q0_, .int 1201), (7, 6, q1_, .int z3_), (8, 8, q0_, .int z4_), (0, 8, a0_, .int z5_)])) (Q3 (dC, dI) L kd tys [(0, 8), (0, 10), (0, 11), (0, 12), (7, 6), (8, 6), (8, 8), (8, 9)] [115, 138, 139] f0 sz) (pA L sz)) 0 0 (pA L sz) := by
  refine Met.ofW (cc := cX0_closeIndex) (maxL := 3) (ret := none) (by decide) rfl ?_
  intro p e s m args below meth c s₁ B hml hv
  obtain ⟨rfl, hsz, hP, hK, hD0⟩ := hv
  have hx := B.exec
  have hb := B.bytes
  have hr := B.returns
  have hts := atoms_spec (ws := (.code yX0_closeIndex cX0_closeIndex 3 none :: lw_g)) B.pre
  have hown : s.vm.findClass RX0 = some m.cls := findClass_of_methodNamed B.named
  have hlocks := B.notSynchronized
  subst hsz
  have g : G3 (dC, dI) L kd tys s f0 [(0, 8), (0, 10), (0, 11), (0, 12), (7, 6), (8, 6), (8, 8), (8, 9)] [115, 138, 139] f0 s.heap [] [(0, 0, a0_, .ref q0_), (0, 2, a0_, .ref q1_), (0, 8, a0_, .int y0_), (8, 8, q0_, .int y1_)] := G3.start hP hD0 hWT hfx
  have hl := lv_entry ([.ref a0_]) (n := 3) (Nat.le_of_ble_eq_true rfl)
  rw [lg_entry_eq]
  generalize (lg_sl ([.ref a0_]) ++ List.replicate (3 - (lg_sl ([.ref a0_])).length) Slot.unset).toArray = ls at hl ⊢
  have hl : lv_has ls 3 [(0, .ref a0_)] := hl
  refine W_q (fun Q hQ => ?_)
  refine lv_aload_n hx hb dX0_closeIndex_0 rfl (lv_at hl 0 rfl) ?_
  refine g_getk (C := RX0) (T := TX0) (N := 14) hx hb hts (mc_ inX0) hown hK g rfl 0 (by decide) rfl (hts _ (List.mem_cons_of_mem _ t_373)) (fun _ h9 => h9) 0 rfl dX0_closeIndex_1 ?_
  refine g_callv (va_runV (As := []) (rest := []) ⟨hx, hb, hml, hown, hts⟩ (r_X8_next l dC dI L kd tys f0 s.heap.size g.2.2.2.1 q0_ mq0_ kq0_) (cwV 0 hts (gV_ t_1225 t_1103 t_1104 t_184 t_1105) rfl rfl rfl (by decide +kernel) ⟨(Nat.le_of_ble_eq_true rfl), (Nat.le_of_ble_eq_true rfl)⟩) (pre3V g hK mq0_ kq0_ (by decide) (q := (RX8, TX8, 10)) rfl) rfl rfl hl.1 rfl (lv_room (Nat.le_of_ble_eq_true rfl)) dX0_closeIndex_4 ⟨(Nat.le_of_ble_eq_true rfl), (Nat.le_of_ble_eq_true rfl)⟩) g hK (by decide) (by decide) (fx' := [(0, 0, a0_, .ref q0_), (0, 2, a0_, .ref q1_), (0, 8, a0_, .int y0_), (8, 8, q0_, .int y1_)]) rfl (fun fr_1 H locs hp hMr_1 g => ?_)
  obtain ⟨x_2, h_3, hF_4⟩ := hp
  have g := g.more hF_4
  refine lv_aload_n hx hb dX0_closeIndex_7 rfl (lv_at hl 0 rfl) ?_
  refine lv_dup hx hb dX0_closeIndex_8 rfl ?_
  refine g_getk (C := RX0) (T := TX0) (N := 14) hx hb hts (mc_ inX0) hown hK g rfl 8 (by decide) rfl (hts _ (List.mem_cons_of_mem _ t_381)) (fun _ h9 => h9) 3 rfl dX0_closeIndex_9 ?_
  refine lv_iconst (v := 1) hx hb dX0_closeIndex_12 (by decide) ?_
  have kb_1 : bd 1 1 (1 : Int32) := ⟨by decide, by decide⟩
  refine lv_isub hx hb dX0_closeIndex_13 ?_
  refine lv_topi (fun y_5 ey_5 => ?_)
  have ty_5 := sub_bd ey_5 by0_ kb_1 (by decide)
  have b_6 : bd 0 299 y_5 := sub_rg ty_5 by0_ kb_1 (by decide)
  refine g_put (C := RX0) (T := TX0) (N := 14) hx hb hts (mc_ inX0) tyX0 tyX0_ok nmX0 hown hK g ma0_ ka0_ (by decide) rfl 8 (by decide) (hts _ (List.mem_cons_of_mem _ t_381)) (fun _ h9 => h9) rfl rfl (okV_i (bd_sub b_6 (by decide))) rfl rfl (by decide) (Or.inr (Or.inl (by decide))) (fx' := [(8, 6, q0_, .int x_2), (0, 0, a0_, .ref q0_), (0, 2, a0_, .ref q1_), (8, 8, q0_, .int y1_)]) rfl dX0_closeIndex_14 (fun f H locs hM_7 g => ?_)
  refine lv_aload_n hx hb dX0_closeIndex_17 rfl (lv_at hl 0 rfl) ?_
  refine lv_dup hx hb dX0_closeIndex_18 rfl ?_
  refine g_geti (C := RX0) (T := TX0) (N := 14) hx hb hts (mc_ inX0) hown hK g ma0_ ka0_ (by decide) rfl 11 (by decide) rfl (hts _ (List.mem_cons_of_mem _ t_384)) (fun _ h9 => h9) rfl dX0_closeIndex_19 (fun x_8 bx_8 g => ?_)
  refine lv_iconst (v := 1) hx hb dX0_closeIndex_22 (by decide) ?_
  refine lv_isub hx hb dX0_closeIndex_23 ?_
  refine lv_topi (fun y_9 ey_9 => ?_)
  refine g_put (C := RX0) (T := TX0) (N := 14) hx hb hts (mc_ inX0) tyX0 tyX0_ok nmX0 hown hK g ma0_ ka0_ (by decide) rfl 11 (by decide) (hts _ (List.mem_cons_of_mem _ t_384)) (fun _ h9 => h9) rfl rfl (okV_i (bdT y_9)) rfl rfl (by decide) (Or.inr (Or.inl (by decide))) (fx' := [(0, 8, a0_, .int y_5), (8, 6, q0_, .int x_2), (0, 0, a0_, .ref q0_), (0, 2, a0_, .ref q1_), (8, 8, q0_, .int y1_)]) rfl dX0_closeIndex_24 (fun f H locs hM_10 g => ?_)
  refine lv_aload_n hx hb dX0_closeIndex_27 rfl (lv_at hl 0 rfl) ?_
  refine g_getr (K := 110) (C := RX0) (T := TX0) (N := 14) hx hb hts (mc_ inX0) hown hK g ma0_ ka0_ (by decide) rfl 3 (by decide) rfl (hts _ (List.mem_cons_of_mem _ t_376)) (fun _ h9 => h9) rfl dX0_closeIndex_28 (fun a_11 ma_11 ka_11 g => ?_)
  refine lv_aload_n hx hb dX0_closeIndex_31 rfl (lv_at hl 0 rfl) ?_
  refine g_getk (C := RX0) (T := TX0) (N := 14) hx hb hts (mc_ inX0) hown hK g rfl 8 (by decide) rfl (hts _ (List.mem_cons_of_mem _ t_381)) (fun _ h9 => h9) 2 rfl dX0_closeIndex_32 ?_
  refine g_iald hx hb hK g ma_11 ka_11 (by decide) rfl (in_bd b_6 (by decide)) dX0_closeIndex_35 (fun x_12 bx_12 cx_12 => ?_)
  refine lv_iconst (v := 5) hx hb dX0_closeIndex_36 (by decide) ?_
  have kb_5 : bd 5 5 (5 : Int32) := ⟨by decide, by decide⟩
  refine lv_icmp_ne (tgt := 44) hx hb dX0_closeIndex_37 (by decide) (fun c_13 => ?_) (fun c_13 => ?_)
  · have fc_13 := neq_f c_13
    refine lv_iconst (v := 0) hx hb dX0_closeIndex_44 (by decide) ?_
    refine lv_istore_n (lv' := [(1, .int 0), (0, .ref a0_)]) hx hb dX0_closeIndex_45 rfl hl (by decide) rfl (fun ls hl => ?_)
    refine lv_aload_n hx hb dX0_closeIndex_46 rfl (lv_at hl 1 rfl) ?_
    refine g_calli (va_runV (As := []) (rest := []) ⟨hx, hb, hml, hown, hts⟩ (r_X0_takeHeight l dC dI L kd tys f H.size g.2.2.2.1 a0_ ma0_ ka0_) (cwV 0 hts (gV_ t_1199 t_1201 t_16 t_190 t_1202) rfl rfl rfl (by decide +kernel) ⟨(Nat.le_of_ble_eq_true rfl), (Nat.le_of_ble_eq_true rfl)⟩) (pre3V g hK ma0_ ka0_ (by decide) (q := (RX0, TX0, 14)) rfl) rfl rfl hl.1 rfl (lv_room (Nat.le_of_ble_eq_true rfl)) dX0_closeIndex_47 ⟨(Nat.le_of_ble_eq_true rfl), (Nat.le_of_ble_eq_true rfl)⟩) g hK (by decide) (by decide) (fx' := [(0, 3, a0_, .ref a_11), (0, 11, a0_, .int y_9), (0, 8, a0_, .int y_5), (8, 6, q0_, .int x_2), (0, 0, a0_, .ref q0_), (0, 2, a0_, .ref q1_), (8, 8, q0_, .int y1_)]) rfl (fun r_14 fr_14 H locs hp hMr_14 g => ?_)
    obtain ⟨x_15, h_16, hF_17⟩ := hp
    have g := g.more hF_17
    refine lv_iconst (v := 1) hx hb dX0_closeIndex_50 (by decide) ?_
    refine lv_iadd hx hb dX0_closeIndex_51 ?_
    refine lv_topi (fun y_18 ey_18 => ?_)
    refine lv_istore_n (lv' := [(2, .int y_18), (1, .int 0), (0, .ref a0_)]) hx hb dX0_closeIndex_52 rfl hl (by decide) rfl (fun ls hl => ?_)
    refine lv_iload_n hx hb dX0_closeIndex_53 rfl (lv_at hl 0 rfl) ?_
    refine lv_bipush (v := 12) hx hb dX0_closeIndex_54 (by decide) ?_
    have kb_12 : bd 12 12 (12 : Int32) := ⟨by decide, by decide⟩
    refine lv_icmp_le (tgt := 77) hx hb dX0_closeIndex_56 (by decide) (fun c_19 => ?_) (fun c_19 => ?_)
    · have fc_19 := le_f c_19
      have b_20 : bd (-2147483648) 12 y_18 := leL fc_19 (bdT y_18) kb_12 (by decide)
      refine lv_aload_n hx hb dX0_closeIndex_77 rfl (lv_at hl 2 rfl) ?_
      refine g_getk (C := RX0) (T := TX0) (N := 14) hx hb hts (mc_ inX0) hown hK g rfl 2 (by decide) rfl (hts _ (List.mem_cons_of_mem _ t_375)) (fun _ h9 => h9) 6 rfl dX0_closeIndex_78 ?_
      refine lv_iload_n hx hb dX0_closeIndex_81 rfl (lv_at hl 1 rfl) ?_
      refine lv_if_eq (tgt := 90) hx hb dX0_closeIndex_82 (by decide) (fun c_ => ?_) (fun c_ => absurd (by decide) c_)
      refine lv_bipush (v := 9) hx hb dX0_closeIndex_90 (by decide) ?_
      refine lv_aload_n hx hb dX0_closeIndex_92 rfl (lv_at hl 2 rfl) ?_
      refine g_getr (K := 112) (C := RX0) (T := TX0) (N := 14) hx hb hts (mc_ inX0) hown hK g ma0_ ka0_ (by decide) rfl 5 (by decide) rfl (hts _ (List.mem_cons_of_mem _ t_378)) (fun _ h9 => h9) rfl dX0_closeIndex_93 (fun a_21 ma_21 ka_21 g => ?_)
      refine lv_aload_n hx hb dX0_closeIndex_96 rfl (lv_at hl 2 rfl) ?_
      refine g_getk (C := RX0) (T := TX0) (N := 14) hx hb hts (mc_ inX0) hown hK g rfl 8 (by decide) rfl (hts _ (List.mem_cons_of_mem _ t_381)) (fun _ h9 => h9) 4 rfl dX0_closeIndex_97 ?_
      refine g_iald hx hb hK g ma_21 ka_21 (by decide) rfl (in_bd b_6 (by decide)) dX0_closeIndex_100 (fun x_22 bx_22 cx_22 => ?_)
      refine g_callv (va_runV (As := [.int 9, .int x_22]) (rest := []) ⟨hx, hb, hml, hown, hts⟩ (r_X7_emit l dC dI L kd tys fr_14 H.size g.2.2.2.1 q1_ mq1_ kq1_ 9 x_22) (cwV 2 hts (gV_ t_1203 t_1204 t_1205 t_191 t_1206) rfl rfl rfl (by decide +kernel) ⟨(Nat.le_of_ble_eq_true rfl), (Nat.le_of_ble_eq_true rfl)⟩) (pre3V g hK mq1_ kq1_ (by decide) (q := (RX7, TX7, 19)) rfl) rfl rfl hl.1 rfl (lv_room (Nat.le_of_ble_eq_true rfl)) dX0_closeIndex_101 ⟨(Nat.le_of_ble_eq_true rfl), (Nat.le_of_ble_eq_true rfl)⟩) g hK (by decide) (by decide) (fx' := [(0, 5, a0_, .ref a_21), (0, 10, a0_, .int x_15), (0, 3, a0_, .ref a_11), (0, 11, a0_, .int y_9), (0, 8, a0_, .int y_5), (8, 6, q0_, .int x_2), (0, 0, a0_, .ref q0_), (0, 2, a0_, .ref q1_), (8, 8, q0_, .int y1_)]) rfl (fun fr_23 H locs hp hMr_23 g => ?_)
      obtain ⟨x_24, h_25, hF_26⟩ := hp
      have g := g.more hF_26
      refine lv_iload_n hx hb dX0_closeIndex_104 rfl (lv_at hl 1 rfl) ?_
      refine lv_if_eq (tgt := 155) hx hb dX0_closeIndex_105 (by decide) (fun c_ => ?_) (fun c_ => absurd (by decide) c_)
      refine lv_iload_n hx hb dX0_closeIndex_155 rfl (lv_at hl 0 rfl) ?_
      refine lv_bipush (v := 12) hx hb dX0_closeIndex_156 (by decide) ?_
      refine lv_icmp_le (tgt := 179) hx hb dX0_closeIndex_158 (by decide) (fun c_27 => ?_) (fun c_27 => ?_)
      · have fc_27 := le_f c_27
        refine lv_aload_n hx hb dX0_closeIndex_179 rfl (lv_at hl 2 rfl) ?_
        refine lv_iload_n hx hb dX0_closeIndex_180 rfl (lv_at hl 0 rfl) ?_
        refine g_callv (va_runV (As := [.int y_18]) (rest := []) ⟨hx, hb, hml, hown, hts⟩ (r_X0_addWhole l dC dI L kd tys fr_23 H.size g.2.2.2.1 a0_ ma0_ ka0_ y_18) (cwV 1 hts (gV_ t_1211 t_1213 t_17 t_190 t_1214) rfl rfl rfl (by decide +kernel) ⟨(Nat.le_of_ble_eq_true rfl), (Nat.le_of_ble_eq_true rfl)⟩) (pre3V g hK ma0_ ka0_ (by decide) (q := (RX0, TX0, 14)) rfl) rfl rfl hl.1 rfl (lv_room (Nat.le_of_ble_eq_true rfl)) dX0_closeIndex_181 ⟨(Nat.le_of_ble_eq_true rfl), (Nat.le_of_ble_eq_true rfl)⟩) g hK (by decide) (by decide) (fx' := [(7, 6, q1_, .int x_24), (0, 5, a0_, .ref a_21), (0, 3, a0_, .ref a_11), (0, 11, a0_, .int y_9), (0, 8, a0_, .int y_5), (8, 6, q0_, .int x_2), (0, 0, a0_, .ref q0_), (0, 2, a0_, .ref q1_), (8, 8, q0_, .int y1_)]) rfl (fun fr_28 H locs hp hMr_28 g => ?_)
        obtain ⟨x_29, h_30, hF_31⟩ := hp
        have g := g.more hF_31
        subst hQ
        exact W.vret hx hb hr (fun t ht hW => ⟨⟨_, rfl, Or.inl ⟨x_29, h_30, x_24, h_25, y_5, b_6, x_2, h_3, (g.fcts [0, 1, 2, 6, 7, 10] rfl)⟩, q3_of g hK ht hW⟩, g.2.2.1.F ht⟩) g.2.2.1.2.2 dX0_closeIndex_184
      · have fc_27 := nle_f c_27
        have b_32 : bd 12 11 (12 : Int32) := ltL fc_27 kb_12 b_20 (by decide)
        exact bd_no (eqX rfl b_32 kb_12 (lo := 12) (hi := 11) (by decide)) (by decide)
    · have fc_19 := nle_f c_19
      have b_33 : bd 13 2147483647 y_18 := ltR fc_19 kb_12 (bdT y_18) (by decide)
      refine lv_aload_n hx hb dX0_closeIndex_59 rfl (lv_at hl 2 rfl) ?_
      refine g_getk (C := RX0) (T := TX0) (N := 14) hx hb hts (mc_ inX0) hown hK g rfl 0 (by decide) rfl (hts _ (List.mem_cons_of_mem _ t_373)) (fun _ h9 => h9) 5 rfl dX0_closeIndex_60 ?_
      refine lv_bipush (v := 7) hx hb dX0_closeIndex_63 (by decide) ?_
      refine lv_aload_n hx hb dX0_closeIndex_65 rfl (lv_at hl 2 rfl) ?_
      refine g_getr (K := 111) (C := RX0) (T := TX0) (N := 14) hx hb hts (mc_ inX0) hown hK g ma0_ ka0_ (by decide) rfl 4 (by decide) rfl (hts _ (List.mem_cons_of_mem _ t_377)) (fun _ h9 => h9) rfl dX0_closeIndex_66 (fun a_34 ma_34 ka_34 g => ?_)
      refine lv_aload_n hx hb dX0_closeIndex_69 rfl (lv_at hl 2 rfl) ?_
      refine g_getk (C := RX0) (T := TX0) (N := 14) hx hb hts (mc_ inX0) hown hK g rfl 8 (by decide) rfl (hts _ (List.mem_cons_of_mem _ t_381)) (fun _ h9 => h9) 4 rfl dX0_closeIndex_70 ?_
      refine g_iald hx hb hK g ma_34 ka_34 (by decide) rfl (in_bd b_6 (by decide)) dX0_closeIndex_73 (fun x_35 bx_35 cx_35 => ?_)
      have kb_7 : bd 7 7 (7 : Int32) := ⟨by decide, by decide⟩
      refine g_callv (va_runV (As := [.int 7, .int x_35]) (rest := []) ⟨hx, hb, hml, hown, hts⟩ (r_X8_fail l dC dI L kd tys fr_14 H.size g.2.2.2.1 q0_ mq0_ kq0_ 7 (bd_sub kb_7 (by decide)) x_35 y1_ by1_ (g.fcts [8] rfl)) (cwV 2 hts (gV_ t_1215 t_1107 t_1108 t_184 t_1109) rfl rfl rfl (by decide +kernel) ⟨(Nat.le_of_ble_eq_true rfl), (Nat.le_of_ble_eq_true rfl)⟩) (pre3V g hK mq0_ kq0_ (by decide) (q := (RX8, TX8, 10)) rfl) rfl rfl hl.1 rfl (lv_room (Nat.le_of_ble_eq_true rfl)) dX0_closeIndex_74 ⟨(Nat.le_of_ble_eq_true rfl), (Nat.le_of_ble_eq_true rfl)⟩) g hK (by decide) (by decide) (fx' := [(0, 4, a0_, .ref a_34), (0, 10, a0_, .int x_15), (0, 3, a0_, .ref a_11), (0, 11, a0_, .int y_9), (0, 8, a0_, .int y_5), (0, 0, a0_, .ref q0_), (0, 2, a0_, .ref q1_)]) rfl (fun fr_36 H locs hp hMr_36 g => ?_)
      obtain ⟨x_37, h_38, hF_39⟩ := hp
      have g := g.more hF_39
      refine lv_aload_n hx hb dX0_closeIndex_77 rfl (lv_at hl 2 rfl) ?_
      refine g_getk (C := RX0) (T := TX0) (N := 14) hx hb hts (mc_ inX0) hown hK g rfl 2 (by decide) rfl (hts _ (List.mem_cons_of_mem _ t_375)) (fun _ h9 => h9) 8 rfl dX0_closeIndex_78 ?_
      refine lv_iload_n hx hb dX0_closeIndex_81 rfl (lv_at hl 1 rfl) ?_
      refine lv_if_eq (tgt := 90) hx hb dX0_closeIndex_82 (by decide) (fun c_ => ?_) (fun c_ => absurd (by decide) c_)
      refine lv_bipush (v := 9) hx hb dX0_closeIndex_90 (by decide) ?_
      refine lv_aload_n hx hb dX0_closeIndex_92 rfl (lv_at hl 2 rfl) ?_
      refine g_getr (K := 112) (C := RX0) (T := TX0) (N := 14) hx hb hts (mc_ inX0) hown hK g ma0_ ka0_ (by decide) rfl 5 (by decide) rfl (hts _ (List.mem_cons_of_mem _ t_378)) (fun _ h9 => h9) rfl dX0_closeIndex_93 (fun a_40 ma_40 ka_40 g => ?_)
      refine lv_aload_n hx hb dX0_closeIndex_96 rfl (lv_at hl 2 rfl) ?_
      refine g_getk (C := RX0) (T := TX0) (N := 14) hx hb hts (mc_ inX0) hown hK g rfl 8 (by decide) rfl (hts _ (List.mem_cons_of_mem _ t_381)) (fun _ h9 => h9) 7 rfl dX0_closeIndex_97 ?_
      refine g_iald hx hb hK g ma_40 ka_40 (by decide) rfl (in_bd b_6 (by decide)) dX0_closeIndex_100 (fun x_41 bx_41 cx_41 => ?_)
      refine g_callv (va_runV (As := [.int 9, .int x_41]) (rest := []) ⟨hx, hb, hml, hown, hts⟩ (r_X7_emit l dC dI L kd tys fr_36 H.size g.2.2.2.1 q1_ mq1_ kq1_ 9 x_41) (cwV 2 hts (gV_ t_1203 t_1204 t_1205 t_191 t_1206) rfl rfl rfl (by decide +kernel) ⟨(Nat.le_of_ble_eq_true rfl), (Nat.le_of_ble_eq_true rfl)⟩) (pre3V g hK mq1_ kq1_ (by decide) (q := (RX7, TX7, 19)) rfl) rfl rfl hl.1 rfl (lv_room (Nat.le_of_ble_eq_true rfl)) dX0_closeIndex_101 ⟨(Nat.le_of_ble_eq_true rfl), (Nat.le_of_ble_eq_true rfl)⟩) g hK (by decide) (by decide) (fx' := [(0, 5, a0_, .ref a_40), (8, 6, q0_, .int 1201), (8, 8, q0_, .int x_37), (0, 4, a0_, .ref a_34), (0, 10, a0_, .int x_15), (0, 3, a0_, .ref a_11), (0, 11, a0_, .int y_9), (0, 8, a0_, .int y_5), (0, 0, a0_, .ref q0_), (0, 2, a0_, .ref q1_)]) rfl (fun fr_42 H locs hp hMr_42 g => ?_)
      obtain ⟨x_43, h_44, hF_45⟩ := hp
      have g := g.more hF_45
      refine lv_iload_n hx hb dX0_closeIndex_104 rfl (lv_at hl 1 rfl) ?_
      refine lv_if_eq (tgt := 155) hx hb dX0_closeIndex_105 (by decide) (fun c_ => ?_) (fun c_ => absurd (by decide) c_)
      refine lv_iload_n hx hb dX0_closeIndex_155 rfl (lv_at hl 0 rfl) ?_
      refine lv_bipush (v := 12) hx hb dX0_closeIndex_156 (by decide) ?_
      refine lv_icmp_le (tgt := 179) hx hb dX0_closeIndex_158 (by decide) (fun c_46 => ?_) (fun c_46 => ?_)
      · have fc_46 := le_f c_46
        have b_47 : bd 13 12 y_18 := leL fc_46 b_33 kb_12 (by decide)
        exact bd_no b_47 (by decide)
      · have fc_46 := nle_f c_46
        refine lv_aload_n hx hb dX0_closeIndex_161 rfl (lv_at hl 2 rfl) ?_
        refine g_getk (C := RX0) (T := TX0) (N := 14) hx hb hts (mc_ inX0) hown hK g rfl 0 (by decide) rfl (hts _ (List.mem_cons_of_mem _ t_373)) (fun _ h9 => h9) 9 rfl dX0_closeIndex_162 ?_
        refine lv_bipush (v := 7) hx hb dX0_closeIndex_165 (by decide) ?_
        refine lv_aload_n hx hb dX0_closeIndex_167 rfl (lv_at hl 2 rfl) ?_
        refine g_getr (K := 114) (C := RX0) (T := TX0) (N := 14) hx hb hts (mc_ inX0) hown hK g ma0_ ka0_ (by decide) rfl 7 (by decide) rfl (hts _ (List.mem_cons_of_mem _ t_380)) (fun _ h9 => h9) rfl dX0_closeIndex_168 (fun a_48 ma_48 ka_48 g => ?_)
        refine lv_aload_n hx hb dX0_closeIndex_171 rfl (lv_at hl 2 rfl) ?_
        refine g_getk (C := RX0) (T := TX0) (N := 14) hx hb hts (mc_ inX0) hown hK g rfl 8 (by decide) rfl (hts _ (List.mem_cons_of_mem _ t_381)) (fun _ h9 => h9) 9 rfl dX0_closeIndex_172 ?_
        refine g_iald hx hb hK g ma_48 ka_48 (by decide) rfl (in_bd b_6 (by decide)) dX0_closeIndex_175 (fun x_49 bx_49 cx_49 => ?_)
        refine g_callv (va_runV (As := [.int 7, .int x_49]) (rest := []) ⟨hx, hb, hml, hown, hts⟩ (r_X8_fail_2 l dC dI L kd tys fr_42 H.size g.2.2.2.1 q0_ mq0_ kq0_ 7 (bd_sub kb_7 (by decide)) x_49 x_37 h_38 (g.fcts [4] rfl)) (cwV 2 hts (gV_ t_1215 t_1107 t_1108 t_184 t_1109) rfl rfl rfl (by decide +kernel) ⟨(Nat.le_of_ble_eq_true rfl), (Nat.le_of_ble_eq_true rfl)⟩) (pre3V g hK mq0_ kq0_ (by decide) (q := (RX8, TX8, 10)) rfl) rfl rfl hl.1 rfl (lv_room (Nat.le_of_ble_eq_true rfl)) dX0_closeIndex_176 ⟨(Nat.le_of_ble_eq_true rfl), (Nat.le_of_ble_eq_true rfl)⟩) g hK (by decide) (by decide) (fx' := [(0, 7, a0_, .ref a_48), (7, 6, q1_, .int x_43), (0, 5, a0_, .ref a_40), (8, 8, q0_, .int x_37), (0, 4, a0_, .ref a_34), (0, 10, a0_, .int x_15), (0, 3, a0_, .ref a_11), (0, 11, a0_, .int y_9), (0, 8, a0_, .int y_5), (0, 0, a0_, .ref q0_), (0, 2, a0_, .ref q1_)]) rfl (fun fr_50 H locs hp hMr_50 g => ?_)
        have hF_51 := hp
        have g := g.more hF_51
        refine lv_aload_n hx hb dX0_closeIndex_179 rfl (lv_at hl 2 rfl) ?_
        refine lv_iload_n hx hb dX0_closeIndex_180 rfl (lv_at hl 0 rfl) ?_
        refine g_callv (va_runV (As := [.int y_18]) (rest := []) ⟨hx, hb, hml, hown, hts⟩ (r_X0_addWhole l dC dI L kd tys fr_50 H.size g.2.2.2.1 a0_ ma0_ ka0_ y_18) (cwV 1 hts (gV_ t_1211 t_1213 t_17 t_190 t_1214) rfl rfl rfl (by decide +kernel) ⟨(Nat.le_of_ble_eq_true rfl), (Nat.le_of_ble_eq_true rfl)⟩) (pre3V g hK ma0_ ka0_ (by decide) (q := (RX0, TX0, 14)) rfl) rfl rfl hl.1 rfl (lv_room (Nat.le_of_ble_eq_true rfl)) dX0_closeIndex_181 ⟨(Nat.le_of_ble_eq_true rfl), (Nat.le_of_ble_eq_true rfl)⟩) g hK (by decide) (by decide) (fx' := [(8, 6, q0_, .int 1201), (0, 7, a0_, .ref a_48), (7, 6, q1_, .int x_43), (0, 5, a0_, .ref a_40), (8, 8, q0_, .int x_37), (0, 4, a0_, .ref a_34), (0, 3, a0_, .ref a_11), (0, 11, a0_, .int y_9), (0, 8, a0_, .int y_5), (0, 0, a0_, .ref q0_), (0, 2, a0_, .ref q1_)]) rfl (fun fr_52 H locs hp hMr_52 g => ?_)
        obtain ⟨x_53, h_54, hF_55⟩ := hp
        have g := g.more hF_55
        subst hQ
        exact W.vret hx hb hr (fun t ht hW => ⟨⟨_, rfl, Or.inr (⟨x_53, h_54, x_43, h_44, x_37, h_38, y_5, b_6, (g.fcts [0, 1, 2, 4, 6, 10] rfl)⟩), q3_of g hK ht hW⟩, g.2.2.1.F ht⟩) g.2.2.1.2.2 dX0_closeIndex_184
  · have fc_13 := eq_f c_13
    have b_56 : bd 5 5 x_12 := eqX fc_13 (bdT x_12) kb_5 (by decide)
    refine lv_iconst (v := 1) hx hb dX0_closeIndex_40 (by decide) ?_
    refine lv_goto (tgt := 45) hx hb dX0_closeIndex_41 (by decide) ?_
    refine lv_istore_n (lv' := [(1, .int 1), (0, .ref a0_)]) hx hb dX0_closeIndex_45 rfl hl (by decide) rfl (fun ls hl => ?_)
    refine lv_aload_n hx hb dX0_closeIndex_46 rfl (lv_at hl 1 rfl) ?_
    refine g_calli (va_runV (As := []) (rest := []) ⟨hx, hb, hml, hown, hts⟩ (r_X0_takeHeight l dC dI L kd tys f H.size g.2.2.2.1 a0_ ma0_ ka0_) (cwV 0 hts (gV_ t_1199 t_1201 t_16 t_190 t_1202) rfl rfl rfl (by decide +kernel) ⟨(Nat.le_of_ble_eq_true rfl), (Nat.le_of_ble_eq_true rfl)⟩) (pre3V g hK ma0_ ka0_ (by decide) (q := (RX0, TX0, 14)) rfl) rfl rfl hl.1 rfl (lv_room (Nat.le_of_ble_eq_true rfl)) dX0_closeIndex_47 ⟨(Nat.le_of_ble_eq_true rfl), (Nat.le_of_ble_eq_true rfl)⟩) g hK (by decide) (by decide) (fx' := [(0, 3, a0_, .ref a_11), (0, 11, a0_, .int y_9), (0, 8, a0_, .int y_5), (8, 6, q0_, .int x_2), (0, 0, a0_, .ref q0_), (0, 2, a0_, .ref q1_), (8, 8, q0_, .int y1_)]) rfl (fun r_57 fr_57 H locs hp hMr_57 g => ?_)
    obtain ⟨x_58, h_59, hF_60⟩ := hp
    have g := g.more hF_60
    refine lv_iconst (v := 1) hx hb dX0_closeIndex_50 (by decide) ?_
    refine lv_iadd hx hb dX0_closeIndex_51 ?_
    refine lv_topi (fun y_61 ey_61 => ?_)
    refine lv_istore_n (lv' := [(2, .int y_61), (1, .int 1), (0, .ref a0_)]) hx hb dX0_closeIndex_52 rfl hl (by decide) rfl (fun ls hl => ?_)
    refine lv_iload_n hx hb dX0_closeIndex_53 rfl (lv_at hl 0 rfl) ?_
    refine lv_bipush (v := 12) hx hb dX0_closeIndex_54 (by decide) ?_
    have kb_12 : bd 12 12 (12 : Int32) := ⟨by decide, by decide⟩
    refine lv_icmp_le (tgt := 77) hx hb dX0_closeIndex_56 (by decide) (fun c_62 => ?_) (fun c_62 => ?_)
    · have fc_62 := le_f c_62
      have b_63 : bd (-2147483648) 12 y_61 := leL fc_62 (bdT y_61) kb_12 (by decide)
      refine lv_aload_n hx hb dX0_closeIndex_77 rfl (lv_at hl 2 rfl) ?_
      refine g_getk (C := RX0) (T := TX0) (N := 14) hx hb hts (mc_ inX0) hown hK g rfl 2 (by decide) rfl (hts _ (List.mem_cons_of_mem _ t_375)) (fun _ h9 => h9) 6 rfl dX0_closeIndex_78 ?_
      refine lv_iload_n hx hb dX0_closeIndex_81 rfl (lv_at hl 1 rfl) ?_
      refine lv_if_eq (tgt := 90) hx hb dX0_closeIndex_82 (by decide) (fun c_ => absurd c_ (by decide)) (fun c_ => ?_)
      refine lv_bipush (v := 10) hx hb dX0_closeIndex_85 (by decide) ?_
      refine lv_goto (tgt := 92) hx hb dX0_closeIndex_87 (by decide) ?_
      refine lv_aload_n hx hb dX0_closeIndex_92 rfl (lv_at hl 2 rfl) ?_
      refine g_getr (K := 112) (C := RX0) (T := TX0) (N := 14) hx hb hts (mc_ inX0) hown hK g ma0_ ka0_ (by decide) rfl 5 (by decide) rfl (hts _ (List.mem_cons_of_mem _ t_378)) (fun _ h9 => h9) rfl dX0_closeIndex_93 (fun a_64 ma_64 ka_64 g => ?_)
      refine lv_aload_n hx hb dX0_closeIndex_96 rfl (lv_at hl 2 rfl) ?_
      refine g_getk (C := RX0) (T := TX0) (N := 14) hx hb hts (mc_ inX0) hown hK g rfl 8 (by decide) rfl (hts _ (List.mem_cons_of_mem _ t_381)) (fun _ h9 => h9) 4 rfl dX0_closeIndex_97 ?_
      refine g_iald hx hb hK g ma_64 ka_64 (by decide) rfl (in_bd b_6 (by decide)) dX0_closeIndex_100 (fun x_65 bx_65 cx_65 => ?_)
      refine g_callv (va_runV (As := [.int 10, .int x_65]) (rest := []) ⟨hx, hb, hml, hown, hts⟩ (r_X7_emit l dC dI L kd tys fr_57 H.size g.2.2.2.1 q1_ mq1_ kq1_ 10 x_65) (cwV 2 hts (gV_ t_1203 t_1204 t_1205 t_191 t_1206) rfl rfl rfl (by decide +kernel) ⟨(Nat.le_of_ble_eq_true rfl), (Nat.le_of_ble_eq_true rfl)⟩) (pre3V g hK mq1_ kq1_ (by decide) (q := (RX7, TX7, 19)) rfl) rfl rfl hl.1 rfl (lv_room (Nat.le_of_ble_eq_true rfl)) dX0_closeIndex_101 ⟨(Nat.le_of_ble_eq_true rfl), (Nat.le_of_ble_eq_true rfl)⟩) g hK (by decide) (by decide) (fx' := [(0, 5, a0_, .ref a_64), (0, 10, a0_, .int x_58), (0, 3, a0_, .ref a_11), (0, 11, a0_, .int y_9), (0, 8, a0_, .int y_5), (8, 6, q0_, .int x_2), (0, 0, a0_, .ref q0_), (0, 2, a0_, .ref q1_), (8, 8, q0_, .int y1_)]) rfl (fun fr_66 H locs hp hMr_66 g => ?_)
      obtain ⟨x_67, h_68, hF_69⟩ := hp
      have g := g.more hF_69
      refine lv_iload_n hx hb dX0_closeIndex_104 rfl (lv_at hl 1 rfl) ?_
      refine lv_if_eq (tgt := 155) hx hb dX0_closeIndex_105 (by decide) (fun c_ => absurd c_ (by decide)) (fun c_ => ?_)
      refine lv_aload_n hx hb dX0_closeIndex_108 rfl (lv_at hl 2 rfl) ?_
      refine g_getk (C := RX0) (T := TX0) (N := 14) hx hb hts (mc_ inX0) hown hK g rfl 0 (by decide) rfl (hts _ (List.mem_cons_of_mem _ t_373)) (fun _ h9 => h9) 7 rfl dX0_closeIndex_109 ?_
      refine g_calli (va_runV (As := []) (rest := []) ⟨hx, hb, hml, hown, hts⟩ (r_X8_kind l dC dI L kd tys fr_66 H.size g.2.2.2.1 q0_ mq0_ kq0_) (cwV 0 hts (gV_ t_1186 t_1119 t_1120 t_184 t_1121) rfl rfl rfl (by decide +kernel) ⟨(Nat.le_of_ble_eq_true rfl), (Nat.le_of_ble_eq_true rfl)⟩) (pre3V g hK mq0_ kq0_ (by decide) (q := (RX8, TX8, 10)) rfl) rfl rfl hl.1 rfl (lv_room (Nat.le_of_ble_eq_true rfl)) dX0_closeIndex_112 ⟨(Nat.le_of_ble_eq_true rfl), (Nat.le_of_ble_eq_true rfl)⟩) g hK (by decide) (by decide) (fx' := [(7, 6, q1_, .int x_67), (0, 5, a0_, .ref a_64), (0, 10, a0_, .int x_58), (0, 3, a0_, .ref a_11), (0, 11, a0_, .int y_9), (0, 8, a0_, .int y_5), (8, 6, q0_, .int x_2), (0, 0, a0_, .ref q0_), (0, 2, a0_, .ref q1_), (8, 8, q0_, .int y1_)]) rfl (fun r_70 fr_70 H locs hp hMr_70 g => ?_)
      refine lv_bipush (v := 41) hx hb dX0_closeIndex_115 (by decide) ?_
      have kb_41 : bd 41 41 (41 : Int32) := ⟨by decide, by decide⟩
      refine lv_icmp_eq (tgt := 135) hx hb dX0_closeIndex_117 (by decide) (fun c_71 => ?_) (fun c_71 => ?_)
      · have fc_71 := eq_f c_71
        have b_72 : bd 41 41 r_70 := eqX fc_71 (bdT r_70) kb_41 (by decide)
        refine lv_aload_n hx hb dX0_closeIndex_135 rfl (lv_at hl 2 rfl) ?_
        refine g_getk (C := RX0) (T := TX0) (N := 14) hx hb hts (mc_ inX0) hown hK g rfl 0 (by decide) rfl (hts _ (List.mem_cons_of_mem _ t_373)) (fun _ h9 => h9) 7 rfl dX0_closeIndex_136 ?_
        refine g_callv (va_runV (As := []) (rest := []) ⟨hx, hb, hml, hown, hts⟩ (r_X8_next l dC dI L kd tys fr_70 H.size g.2.2.2.1 q0_ mq0_ kq0_) (cwV 0 hts (gV_ t_1225 t_1103 t_1104 t_184 t_1105) rfl rfl rfl (by decide +kernel) ⟨(Nat.le_of_ble_eq_true rfl), (Nat.le_of_ble_eq_true rfl)⟩) (pre3V g hK mq0_ kq0_ (by decide) (q := (RX8, TX8, 10)) rfl) rfl rfl hl.1 rfl (lv_room (Nat.le_of_ble_eq_true rfl)) dX0_closeIndex_139 ⟨(Nat.le_of_ble_eq_true rfl), (Nat.le_of_ble_eq_true rfl)⟩) g hK (by decide) (by decide) (fx' := [(7, 6, q1_, .int x_67), (0, 5, a0_, .ref a_64), (0, 10, a0_, .int x_58), (0, 3, a0_, .ref a_11), (0, 11, a0_, .int y_9), (0, 8, a0_, .int y_5), (0, 0, a0_, .ref q0_), (0, 2, a0_, .ref q1_), (8, 8, q0_, .int y1_)]) rfl (fun fr_73 H locs hp hMr_73 g => ?_)
        obtain ⟨x_74, h_75, hF_76⟩ := hp
        have g := g.more hF_76
        refine lv_aload_n hx hb dX0_closeIndex_142 rfl (lv_at hl 2 rfl) ?_
        refine lv_dup hx hb dX0_closeIndex_143 rfl ?_
        refine g_getk (C := RX0) (T := TX0) (N := 14) hx hb hts (mc_ inX0) hown hK g rfl 11 (by decide) rfl (hts _ (List.mem_cons_of_mem _ t_384)) (fun _ h9 => h9) 5 rfl dX0_closeIndex_144 ?_
        refine lv_iconst (v := 1) hx hb dX0_closeIndex_147 (by decide) ?_
        refine lv_isub hx hb dX0_closeIndex_148 ?_
        refine lv_topi (fun y_77 ey_77 => ?_)
        refine g_put (C := RX0) (T := TX0) (N := 14) hx hb hts (mc_ inX0) tyX0 tyX0_ok nmX0 hown hK g ma0_ ka0_ (by decide) rfl 11 (by decide) (hts _ (List.mem_cons_of_mem _ t_384)) (fun _ h9 => h9) rfl rfl (okV_i (bdT y_77)) rfl rfl (by decide) (Or.inr (Or.inl (by decide))) (fx' := [(8, 6, q0_, .int x_74), (7, 6, q1_, .int x_67), (0, 5, a0_, .ref a_64), (0, 10, a0_, .int x_58), (0, 3, a0_, .ref a_11), (0, 8, a0_, .int y_5), (0, 0, a0_, .ref q0_), (0, 2, a0_, .ref q1_), (8, 8, q0_, .int y1_)]) rfl dX0_closeIndex_149 (fun f H locs hM_78 g => ?_)
        obtain ⟨y_79, ey_79⟩ : ∃ z : Int32, z = y_61 + 1 := ⟨_, rfl⟩
        refine lv_iinc (v := y_79) (lv' := [(2, .int y_79), (1, .int 1), (0, .ref a0_)]) hx hb dX0_closeIndex_152 hl (k := 0) rfl (by rw [ey_79]; rfl) (by decide) rfl (fun ls hl => ?_)
        have ty_79 := add_bd ey_79 b_63 kb_1 (by decide)
        have b_80 : bd (-2147483647) 13 y_79 := add_rg ty_79 b_63 kb_1 (by decide)
        refine lv_iload_n hx hb dX0_closeIndex_155 rfl (lv_at hl 0 rfl) ?_
        refine lv_bipush (v := 12) hx hb dX0_closeIndex_156 (by decide) ?_
        refine lv_icmp_le (tgt := 179) hx hb dX0_closeIndex_158 (by decide) (fun c_81 => ?_) (fun c_81 => ?_)
        · have fc_81 := le_f c_81
          have b_82 : bd (-2147483647) 12 y_79 := leL fc_81 b_80 kb_12 (by decide)
          have b_83 : bd (-2147483648) 11 y_61 := add_inv ty_79 b_82 b_63 kb_1 (by decide)
          refine lv_aload_n hx hb dX0_closeIndex_179 rfl (lv_at hl 2 rfl) ?_
          refine lv_iload_n hx hb dX0_closeIndex_180 rfl (lv_at hl 0 rfl) ?_
          refine g_callv (va_runV (As := [.int y_79]) (rest := []) ⟨hx, hb, hml, hown, hts⟩ (r_X0_addWhole l dC dI L kd tys f H.size g.2.2.2.1 a0_ ma0_ ka0_ y_79) (cwV 1 hts (gV_ t_1211 t_1213 t_17 t_190 t_1214) rfl rfl rfl (by decide +kernel) ⟨(Nat.le_of_ble_eq_true rfl), (Nat.le_of_ble_eq_true rfl)⟩) (pre3V g hK ma0_ ka0_ (by decide) (q := (RX0, TX0, 14)) rfl) rfl rfl hl.1 rfl (lv_room (Nat.le_of_ble_eq_true rfl)) dX0_closeIndex_181 ⟨(Nat.le_of_ble_eq_true rfl), (Nat.le_of_ble_eq_true rfl)⟩) g hK (by decide) (by decide) (fx' := [(0, 11, a0_, .int y_77), (8, 6, q0_, .int x_74), (7, 6, q1_, .int x_67), (0, 5, a0_, .ref a_64), (0, 3, a0_, .ref a_11), (0, 8, a0_, .int y_5), (0, 0, a0_, .ref q0_), (0, 2, a0_, .ref q1_), (8, 8, q0_, .int y1_)]) rfl (fun fr_84 H locs hp hMr_84 g => ?_)
          obtain ⟨x_85, h_86, hF_87⟩ := hp
          have g := g.more hF_87
          subst hQ
          exact W.vret hx hb hr (fun t ht hW => ⟨⟨_, rfl, Or.inl ⟨x_85, h_86, x_67, h_68, y_5, b_6, x_74, h_75, (g.fcts [0, 1, 4, 7, 3, 10] rfl)⟩, q3_of g hK ht hW⟩, g.2.2.1.F ht⟩) g.2.2.1.2.2 dX0_closeIndex_184
        · have fc_81 := nle_f c_81
          have b_88 : bd 13 13 y_79 := ltR fc_81 kb_12 b_80 (by decide)
          have b_89 : bd 12 12 y_61 := add_inv ty_79 b_88 b_63 kb_1 (by decide)
          refine lv_aload_n hx hb dX0_closeIndex_161 rfl (lv_at hl 2 rfl) ?_
          refine g_getk (C := RX0) (T := TX0) (N := 14) hx hb hts (mc_ inX0) hown hK g rfl 0 (by decide) rfl (hts _ (List.mem_cons_of_mem _ t_373)) (fun _ h9 => h9) 7 rfl dX0_closeIndex_162 ?_
          refine lv_bipush (v := 7) hx hb dX0_closeIndex_165 (by decide) ?_
          refine lv_aload_n hx hb dX0_closeIndex_167 rfl (lv_at hl 2 rfl) ?_
          refine g_getr (K := 114) (C := RX0) (T := TX0) (N := 14) hx hb hts (mc_ inX0) hown hK g ma0_ ka0_ (by decide) rfl 7 (by decide) rfl (hts _ (List.mem_cons_of_mem _ t_380)) (fun _ h9 => h9) rfl dX0_closeIndex_168 (fun a_90 ma_90 ka_90 g => ?_)
          refine lv_aload_n hx hb dX0_closeIndex_171 rfl (lv_at hl 2 rfl) ?_
          refine g_getk (C := RX0) (T := TX0) (N := 14) hx hb hts (mc_ inX0) hown hK g rfl 8 (by decide) rfl (hts _ (List.mem_cons_of_mem _ t_381)) (fun _ h9 => h9) 7 rfl dX0_closeIndex_172 ?_
          refine g_iald hx hb hK g ma_90 ka_90 (by decide) rfl (in_bd b_6 (by decide)) dX0_closeIndex_175 (fun x_91 bx_91 cx_91 => ?_)
          have kb_7 : bd 7 7 (7 : Int32) := ⟨by decide, by decide⟩
          refine g_callv (va_runV (As := [.int 7, .int x_91]) (rest := []) ⟨hx, hb, hml, hown, hts⟩ (r_X8_fail l dC dI L kd tys f H.size g.2.2.2.1 q0_ mq0_ kq0_ 7 (bd_sub kb_7 (by decide)) x_91 y1_ by1_ (g.fcts [10] rfl)) (cwV 2 hts (gV_ t_1215 t_1107 t_1108 t_184 t_1109) rfl rfl rfl (by decide +kernel) ⟨(Nat.le_of_ble_eq_true rfl), (Nat.le_of_ble_eq_true rfl)⟩) (pre3V g hK mq0_ kq0_ (by decide) (q := (RX8, TX8, 10)) rfl) rfl rfl hl.1 rfl (lv_room (Nat.le_of_ble_eq_true rfl)) dX0_closeIndex_176 ⟨(Nat.le_of_ble_eq_true rfl), (Nat.le_of_ble_eq_true rfl)⟩) g hK (by decide) (by decide) (fx' := [(0, 7, a0_, .ref a_90), (0, 11, a0_, .int y_77), (7, 6, q1_, .int x_67), (0, 5, a0_, .ref a_64), (0, 10, a0_, .int x_58), (0, 3, a0_, .ref a_11), (0, 8, a0_, .int y_5), (0, 0, a0_, .ref q0_), (0, 2, a0_, .ref q1_)]) rfl (fun fr_92 H locs hp hMr_92 g => ?_)
          obtain ⟨x_93, h_94, hF_95⟩ := hp
          have g := g.more hF_95
          refine lv_aload_n hx hb dX0_closeIndex_179 rfl (lv_at hl 2 rfl) ?_
          refine lv_iload_n hx hb dX0_closeIndex_180 rfl (lv_at hl 0 rfl) ?_
          refine g_callv (va_runV (As := [.int y_79]) (rest := []) ⟨hx, hb, hml, hown, hts⟩ (r_X0_addWhole l dC dI L kd tys fr_92 H.size g.2.2.2.1 a0_ ma0_ ka0_ y_79) (cwV 1 hts (gV_ t_1211 t_1213 t_17 t_190 t_1214) rfl rfl rfl (by decide +kernel) ⟨(Nat.le_of_ble_eq_true rfl), (Nat.le_of_ble_eq_true rfl)⟩) (pre3V g hK ma0_ ka0_ (by decide) (q := (RX0, TX0, 14)) rfl) rfl rfl hl.1 rfl (lv_room (Nat.le_of_ble_eq_true rfl)) dX0_closeIndex_181 ⟨(Nat.le_of_ble_eq_true rfl), (Nat.le_of_ble_eq_true rfl)⟩) g hK (by decide) (by decide) (fx' := [(8, 6, q0_, .int 1201), (8, 8, q0_, .int x_93), (0, 7, a0_, .ref a_90), (0, 11, a0_, .int y_77), (7, 6, q1_, .int x_67), (0, 5, a0_, .ref a_64), (0, 3, a0_, .ref a_11), (0, 8, a0_, .int y_5), (0, 0, a0_, .ref q0_), (0, 2, a0_, .ref q1_)]) rfl (fun fr_96 H locs hp hMr_96 g => ?_)
          obtain ⟨x_97, h_98, hF_99⟩ := hp
          have g := g.more hF_99
          subst hQ
          exact W.vret hx hb hr (fun t ht hW => ⟨⟨_, rfl, Or.inr (⟨x_97, h_98, x_67, h_68, x_93, h_94, y_5, b_6, (g.fcts [0, 1, 2, 6, 3, 9] rfl)⟩), q3_of g hK ht hW⟩, g.2.2.1.F ht⟩) g.2.2.1.2.2 dX0_closeIndex_184
      · have fc_71 := neq_f c_71
        refine lv_aload_n hx hb dX0_closeIndex_120 rfl (lv_at hl 2 rfl) ?_
        refine g_getk (C := RX0) (T := TX0) (N := 14) hx hb hts (mc_ inX0) hown hK g rfl 0 (by decide) rfl (hts _ (List.mem_cons_of_mem _ t_373)) (fun _ h9 => h9) 7 rfl dX0_closeIndex_121 ?_
        refine lv_iconst (v := 1) hx hb dX0_closeIndex_124 (by decide) ?_
        refine lv_aload_n hx hb dX0_closeIndex_125 rfl (lv_at hl 2 rfl) ?_
        refine g_getk (C := RX0) (T := TX0) (N := 14) hx hb hts (mc_ inX0) hown hK g rfl 0 (by decide) rfl (hts _ (List.mem_cons_of_mem _ t_373)) (fun _ h9 => h9) 7 rfl dX0_closeIndex_126 ?_
        refine g_calli (va_runV (As := []) (rest := [.int 1, .ref q0_]) ⟨hx, hb, hml, hown, hts⟩ (r_X8_place l dC dI L kd tys fr_70 H.size g.2.2.2.1 q0_ mq0_ kq0_) (cwV 0 hts (gV_ t_1220 t_1111 t_1112 t_184 t_1113) rfl rfl rfl (by decide +kernel) ⟨(Nat.le_of_ble_eq_true rfl), (Nat.le_of_ble_eq_true rfl)⟩) (pre3V g hK mq0_ kq0_ (by decide) (q := (RX8, TX8, 10)) rfl) rfl rfl hl.1 rfl (lv_room (Nat.le_of_ble_eq_true rfl)) dX0_closeIndex_129 ⟨(Nat.le_of_ble_eq_true rfl), (Nat.le_of_ble_eq_true rfl)⟩) g hK (by decide) (by decide) (fx' := [(7, 6, q1_, .int x_67), (0, 5, a0_, .ref a_64), (0, 10, a0_, .int x_58), (0, 3, a0_, .ref a_11), (0, 11, a0_, .int y_9), (0, 8, a0_, .int y_5), (8, 6, q0_, .int x_2), (0, 0, a0_, .ref q0_), (0, 2, a0_, .ref q1_), (8, 8, q0_, .int y1_)]) rfl (fun r_100 fr_100 H locs hp hMr_100 g => ?_)
        refine g_callv (va_runV (As := [.int 1, .int r_100]) (rest := []) ⟨hx, hb, hml, hown, hts⟩ (r_X8_fail l dC dI L kd tys fr_100 H.size g.2.2.2.1 q0_ mq0_ kq0_ 1 (bd_sub kb_1 (by decide)) r_100 y1_ by1_ (g.fcts [9] rfl)) (cwV 2 hts (gV_ t_1215 t_1107 t_1108 t_184 t_1109) rfl rfl rfl (by decide +kernel) ⟨(Nat.le_of_ble_eq_true rfl), (Nat.le_of_ble_eq_true rfl)⟩) (pre3V g hK mq0_ kq0_ (by decide) (q := (RX8, TX8, 10)) rfl) rfl rfl hl.1 rfl (lv_room (Nat.le_of_ble_eq_true rfl)) dX0_closeIndex_132 ⟨(Nat.le_of_ble_eq_true rfl), (Nat.le_of_ble_eq_true rfl)⟩) g hK (by decide) (by decide) (fx' := [(7, 6, q1_, .int x_67), (0, 5, a0_, .ref a_64), (0, 10, a0_, .int x_58), (0, 3, a0_, .ref a_11), (0, 11, a0_, .int y_9), (0, 8, a0_, .int y_5), (0, 0, a0_, .ref q0_), (0, 2, a0_, .ref q1_)]) rfl (fun fr_101 H locs hp hMr_101 g => ?_)
        obtain ⟨x_102, h_103, hF_104⟩ := hp
        have g := g.more hF_104
        refine lv_aload_n hx hb dX0_closeIndex_135 rfl (lv_at hl 2 rfl) ?_
        refine g_getk (C := RX0) (T := TX0) (N := 14) hx hb hts (mc_ inX0) hown hK g rfl 0 (by decide) rfl (hts _ (List.mem_cons_of_mem _ t_373)) (fun _ h9 => h9) 8 rfl dX0_closeIndex_136 ?_
        have kb_1201 : bd 1201 1201 (1201 : Int32) := ⟨by decide, by decide⟩
        refine g_callv (va_runV (As := []) (rest := []) ⟨hx, hb, hml, hown, hts⟩ (r_X8_next_2 l dC dI L kd tys fr_101 H.size g.2.2.2.1 q0_ mq0_ kq0_ 1201 kb_1201 (g.fcts [0] rfl)) (cwV 0 hts (gV_ t_1225 t_1103 t_1104 t_184 t_1105) rfl rfl rfl (by decide +kernel) ⟨(Nat.le_of_ble_eq_true rfl), (Nat.le_of_ble_eq_true rfl)⟩) (pre3V g hK mq0_ kq0_ (by decide) (q := (RX8, TX8, 10)) rfl) rfl rfl hl.1 rfl (lv_room (Nat.le_of_ble_eq_true rfl)) dX0_closeIndex_139 ⟨(Nat.le_of_ble_eq_true rfl), (Nat.le_of_ble_eq_true rfl)⟩) g hK (by decide) (by decide) (fx' := [(8, 6, q0_, .int 1201), (8, 8, q0_, .int x_102), (7, 6, q1_, .int x_67), (0, 5, a0_, .ref a_64), (0, 10, a0_, .int x_58), (0, 3, a0_, .ref a_11), (0, 11, a0_, .int y_9), (0, 8, a0_, .int y_5), (0, 0, a0_, .ref q0_), (0, 2, a0_, .ref q1_)]) rfl (fun fr_105 H locs hp hMr_105 g => ?_)
        refine lv_aload_n hx hb dX0_closeIndex_142 rfl (lv_at hl 2 rfl) ?_
        refine lv_dup hx hb dX0_closeIndex_143 rfl ?_
        refine g_getk (C := RX0) (T := TX0) (N := 14) hx hb hts (mc_ inX0) hown hK g rfl 11 (by decide) rfl (hts _ (List.mem_cons_of_mem _ t_384)) (fun _ h9 => h9) 6 rfl dX0_closeIndex_144 ?_
        refine lv_iconst (v := 1) hx hb dX0_closeIndex_147 (by decide) ?_
        refine lv_isub hx hb dX0_closeIndex_148 ?_
        refine lv_topi (fun y_106 ey_106 => ?_)
        refine g_put (C := RX0) (T := TX0) (N := 14) hx hb hts (mc_ inX0) tyX0 tyX0_ok nmX0 hown hK g ma0_ ka0_ (by decide) rfl 11 (by decide) (hts _ (List.mem_cons_of_mem _ t_384)) (fun _ h9 => h9) rfl rfl (okV_i (bdT y_106)) rfl rfl (by decide) (Or.inr (Or.inl (by decide))) (fx' := [(8, 6, q0_, .int 1201), (8, 8, q0_, .int x_102), (7, 6, q1_, .int x_67), (0, 5, a0_, .ref a_64), (0, 10, a0_, .int x_58), (0, 3, a0_, .ref a_11), (0, 8, a0_, .int y_5), (0, 0, a0_, .ref q0_), (0, 2, a0_, .ref q1_)]) rfl dX0_closeIndex_149 (fun f H locs hM_107 g => ?_)
        obtain ⟨y_108, ey_108⟩ : ∃ z : Int32, z = y_61 + 1 := ⟨_, rfl⟩
        refine lv_iinc (v := y_108) (lv' := [(2, .int y_108), (1, .int 1), (0, .ref a0_)]) hx hb dX0_closeIndex_152 hl (k := 0) rfl (by rw [ey_108]; rfl) (by decide) rfl (fun ls hl => ?_)
        have ty_108 := add_bd ey_108 b_63 kb_1 (by decide)
        have b_109 : bd (-2147483647) 13 y_108 := add_rg ty_108 b_63 kb_1 (by decide)
        refine lv_iload_n hx hb dX0_closeIndex_155 rfl (lv_at hl 0 rfl) ?_
        refine lv_bipush (v := 12) hx hb dX0_closeIndex_156 (by decide) ?_
        refine lv_icmp_le (tgt := 179) hx hb dX0_closeIndex_158 (by decide) (fun c_110 => ?_) (fun c_110 => ?_)
        · have fc_110 := le_f c_110
          have b_111 : bd (-2147483647) 12 y_108 := leL fc_110 b_109 kb_12 (by decide)
          have b_112 : bd (-2147483648) 11 y_61 := add_inv ty_108 b_111 b_63 kb_1 (by decide)
          refine lv_aload_n hx hb dX0_closeIndex_179 rfl (lv_at hl 2 rfl) ?_
          refine lv_iload_n hx hb dX0_closeIndex_180 rfl (lv_at hl 0 rfl) ?_
          refine g_callv (va_runV (As := [.int y_108]) (rest := []) ⟨hx, hb, hml, hown, hts⟩ (r_X0_addWhole l dC dI L kd tys f H.size g.2.2.2.1 a0_ ma0_ ka0_ y_108) (cwV 1 hts (gV_ t_1211 t_1213 t_17 t_190 t_1214) rfl rfl rfl (by decide +kernel) ⟨(Nat.le_of_ble_eq_true rfl), (Nat.le_of_ble_eq_true rfl)⟩) (pre3V g hK ma0_ ka0_ (by decide) (q := (RX0, TX0, 14)) rfl) rfl rfl hl.1 rfl (lv_room (Nat.le_of_ble_eq_true rfl)) dX0_closeIndex_181 ⟨(Nat.le_of_ble_eq_true rfl), (Nat.le_of_ble_eq_true rfl)⟩) g hK (by decide) (by decide) (fx' := [(0, 11, a0_, .int y_106), (8, 6, q0_, .int 1201), (8, 8, q0_, .int x_102), (7, 6, q1_, .int x_67), (0, 5, a0_, .ref a_64), (0, 3, a0_, .ref a_11), (0, 8, a0_, .int y_5), (0, 0, a0_, .ref q0_), (0, 2, a0_, .ref q1_)]) rfl (fun fr_113 H locs hp hMr_113 g => ?_)
          obtain ⟨x_114, h_115, hF_116⟩ := hp
          have g := g.more hF_116
          subst hQ
          exact W.vret hx hb hr (fun t ht hW => ⟨⟨_, rfl, Or.inr (⟨x_114, h_115, x_67, h_68, x_102, h_103, y_5, b_6, (g.fcts [0, 1, 3, 5, 4, 8] rfl)⟩), q3_of g hK ht hW⟩, g.2.2.1.F ht⟩) g.2.2.1.2.2 dX0_closeIndex_184
        · have fc_110 := nle_f c_110
          have b_117 : bd 13 13 y_108 := ltR fc_110 kb_12 b_109 (by decide)
          have b_118 : bd 12 12 y_61 := add_inv ty_108 b_117 b_63 kb_1 (by decide)
          refine lv_aload_n hx hb dX0_closeIndex_161 rfl (lv_at hl 2 rfl) ?_
          refine g_getk (C := RX0) (T := TX0) (N := 14) hx hb hts (mc_ inX0) hown hK g rfl 0 (by decide) rfl (hts _ (List.mem_cons_of_mem _ t_373)) (fun _ h9 => h9) 8 rfl dX0_closeIndex_162 ?_
          refine lv_bipush (v := 7) hx hb dX0_closeIndex_165 (by decide) ?_
          refine lv_aload_n hx hb dX0_closeIndex_167 rfl (lv_at hl 2 rfl) ?_
          refine g_getr (K := 114) (C := RX0) (T := TX0) (N := 14) hx hb hts (mc_ inX0) hown hK g ma0_ ka0_ (by decide) rfl 7 (by decide) rfl (hts _ (List.mem_cons_of_mem _ t_380)) (fun _ h9 => h9) rfl dX0_closeIndex_168 (fun a_119 ma_119 ka_119 g => ?_)
          refine lv_aload_n hx hb dX0_closeIndex_171 rfl (lv_at hl 2 rfl) ?_
          refine g_getk (C := RX0) (T := TX0) (N := 14) hx hb hts (mc_ inX0) hown hK g rfl 8 (by decide) rfl (hts _ (List.mem_cons_of_mem _ t_381)) (fun _ h9 => h9) 8 rfl dX0_closeIndex_172 ?_
          refine g_iald hx hb hK g ma_119 ka_119 (by decide) rfl (in_bd b_6 (by decide)) dX0_closeIndex_175 (fun x_120 bx_120 cx_120 => ?_)
          have kb_7 : bd 7 7 (7 : Int32) := ⟨by decide, by decide⟩
          refine g_callv (va_runV (As := [.int 7, .int x_120]) (rest := []) ⟨hx, hb, hml, hown, hts⟩ (r_X8_fail_2 l dC dI L kd tys f H.size g.2.2.2.1 q0_ mq0_ kq0_ 7 (bd_sub kb_7 (by decide)) x_120 x_102 h_103 (g.fcts [3] rfl)) (cwV 2 hts (gV_ t_1215 t_1107 t_1108 t_184 t_1109) rfl rfl rfl (by decide +kernel) ⟨(Nat.le_of_ble_eq_true rfl), (Nat.le_of_ble_eq_true rfl)⟩) (pre3V g hK mq0_ kq0_ (by decide) (q := (RX8, TX8, 10)) rfl) rfl rfl hl.1 rfl (lv_room (Nat.le_of_ble_eq_true rfl)) dX0_closeIndex_176 ⟨(Nat.le_of_ble_eq_true rfl), (Nat.le_of_ble_eq_true rfl)⟩) g hK (by decide) (by decide) (fx' := [(0, 7, a0_, .ref a_119), (0, 11, a0_, .int y_106), (8, 8, q0_, .int x_102), (7, 6, q1_, .int x_67), (0, 5, a0_, .ref a_64), (0, 10, a0_, .int x_58), (0, 3, a0_, .ref a_11), (0, 8, a0_, .int y_5), (0, 0, a0_, .ref q0_), (0, 2, a0_, .ref q1_)]) rfl (fun fr_121 H locs hp hMr_121 g => ?_)
          have hF_122 := hp
          have g := g.more hF_122
          refine lv_aload_n hx hb dX0_closeIndex_179 rfl (lv_at hl 2 rfl) ?_
          refine lv_iload_n hx hb dX0_closeIndex_180 rfl (lv_at hl 0 rfl) ?_
          refine g_callv (va_runV (As := [.int y_108]) (rest := []) ⟨hx, hb, hml, hown, hts⟩ (r_X0_addWhole l dC dI L kd tys fr_121 H.size g.2.2.2.1 a0_ ma0_ ka0_ y_108) (cwV 1 hts (gV_ t_1211 t_1213 t_17 t_190 t_1214) rfl rfl rfl (by decide +kernel) ⟨(Nat.le_of_ble_eq_true rfl), (Nat.le_of_ble_eq_true rfl)⟩) (pre3V g hK ma0_ ka0_ (by decide) (q := (RX0, TX0, 14)) rfl) rfl rfl hl.1 rfl (lv_room (Nat.le_of_ble_eq_true rfl)) dX0_closeIndex_181 ⟨(Nat.le_of_ble_eq_true rfl), (Nat.le_of_ble_eq_true rfl)⟩) g hK (by decide) (by decide) (fx' := [(8, 6, q0_, .int 1201), (0, 7, a0_, .ref a_119), (0, 11, a0_, .int y_106), (8, 8, q0_, .int x_102), (7, 6, q1_, .int x_67), (0, 5, a0_, .ref a_64), (0, 3, a0_, .ref a_11), (0, 8, a0_, .int y_5), (0, 0, a0_, .ref q0_), (0, 2, a0_, .ref q1_)]) rfl (fun fr_123 H locs hp hMr_123 g => ?_)
          obtain ⟨x_124, h_125, hF_126⟩ := hp
          have g := g.more hF_126
          subst hQ
          exact W.vret hx hb hr (fun t ht hW => ⟨⟨_, rfl, Or.inr (⟨x_124, h_125, x_67, h_68, x_102, h_103, y_5, b_6, (g.fcts [0, 1, 2, 6, 5, 9] rfl)⟩), q3_of g hK ht hW⟩, g.2.2.1.F ht⟩) g.2.2.1.2.2 dX0_closeIndex_184
    · have fc_62 := nle_f c_62
      have b_127 : bd 13 2147483647 y_61 := ltR fc_62 kb_12 (bdT y_61) (by decide)
      refine lv_aload_n hx hb dX0_closeIndex_59 rfl (lv_at hl 2 rfl) ?_
      refine g_getk (C := RX0) (T := TX0) (N := 14) hx hb hts (mc_ inX0) hown hK g rfl 0 (by decide) rfl (hts _ (List.mem_cons_of_mem _ t_373)) (fun _ h9 => h9) 5 rfl dX0_closeIndex_60 ?_
      refine lv_bipush (v := 7) hx hb dX0_closeIndex_63 (by decide) ?_
      refine lv_aload_n hx hb dX0_closeIndex_65 rfl (lv_at hl 2 rfl) ?_
      refine g_getr (K := 111) (C := RX0) (T := TX0) (N := 14) hx hb hts (mc_ inX0) hown hK g ma0_ ka0_ (by decide) rfl 4 (by decide) rfl (hts _ (List.mem_cons_of_mem _ t_377)) (fun _ h9 => h9) rfl dX0_closeIndex_66 (fun a_128 ma_128 ka_128 g => ?_)
      refine lv_aload_n hx hb dX0_closeIndex_69 rfl (lv_at hl 2 rfl) ?_
      refine g_getk (C := RX0) (T := TX0) (N := 14) hx hb hts (mc_ inX0) hown hK g rfl 8 (by decide) rfl (hts _ (List.mem_cons_of_mem _ t_381)) (fun _ h9 => h9) 4 rfl dX0_closeIndex_70 ?_
      refine g_iald hx hb hK g ma_128 ka_128 (by decide) rfl (in_bd b_6 (by decide)) dX0_closeIndex_73 (fun x_129 bx_129 cx_129 => ?_)
      have kb_7 : bd 7 7 (7 : Int32) := ⟨by decide, by decide⟩
      refine g_callv (va_runV (As := [.int 7, .int x_129]) (rest := []) ⟨hx, hb, hml, hown, hts⟩ (r_X8_fail l dC dI L kd tys fr_57 H.size g.2.2.2.1 q0_ mq0_ kq0_ 7 (bd_sub kb_7 (by decide)) x_129 y1_ by1_ (g.fcts [8] rfl)) (cwV 2 hts (gV_ t_1215 t_1107 t_1108 t_184 t_1109) rfl rfl rfl (by decide +kernel) ⟨(Nat.le_of_ble_eq_true rfl), (Nat.le_of_ble_eq_true rfl)⟩) (pre3V g hK mq0_ kq0_ (by decide) (q := (RX8, TX8, 10)) rfl) rfl rfl hl.1 rfl (lv_room (Nat.le_of_ble_eq_true rfl)) dX0_closeIndex_74 ⟨(Nat.le_of_ble_eq_true rfl), (Nat.le_of_ble_eq_true rfl)⟩) g hK (by decide) (by decide) (fx' := [(0, 4, a0_, .ref a_128), (0, 10, a0_, .int x_58), (0, 3, a0_, .ref a_11), (0, 11, a0_, .int y_9), (0, 8, a0_, .int y_5), (0, 0, a0_, .ref q0_), (0, 2, a0_, .ref q1_)]) rfl (fun fr_130 H locs hp hMr_130 g => ?_)
      obtain ⟨x_131, h_132, hF_133⟩ := hp
      have g := g.more hF_133
      refine lv_aload_n hx hb dX0_closeIndex_77 rfl (lv_at hl 2 rfl) ?_
      refine g_getk (C := RX0) (T := TX0) (N := 14) hx hb hts (mc_ inX0) hown hK g rfl 2 (by decide) rfl (hts _ (List.mem_cons_of_mem _ t_375)) (fun _ h9 => h9) 8 rfl dX0_closeIndex_78 ?_
      refine lv_iload_n hx hb dX0_closeIndex_81 rfl (lv_at hl 1 rfl) ?_
      refine lv_if_eq (tgt := 90) hx hb dX0_closeIndex_82 (by decide) (fun c_ => absurd c_ (by decide)) (fun c_ => ?_)
      refine lv_bipush (v := 10) hx hb dX0_closeIndex_85 (by decide) ?_
      refine lv_goto (tgt := 92) hx hb dX0_closeIndex_87 (by decide) ?_
      refine lv_aload_n hx hb dX0_closeIndex_92 rfl (lv_at hl 2 rfl) ?_
      refine g_getr (K := 112) (C := RX0) (T := TX0) (N := 14) hx hb hts (mc_ inX0) hown hK g ma0_ ka0_ (by decide) rfl 5 (by decide) rfl (hts _ (List.mem_cons_of_mem _ t_378)) (fun _ h9 => h9) rfl dX0_closeIndex_93 (fun a_134 ma_134 ka_134 g => ?_)
      refine lv_aload_n hx hb dX0_closeIndex_96 rfl (lv_at hl 2 rfl) ?_
      refine g_getk (C := RX0) (T := TX0) (N := 14) hx hb hts (mc_ inX0) hown hK g rfl 8 (by decide) rfl (hts _ (List.mem_cons_of_mem _ t_381)) (fun _ h9 => h9) 7 rfl dX0_closeIndex_97 ?_
      refine g_iald hx hb hK g ma_134 ka_134 (by decide) rfl (in_bd b_6 (by decide)) dX0_closeIndex_100 (fun x_135 bx_135 cx_135 => ?_)
      refine g_callv (va_runV (As := [.int 10, .int x_135]) (rest := []) ⟨hx, hb, hml, hown, hts⟩ (r_X7_emit l dC dI L kd tys fr_130 H.size g.2.2.2.1 q1_ mq1_ kq1_ 10 x_135) (cwV 2 hts (gV_ t_1203 t_1204 t_1205 t_191 t_1206) rfl rfl rfl (by decide +kernel) ⟨(Nat.le_of_ble_eq_true rfl), (Nat.le_of_ble_eq_true rfl)⟩) (pre3V g hK mq1_ kq1_ (by decide) (q := (RX7, TX7, 19)) rfl) rfl rfl hl.1 rfl (lv_room (Nat.le_of_ble_eq_true rfl)) dX0_closeIndex_101 ⟨(Nat.le_of_ble_eq_true rfl), (Nat.le_of_ble_eq_true rfl)⟩) g hK (by decide) (by decide) (fx' := [(0, 5, a0_, .ref a_134), (8, 6, q0_, .int 1201), (8, 8, q0_, .int x_131), (0, 4, a0_, .ref a_128), (0, 10, a0_, .int x_58), (0, 3, a0_, .ref a_11), (0, 11, a0_, .int y_9), (0, 8, a0_, .int y_5), (0, 0, a0_, .ref q0_), (0, 2, a0_, .ref q1_)]) rfl (fun fr_136 H locs hp hMr_136 g => ?_)
      obtain ⟨x_137, h_138, hF_139⟩ := hp
      have g := g.more hF_139
      refine lv_iload_n hx hb dX0_closeIndex_104 rfl (lv_at hl 1 rfl) ?_
      refine lv_if_eq (tgt := 155) hx hb dX0_closeIndex_105 (by decide) (fun c_ => absurd c_ (by decide)) (fun c_ => ?_)
      refine lv_aload_n hx hb dX0_closeIndex_108 rfl (lv_at hl 2 rfl) ?_
      refine g_getk (C := RX0) (T := TX0) (N := 14) hx hb hts (mc_ inX0) hown hK g rfl 0 (by decide) rfl (hts _ (List.mem_cons_of_mem _ t_373)) (fun _ h9 => h9) 9 rfl dX0_closeIndex_109 ?_
      have kb_1201 : bd 1201 1201 (1201 : Int32) := ⟨by decide, by decide⟩
      refine g_calli (va_runV (As := []) (rest := []) ⟨hx, hb, hml, hown, hts⟩ (r_X8_kind_2 l dC dI L kd tys fr_136 H.size g.2.2.2.1 q0_ mq0_ kq0_ 1201 kb_1201 (g.fcts [2] rfl)) (cwV 0 hts (gV_ t_1186 t_1119 t_1120 t_184 t_1121) rfl rfl rfl (by decide +kernel) ⟨(Nat.le_of_ble_eq_true rfl), (Nat.le_of_ble_eq_true rfl)⟩) (pre3V g hK mq0_ kq0_ (by decide) (q := (RX8, TX8, 10)) rfl) rfl rfl hl.1 rfl (lv_room (Nat.le_of_ble_eq_true rfl)) dX0_closeIndex_112 ⟨(Nat.le_of_ble_eq_true rfl), (Nat.le_of_ble_eq_true rfl)⟩) g hK (by decide) (by decide) (fx' := [(7, 6, q1_, .int x_137), (0, 5, a0_, .ref a_134), (8, 6, q0_, .int 1201), (8, 8, q0_, .int x_131), (0, 4, a0_, .ref a_128), (0, 10, a0_, .int x_58), (0, 3, a0_, .ref a_11), (0, 11, a0_, .int y_9), (0, 8, a0_, .int y_5), (0, 0, a0_, .ref q0_), (0, 2, a0_, .ref q1_)]) rfl (fun r_140 fr_140 H locs hp hMr_140 g => ?_)
      obtain ⟨h_141, -⟩ := hp
      obtain rfl : r_140 = 0 := h_141
      refine lv_bipush (v := 41) hx hb dX0_closeIndex_115 (by decide) ?_
      refine lv_icmp_eq (tgt := 135) hx hb dX0_closeIndex_117 (by decide) (fun c_ => absurd c_ (by decide)) (fun c_ => ?_)
      refine lv_aload_n hx hb dX0_closeIndex_120 rfl (lv_at hl 2 rfl) ?_
      refine g_getk (C := RX0) (T := TX0) (N := 14) hx hb hts (mc_ inX0) hown hK g rfl 0 (by decide) rfl (hts _ (List.mem_cons_of_mem _ t_373)) (fun _ h9 => h9) 9 rfl dX0_closeIndex_121 ?_
      refine lv_iconst (v := 1) hx hb dX0_closeIndex_124 (by decide) ?_
      refine lv_aload_n hx hb dX0_closeIndex_125 rfl (lv_at hl 2 rfl) ?_
      refine g_getk (C := RX0) (T := TX0) (N := 14) hx hb hts (mc_ inX0) hown hK g rfl 0 (by decide) rfl (hts _ (List.mem_cons_of_mem _ t_373)) (fun _ h9 => h9) 9 rfl dX0_closeIndex_126 ?_
      refine g_calli (va_runV (As := []) (rest := [.int 1, .ref q0_]) ⟨hx, hb, hml, hown, hts⟩ (r_X8_place l dC dI L kd tys fr_140 H.size g.2.2.2.1 q0_ mq0_ kq0_) (cwV 0 hts (gV_ t_1220 t_1111 t_1112 t_184 t_1113) rfl rfl rfl (by decide +kernel) ⟨(Nat.le_of_ble_eq_true rfl), (Nat.le_of_ble_eq_true rfl)⟩) (pre3V g hK mq0_ kq0_ (by decide) (q := (RX8, TX8, 10)) rfl) rfl rfl hl.1 rfl (lv_room (Nat.le_of_ble_eq_true rfl)) dX0_closeIndex_129 ⟨(Nat.le_of_ble_eq_true rfl), (Nat.le_of_ble_eq_true rfl)⟩) g hK (by decide) (by decide) (fx' := [(7, 6, q1_, .int x_137), (0, 5, a0_, .ref a_134), (8, 6, q0_, .int 1201), (8, 8, q0_, .int x_131), (0, 4, a0_, .ref a_128), (0, 10, a0_, .int x_58), (0, 3, a0_, .ref a_11), (0, 11, a0_, .int y_9), (0, 8, a0_, .int y_5), (0, 0, a0_, .ref q0_), (0, 2, a0_, .ref q1_)]) rfl (fun r_142 fr_142 H locs hp hMr_142 g => ?_)
      refine g_callv (va_runV (As := [.int 1, .int r_142]) (rest := []) ⟨hx, hb, hml, hown, hts⟩ (r_X8_fail_2 l dC dI L kd tys fr_142 H.size g.2.2.2.1 q0_ mq0_ kq0_ 1 (bd_sub kb_1 (by decide)) r_142 x_131 h_132 (g.fcts [3] rfl)) (cwV 2 hts (gV_ t_1215 t_1107 t_1108 t_184 t_1109) rfl rfl rfl (by decide +kernel) ⟨(Nat.le_of_ble_eq_true rfl), (Nat.le_of_ble_eq_true rfl)⟩) (pre3V g hK mq0_ kq0_ (by decide) (q := (RX8, TX8, 10)) rfl) rfl rfl hl.1 rfl (lv_room (Nat.le_of_ble_eq_true rfl)) dX0_closeIndex_132 ⟨(Nat.le_of_ble_eq_true rfl), (Nat.le_of_ble_eq_true rfl)⟩) g hK (by decide) (by decide) (fx' := [(7, 6, q1_, .int x_137), (0, 5, a0_, .ref a_134), (8, 8, q0_, .int x_131), (0, 4, a0_, .ref a_128), (0, 10, a0_, .int x_58), (0, 3, a0_, .ref a_11), (0, 11, a0_, .int y_9), (0, 8, a0_, .int y_5), (0, 0, a0_, .ref q0_), (0, 2, a0_, .ref q1_)]) rfl (fun fr_143 H locs hp hMr_143 g => ?_)
      have hF_144 := hp
      have g := g.more hF_144
      refine lv_aload_n hx hb dX0_closeIndex_135 rfl (lv_at hl 2 rfl) ?_
      refine g_getk (C := RX0) (T := TX0) (N := 14) hx hb hts (mc_ inX0) hown hK g rfl 0 (by decide) rfl (hts _ (List.mem_cons_of_mem _ t_373)) (fun _ h9 => h9) 9 rfl dX0_closeIndex_136 ?_
      refine g_callv (va_runV (As := []) (rest := []) ⟨hx, hb, hml, hown, hts⟩ (r_X8_next_2 l dC dI L kd tys fr_143 H.size g.2.2.2.1 q0_ mq0_ kq0_ 1201 kb_1201 (g.fcts [0] rfl)) (cwV 0 hts (gV_ t_1225 t_1103 t_1104 t_184 t_1105) rfl rfl rfl (by decide +kernel) ⟨(Nat.le_of_ble_eq_true rfl), (Nat.le_of_ble_eq_true rfl)⟩) (pre3V g hK mq0_ kq0_ (by decide) (q := (RX8, TX8, 10)) rfl) rfl rfl hl.1 rfl (lv_room (Nat.le_of_ble_eq_true rfl)) dX0_closeIndex_139 ⟨(Nat.le_of_ble_eq_true rfl), (Nat.le_of_ble_eq_true rfl)⟩) g hK (by decide) (by decide) (fx' := [(8, 6, q0_, .int 1201), (7, 6, q1_, .int x_137), (0, 5, a0_, .ref a_134), (8, 8, q0_, .int x_131), (0, 4, a0_, .ref a_128), (0, 10, a0_, .int x_58), (0, 3, a0_, .ref a_11), (0, 11, a0_, .int y_9), (0, 8, a0_, .int y_5), (0, 0, a0_, .ref q0_), (0, 2, a0_, .ref q1_)]) rfl (fun fr_145 H locs hp hMr_145 g => ?_)
      refine lv_aload_n hx hb dX0_closeIndex_142 rfl (lv_at hl 2 rfl) ?_
      refine lv_dup hx hb dX0_closeIndex_143 rfl ?_
      refine g_getk (C := RX0) (T := TX0) (N := 14) hx hb hts (mc_ inX0) hown hK g rfl 11 (by decide) rfl (hts _ (List.mem_cons_of_mem _ t_384)) (fun _ h9 => h9) 7 rfl dX0_closeIndex_144 ?_
      refine lv_iconst (v := 1) hx hb dX0_closeIndex_147 (by decide) ?_
      refine lv_isub hx hb dX0_closeIndex_148 ?_
      refine lv_topi (fun y_146 ey_146 => ?_)
      refine g_put (C := RX0) (T := TX0) (N := 14) hx hb hts (mc_ inX0) tyX0 tyX0_ok nmX0 hown hK g ma0_ ka0_ (by decide) rfl 11 (by decide) (hts _ (List.mem_cons_of_mem _ t_384)) (fun _ h9 => h9) rfl rfl (okV_i (bdT y_146)) rfl rfl (by decide) (Or.inr (Or.inl (by decide))) (fx' := [(8, 6, q0_, .int 1201), (7, 6, q1_, .int x_137), (0, 5, a0_, .ref a_134), (8, 8, q0_, .int x_131), (0, 4, a0_, .ref a_128), (0, 10, a0_, .int x_58), (0, 3, a0_, .ref a_11), (0, 8, a0_, .int y_5), (0, 0, a0_, .ref q0_), (0, 2, a0_, .ref q1_)]) rfl dX0_closeIndex_149 (fun f H locs hM_147 g => ?_)
      obtain ⟨y_148, ey_148⟩ : ∃ z : Int32, z = y_61 + 1 := ⟨_, rfl⟩
      refine lv_iinc (v := y_148) (lv' := [(2, .int y_148), (1, .int 1), (0, .ref a0_)]) hx hb dX0_closeIndex_152 hl (k := 0) rfl (by rw [ey_148]; rfl) (by decide) rfl (fun ls hl => ?_)
      refine lv_iload_n hx hb dX0_closeIndex_155 rfl (lv_at hl 0 rfl) ?_
      refine lv_bipush (v := 12) hx hb dX0_closeIndex_156 (by decide) ?_
      refine lv_icmp_le (tgt := 179) hx hb dX0_closeIndex_158 (by decide) (fun c_149 => ?_) (fun c_149 => ?_)
      · have fc_149 := le_f c_149
        have b_150 : bd (-2147483648) 12 y_148 := leL fc_149 (bdT y_148) kb_12 (by decide)
        refine lv_aload_n hx hb dX0_closeIndex_179 rfl (lv_at hl 2 rfl) ?_
        refine lv_iload_n hx hb dX0_closeIndex_180 rfl (lv_at hl 0 rfl) ?_
        refine g_callv (va_runV (As := [.int y_148]) (rest := []) ⟨hx, hb, hml, hown, hts⟩ (r_X0_addWhole l dC dI L kd tys f H.size g.2.2.2.1 a0_ ma0_ ka0_ y_148) (cwV 1 hts (gV_ t_1211 t_1213 t_17 t_190 t_1214) rfl rfl rfl (by decide +kernel) ⟨(Nat.le_of_ble_eq_true rfl), (Nat.le_of_ble_eq_true rfl)⟩) (pre3V g hK ma0_ ka0_ (by decide) (q := (RX0, TX0, 14)) rfl) rfl rfl hl.1 rfl (lv_room (Nat.le_of_ble_eq_true rfl)) dX0_closeIndex_181 ⟨(Nat.le_of_ble_eq_true rfl), (Nat.le_of_ble_eq_true rfl)⟩) g hK (by decide) (by decide) (fx' := [(0, 11, a0_, .int y_146), (8, 6, q0_, .int 1201), (7, 6, q1_, .int x_137), (0, 5, a0_, .ref a_134), (8, 8, q0_, .int x_131), (0, 4, a0_, .ref a_128), (0, 3, a0_, .ref a_11), (0, 8, a0_, .int y_5), (0, 0, a0_, .ref q0_), (0, 2, a0_, .ref q1_)]) rfl (fun fr_151 H locs hp hMr_151 g => ?_)
        obtain ⟨x_152, h_153, hF_154⟩ := hp
        have g := g.more hF_154
        subst hQ
        exact W.vret hx hb hr (fun t ht hW => ⟨⟨_, rfl, Or.inr (⟨x_152, h_153, x_137, h_138, x_131, h_132, y_5, b_6, (g.fcts [0, 1, 3, 4, 6, 9] rfl)⟩), q3_of g hK ht hW⟩, g.2.2.1.F ht⟩) g.2.2.1.2.2 dX0_closeIndex_184
      · have fc_149 := nle_f c_149
        have b_155 : bd 13 2147483647 y_148 := ltR fc_149 kb_12 (bdT y_148) (by decide)
        refine lv_aload_n hx hb dX0_closeIndex_161 rfl (lv_at hl 2 rfl) ?_
        refine g_getk (C := RX0) (T := TX0) (N := 14) hx hb hts (mc_ inX0) hown hK g rfl 0 (by decide) rfl (hts _ (List.mem_cons_of_mem _ t_373)) (fun _ h9 => h9) 9 rfl dX0_closeIndex_162 ?_
        refine lv_bipush (v := 7) hx hb dX0_closeIndex_165 (by decide) ?_
        refine lv_aload_n hx hb dX0_closeIndex_167 rfl (lv_at hl 2 rfl) ?_
        refine g_getr (K := 114) (C := RX0) (T := TX0) (N := 14) hx hb hts (mc_ inX0) hown hK g ma0_ ka0_ (by decide) rfl 7 (by decide) rfl (hts _ (List.mem_cons_of_mem _ t_380)) (fun _ h9 => h9) rfl dX0_closeIndex_168 (fun a_156 ma_156 ka_156 g => ?_)
        refine lv_aload_n hx hb dX0_closeIndex_171 rfl (lv_at hl 2 rfl) ?_
        refine g_getk (C := RX0) (T := TX0) (N := 14) hx hb hts (mc_ inX0) hown hK g rfl 8 (by decide) rfl (hts _ (List.mem_cons_of_mem _ t_381)) (fun _ h9 => h9) 9 rfl dX0_closeIndex_172 ?_
        refine g_iald hx hb hK g ma_156 ka_156 (by decide) rfl (in_bd b_6 (by decide)) dX0_closeIndex_175 (fun x_157 bx_157 cx_157 => ?_)
        refine g_callv (va_runV (As := [.int 7, .int x_157]) (rest := []) ⟨hx, hb, hml, hown, hts⟩ (r_X8_fail_2 l dC dI L kd tys f H.size g.2.2.2.1 q0_ mq0_ kq0_ 7 (bd_sub kb_7 (by decide)) x_157 x_131 h_132 (g.fcts [5] rfl)) (cwV 2 hts (gV_ t_1215 t_1107 t_1108 t_184 t_1109) rfl rfl rfl (by decide +kernel) ⟨(Nat.le_of_ble_eq_true rfl), (Nat.le_of_ble_eq_true rfl)⟩) (pre3V g hK mq0_ kq0_ (by decide) (q := (RX8, TX8, 10)) rfl) rfl rfl hl.1 rfl (lv_room (Nat.le_of_ble_eq_true rfl)) dX0_closeIndex_176 ⟨(Nat.le_of_ble_eq_true rfl), (Nat.le_of_ble_eq_true rfl)⟩) g hK (by decide) (by decide) (fx' := [(0, 7, a0_, .ref a_156), (0, 11, a0_, .int y_146), (7, 6, q1_, .int x_137), (0, 5, a0_, .ref a_134), (8, 8, q0_, .int x_131), (0, 4, a0_, .ref a_128), (0, 10, a0_, .int x_58), (0, 3, a0_, .ref a_11), (0, 8, a0_, .int y_5), (0, 0, a0_, .ref q0_), (0, 2, a0_, .ref q1_)]) rfl (fun fr_158 H locs hp hMr_158 g => ?_)
        have hF_159 := hp
        have g := g.more hF_159
        refine lv_aload_n hx hb dX0_closeIndex_179 rfl (lv_at hl 2 rfl) ?_
        refine lv_iload_n hx hb dX0_closeIndex_180 rfl (lv_at hl 0 rfl) ?_
        refine g_callv (va_runV (As := [.int y_148]) (rest := []) ⟨hx, hb, hml, hown, hts⟩ (r_X0_addWhole l dC dI L kd tys fr_158 H.size g.2.2.2.1 a0_ ma0_ ka0_ y_148) (cwV 1 hts (gV_ t_1211 t_1213 t_17 t_190 t_1214) rfl rfl rfl (by decide +kernel) ⟨(Nat.le_of_ble_eq_true rfl), (Nat.le_of_ble_eq_true rfl)⟩) (pre3V g hK ma0_ ka0_ (by decide) (q := (RX0, TX0, 14)) rfl) rfl rfl hl.1 rfl (lv_room (Nat.le_of_ble_eq_true rfl)) dX0_closeIndex_181 ⟨(Nat.le_of_ble_eq_true rfl), (Nat.le_of_ble_eq_true rfl)⟩) g hK (by decide) (by decide) (fx' := [(8, 6, q0_, .int 1201), (0, 7, a0_, .ref a_156), (0, 11, a0_, .int y_146), (7, 6, q1_, .int x_137), (0, 5, a0_, .ref a_134), (8, 8, q0_, .int x_131), (0, 4, a0_, .ref a_128), (0, 3, a0_, .ref a_11), (0, 8, a0_, .int y_5), (0, 0, a0_, .ref q0_), (0, 2, a0_, .ref q1_)]) rfl (fun fr_160 H locs hp hMr_160 g => ?_)
        obtain ⟨x_161, h_162, hF_163⟩ := hp
        have g := g.more hF_163
        subst hQ
        exact W.vret hx hb hr (fun t ht hW => ⟨⟨_, rfl, Or.inr (⟨x_161, h_162, x_137, h_138, x_131, h_132, y_5, b_6, (g.fcts [0, 1, 2, 5, 7, 10] rfl)⟩), q3_of g hK ht hW⟩, g.2.2.1.F ht⟩) g.2.2.1.2.2 dX0_closeIndex_184
set_option maxHeartbeats 4000000 in
set_option maxRecDepth 100000 in
theorem r_X0_push_2 (l : Launch) (dC : Nat → ClassId) (dI : Nat → Nat → Nat) (L : List Nat) (kd : Nat → Nat) (tys : List (ClassId × FieldType)) (f0 : Nat → va_E) (sz : Nat) (hWT : WT L kd tys f0) (a0_ : Nat) (ma0_ : a0_ ∈ L) (ka0_ : kd a0_ = 0) (x1_ : Int32) (x2_ : Int32) (x3_ : Int32) (q0_ : Nat) (mq0_ : q0_ ∈ L) (kq0_ : kd q0_ = 110) (q1_ : Nat) (mq1_ : q1_ ∈ L) (kq1_ : kd q1_ = 112) (hGea0_ : eOK f0 a0_) (hr_ : erel x1_ x3_) (hfx : Fs L kd f0 [(0, 3, a0_, .ref q0_), (0, 5, a0_, .ref q1_)]) : Met l yX0_push (.code yX0_push cX0_push 4 none :: lw_g) ({ frames := 0, cells := 0, slots := 0, locals := 0 }) (va_Pc [.ref a0_, .int x1_, .int x2_, .int x3_] (P3 (dC, dI) L tys f0 sz)) (va_Qv (fun (f : Nat → va_E) => (eOK f a0_ ∧ ∃ z0_ : Int32, bd 1 300 z0_ ∧ Fs L kd f [(0, 8, a0_, .int z0_)])) (Q3 (dC, dI) L kd tys [(0, 8)] [110, 111, 112, 113, 114] f0 sz) (pA L sz)) 0 0 (pA L sz) := by
  refine Met.ofW (cc := cX0_push) (maxL := 4) (ret := none) (by decide) rfl ?_
  intro p e s m args below meth c s₁ B hml hv
  obtain ⟨rfl, hsz, hP, hK, hD0⟩ := hv
  have hx := B.exec
  have hb := B.bytes
  have hr := B.returns
  have hts := atoms_spec (ws := (.code yX0_push cX0_push 4 none :: lw_g)) B.pre
  have hown : s.vm.findClass RX0 = some m.cls := findClass_of_methodNamed B.named
  have hlocks := B.notSynchronized
  subst hsz
  have g : G3 (dC, dI) L kd tys s f0 [(0, 8)] [110, 111, 112, 113, 114] f0 s.heap [] [(0, 3, a0_, .ref q0_), (0, 5, a0_, .ref q1_)] := G3.start hP hD0 hWT hfx
  have e3_ := (fx_at g (i := 0) rfl).2.2.2
  have e5_ := (fx_at g (i := 1) rfl).2.2.2
  have hl := lv_entry ([.ref a0_, .int x1_, .int x2_, .int x3_]) (n := 4) (Nat.le_of_ble_eq_true rfl)
  rw [lg_entry_eq]
  generalize (lg_sl ([.ref a0_, .int x1_, .int x2_, .int x3_]) ++ List.replicate (4 - (lg_sl ([.ref a0_, .int x1_, .int x2_, .int x3_])).length) Slot.unset).toArray = ls at hl ⊢
  have hl : lv_has ls 4 [(0, .ref a0_), (1, .int x1_), (2, .int x2_), (3, .int x3_)] := hl
  refine W_q (fun Q hQ => ?_)
  refine lv_aload_n hx hb dX0_push_0 rfl (lv_at hl 0 rfl) ?_
  refine g_geti (C := RX0) (T := TX0) (N := 14) hx hb hts (mc_ inX0) hown hK g ma0_ ka0_ (by decide) rfl 8 (by decide) rfl (hts _ (List.mem_cons_of_mem _ t_381)) (fun _ h9 => h9) rfl dX0_push_1 (fun x_1 bx_1 g => ?_)
  refine lv_sipush (v := 300) hx hb dX0_push_4 (by decide) ?_
  have kb_300 : bd 300 300 (300 : Int32) := ⟨by decide, by decide⟩
  refine lv_icmp_ge (tgt := 70) hx hb dX0_push_7 (by decide) (fun c_2 => ?_) (fun c_2 => ?_)
  · have fc_2 := le_f c_2
    have b_3 : bd 300 300 x_1 := leR fc_2 kb_300 bx_1 (by decide)
    subst hQ
    exact W.vret hx hb hr (fun t ht hW => ⟨⟨_, rfl, ⟨hGea0_, x_1, (bd_sub b_3 (by decide)), (g.fcts [0] rfl)⟩, q3_of g hK ht hW⟩, g.2.2.1.F ht⟩) g.2.2.1.2.2 dX0_push_70
  · have fc_2 := nle_f c_2
    have b_4 : bd 0 299 x_1 := ltL fc_2 bx_1 kb_300 (by decide)
    refine lv_aload_n hx hb dX0_push_10 rfl (lv_at hl 0 rfl) ?_
    refine g_getk (C := RX0) (T := TX0) (N := 14) hx hb hts (mc_ inX0) hown hK g rfl 3 (by decide) rfl (hts _ (List.mem_cons_of_mem _ t_376)) (fun _ h9 => h9) 1 rfl dX0_push_11 ?_
    refine lv_aload_n hx hb dX0_push_14 rfl (lv_at hl 0 rfl) ?_
    refine g_getk (C := RX0) (T := TX0) (N := 14) hx hb hts (mc_ inX0) hown hK g rfl 8 (by decide) rfl (hts _ (List.mem_cons_of_mem _ t_381)) (fun _ h9 => h9) 0 rfl dX0_push_15 ?_
    refine lv_iload_n hx hb dX0_push_18 rfl (lv_at hl 1 rfl) ?_
    have go_ := g
    refine g_iastX hx hb hK g mq0_ kq0_ (by decide) rfl (in_bd b_4 (by decide)) (bdT x1_) (by decide) dX0_push_19 (fun f1 H locs hM_5 u_6 g => ?_)
    refine lv_aload_n hx hb dX0_push_20 rfl (lv_at hl 0 rfl) ?_
    refine g_getr (K := 111) (C := RX0) (T := TX0) (N := 14) hx hb hts (mc_ inX0) hown hK g ma0_ ka0_ (by decide) rfl 4 (by decide) rfl (hts _ (List.mem_cons_of_mem _ t_377)) (fun _ h9 => h9) rfl dX0_push_21 (fun a_7 ma_7 ka_7 g => ?_)
    refine lv_aload_n hx hb dX0_push_24 rfl (lv_at hl 0 rfl) ?_
    refine g_getk (C := RX0) (T := TX0) (N := 14) hx hb hts (mc_ inX0) hown hK g rfl 8 (by decide) rfl (hts _ (List.mem_cons_of_mem _ t_381)) (fun _ h9 => h9) 1 rfl dX0_push_25 ?_
    refine lv_iload_n hx hb dX0_push_28 rfl (lv_at hl 2 rfl) ?_
    refine g_iast hx hb hK g ma_7 ka_7 (by decide) rfl (in_bd b_4 (by decide)) (bdT x2_) (by decide) dX0_push_29 (fun f H locs hM_8 g => ?_)
    refine lv_aload_n hx hb dX0_push_30 rfl (lv_at hl 0 rfl) ?_
    refine g_getk (C := RX0) (T := TX0) (N := 14) hx hb hts (mc_ inX0) hown hK g rfl 5 (by decide) rfl (hts _ (List.mem_cons_of_mem _ t_378)) (fun _ h9 => h9) 3 rfl dX0_push_31 ?_
    refine lv_aload_n hx hb dX0_push_34 rfl (lv_at hl 0 rfl) ?_
    refine g_getk (C := RX0) (T := TX0) (N := 14) hx hb hts (mc_ inX0) hown hK g rfl 8 (by decide) rfl (hts _ (List.mem_cons_of_mem _ t_381)) (fun _ h9 => h9) 1 rfl dX0_push_35 ?_
    refine lv_iload_n hx hb dX0_push_38 rfl (lv_at hl 3 rfl) ?_
    refine g_iastX hx hb hK g mq1_ kq1_ (by decide) rfl (in_bd b_4 (by decide)) (bdT x3_) (by decide) dX0_push_39 (fun f3 H locs hM_9 u_10 g => ?_)
    have hG_11 : eOK f3 a0_ := push_e hGea0_ e3_ e5_ (ne_kd kq0_ kq1_ (by decide)) (ne_kd ka0_ kq0_ (by decide)) (ne_kd ka0_ kq1_ (by decide)) ma0_ ka0_ mq0_ kq0_ mq1_ kq1_ u_6 hM_8 u_10 hr_
    refine lv_aload_n hx hb dX0_push_40 rfl (lv_at hl 0 rfl) ?_
    refine g_getr (K := 113) (C := RX0) (T := TX0) (N := 14) hx hb hts (mc_ inX0) hown hK g ma0_ ka0_ (by decide) rfl 6 (by decide) rfl (hts _ (List.mem_cons_of_mem _ t_379)) (fun _ h9 => h9) rfl dX0_push_41 (fun a_12 ma_12 ka_12 g => ?_)
    refine lv_aload_n hx hb dX0_push_44 rfl (lv_at hl 0 rfl) ?_
    refine g_getk (C := RX0) (T := TX0) (N := 14) hx hb hts (mc_ inX0) hown hK g rfl 8 (by decide) rfl (hts _ (List.mem_cons_of_mem _ t_381)) (fun _ h9 => h9) 2 rfl dX0_push_45 ?_
    refine lv_iconst (v := 0) hx hb dX0_push_48 (by decide) ?_
    have kb_0 : bd 0 0 (0 : Int32) := ⟨by decide, by decide⟩
    have go_ := g
    refine g_iast hx hb hK g ma_12 ka_12 (by decide) rfl (in_bd b_4 (by decide)) (bd_sub kb_0 (by decide)) (by decide) dX0_push_49 (fun f H locs hM_13 g => ?_)
    have hG_14 := eOK.frame hM_13 go_.2.2.2.1 ma0_ ka0_ (by decide) (by decide) hG_11
    refine lv_aload_n hx hb dX0_push_50 rfl (lv_at hl 0 rfl) ?_
    refine g_getr (K := 114) (C := RX0) (T := TX0) (N := 14) hx hb hts (mc_ inX0) hown hK g ma0_ ka0_ (by decide) rfl 7 (by decide) rfl (hts _ (List.mem_cons_of_mem _ t_380)) (fun _ h9 => h9) rfl dX0_push_51 (fun a_15 ma_15 ka_15 g => ?_)
    refine lv_aload_n hx hb dX0_push_54 rfl (lv_at hl 0 rfl) ?_
    refine g_getk (C := RX0) (T := TX0) (N := 14) hx hb hts (mc_ inX0) hown hK g rfl 8 (by decide) rfl (hts _ (List.mem_cons_of_mem _ t_381)) (fun _ h9 => h9) 3 rfl dX0_push_55 ?_
    refine lv_iconst (v := 0) hx hb dX0_push_58 (by decide) ?_
    have go_ := g
    refine g_iast hx hb hK g ma_15 ka_15 (by decide) rfl (in_bd b_4 (by decide)) (bd_sub kb_0 (by decide)) (by decide) dX0_push_59 (fun f H locs hM_16 g => ?_)
    have hG_17 := eOK.frame hM_16 go_.2.2.2.1 ma0_ ka0_ (by decide) (by decide) hG_14
    refine lv_aload_n hx hb dX0_push_60 rfl (lv_at hl 0 rfl) ?_
    refine lv_dup hx hb dX0_push_61 rfl ?_
    refine g_getk (C := RX0) (T := TX0) (N := 14) hx hb hts (mc_ inX0) hown hK g rfl 8 (by decide) rfl (hts _ (List.mem_cons_of_mem _ t_381)) (fun _ h9 => h9) 3 rfl dX0_push_62 ?_
    refine lv_iconst (v := 1) hx hb dX0_push_65 (by decide) ?_
    have kb_1 : bd 1 1 (1 : Int32) := ⟨by decide, by decide⟩
    refine lv_iadd hx hb dX0_push_66 ?_
    refine lv_topi (fun y_18 ey_18 => ?_)
    have ty_18 := add_bd ey_18 b_4 kb_1 (by decide)
    have b_19 : bd 1 300 y_18 := add_rg ty_18 b_4 kb_1 (by decide)
    have go_ := g
    refine g_put (C := RX0) (T := TX0) (N := 14) hx hb hts (mc_ inX0) tyX0 tyX0_ok nmX0 hown hK g ma0_ ka0_ (by decide) rfl 8 (by decide) (hts _ (List.mem_cons_of_mem _ t_381)) (fun _ h9 => h9) rfl rfl (okV_i (bd_sub b_19 (by decide))) rfl rfl (by decide) (Or.inr (Or.inl (by decide))) (fx' := [(0, 7, a0_, .ref a_15), (0, 6, a0_, .ref a_12), (0, 4, a0_, .ref a_7), (0, 3, a0_, .ref q0_), (0, 5, a0_, .ref q1_)]) rfl dX0_push_67 (fun f H locs hM_20 g => ?_)
    have hG_21 := eOK.frame hM_20 go_.2.2.2.1 ma0_ ka0_ (by decide) (by decide) hG_17
    subst hQ
    exact W.vret hx hb hr (fun t ht hW => ⟨⟨_, rfl, ⟨hG_21, y_18, b_19, (g.fcts [0] rfl)⟩, q3_of g hK ht hW⟩, g.2.2.1.F ht⟩) g.2.2.1.2.2 dX0_push_70
set_option maxHeartbeats 4000000 in
set_option maxRecDepth 100000 in
theorem r_X0_openSign_2 (l : Launch) (dC : Nat → ClassId) (dI : Nat → Nat → Nat) (L : List Nat) (kd : Nat → Nat) (tys : List (ClassId × FieldType)) (f0 : Nat → va_E) (sz : Nat) (hWT : WT L kd tys f0) (a0_ : Nat) (ma0_ : a0_ ∈ L) (ka0_ : kd a0_ = 0) (x1_ : Int32) (q0_ : Nat) (mq0_ : q0_ ∈ L) (kq0_ : kd q0_ = 8) (q1_ : Nat) (mq1_ : q1_ ∈ L) (kq1_ : kd q1_ = 7) (y0_ : Int32) (by0_ : bd 0 0 y0_) (hGea0_ : eOK f0 a0_) (hfx : Fs L kd f0 [(0, 0, a0_, .ref q0_), (0, 2, a0_, .ref q1_), (8, 8, q0_, .int y0_)]) : Met l yX0_openSign (.code yX0_openSign cX0_openSign 3 none :: lw_g) ({ frames := 1, cells := 0, slots := 0, locals := 23 }) (va_Pc [.ref a0_, .int x1_] (P3 (dC, dI) L tys f0 sz)) (va_Qv (fun (f : Nat → va_E) => (eOK f a0_ ∧ ∃ z0_ : Int32, bd 1 1201 z0_ ∧ ∃ z1_ : Int32, bd (-2147483647) 40 z1_ ∧ ∃ z2_ : Int32, bd 1 300 z2_ ∧ Fs L kd f [(8, 6, q0_, .int z0_), (0, 11, a0_, .int z1_), (0, 8, a0_, .int z2_), (8, 8, q0_, .int y0_)]) ∨ (eOK f a0_ ∧ ∃ z0_ : Int32, bd 1 300 z0_ ∧ ∃ z2_ : Int32, bd 1 7 z2_ ∧ Fs L kd f [(0, 8, a0_, .int z0_), (8, 6, q0_, .int 1201), (8, 8, q0_, .int z2_)])) (Q3 (dC, dI) L kd tys [(0, 8), (0, 11), (7, 18), (8, 6), (8, 8), (8, 9)] [110, 111, 112, 113, 114] f0 sz) (pA L sz)) 0 0 (pA L sz) := by
  refine Met.ofW (cc := cX0_openSign) (maxL := 3) (ret := none) (by decide) rfl ?_
  intro p e s m args below meth c s₁ B hml hv
  obtain ⟨rfl, hsz, hP, hK, hD0⟩ := hv
  have hx := B.exec
  have hb := B.bytes
  have hr := B.returns
  have hts := atoms_spec (ws := (.code yX0_openSign cX0_openSign 3 none :: lw_g)) B.pre
  have hown : s.vm.findClass RX0 = some m.cls := findClass_of_methodNamed B.named
  have hlocks := B.notSynchronized
  subst hsz
  have g : G3 (dC, dI) L kd tys s f0 [(0, 8), (0, 11), (7, 18), (8, 6), (8, 8), (8, 9)] [110, 111, 112, 113, 114] f0 s.heap [] [(0, 0, a0_, .ref q0_), (0, 2, a0_, .ref q1_), (8, 8, q0_, .int y0_)] := G3.start hP hD0 hWT hfx
  have hl := lv_entry ([.ref a0_, .int x1_]) (n := 3) (Nat.le_of_ble_eq_true rfl)
  rw [lg_entry_eq]
  generalize (lg_sl ([.ref a0_, .int x1_]) ++ List.replicate (3 - (lg_sl ([.ref a0_, .int x1_])).length) Slot.unset).toArray = ls at hl ⊢
  have hl : lv_has ls 3 [(0, .ref a0_), (1, .int x1_)] := hl
  refine W_q (fun Q hQ => ?_)
  refine lv_aload_n hx hb dX0_openSign_0 rfl (lv_at hl 0 rfl) ?_
  refine g_geti (C := RX0) (T := TX0) (N := 14) hx hb hts (mc_ inX0) hown hK g ma0_ ka0_ (by decide) rfl 11 (by decide) rfl (hts _ (List.mem_cons_of_mem _ t_384)) (fun _ h9 => h9) rfl dX0_openSign_1 (fun x_1 bx_1 g => ?_)
  refine lv_bipush (v := 40) hx hb dX0_openSign_4 (by decide) ?_
  have kb_40 : bd 40 40 (40 : Int32) := ⟨by decide, by decide⟩
  refine lv_icmp_lt (tgt := 24) hx hb dX0_openSign_6 (by decide) (fun c_2 => ?_) (fun c_2 => ?_)
  · have fc_2 := lt_f c_2
    have b_3 : bd (-2147483648) 39 x_1 := ltL fc_2 (bdT x_1) kb_40 (by decide)
    refine lv_iload_n hx hb dX0_openSign_24 rfl (lv_at hl 1 rfl) ?_
    refine lv_bipush (v := 45) hx hb dX0_openSign_25 (by decide) ?_
    have kb_45 : bd 45 45 (45 : Int32) := ⟨by decide, by decide⟩
    refine lv_icmp_ne (tgt := 35) hx hb dX0_openSign_27 (by decide) (fun c_4 => ?_) (fun c_4 => ?_)
    · have fc_4 := neq_f c_4
      refine lv_bipush (v := 7) hx hb dX0_openSign_35 (by decide) ?_
      refine lv_istore_n (lv' := [(2, .int 7), (0, .ref a0_), (1, .int x1_)]) hx hb dX0_openSign_37 rfl hl (by decide) rfl (fun ls hl => ?_)
      refine lv_aload_n hx hb dX0_openSign_38 rfl (lv_at hl 1 rfl) ?_
      refine lv_iload_n hx hb dX0_openSign_39 rfl (lv_at hl 2 rfl) ?_
      refine lv_bipush (v := 40) hx hb dX0_openSign_40 (by decide) ?_
      refine lv_icmp_ne (tgt := 49) hx hb dX0_openSign_42 (by decide) (fun c_5 => ?_) (fun c_5 => ?_)
      · have fc_5 := neq_f c_5
        refine lv_iload_n hx hb dX0_openSign_49 rfl (lv_at hl 0 rfl) ?_
        refine lv_aload_n hx hb dX0_openSign_50 rfl (lv_at hl 1 rfl) ?_
        refine g_getk (C := RX0) (T := TX0) (N := 14) hx hb hts (mc_ inX0) hown hK g rfl 0 (by decide) rfl (hts _ (List.mem_cons_of_mem _ t_373)) (fun _ h9 => h9) 1 rfl dX0_openSign_51 ?_
        have go_ := g
        refine g_calli (va_runV (As := []) (rest := [.int 7, .ref a0_]) ⟨hx, hb, hml, hown, hts⟩ (r_X8_place l dC dI L kd tys f0 s.heap.size g.2.2.2.1 q0_ mq0_ kq0_) (cwV 0 hts (gV_ t_1220 t_1111 t_1112 t_184 t_1113) rfl rfl rfl (by decide +kernel) ⟨(Nat.le_of_ble_eq_true rfl), (Nat.le_of_ble_eq_true rfl)⟩) (pre3V g hK mq0_ kq0_ (by decide) (q := (RX8, TX8, 10)) rfl) rfl rfl hl.1 rfl (lv_room (Nat.le_of_ble_eq_true rfl)) dX0_openSign_54 ⟨(Nat.le_of_ble_eq_true rfl), (Nat.le_of_ble_eq_true rfl)⟩) g hK (by decide) (by decide) (fx' := [(0, 11, a0_, .int x_1), (0, 0, a0_, .ref q0_), (0, 2, a0_, .ref q1_), (8, 8, q0_, .int y0_)]) rfl (fun r_6 fr_6 H locs hp hMr_6 g => ?_)
        have hG_7 := eOK.frame hMr_6 go_.2.2.2.1 ma0_ ka0_ (by decide) (by decide) hGea0_
        refine lv_iconst (v := 0) hx hb dX0_openSign_57 (by decide) ?_
        obtain ⟨a_8, ma_8, ka_8, g⟩ := g_factr (K := 110) g ma0_ ka0_ (by decide) 3 rfl
        obtain ⟨a_9, ma_9, ka_9, g⟩ := g_factr (K := 112) g ma0_ ka0_ (by decide) 5 rfl
        have kb_7 : bd 7 7 (7 : Int32) := ⟨by decide, by decide⟩
        have kb_0 : bd 0 0 (0 : Int32) := ⟨by decide, by decide⟩
        have go_ := g
        refine g_callv (va_runV (As := [.int 7, .int r_6, .int 0]) (rest := []) ⟨hx, hb, hml, hown, hts⟩ (r_X0_push_2 l dC dI L kd tys fr_6 H.size g.2.2.2.1 a0_ ma0_ ka0_ 7 r_6 0 a_8 ma_8 ka_8 a_9 ma_9 ka_9 hG_7 (erel_bd kb_7 kb_0 (by decide)) (g.fcts [1, 0] rfl)) (cwV 3 hts (gV_ t_1221 t_1223 t_19 t_190 t_1224) rfl rfl rfl (by decide +kernel) ⟨(Nat.le_of_ble_eq_true rfl), (Nat.le_of_ble_eq_true rfl)⟩) (pre3V g hK ma0_ ka0_ (by decide) (q := (RX0, TX0, 14)) rfl) rfl rfl hl.1 rfl (lv_room (Nat.le_of_ble_eq_true rfl)) dX0_openSign_58 ⟨(Nat.le_of_ble_eq_true rfl), (Nat.le_of_ble_eq_true rfl)⟩) g hK (by decide) (by decide) (fx' := [(0, 5, a0_, .ref a_9), (0, 3, a0_, .ref a_8), (0, 11, a0_, .int x_1), (0, 0, a0_, .ref q0_), (0, 2, a0_, .ref q1_), (8, 8, q0_, .int y0_)]) rfl (fun fr_10 H locs hp hMr_10 g => ?_)
        obtain ⟨hG_11, x_12, h_13, hF_14⟩ := hp
        have g := g.more hF_14
        refine lv_aload_n hx hb dX0_openSign_61 rfl (lv_at hl 1 rfl) ?_
        refine g_getk (C := RX0) (T := TX0) (N := 14) hx hb hts (mc_ inX0) hown hK g rfl 2 (by decide) rfl (hts _ (List.mem_cons_of_mem _ t_375)) (fun _ h9 => h9) 5 rfl dX0_openSign_62 ?_
        refine lv_dup hx hb dX0_openSign_65 rfl ?_
        refine g_geti (C := RX7) (T := TX7) (N := 19) hx hb hts (mc_ inX7) hown hK g mq1_ kq1_ (by decide) rfl 18 (by decide) rfl (hts _ (List.mem_cons_of_mem _ t_681)) (fun _ h9 => h9) rfl dX0_openSign_66 (fun x_15 bx_15 g => ?_)
        refine lv_iload_n hx hb dX0_openSign_69 rfl (lv_at hl 2 rfl) ?_
        refine lv_bipush (v := 40) hx hb dX0_openSign_70 (by decide) ?_
        refine lv_icmp_ne (tgt := 79) hx hb dX0_openSign_72 (by decide) (fun c_16 => ?_) (fun c_16 => ?_)
        · have fc_16 := neq_f c_16
          refine lv_iconst (v := 1) hx hb dX0_openSign_79 (by decide) ?_
          have kb_1 : bd 1 1 (1 : Int32) := ⟨by decide, by decide⟩
          refine lv_iadd hx hb dX0_openSign_80 ?_
          refine lv_topi (fun y_17 ey_17 => ?_)
          have go_ := g
          refine g_put (C := RX7) (T := TX7) (N := 19) hx hb hts (mc_ inX7) tyX7 tyX7_ok nmX7 hown hK g mq1_ kq1_ (by decide) rfl 18 (by decide) (hts _ (List.mem_cons_of_mem _ t_681)) (fun _ h9 => h9) rfl rfl (okV_i (bdT y_17)) rfl rfl (by decide) (Or.inr (Or.inl (by decide))) (fx' := [(0, 8, a0_, .int x_12), (0, 5, a0_, .ref a_9), (0, 3, a0_, .ref a_8), (0, 11, a0_, .int x_1), (0, 0, a0_, .ref q0_), (0, 2, a0_, .ref q1_), (8, 8, q0_, .int y0_)]) rfl dX0_openSign_81 (fun f H locs hM_18 g => ?_)
          have hG_19 := eOK.frame hM_18 go_.2.2.2.1 ma0_ ka0_ (by decide) (by decide) hG_11
          refine lv_aload_n hx hb dX0_openSign_84 rfl (lv_at hl 1 rfl) ?_
          refine lv_dup hx hb dX0_openSign_85 rfl ?_
          refine g_getk (C := RX0) (T := TX0) (N := 14) hx hb hts (mc_ inX0) hown hK g rfl 11 (by decide) rfl (hts _ (List.mem_cons_of_mem _ t_384)) (fun _ h9 => h9) 4 rfl dX0_openSign_86 ?_
          refine lv_iconst (v := 1) hx hb dX0_openSign_89 (by decide) ?_
          refine lv_iadd hx hb dX0_openSign_90 ?_
          refine lv_topi (fun y_20 ey_20 => ?_)
          have ty_20 := add_bd ey_20 b_3 kb_1 (by decide)
          have b_21 : bd (-2147483647) 40 y_20 := add_rg ty_20 b_3 kb_1 (by decide)
          have go_ := g
          refine g_put (C := RX0) (T := TX0) (N := 14) hx hb hts (mc_ inX0) tyX0 tyX0_ok nmX0 hown hK g ma0_ ka0_ (by decide) rfl 11 (by decide) (hts _ (List.mem_cons_of_mem _ t_384)) (fun _ h9 => h9) rfl rfl (okV_i (bd_sub b_21 (by decide))) rfl rfl (by decide) (Or.inr (Or.inl (by decide))) (fx' := [(7, 18, q1_, .int y_17), (0, 8, a0_, .int x_12), (0, 5, a0_, .ref a_9), (0, 3, a0_, .ref a_8), (0, 0, a0_, .ref q0_), (0, 2, a0_, .ref q1_), (8, 8, q0_, .int y0_)]) rfl dX0_openSign_91 (fun f H locs hM_22 g => ?_)
          have hG_23 := eOK.frame hM_22 go_.2.2.2.1 ma0_ ka0_ (by decide) (by decide) hG_19
          refine lv_aload_n hx hb dX0_openSign_94 rfl (lv_at hl 1 rfl) ?_
          refine g_getk (C := RX0) (T := TX0) (N := 14) hx hb hts (mc_ inX0) hown hK g rfl 0 (by decide) rfl (hts _ (List.mem_cons_of_mem _ t_373)) (fun _ h9 => h9) 5 rfl dX0_openSign_95 ?_
          have go_ := g
          refine g_callv (va_runV (As := []) (rest := []) ⟨hx, hb, hml, hown, hts⟩ (r_X8_next l dC dI L kd tys f H.size g.2.2.2.1 q0_ mq0_ kq0_) (cwV 0 hts (gV_ t_1225 t_1103 t_1104 t_184 t_1105) rfl rfl rfl (by decide +kernel) ⟨(Nat.le_of_ble_eq_true rfl), (Nat.le_of_ble_eq_true rfl)⟩) (pre3V g hK mq0_ kq0_ (by decide) (q := (RX8, TX8, 10)) rfl) rfl rfl hl.1 rfl (lv_room (Nat.le_of_ble_eq_true rfl)) dX0_openSign_98 ⟨(Nat.le_of_ble_eq_true rfl), (Nat.le_of_ble_eq_true rfl)⟩) g hK (by decide) (by decide) (fx' := [(0, 11, a0_, .int y_20), (7, 18, q1_, .int y_17), (0, 8, a0_, .int x_12), (0, 5, a0_, .ref a_9), (0, 3, a0_, .ref a_8), (0, 0, a0_, .ref q0_), (0, 2, a0_, .ref q1_), (8, 8, q0_, .int y0_)]) rfl (fun fr_24 H locs hp hMr_24 g => ?_)
          obtain ⟨x_25, h_26, hF_27⟩ := hp
          have hG_28 := eOK.frame hMr_24 go_.2.2.2.1 ma0_ ka0_ (by decide) (by decide) hG_23
          have g := g.more hF_27
          subst hQ
          exact W.vret hx hb hr (fun t ht hW => ⟨⟨_, rfl, Or.inl ⟨hG_28, x_25, h_26, y_20, b_21, x_12, h_13, (g.fcts [0, 1, 3, 8] rfl)⟩, q3_of g hK ht hW⟩, g.2.2.1.F ht⟩) g.2.2.1.2.2 dX0_openSign_101
        · have fc_16 := eq_f c_16
          exact absurd fc_16 fc_5
      · have fc_5 := eq_f c_5
        have b_29 : bd 40 40 x1_ := eqX fc_5 (bdT x1_) kb_40 (by decide)
        refine lv_iconst (v := 1) hx hb dX0_openSign_45 (by decide) ?_
        refine lv_goto (tgt := 50) hx hb dX0_openSign_46 (by decide) ?_
        refine lv_aload_n hx hb dX0_openSign_50 rfl (lv_at hl 1 rfl) ?_
        refine g_getk (C := RX0) (T := TX0) (N := 14) hx hb hts (mc_ inX0) hown hK g rfl 0 (by decide) rfl (hts _ (List.mem_cons_of_mem _ t_373)) (fun _ h9 => h9) 1 rfl dX0_openSign_51 ?_
        have go_ := g
        refine g_calli (va_runV (As := []) (rest := [.int 1, .ref a0_]) ⟨hx, hb, hml, hown, hts⟩ (r_X8_place l dC dI L kd tys f0 s.heap.size g.2.2.2.1 q0_ mq0_ kq0_) (cwV 0 hts (gV_ t_1220 t_1111 t_1112 t_184 t_1113) rfl rfl rfl (by decide +kernel) ⟨(Nat.le_of_ble_eq_true rfl), (Nat.le_of_ble_eq_true rfl)⟩) (pre3V g hK mq0_ kq0_ (by decide) (q := (RX8, TX8, 10)) rfl) rfl rfl hl.1 rfl (lv_room (Nat.le_of_ble_eq_true rfl)) dX0_openSign_54 ⟨(Nat.le_of_ble_eq_true rfl), (Nat.le_of_ble_eq_true rfl)⟩) g hK (by decide) (by decide) (fx' := [(0, 11, a0_, .int x_1), (0, 0, a0_, .ref q0_), (0, 2, a0_, .ref q1_), (8, 8, q0_, .int y0_)]) rfl (fun r_30 fr_30 H locs hp hMr_30 g => ?_)
        have hG_31 := eOK.frame hMr_30 go_.2.2.2.1 ma0_ ka0_ (by decide) (by decide) hGea0_
        refine lv_iconst (v := 0) hx hb dX0_openSign_57 (by decide) ?_
        obtain ⟨a_32, ma_32, ka_32, g⟩ := g_factr (K := 110) g ma0_ ka0_ (by decide) 3 rfl
        obtain ⟨a_33, ma_33, ka_33, g⟩ := g_factr (K := 112) g ma0_ ka0_ (by decide) 5 rfl
        have kb_1 : bd 1 1 (1 : Int32) := ⟨by decide, by decide⟩
        have kb_0 : bd 0 0 (0 : Int32) := ⟨by decide, by decide⟩
        have go_ := g
        refine g_callv (va_runV (As := [.int 1, .int r_30, .int 0]) (rest := []) ⟨hx, hb, hml, hown, hts⟩ (r_X0_push_2 l dC dI L kd tys fr_30 H.size g.2.2.2.1 a0_ ma0_ ka0_ 1 r_30 0 a_32 ma_32 ka_32 a_33 ma_33 ka_33 hG_31 (erel_bd kb_1 kb_0 (by decide)) (g.fcts [1, 0] rfl)) (cwV 3 hts (gV_ t_1221 t_1223 t_19 t_190 t_1224) rfl rfl rfl (by decide +kernel) ⟨(Nat.le_of_ble_eq_true rfl), (Nat.le_of_ble_eq_true rfl)⟩) (pre3V g hK ma0_ ka0_ (by decide) (q := (RX0, TX0, 14)) rfl) rfl rfl hl.1 rfl (lv_room (Nat.le_of_ble_eq_true rfl)) dX0_openSign_58 ⟨(Nat.le_of_ble_eq_true rfl), (Nat.le_of_ble_eq_true rfl)⟩) g hK (by decide) (by decide) (fx' := [(0, 5, a0_, .ref a_33), (0, 3, a0_, .ref a_32), (0, 11, a0_, .int x_1), (0, 0, a0_, .ref q0_), (0, 2, a0_, .ref q1_), (8, 8, q0_, .int y0_)]) rfl (fun fr_34 H locs hp hMr_34 g => ?_)
        obtain ⟨hG_35, x_36, h_37, hF_38⟩ := hp
        have g := g.more hF_38
        refine lv_aload_n hx hb dX0_openSign_61 rfl (lv_at hl 1 rfl) ?_
        refine g_getk (C := RX0) (T := TX0) (N := 14) hx hb hts (mc_ inX0) hown hK g rfl 2 (by decide) rfl (hts _ (List.mem_cons_of_mem _ t_375)) (fun _ h9 => h9) 5 rfl dX0_openSign_62 ?_
        refine lv_dup hx hb dX0_openSign_65 rfl ?_
        refine g_geti (C := RX7) (T := TX7) (N := 19) hx hb hts (mc_ inX7) hown hK g mq1_ kq1_ (by decide) rfl 18 (by decide) rfl (hts _ (List.mem_cons_of_mem _ t_681)) (fun _ h9 => h9) rfl dX0_openSign_66 (fun x_39 bx_39 g => ?_)
        refine lv_iload_n hx hb dX0_openSign_69 rfl (lv_at hl 2 rfl) ?_
        refine lv_bipush (v := 40) hx hb dX0_openSign_70 (by decide) ?_
        refine lv_icmp_ne (tgt := 79) hx hb dX0_openSign_72 (by decide) (fun c_40 => ?_) (fun c_40 => ?_)
        · have fc_40 := neq_f c_40
          have b_41 : bd 41 39 x1_ := neX fc_40 b_29 kb_40 (by decide)
          exact bd_no b_41 (by decide)
        · have fc_40 := eq_f c_40
          refine lv_iconst (v := 0) hx hb dX0_openSign_75 (by decide) ?_
          refine lv_goto (tgt := 80) hx hb dX0_openSign_76 (by decide) ?_
          refine lv_iadd hx hb dX0_openSign_80 ?_
          refine lv_topi (fun y_42 ey_42 => ?_)
          have ty_42 := add_bd ey_42 (bdT x_39) kb_0 (by decide)
          have b_43 : bd (-2147483648) 2147483647 y_42 := add_rg ty_42 (bdT x_39) kb_0 (by decide)
          have go_ := g
          refine g_put (C := RX7) (T := TX7) (N := 19) hx hb hts (mc_ inX7) tyX7 tyX7_ok nmX7 hown hK g mq1_ kq1_ (by decide) rfl 18 (by decide) (hts _ (List.mem_cons_of_mem _ t_681)) (fun _ h9 => h9) rfl rfl (okV_i b_43) rfl rfl (by decide) (Or.inr (Or.inl (by decide))) (fx' := [(0, 8, a0_, .int x_36), (0, 5, a0_, .ref a_33), (0, 3, a0_, .ref a_32), (0, 11, a0_, .int x_1), (0, 0, a0_, .ref q0_), (0, 2, a0_, .ref q1_), (8, 8, q0_, .int y0_)]) rfl dX0_openSign_81 (fun f H locs hM_44 g => ?_)
          have hG_45 := eOK.frame hM_44 go_.2.2.2.1 ma0_ ka0_ (by decide) (by decide) hG_35
          refine lv_aload_n hx hb dX0_openSign_84 rfl (lv_at hl 1 rfl) ?_
          refine lv_dup hx hb dX0_openSign_85 rfl ?_
          refine g_getk (C := RX0) (T := TX0) (N := 14) hx hb hts (mc_ inX0) hown hK g rfl 11 (by decide) rfl (hts _ (List.mem_cons_of_mem _ t_384)) (fun _ h9 => h9) 4 rfl dX0_openSign_86 ?_
          refine lv_iconst (v := 1) hx hb dX0_openSign_89 (by decide) ?_
          refine lv_iadd hx hb dX0_openSign_90 ?_
          refine lv_topi (fun y_46 ey_46 => ?_)
          have ty_46 := add_bd ey_46 b_3 kb_1 (by decide)
          have b_47 : bd (-2147483647) 40 y_46 := add_rg ty_46 b_3 kb_1 (by decide)
          have go_ := g
          refine g_put (C := RX0) (T := TX0) (N := 14) hx hb hts (mc_ inX0) tyX0 tyX0_ok nmX0 hown hK g ma0_ ka0_ (by decide) rfl 11 (by decide) (hts _ (List.mem_cons_of_mem _ t_384)) (fun _ h9 => h9) rfl rfl (okV_i (bd_sub b_47 (by decide))) rfl rfl (by decide) (Or.inr (Or.inl (by decide))) (fx' := [(7, 18, q1_, .int y_42), (0, 8, a0_, .int x_36), (0, 5, a0_, .ref a_33), (0, 3, a0_, .ref a_32), (0, 0, a0_, .ref q0_), (0, 2, a0_, .ref q1_), (8, 8, q0_, .int y0_)]) rfl dX0_openSign_91 (fun f H locs hM_48 g => ?_)
          have hG_49 := eOK.frame hM_48 go_.2.2.2.1 ma0_ ka0_ (by decide) (by decide) hG_45
          refine lv_aload_n hx hb dX0_openSign_94 rfl (lv_at hl 1 rfl) ?_
          refine g_getk (C := RX0) (T := TX0) (N := 14) hx hb hts (mc_ inX0) hown hK g rfl 0 (by decide) rfl (hts _ (List.mem_cons_of_mem _ t_373)) (fun _ h9 => h9) 5 rfl dX0_openSign_95 ?_
          have go_ := g
          refine g_callv (va_runV (As := []) (rest := []) ⟨hx, hb, hml, hown, hts⟩ (r_X8_next l dC dI L kd tys f H.size g.2.2.2.1 q0_ mq0_ kq0_) (cwV 0 hts (gV_ t_1225 t_1103 t_1104 t_184 t_1105) rfl rfl rfl (by decide +kernel) ⟨(Nat.le_of_ble_eq_true rfl), (Nat.le_of_ble_eq_true rfl)⟩) (pre3V g hK mq0_ kq0_ (by decide) (q := (RX8, TX8, 10)) rfl) rfl rfl hl.1 rfl (lv_room (Nat.le_of_ble_eq_true rfl)) dX0_openSign_98 ⟨(Nat.le_of_ble_eq_true rfl), (Nat.le_of_ble_eq_true rfl)⟩) g hK (by decide) (by decide) (fx' := [(0, 11, a0_, .int y_46), (7, 18, q1_, .int y_42), (0, 8, a0_, .int x_36), (0, 5, a0_, .ref a_33), (0, 3, a0_, .ref a_32), (0, 0, a0_, .ref q0_), (0, 2, a0_, .ref q1_), (8, 8, q0_, .int y0_)]) rfl (fun fr_50 H locs hp hMr_50 g => ?_)
          obtain ⟨x_51, h_52, hF_53⟩ := hp
          have hG_54 := eOK.frame hMr_50 go_.2.2.2.1 ma0_ ka0_ (by decide) (by decide) hG_49
          have g := g.more hF_53
          subst hQ
          exact W.vret hx hb hr (fun t ht hW => ⟨⟨_, rfl, Or.inl ⟨hG_54, x_51, h_52, y_46, b_47, x_36, h_37, (g.fcts [0, 1, 3, 8] rfl)⟩, q3_of g hK ht hW⟩, g.2.2.1.F ht⟩) g.2.2.1.2.2 dX0_openSign_101
    · have fc_4 := eq_f c_4
      have b_55 : bd 45 45 x1_ := eqX fc_4 (bdT x1_) kb_45 (by decide)
      refine lv_bipush (v := 6) hx hb dX0_openSign_30 (by decide) ?_
      refine lv_goto (tgt := 37) hx hb dX0_openSign_32 (by decide) ?_
      refine lv_istore_n (lv' := [(2, .int 6), (0, .ref a0_), (1, .int x1_)]) hx hb dX0_openSign_37 rfl hl (by decide) rfl (fun ls hl => ?_)
      refine lv_aload_n hx hb dX0_openSign_38 rfl (lv_at hl 1 rfl) ?_
      refine lv_iload_n hx hb dX0_openSign_39 rfl (lv_at hl 2 rfl) ?_
      refine lv_bipush (v := 40) hx hb dX0_openSign_40 (by decide) ?_
      refine lv_icmp_ne (tgt := 49) hx hb dX0_openSign_42 (by decide) (fun c_56 => ?_) (fun c_56 => ?_)
      · have fc_56 := neq_f c_56
        refine lv_iload_n hx hb dX0_openSign_49 rfl (lv_at hl 0 rfl) ?_
        refine lv_aload_n hx hb dX0_openSign_50 rfl (lv_at hl 1 rfl) ?_
        refine g_getk (C := RX0) (T := TX0) (N := 14) hx hb hts (mc_ inX0) hown hK g rfl 0 (by decide) rfl (hts _ (List.mem_cons_of_mem _ t_373)) (fun _ h9 => h9) 1 rfl dX0_openSign_51 ?_
        have go_ := g
        refine g_calli (va_runV (As := []) (rest := [.int 6, .ref a0_]) ⟨hx, hb, hml, hown, hts⟩ (r_X8_place l dC dI L kd tys f0 s.heap.size g.2.2.2.1 q0_ mq0_ kq0_) (cwV 0 hts (gV_ t_1220 t_1111 t_1112 t_184 t_1113) rfl rfl rfl (by decide +kernel) ⟨(Nat.le_of_ble_eq_true rfl), (Nat.le_of_ble_eq_true rfl)⟩) (pre3V g hK mq0_ kq0_ (by decide) (q := (RX8, TX8, 10)) rfl) rfl rfl hl.1 rfl (lv_room (Nat.le_of_ble_eq_true rfl)) dX0_openSign_54 ⟨(Nat.le_of_ble_eq_true rfl), (Nat.le_of_ble_eq_true rfl)⟩) g hK (by decide) (by decide) (fx' := [(0, 11, a0_, .int x_1), (0, 0, a0_, .ref q0_), (0, 2, a0_, .ref q1_), (8, 8, q0_, .int y0_)]) rfl (fun r_57 fr_57 H locs hp hMr_57 g => ?_)
        have hG_58 := eOK.frame hMr_57 go_.2.2.2.1 ma0_ ka0_ (by decide) (by decide) hGea0_
        refine lv_iconst (v := 0) hx hb dX0_openSign_57 (by decide) ?_
        obtain ⟨a_59, ma_59, ka_59, g⟩ := g_factr (K := 110) g ma0_ ka0_ (by decide) 3 rfl
        obtain ⟨a_60, ma_60, ka_60, g⟩ := g_factr (K := 112) g ma0_ ka0_ (by decide) 5 rfl
        have kb_6 : bd 6 6 (6 : Int32) := ⟨by decide, by decide⟩
        have kb_0 : bd 0 0 (0 : Int32) := ⟨by decide, by decide⟩
        have go_ := g
        refine g_callv (va_runV (As := [.int 6, .int r_57, .int 0]) (rest := []) ⟨hx, hb, hml, hown, hts⟩ (r_X0_push_2 l dC dI L kd tys fr_57 H.size g.2.2.2.1 a0_ ma0_ ka0_ 6 r_57 0 a_59 ma_59 ka_59 a_60 ma_60 ka_60 hG_58 (erel_bd kb_6 kb_0 (by decide)) (g.fcts [1, 0] rfl)) (cwV 3 hts (gV_ t_1221 t_1223 t_19 t_190 t_1224) rfl rfl rfl (by decide +kernel) ⟨(Nat.le_of_ble_eq_true rfl), (Nat.le_of_ble_eq_true rfl)⟩) (pre3V g hK ma0_ ka0_ (by decide) (q := (RX0, TX0, 14)) rfl) rfl rfl hl.1 rfl (lv_room (Nat.le_of_ble_eq_true rfl)) dX0_openSign_58 ⟨(Nat.le_of_ble_eq_true rfl), (Nat.le_of_ble_eq_true rfl)⟩) g hK (by decide) (by decide) (fx' := [(0, 5, a0_, .ref a_60), (0, 3, a0_, .ref a_59), (0, 11, a0_, .int x_1), (0, 0, a0_, .ref q0_), (0, 2, a0_, .ref q1_), (8, 8, q0_, .int y0_)]) rfl (fun fr_61 H locs hp hMr_61 g => ?_)
        obtain ⟨hG_62, x_63, h_64, hF_65⟩ := hp
        have g := g.more hF_65
        refine lv_aload_n hx hb dX0_openSign_61 rfl (lv_at hl 1 rfl) ?_
        refine g_getk (C := RX0) (T := TX0) (N := 14) hx hb hts (mc_ inX0) hown hK g rfl 2 (by decide) rfl (hts _ (List.mem_cons_of_mem _ t_375)) (fun _ h9 => h9) 5 rfl dX0_openSign_62 ?_
        refine lv_dup hx hb dX0_openSign_65 rfl ?_
        refine g_geti (C := RX7) (T := TX7) (N := 19) hx hb hts (mc_ inX7) hown hK g mq1_ kq1_ (by decide) rfl 18 (by decide) rfl (hts _ (List.mem_cons_of_mem _ t_681)) (fun _ h9 => h9) rfl dX0_openSign_66 (fun x_66 bx_66 g => ?_)
        refine lv_iload_n hx hb dX0_openSign_69 rfl (lv_at hl 2 rfl) ?_
        refine lv_bipush (v := 40) hx hb dX0_openSign_70 (by decide) ?_
        refine lv_icmp_ne (tgt := 79) hx hb dX0_openSign_72 (by decide) (fun c_67 => ?_) (fun c_67 => ?_)
        · have fc_67 := neq_f c_67
          refine lv_iconst (v := 1) hx hb dX0_openSign_79 (by decide) ?_
          have kb_1 : bd 1 1 (1 : Int32) := ⟨by decide, by decide⟩
          refine lv_iadd hx hb dX0_openSign_80 ?_
          refine lv_topi (fun y_68 ey_68 => ?_)
          have go_ := g
          refine g_put (C := RX7) (T := TX7) (N := 19) hx hb hts (mc_ inX7) tyX7 tyX7_ok nmX7 hown hK g mq1_ kq1_ (by decide) rfl 18 (by decide) (hts _ (List.mem_cons_of_mem _ t_681)) (fun _ h9 => h9) rfl rfl (okV_i (bdT y_68)) rfl rfl (by decide) (Or.inr (Or.inl (by decide))) (fx' := [(0, 8, a0_, .int x_63), (0, 5, a0_, .ref a_60), (0, 3, a0_, .ref a_59), (0, 11, a0_, .int x_1), (0, 0, a0_, .ref q0_), (0, 2, a0_, .ref q1_), (8, 8, q0_, .int y0_)]) rfl dX0_openSign_81 (fun f H locs hM_69 g => ?_)
          have hG_70 := eOK.frame hM_69 go_.2.2.2.1 ma0_ ka0_ (by decide) (by decide) hG_62
          refine lv_aload_n hx hb dX0_openSign_84 rfl (lv_at hl 1 rfl) ?_
          refine lv_dup hx hb dX0_openSign_85 rfl ?_
          refine g_getk (C := RX0) (T := TX0) (N := 14) hx hb hts (mc_ inX0) hown hK g rfl 11 (by decide) rfl (hts _ (List.mem_cons_of_mem _ t_384)) (fun _ h9 => h9) 4 rfl dX0_openSign_86 ?_
          refine lv_iconst (v := 1) hx hb dX0_openSign_89 (by decide) ?_
          refine lv_iadd hx hb dX0_openSign_90 ?_
          refine lv_topi (fun y_71 ey_71 => ?_)
          have ty_71 := add_bd ey_71 b_3 kb_1 (by decide)
          have b_72 : bd (-2147483647) 40 y_71 := add_rg ty_71 b_3 kb_1 (by decide)
          have go_ := g
          refine g_put (C := RX0) (T := TX0) (N := 14) hx hb hts (mc_ inX0) tyX0 tyX0_ok nmX0 hown hK g ma0_ ka0_ (by decide) rfl 11 (by decide) (hts _ (List.mem_cons_of_mem _ t_384)) (fun _ h9 => h9) rfl rfl (okV_i (bd_sub b_72 (by decide))) rfl rfl (by decide) (Or.inr (Or.inl (by decide))) (fx' := [(7, 18, q1_, .int y_68), (0, 8, a0_, .int x_63), (0, 5, a0_, .ref a_60), (0, 3, a0_, .ref a_59), (0, 0, a0_, .ref q0_), (0, 2, a0_, .ref q1_), (8, 8, q0_, .int y0_)]) rfl dX0_openSign_91 (fun f H locs hM_73 g => ?_)
          have hG_74 := eOK.frame hM_73 go_.2.2.2.1 ma0_ ka0_ (by decide) (by decide) hG_70
          refine lv_aload_n hx hb dX0_openSign_94 rfl (lv_at hl 1 rfl) ?_
          refine g_getk (C := RX0) (T := TX0) (N := 14) hx hb hts (mc_ inX0) hown hK g rfl 0 (by decide) rfl (hts _ (List.mem_cons_of_mem _ t_373)) (fun _ h9 => h9) 5 rfl dX0_openSign_95 ?_
          have go_ := g
          refine g_callv (va_runV (As := []) (rest := []) ⟨hx, hb, hml, hown, hts⟩ (r_X8_next l dC dI L kd tys f H.size g.2.2.2.1 q0_ mq0_ kq0_) (cwV 0 hts (gV_ t_1225 t_1103 t_1104 t_184 t_1105) rfl rfl rfl (by decide +kernel) ⟨(Nat.le_of_ble_eq_true rfl), (Nat.le_of_ble_eq_true rfl)⟩) (pre3V g hK mq0_ kq0_ (by decide) (q := (RX8, TX8, 10)) rfl) rfl rfl hl.1 rfl (lv_room (Nat.le_of_ble_eq_true rfl)) dX0_openSign_98 ⟨(Nat.le_of_ble_eq_true rfl), (Nat.le_of_ble_eq_true rfl)⟩) g hK (by decide) (by decide) (fx' := [(0, 11, a0_, .int y_71), (7, 18, q1_, .int y_68), (0, 8, a0_, .int x_63), (0, 5, a0_, .ref a_60), (0, 3, a0_, .ref a_59), (0, 0, a0_, .ref q0_), (0, 2, a0_, .ref q1_), (8, 8, q0_, .int y0_)]) rfl (fun fr_75 H locs hp hMr_75 g => ?_)
          obtain ⟨x_76, h_77, hF_78⟩ := hp
          have hG_79 := eOK.frame hMr_75 go_.2.2.2.1 ma0_ ka0_ (by decide) (by decide) hG_74
          have g := g.more hF_78
          subst hQ
          exact W.vret hx hb hr (fun t ht hW => ⟨⟨_, rfl, Or.inl ⟨hG_79, x_76, h_77, y_71, b_72, x_63, h_64, (g.fcts [0, 1, 3, 8] rfl)⟩, q3_of g hK ht hW⟩, g.2.2.1.F ht⟩) g.2.2.1.2.2 dX0_openSign_101
        · have fc_67 := eq_f c_67
          exact absurd fc_67 fc_56
      · have fc_56 := eq_f c_56
        have b_80 : bd 45 40 x1_ := eqX fc_56 b_55 kb_40 (by decide)
        exact bd_no b_80 (by decide)
  · have fc_2 := nlt_f c_2
    have b_81 : bd 40 2147483647 x_1 := leR fc_2 kb_40 (bdT x_1) (by decide)
    refine lv_aload_n hx hb dX0_openSign_9 rfl (lv_at hl 0 rfl) ?_
    refine g_getk (C := RX0) (T := TX0) (N := 14) hx hb hts (mc_ inX0) hown hK g rfl 0 (by decide) rfl (hts _ (List.mem_cons_of_mem _ t_373)) (fun _ h9 => h9) 1 rfl dX0_openSign_10 ?_
    refine lv_iconst (v := 4) hx hb dX0_openSign_13 (by decide) ?_
    refine lv_aload_n hx hb dX0_openSign_14 rfl (lv_at hl 0 rfl) ?_
    refine g_getk (C := RX0) (T := TX0) (N := 14) hx hb hts (mc_ inX0) hown hK g rfl 0 (by decide) rfl (hts _ (List.mem_cons_of_mem _ t_373)) (fun _ h9 => h9) 1 rfl dX0_openSign_15 ?_
    have go_ := g
    refine g_calli (va_runV (As := []) (rest := [.int 4, .ref q0_]) ⟨hx, hb, hml, hown, hts⟩ (r_X8_place l dC dI L kd tys f0 s.heap.size g.2.2.2.1 q0_ mq0_ kq0_) (cwV 0 hts (gV_ t_1220 t_1111 t_1112 t_184 t_1113) rfl rfl rfl (by decide +kernel) ⟨(Nat.le_of_ble_eq_true rfl), (Nat.le_of_ble_eq_true rfl)⟩) (pre3V g hK mq0_ kq0_ (by decide) (q := (RX8, TX8, 10)) rfl) rfl rfl hl.1 rfl (lv_room (Nat.le_of_ble_eq_true rfl)) dX0_openSign_18 ⟨(Nat.le_of_ble_eq_true rfl), (Nat.le_of_ble_eq_true rfl)⟩) g hK (by decide) (by decide) (fx' := [(0, 11, a0_, .int x_1), (0, 0, a0_, .ref q0_), (0, 2, a0_, .ref q1_), (8, 8, q0_, .int y0_)]) rfl (fun r_82 fr_82 H locs hp hMr_82 g => ?_)
    have hG_83 := eOK.frame hMr_82 go_.2.2.2.1 ma0_ ka0_ (by decide) (by decide) hGea0_
    have kb_4 : bd 4 4 (4 : Int32) := ⟨by decide, by decide⟩
    have go_ := g
    refine g_callv (va_runV (As := [.int 4, .int r_82]) (rest := []) ⟨hx, hb, hml, hown, hts⟩ (r_X8_fail l dC dI L kd tys fr_82 H.size g.2.2.2.1 q0_ mq0_ kq0_ 4 (bd_sub kb_4 (by decide)) r_82 y0_ by0_ (g.fcts [3] rfl)) (cwV 2 hts (gV_ t_1215 t_1107 t_1108 t_184 t_1109) rfl rfl rfl (by decide +kernel) ⟨(Nat.le_of_ble_eq_true rfl), (Nat.le_of_ble_eq_true rfl)⟩) (pre3V g hK mq0_ kq0_ (by decide) (q := (RX8, TX8, 10)) rfl) rfl rfl hl.1 rfl (lv_room (Nat.le_of_ble_eq_true rfl)) dX0_openSign_21 ⟨(Nat.le_of_ble_eq_true rfl), (Nat.le_of_ble_eq_true rfl)⟩) g hK (by decide) (by decide) (fx' := [(0, 11, a0_, .int x_1), (0, 0, a0_, .ref q0_), (0, 2, a0_, .ref q1_)]) rfl (fun fr_84 H locs hp hMr_84 g => ?_)
    obtain ⟨x_85, h_86, hF_87⟩ := hp
    have hG_88 := eOK.frame hMr_84 go_.2.2.2.1 ma0_ ka0_ (by decide) (by decide) hG_83
    have g := g.more hF_87
    refine lv_iload_n hx hb dX0_openSign_24 rfl (lv_at hl 1 rfl) ?_
    refine lv_bipush (v := 45) hx hb dX0_openSign_25 (by decide) ?_
    have kb_45 : bd 45 45 (45 : Int32) := ⟨by decide, by decide⟩
    refine lv_icmp_ne (tgt := 35) hx hb dX0_openSign_27 (by decide) (fun c_89 => ?_) (fun c_89 => ?_)
    · have fc_89 := neq_f c_89
      refine lv_bipush (v := 7) hx hb dX0_openSign_35 (by decide) ?_
      refine lv_istore_n (lv' := [(2, .int 7), (0, .ref a0_), (1, .int x1_)]) hx hb dX0_openSign_37 rfl hl (by decide) rfl (fun ls hl => ?_)
      refine lv_aload_n hx hb dX0_openSign_38 rfl (lv_at hl 1 rfl) ?_
      refine lv_iload_n hx hb dX0_openSign_39 rfl (lv_at hl 2 rfl) ?_
      refine lv_bipush (v := 40) hx hb dX0_openSign_40 (by decide) ?_
      refine lv_icmp_ne (tgt := 49) hx hb dX0_openSign_42 (by decide) (fun c_90 => ?_) (fun c_90 => ?_)
      · have fc_90 := neq_f c_90
        refine lv_iload_n hx hb dX0_openSign_49 rfl (lv_at hl 0 rfl) ?_
        refine lv_aload_n hx hb dX0_openSign_50 rfl (lv_at hl 1 rfl) ?_
        refine g_getk (C := RX0) (T := TX0) (N := 14) hx hb hts (mc_ inX0) hown hK g rfl 0 (by decide) rfl (hts _ (List.mem_cons_of_mem _ t_373)) (fun _ h9 => h9) 3 rfl dX0_openSign_51 ?_
        have go_ := g
        refine g_calli (va_runV (As := []) (rest := [.int 7, .ref a0_]) ⟨hx, hb, hml, hown, hts⟩ (r_X8_place l dC dI L kd tys fr_84 H.size g.2.2.2.1 q0_ mq0_ kq0_) (cwV 0 hts (gV_ t_1220 t_1111 t_1112 t_184 t_1113) rfl rfl rfl (by decide +kernel) ⟨(Nat.le_of_ble_eq_true rfl), (Nat.le_of_ble_eq_true rfl)⟩) (pre3V g hK mq0_ kq0_ (by decide) (q := (RX8, TX8, 10)) rfl) rfl rfl hl.1 rfl (lv_room (Nat.le_of_ble_eq_true rfl)) dX0_openSign_54 ⟨(Nat.le_of_ble_eq_true rfl), (Nat.le_of_ble_eq_true rfl)⟩) g hK (by decide) (by decide) (fx' := [(8, 6, q0_, .int 1201), (8, 8, q0_, .int x_85), (0, 11, a0_, .int x_1), (0, 0, a0_, .ref q0_), (0, 2, a0_, .ref q1_)]) rfl (fun r_91 fr_91 H locs hp hMr_91 g => ?_)
        have hG_92 := eOK.frame hMr_91 go_.2.2.2.1 ma0_ ka0_ (by decide) (by decide) hG_88
        refine lv_iconst (v := 0) hx hb dX0_openSign_57 (by decide) ?_
        obtain ⟨a_93, ma_93, ka_93, g⟩ := g_factr (K := 110) g ma0_ ka0_ (by decide) 3 rfl
        obtain ⟨a_94, ma_94, ka_94, g⟩ := g_factr (K := 112) g ma0_ ka0_ (by decide) 5 rfl
        have kb_7 : bd 7 7 (7 : Int32) := ⟨by decide, by decide⟩
        have kb_0 : bd 0 0 (0 : Int32) := ⟨by decide, by decide⟩
        have go_ := g
        refine g_callv (va_runV (As := [.int 7, .int r_91, .int 0]) (rest := []) ⟨hx, hb, hml, hown, hts⟩ (r_X0_push_2 l dC dI L kd tys fr_91 H.size g.2.2.2.1 a0_ ma0_ ka0_ 7 r_91 0 a_93 ma_93 ka_93 a_94 ma_94 ka_94 hG_92 (erel_bd kb_7 kb_0 (by decide)) (g.fcts [1, 0] rfl)) (cwV 3 hts (gV_ t_1221 t_1223 t_19 t_190 t_1224) rfl rfl rfl (by decide +kernel) ⟨(Nat.le_of_ble_eq_true rfl), (Nat.le_of_ble_eq_true rfl)⟩) (pre3V g hK ma0_ ka0_ (by decide) (q := (RX0, TX0, 14)) rfl) rfl rfl hl.1 rfl (lv_room (Nat.le_of_ble_eq_true rfl)) dX0_openSign_58 ⟨(Nat.le_of_ble_eq_true rfl), (Nat.le_of_ble_eq_true rfl)⟩) g hK (by decide) (by decide) (fx' := [(0, 5, a0_, .ref a_94), (0, 3, a0_, .ref a_93), (8, 6, q0_, .int 1201), (8, 8, q0_, .int x_85), (0, 11, a0_, .int x_1), (0, 0, a0_, .ref q0_), (0, 2, a0_, .ref q1_)]) rfl (fun fr_95 H locs hp hMr_95 g => ?_)
        obtain ⟨hG_96, x_97, h_98, hF_99⟩ := hp
        have g := g.more hF_99
        refine lv_aload_n hx hb dX0_openSign_61 rfl (lv_at hl 1 rfl) ?_
        refine g_getk (C := RX0) (T := TX0) (N := 14) hx hb hts (mc_ inX0) hown hK g rfl 2 (by decide) rfl (hts _ (List.mem_cons_of_mem _ t_375)) (fun _ h9 => h9) 7 rfl dX0_openSign_62 ?_
        refine lv_dup hx hb dX0_openSign_65 rfl ?_
        refine g_geti (C := RX7) (T := TX7) (N := 19) hx hb hts (mc_ inX7) hown hK g mq1_ kq1_ (by decide) rfl 18 (by decide) rfl (hts _ (List.mem_cons_of_mem _ t_681)) (fun _ h9 => h9) rfl dX0_openSign_66 (fun x_100 bx_100 g => ?_)
        refine lv_iload_n hx hb dX0_openSign_69 rfl (lv_at hl 2 rfl) ?_
        refine lv_bipush (v := 40) hx hb dX0_openSign_70 (by decide) ?_
        refine lv_icmp_ne (tgt := 79) hx hb dX0_openSign_72 (by decide) (fun c_101 => ?_) (fun c_101 => ?_)
        · have fc_101 := neq_f c_101
          refine lv_iconst (v := 1) hx hb dX0_openSign_79 (by decide) ?_
          have kb_1 : bd 1 1 (1 : Int32) := ⟨by decide, by decide⟩
          refine lv_iadd hx hb dX0_openSign_80 ?_
          refine lv_topi (fun y_102 ey_102 => ?_)
          have go_ := g
          refine g_put (C := RX7) (T := TX7) (N := 19) hx hb hts (mc_ inX7) tyX7 tyX7_ok nmX7 hown hK g mq1_ kq1_ (by decide) rfl 18 (by decide) (hts _ (List.mem_cons_of_mem _ t_681)) (fun _ h9 => h9) rfl rfl (okV_i (bdT y_102)) rfl rfl (by decide) (Or.inr (Or.inl (by decide))) (fx' := [(0, 8, a0_, .int x_97), (0, 5, a0_, .ref a_94), (0, 3, a0_, .ref a_93), (8, 6, q0_, .int 1201), (8, 8, q0_, .int x_85), (0, 11, a0_, .int x_1), (0, 0, a0_, .ref q0_), (0, 2, a0_, .ref q1_)]) rfl dX0_openSign_81 (fun f H locs hM_103 g => ?_)
          have hG_104 := eOK.frame hM_103 go_.2.2.2.1 ma0_ ka0_ (by decide) (by decide) hG_96
          refine lv_aload_n hx hb dX0_openSign_84 rfl (lv_at hl 1 rfl) ?_
          refine lv_dup hx hb dX0_openSign_85 rfl ?_
          refine g_getk (C := RX0) (T := TX0) (N := 14) hx hb hts (mc_ inX0) hown hK g rfl 11 (by decide) rfl (hts _ (List.mem_cons_of_mem _ t_384)) (fun _ h9 => h9) 6 rfl dX0_openSign_86 ?_
          refine lv_iconst (v := 1) hx hb dX0_openSign_89 (by decide) ?_
          refine lv_iadd hx hb dX0_openSign_90 ?_
          refine lv_topi (fun y_105 ey_105 => ?_)
          have go_ := g
          refine g_put (C := RX0) (T := TX0) (N := 14) hx hb hts (mc_ inX0) tyX0 tyX0_ok nmX0 hown hK g ma0_ ka0_ (by decide) rfl 11 (by decide) (hts _ (List.mem_cons_of_mem _ t_384)) (fun _ h9 => h9) rfl rfl (okV_i (bdT y_105)) rfl rfl (by decide) (Or.inr (Or.inl (by decide))) (fx' := [(7, 18, q1_, .int y_102), (0, 8, a0_, .int x_97), (0, 5, a0_, .ref a_94), (0, 3, a0_, .ref a_93), (8, 6, q0_, .int 1201), (8, 8, q0_, .int x_85), (0, 0, a0_, .ref q0_), (0, 2, a0_, .ref q1_)]) rfl dX0_openSign_91 (fun f H locs hM_106 g => ?_)
          have hG_107 := eOK.frame hM_106 go_.2.2.2.1 ma0_ ka0_ (by decide) (by decide) hG_104
          refine lv_aload_n hx hb dX0_openSign_94 rfl (lv_at hl 1 rfl) ?_
          refine g_getk (C := RX0) (T := TX0) (N := 14) hx hb hts (mc_ inX0) hown hK g rfl 0 (by decide) rfl (hts _ (List.mem_cons_of_mem _ t_373)) (fun _ h9 => h9) 7 rfl dX0_openSign_95 ?_
          have kb_1201 : bd 1201 1201 (1201 : Int32) := ⟨by decide, by decide⟩
          have go_ := g
          refine g_callv (va_runV (As := []) (rest := []) ⟨hx, hb, hml, hown, hts⟩ (r_X8_next_2 l dC dI L kd tys f H.size g.2.2.2.1 q0_ mq0_ kq0_ 1201 kb_1201 (g.fcts [5] rfl)) (cwV 0 hts (gV_ t_1225 t_1103 t_1104 t_184 t_1105) rfl rfl rfl (by decide +kernel) ⟨(Nat.le_of_ble_eq_true rfl), (Nat.le_of_ble_eq_true rfl)⟩) (pre3V g hK mq0_ kq0_ (by decide) (q := (RX8, TX8, 10)) rfl) rfl rfl hl.1 rfl (lv_room (Nat.le_of_ble_eq_true rfl)) dX0_openSign_98 ⟨(Nat.le_of_ble_eq_true rfl), (Nat.le_of_ble_eq_true rfl)⟩) g hK (by decide) (by decide) (fx' := [(0, 11, a0_, .int y_105), (7, 18, q1_, .int y_102), (0, 8, a0_, .int x_97), (0, 5, a0_, .ref a_94), (0, 3, a0_, .ref a_93), (8, 6, q0_, .int 1201), (8, 8, q0_, .int x_85), (0, 0, a0_, .ref q0_), (0, 2, a0_, .ref q1_)]) rfl (fun fr_108 H locs hp hMr_108 g => ?_)
          have hG_109 := eOK.frame hMr_108 go_.2.2.2.1 ma0_ ka0_ (by decide) (by decide) hG_107
          subst hQ
          exact W.vret hx hb hr (fun t ht hW => ⟨⟨_, rfl, Or.inr (⟨hG_109, x_97, h_98, x_85, h_86, (g.fcts [2, 5, 6] rfl)⟩), q3_of g hK ht hW⟩, g.2.2.1.F ht⟩) g.2.2.1.2.2 dX0_openSign_101
        · have fc_101 := eq_f c_101
          exact absurd fc_101 fc_90
      · have fc_90 := eq_f c_90
        have b_110 : bd 40 40 x1_ := eqX fc_90 (bdT x1_) kb_40 (by decide)
        refine lv_iconst (v := 1) hx hb dX0_openSign_45 (by decide) ?_
        refine lv_goto (tgt := 50) hx hb dX0_openSign_46 (by decide) ?_
        refine lv_aload_n hx hb dX0_openSign_50 rfl (lv_at hl 1 rfl) ?_
        refine g_getk (C := RX0) (T := TX0) (N := 14) hx hb hts (mc_ inX0) hown hK g rfl 0 (by decide) rfl (hts _ (List.mem_cons_of_mem _ t_373)) (fun _ h9 => h9) 3 rfl dX0_openSign_51 ?_
        have go_ := g
        refine g_calli (va_runV (As := []) (rest := [.int 1, .ref a0_]) ⟨hx, hb, hml, hown, hts⟩ (r_X8_place l dC dI L kd tys fr_84 H.size g.2.2.2.1 q0_ mq0_ kq0_) (cwV 0 hts (gV_ t_1220 t_1111 t_1112 t_184 t_1113) rfl rfl rfl (by decide +kernel) ⟨(Nat.le_of_ble_eq_true rfl), (Nat.le_of_ble_eq_true rfl)⟩) (pre3V g hK mq0_ kq0_ (by decide) (q := (RX8, TX8, 10)) rfl) rfl rfl hl.1 rfl (lv_room (Nat.le_of_ble_eq_true rfl)) dX0_openSign_54 ⟨(Nat.le_of_ble_eq_true rfl), (Nat.le_of_ble_eq_true rfl)⟩) g hK (by decide) (by decide) (fx' := [(8, 6, q0_, .int 1201), (8, 8, q0_, .int x_85), (0, 11, a0_, .int x_1), (0, 0, a0_, .ref q0_), (0, 2, a0_, .ref q1_)]) rfl (fun r_111 fr_111 H locs hp hMr_111 g => ?_)
        have hG_112 := eOK.frame hMr_111 go_.2.2.2.1 ma0_ ka0_ (by decide) (by decide) hG_88
        refine lv_iconst (v := 0) hx hb dX0_openSign_57 (by decide) ?_
        obtain ⟨a_113, ma_113, ka_113, g⟩ := g_factr (K := 110) g ma0_ ka0_ (by decide) 3 rfl
        obtain ⟨a_114, ma_114, ka_114, g⟩ := g_factr (K := 112) g ma0_ ka0_ (by decide) 5 rfl
        have kb_1 : bd 1 1 (1 : Int32) := ⟨by decide, by decide⟩
        have kb_0 : bd 0 0 (0 : Int32) := ⟨by decide, by decide⟩
        have go_ := g
        refine g_callv (va_runV (As := [.int 1, .int r_111, .int 0]) (rest := []) ⟨hx, hb, hml, hown, hts⟩ (r_X0_push_2 l dC dI L kd tys fr_111 H.size g.2.2.2.1 a0_ ma0_ ka0_ 1 r_111 0 a_113 ma_113 ka_113 a_114 ma_114 ka_114 hG_112 (erel_bd kb_1 kb_0 (by decide)) (g.fcts [1, 0] rfl)) (cwV 3 hts (gV_ t_1221 t_1223 t_19 t_190 t_1224) rfl rfl rfl (by decide +kernel) ⟨(Nat.le_of_ble_eq_true rfl), (Nat.le_of_ble_eq_true rfl)⟩) (pre3V g hK ma0_ ka0_ (by decide) (q := (RX0, TX0, 14)) rfl) rfl rfl hl.1 rfl (lv_room (Nat.le_of_ble_eq_true rfl)) dX0_openSign_58 ⟨(Nat.le_of_ble_eq_true rfl), (Nat.le_of_ble_eq_true rfl)⟩) g hK (by decide) (by decide) (fx' := [(0, 5, a0_, .ref a_114), (0, 3, a0_, .ref a_113), (8, 6, q0_, .int 1201), (8, 8, q0_, .int x_85), (0, 11, a0_, .int x_1), (0, 0, a0_, .ref q0_), (0, 2, a0_, .ref q1_)]) rfl (fun fr_115 H locs hp hMr_115 g => ?_)
        obtain ⟨hG_116, x_117, h_118, hF_119⟩ := hp
        have g := g.more hF_119
        refine lv_aload_n hx hb dX0_openSign_61 rfl (lv_at hl 1 rfl) ?_
        refine g_getk (C := RX0) (T := TX0) (N := 14) hx hb hts (mc_ inX0) hown hK g rfl 2 (by decide) rfl (hts _ (List.mem_cons_of_mem _ t_375)) (fun _ h9 => h9) 7 rfl dX0_openSign_62 ?_
        refine lv_dup hx hb dX0_openSign_65 rfl ?_
        refine g_geti (C := RX7) (T := TX7) (N := 19) hx hb hts (mc_ inX7) hown hK g mq1_ kq1_ (by decide) rfl 18 (by decide) rfl (hts _ (List.mem_cons_of_mem _ t_681)) (fun _ h9 => h9) rfl dX0_openSign_66 (fun x_120 bx_120 g => ?_)
        refine lv_iload_n hx hb dX0_openSign_69 rfl (lv_at hl 2 rfl) ?_
        refine lv_bipush (v := 40) hx hb dX0_openSign_70 (by decide) ?_
        refine lv_icmp_ne (tgt := 79) hx hb dX0_openSign_72 (by decide) (fun c_121 => ?_) (fun c_121 => ?_)
        · have fc_121 := neq_f c_121
          have b_122 : bd 41 39 x1_ := neX fc_121 b_110 kb_40 (by decide)
          exact bd_no b_122 (by decide)
        · have fc_121 := eq_f c_121
          refine lv_iconst (v := 0) hx hb dX0_openSign_75 (by decide) ?_
          refine lv_goto (tgt := 80) hx hb dX0_openSign_76 (by decide) ?_
          refine lv_iadd hx hb dX0_openSign_80 ?_
          refine lv_topi (fun y_123 ey_123 => ?_)
          have ty_123 := add_bd ey_123 (bdT x_120) kb_0 (by decide)
          have b_124 : bd (-2147483648) 2147483647 y_123 := add_rg ty_123 (bdT x_120) kb_0 (by decide)
          have go_ := g
          refine g_put (C := RX7) (T := TX7) (N := 19) hx hb hts (mc_ inX7) tyX7 tyX7_ok nmX7 hown hK g mq1_ kq1_ (by decide) rfl 18 (by decide) (hts _ (List.mem_cons_of_mem _ t_681)) (fun _ h9 => h9) rfl rfl (okV_i b_124) rfl rfl (by decide) (Or.inr (Or.inl (by decide))) (fx' := [(0, 8, a0_, .int x_117), (0, 5, a0_, .ref a_114), (0, 3, a0_, .ref a_113), (8, 6, q0_, .int 1201), (8, 8, q0_, .int x_85), (0, 11, a0_, .int x_1), (0, 0, a0_, .ref q0_), (0, 2, a0_, .ref q1_)]) rfl dX0_openSign_81 (fun f H locs hM_125 g => ?_)
          have hG_126 := eOK.frame hM_125 go_.2.2.2.1 ma0_ ka0_ (by decide) (by decide) hG_116
          refine lv_aload_n hx hb dX0_openSign_84 rfl (lv_at hl 1 rfl) ?_
          refine lv_dup hx hb dX0_openSign_85 rfl ?_
          refine g_getk (C := RX0) (T := TX0) (N := 14) hx hb hts (mc_ inX0) hown hK g rfl 11 (by decide) rfl (hts _ (List.mem_cons_of_mem _ t_384)) (fun _ h9 => h9) 6 rfl dX0_openSign_86 ?_
          refine lv_iconst (v := 1) hx hb dX0_openSign_89 (by decide) ?_
          refine lv_iadd hx hb dX0_openSign_90 ?_
          refine lv_topi (fun y_127 ey_127 => ?_)
          have go_ := g
          refine g_put (C := RX0) (T := TX0) (N := 14) hx hb hts (mc_ inX0) tyX0 tyX0_ok nmX0 hown hK g ma0_ ka0_ (by decide) rfl 11 (by decide) (hts _ (List.mem_cons_of_mem _ t_384)) (fun _ h9 => h9) rfl rfl (okV_i (bdT y_127)) rfl rfl (by decide) (Or.inr (Or.inl (by decide))) (fx' := [(7, 18, q1_, .int y_123), (0, 8, a0_, .int x_117), (0, 5, a0_, .ref a_114), (0, 3, a0_, .ref a_113), (8, 6, q0_, .int 1201), (8, 8, q0_, .int x_85), (0, 0, a0_, .ref q0_), (0, 2, a0_, .ref q1_)]) rfl dX0_openSign_91 (fun f H locs hM_128 g => ?_)
          have hG_129 := eOK.frame hM_128 go_.2.2.2.1 ma0_ ka0_ (by decide) (by decide) hG_126
          refine lv_aload_n hx hb dX0_openSign_94 rfl (lv_at hl 1 rfl) ?_
          refine g_getk (C := RX0) (T := TX0) (N := 14) hx hb hts (mc_ inX0) hown hK g rfl 0 (by decide) rfl (hts _ (List.mem_cons_of_mem _ t_373)) (fun _ h9 => h9) 7 rfl dX0_openSign_95 ?_
          have kb_1201 : bd 1201 1201 (1201 : Int32) := ⟨by decide, by decide⟩
          have go_ := g
          refine g_callv (va_runV (As := []) (rest := []) ⟨hx, hb, hml, hown, hts⟩ (r_X8_next_2 l dC dI L kd tys f H.size g.2.2.2.1 q0_ mq0_ kq0_ 1201 kb_1201 (g.fcts [5] rfl)) (cwV 0 hts (gV_ t_1225 t_1103 t_1104 t_184 t_1105) rfl rfl rfl (by decide +kernel) ⟨(Nat.le_of_ble_eq_true rfl), (Nat.le_of_ble_eq_true rfl)⟩) (pre3V g hK mq0_ kq0_ (by decide) (q := (RX8, TX8, 10)) rfl) rfl rfl hl.1 rfl (lv_room (Nat.le_of_ble_eq_true rfl)) dX0_openSign_98 ⟨(Nat.le_of_ble_eq_true rfl), (Nat.le_of_ble_eq_true rfl)⟩) g hK (by decide) (by decide) (fx' := [(0, 11, a0_, .int y_127), (7, 18, q1_, .int y_123), (0, 8, a0_, .int x_117), (0, 5, a0_, .ref a_114), (0, 3, a0_, .ref a_113), (8, 6, q0_, .int 1201), (8, 8, q0_, .int x_85), (0, 0, a0_, .ref q0_), (0, 2, a0_, .ref q1_)]) rfl (fun fr_130 H locs hp hMr_130 g => ?_)
          have hG_131 := eOK.frame hMr_130 go_.2.2.2.1 ma0_ ka0_ (by decide) (by decide) hG_129
          subst hQ
          exact W.vret hx hb hr (fun t ht hW => ⟨⟨_, rfl, Or.inr (⟨hG_131, x_117, h_118, x_85, h_86, (g.fcts [2, 5, 6] rfl)⟩), q3_of g hK ht hW⟩, g.2.2.1.F ht⟩) g.2.2.1.2.2 dX0_openSign_101
    · have fc_89 := eq_f c_89
      have b_132 : bd 45 45 x1_ := eqX fc_89 (bdT x1_) kb_45 (by decide)
      refine lv_bipush (v := 6) hx hb dX0_openSign_30 (by decide) ?_
      refine lv_goto (tgt := 37) hx hb dX0_openSign_32 (by decide) ?_
      refine lv_istore_n (lv' := [(2, .int 6), (0, .ref a0_), (1, .int x1_)]) hx hb dX0_openSign_37 rfl hl (by decide) rfl (fun ls hl => ?_)
      refine lv_aload_n hx hb dX0_openSign_38 rfl (lv_at hl 1 rfl) ?_
      refine lv_iload_n hx hb dX0_openSign_39 rfl (lv_at hl 2 rfl) ?_
      refine lv_bipush (v := 40) hx hb dX0_openSign_40 (by decide) ?_
      refine lv_icmp_ne (tgt := 49) hx hb dX0_openSign_42 (by decide) (fun c_133 => ?_) (fun c_133 => ?_)
      · have fc_133 := neq_f c_133
        refine lv_iload_n hx hb dX0_openSign_49 rfl (lv_at hl 0 rfl) ?_
        refine lv_aload_n hx hb dX0_openSign_50 rfl (lv_at hl 1 rfl) ?_
        refine g_getk (C := RX0) (T := TX0) (N := 14) hx hb hts (mc_ inX0) hown hK g rfl 0 (by decide) rfl (hts _ (List.mem_cons_of_mem _ t_373)) (fun _ h9 => h9) 3 rfl dX0_openSign_51 ?_
        have go_ := g
        refine g_calli (va_runV (As := []) (rest := [.int 6, .ref a0_]) ⟨hx, hb, hml, hown, hts⟩ (r_X8_place l dC dI L kd tys fr_84 H.size g.2.2.2.1 q0_ mq0_ kq0_) (cwV 0 hts (gV_ t_1220 t_1111 t_1112 t_184 t_1113) rfl rfl rfl (by decide +kernel) ⟨(Nat.le_of_ble_eq_true rfl), (Nat.le_of_ble_eq_true rfl)⟩) (pre3V g hK mq0_ kq0_ (by decide) (q := (RX8, TX8, 10)) rfl) rfl rfl hl.1 rfl (lv_room (Nat.le_of_ble_eq_true rfl)) dX0_openSign_54 ⟨(Nat.le_of_ble_eq_true rfl), (Nat.le_of_ble_eq_true rfl)⟩) g hK (by decide) (by decide) (fx' := [(8, 6, q0_, .int 1201), (8, 8, q0_, .int x_85), (0, 11, a0_, .int x_1), (0, 0, a0_, .ref q0_), (0, 2, a0_, .ref q1_)]) rfl (fun r_134 fr_134 H locs hp hMr_134 g => ?_)
        have hG_135 := eOK.frame hMr_134 go_.2.2.2.1 ma0_ ka0_ (by decide) (by decide) hG_88
        refine lv_iconst (v := 0) hx hb dX0_openSign_57 (by decide) ?_
        obtain ⟨a_136, ma_136, ka_136, g⟩ := g_factr (K := 110) g ma0_ ka0_ (by decide) 3 rfl
        obtain ⟨a_137, ma_137, ka_137, g⟩ := g_factr (K := 112) g ma0_ ka0_ (by decide) 5 rfl
        have kb_6 : bd 6 6 (6 : Int32) := ⟨by decide, by decide⟩
        have kb_0 : bd 0 0 (0 : Int32) := ⟨by decide, by decide⟩
        have go_ := g
        refine g_callv (va_runV (As := [.int 6, .int r_134, .int 0]) (rest := []) ⟨hx, hb, hml, hown, hts⟩ (r_X0_push_2 l dC dI L kd tys fr_134 H.size g.2.2.2.1 a0_ ma0_ ka0_ 6 r_134 0 a_136 ma_136 ka_136 a_137 ma_137 ka_137 hG_135 (erel_bd kb_6 kb_0 (by decide)) (g.fcts [1, 0] rfl)) (cwV 3 hts (gV_ t_1221 t_1223 t_19 t_190 t_1224) rfl rfl rfl (by decide +kernel) ⟨(Nat.le_of_ble_eq_true rfl), (Nat.le_of_ble_eq_true rfl)⟩) (pre3V g hK ma0_ ka0_ (by decide) (q := (RX0, TX0, 14)) rfl) rfl rfl hl.1 rfl (lv_room (Nat.le_of_ble_eq_true rfl)) dX0_openSign_58 ⟨(Nat.le_of_ble_eq_true rfl), (Nat.le_of_ble_eq_true rfl)⟩) g hK (by decide) (by decide) (fx' := [(0, 5, a0_, .ref a_137), (0, 3, a0_, .ref a_136), (8, 6, q0_, .int 1201), (8, 8, q0_, .int x_85), (0, 11, a0_, .int x_1), (0, 0, a0_, .ref q0_), (0, 2, a0_, .ref q1_)]) rfl (fun fr_138 H locs hp hMr_138 g => ?_)
        obtain ⟨hG_139, x_140, h_141, hF_142⟩ := hp
        have g := g.more hF_142
        refine lv_aload_n hx hb dX0_openSign_61 rfl (lv_at hl 1 rfl) ?_
        refine g_getk (C := RX0) (T := TX0) (N := 14) hx hb hts (mc_ inX0) hown hK g rfl 2 (by decide) rfl (hts _ (List.mem_cons_of_mem _ t_375)) (fun _ h9 => h9) 7 rfl dX0_openSign_62 ?_
        refine lv_dup hx hb dX0_openSign_65 rfl ?_
        refine g_geti (C := RX7) (T := TX7) (N := 19) hx hb hts (mc_ inX7) hown hK g mq1_ kq1_ (by decide) rfl 18 (by decide) rfl (hts _ (List.mem_cons_of_mem _ t_681)) (fun _ h9 => h9) rfl dX0_openSign_66 (fun x_143 bx_143 g => ?_)
        refine lv_iload_n hx hb dX0_openSign_69 rfl (lv_at hl 2 rfl) ?_
        refine lv_bipush (v := 40) hx hb dX0_openSign_70 (by decide) ?_
        refine lv_icmp_ne (tgt := 79) hx hb dX0_openSign_72 (by decide) (fun c_144 => ?_) (fun c_144 => ?_)
        · have fc_144 := neq_f c_144
          refine lv_iconst (v := 1) hx hb dX0_openSign_79 (by decide) ?_
          have kb_1 : bd 1 1 (1 : Int32) := ⟨by decide, by decide⟩
          refine lv_iadd hx hb dX0_openSign_80 ?_
          refine lv_topi (fun y_145 ey_145 => ?_)
          have go_ := g
          refine g_put (C := RX7) (T := TX7) (N := 19) hx hb hts (mc_ inX7) tyX7 tyX7_ok nmX7 hown hK g mq1_ kq1_ (by decide) rfl 18 (by decide) (hts _ (List.mem_cons_of_mem _ t_681)) (fun _ h9 => h9) rfl rfl (okV_i (bdT y_145)) rfl rfl (by decide) (Or.inr (Or.inl (by decide))) (fx' := [(0, 8, a0_, .int x_140), (0, 5, a0_, .ref a_137), (0, 3, a0_, .ref a_136), (8, 6, q0_, .int 1201), (8, 8, q0_, .int x_85), (0, 11, a0_, .int x_1), (0, 0, a0_, .ref q0_), (0, 2, a0_, .ref q1_)]) rfl dX0_openSign_81 (fun f H locs hM_146 g => ?_)
          have hG_147 := eOK.frame hM_146 go_.2.2.2.1 ma0_ ka0_ (by decide) (by decide) hG_139
          refine lv_aload_n hx hb dX0_openSign_84 rfl (lv_at hl 1 rfl) ?_
          refine lv_dup hx hb dX0_openSign_85 rfl ?_
          refine g_getk (C := RX0) (T := TX0) (N := 14) hx hb hts (mc_ inX0) hown hK g rfl 11 (by decide) rfl (hts _ (List.mem_cons_of_mem _ t_384)) (fun _ h9 => h9) 6 rfl dX0_openSign_86 ?_
          refine lv_iconst (v := 1) hx hb dX0_openSign_89 (by decide) ?_
          refine lv_iadd hx hb dX0_openSign_90 ?_
          refine lv_topi (fun y_148 ey_148 => ?_)
          have go_ := g
          refine g_put (C := RX0) (T := TX0) (N := 14) hx hb hts (mc_ inX0) tyX0 tyX0_ok nmX0 hown hK g ma0_ ka0_ (by decide) rfl 11 (by decide) (hts _ (List.mem_cons_of_mem _ t_384)) (fun _ h9 => h9) rfl rfl (okV_i (bdT y_148)) rfl rfl (by decide) (Or.inr (Or.inl (by decide))) (fx' := [(7, 18, q1_, .int y_145), (0, 8, a0_, .int x_140), (0, 5, a0_, .ref a_137), (0, 3, a0_, .ref a_136), (8, 6, q0_, .int 1201), (8, 8, q0_, .int x_85), (0, 0, a0_, .ref q0_), (0, 2, a0_, .ref q1_)]) rfl dX0_openSign_91 (fun f H locs hM_149 g => ?_)
          have hG_150 := eOK.frame hM_149 go_.2.2.2.1 ma0_ ka0_ (by decide) (by decide) hG_147
          refine lv_aload_n hx hb dX0_openSign_94 rfl (lv_at hl 1 rfl) ?_
          refine g_getk (C := RX0) (T := TX0) (N := 14) hx hb hts (mc_ inX0) hown hK g rfl 0 (by decide) rfl (hts _ (List.mem_cons_of_mem _ t_373)) (fun _ h9 => h9) 7 rfl dX0_openSign_95 ?_
          have kb_1201 : bd 1201 1201 (1201 : Int32) := ⟨by decide, by decide⟩
          have go_ := g
          refine g_callv (va_runV (As := []) (rest := []) ⟨hx, hb, hml, hown, hts⟩ (r_X8_next_2 l dC dI L kd tys f H.size g.2.2.2.1 q0_ mq0_ kq0_ 1201 kb_1201 (g.fcts [5] rfl)) (cwV 0 hts (gV_ t_1225 t_1103 t_1104 t_184 t_1105) rfl rfl rfl (by decide +kernel) ⟨(Nat.le_of_ble_eq_true rfl), (Nat.le_of_ble_eq_true rfl)⟩) (pre3V g hK mq0_ kq0_ (by decide) (q := (RX8, TX8, 10)) rfl) rfl rfl hl.1 rfl (lv_room (Nat.le_of_ble_eq_true rfl)) dX0_openSign_98 ⟨(Nat.le_of_ble_eq_true rfl), (Nat.le_of_ble_eq_true rfl)⟩) g hK (by decide) (by decide) (fx' := [(0, 11, a0_, .int y_148), (7, 18, q1_, .int y_145), (0, 8, a0_, .int x_140), (0, 5, a0_, .ref a_137), (0, 3, a0_, .ref a_136), (8, 6, q0_, .int 1201), (8, 8, q0_, .int x_85), (0, 0, a0_, .ref q0_), (0, 2, a0_, .ref q1_)]) rfl (fun fr_151 H locs hp hMr_151 g => ?_)
          have hG_152 := eOK.frame hMr_151 go_.2.2.2.1 ma0_ ka0_ (by decide) (by decide) hG_150
          subst hQ
          exact W.vret hx hb hr (fun t ht hW => ⟨⟨_, rfl, Or.inr (⟨hG_152, x_140, h_141, x_85, h_86, (g.fcts [2, 5, 6] rfl)⟩), q3_of g hK ht hW⟩, g.2.2.1.F ht⟩) g.2.2.1.2.2 dX0_openSign_101
        · have fc_144 := eq_f c_144
          exact absurd fc_144 fc_133
      · have fc_133 := eq_f c_133
        have b_153 : bd 45 40 x1_ := eqX fc_133 b_132 kb_40 (by decide)
        exact bd_no b_153 (by decide)
