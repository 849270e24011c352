set_option maxHeartbeats 4000000 in
set_option maxRecDepth 100000 in
theorem r_X2_readLet_2 (l : Launch) (dC : Nat → ClassId) (dI : Nat → Nat → Nat) (L : List Nat) (kd : Nat → Nat) (tys : List (ClassId × FieldType)) (f0 : Nat → va_E) (sz : Nat) (hWT : WT L kd tys f0) (a0_ : Nat) (ma0_ : a0_ ∈ L) (ka0_ : kd a0_ = 2) (q0_ : Nat) (mq0_ : q0_ ∈ L) (kq0_ : kd q0_ = 8) (q1_ : Nat) (mq1_ : q1_ ∈ L) (kq1_ : kd q1_ = 5) (q2_ : Nat) (mq2_ : q2_ ∈ L) (kq2_ : kd q2_ = 0) (q3_ : Nat) (mq3_ : q3_ ∈ L) (kq3_ : kd q3_ = 7) (q6_ : Nat) (mq6_ : q6_ ∈ L) (kq6_ : kd q6_ = 7) (q7_ : Nat) (mq7_ : q7_ ∈ L) (kq7_ : kd q7_ = 9) (y0_ : Int32) (by0_ : bd 0 0 y0_) (hGeq2_ : eOK f0 q2_) (hfx : Fs L kd f0 [(2, 0, a0_, .ref q0_), (2, 1, a0_, .ref q1_), (2, 2, a0_, .ref q2_), (2, 3, a0_, .ref q3_), (0, 0, q2_, .ref q0_), (0, 1, q2_, .ref q1_), (5, 0, q1_, .ref q6_), (5, 1, q1_, .ref q7_), (8, 8, q0_, .int y0_)]) : Met l yX2_readLet (.code yX2_readLet cX2_readLet 5 none :: lw_g) ({ frames := 4, cells := 0, slots := 0, locals := 97 }) (va_Pc [.ref a0_] (P3 (dC, dI) L tys f0 sz)) (va_Qv (fun (f : Nat → va_E) => (eOK f q2_ ∧ ∃ z0_ : Int32, bd 1 1201 z0_ ∧ ∃ z2_ : Int32, bd 1 2000 z2_ ∧ ∃ z4_ : Int32, bd 1 8 z4_ ∧ Fs L kd f [(8, 6, q0_, .int z0_), (8, 8, q0_, .int y0_), (7, 6, q3_, .int z2_), (0, 2, q2_, .ref q6_), (5, 6, q1_, .int z4_)]) ∨ (eOK f q2_ ∧ ∃ z0_ : Int32, bd 1201 1201 z0_ ∧ ∃ z1_ : Int32, bd 1 7 z1_ ∧ ∃ z2_ : Int32, bd 1 2000 z2_ ∧ Fs L kd f [(8, 6, q0_, .int z0_), (8, 8, q0_, .int z1_), (7, 6, q3_, .int z2_), (0, 2, q2_, .ref q6_)])) (Q3 (dC, dI) L kd tys [(0, 2), (0, 8), (0, 10), (0, 11), (0, 12), (0, 13), (5, 6), (7, 6), (7, 18), (8, 6), (8, 8), (8, 9)] [110, 111, 112, 113, 114, 115, 133, 138, 139] f0 sz) (pA L sz)) 0 0 (pA L sz) := by
  refine Met.ofW (cc := cX2_readLet) (maxL := 5) (ret := none) (by decide) rfl ?_
  intro p e s m args below meth c s₁ B hml hv
  obtain ⟨rfl, hsz, hP, hK, hD0⟩ := hv
  have hx := B.exec
  have hb := B.bytes
  have hr := B.returns
  have hts := atoms_spec (ws := (.code yX2_readLet cX2_readLet 5 none :: lw_g)) B.pre
  have hown : s.vm.findClass RX2 = some m.cls := findClass_of_methodNamed B.named
  have hlocks := B.notSynchronized
  subst hsz
  have g : G3 (dC, dI) L kd tys s f0 [(0, 2), (0, 8), (0, 10), (0, 11), (0, 12), (0, 13), (5, 6), (7, 6), (7, 18), (8, 6), (8, 8), (8, 9)] [110, 111, 112, 113, 114, 115, 133, 138, 139] f0 s.heap [] [(2, 0, a0_, .ref q0_), (2, 1, a0_, .ref q1_), (2, 2, a0_, .ref q2_), (2, 3, a0_, .ref q3_), (0, 0, q2_, .ref q0_), (0, 1, q2_, .ref q1_), (5, 0, q1_, .ref q6_), (5, 1, q1_, .ref q7_), (8, 8, q0_, .int y0_)] := G3.start hP hD0 hWT hfx
  have hl := lv_entry ([.ref a0_]) (n := 5) (Nat.le_of_ble_eq_true rfl)
  rw [lg_entry_eq]
  generalize (lg_sl ([.ref a0_]) ++ List.replicate (5 - (lg_sl ([.ref a0_])).length) Slot.unset).toArray = ls at hl ⊢
  have hl : lv_has ls 5 [(0, .ref a0_)] := hl
  refine W_q (fun Q hQ => ?_)
  refine lv_aload_n hx hb dX2_readLet_0 rfl (lv_at hl 0 rfl) ?_
  refine g_getk (C := RX2) (T := TX2) (N := 16) hx hb hts (mc_ inX2) hown hK g rfl 0 (by decide) rfl (hts _ (List.mem_cons_of_mem _ t_416)) (fun _ h9 => h9) 0 rfl dX2_readLet_1 ?_
  have go_ := g
  refine g_callv (va_runV (As := []) (rest := []) ⟨hx, hb, hml, hown, hts⟩ (r_X8_next l dC dI L kd tys f0 s.heap.size g.2.2.2.1 q0_ mq0_ kq0_) (cwV 0 hts (gV_ t_1131 t_1103 t_1104 t_184 t_1105) rfl rfl rfl (by decide +kernel) ⟨(Nat.le_of_ble_eq_true rfl), (Nat.le_of_ble_eq_true rfl)⟩) (pre3V g hK mq0_ kq0_ (by decide) (q := (RX8, TX8, 10)) rfl) rfl rfl hl.1 rfl (lv_room (Nat.le_of_ble_eq_true rfl)) dX2_readLet_4 ⟨(Nat.le_of_ble_eq_true rfl), (Nat.le_of_ble_eq_true rfl)⟩) g hK (by decide) (by decide) (fx' := [(2, 0, a0_, .ref q0_), (2, 1, a0_, .ref q1_), (2, 2, a0_, .ref q2_), (2, 3, a0_, .ref q3_), (0, 0, q2_, .ref q0_), (0, 1, q2_, .ref q1_), (5, 0, q1_, .ref q6_), (5, 1, q1_, .ref q7_), (8, 8, q0_, .int y0_)]) rfl (fun fr_1 H locs hp hMr_1 g => ?_)
  obtain ⟨x_2, h_3, hF_4⟩ := hp
  have hG_5 := eOK.frame hMr_1 go_.2.2.2.1 mq2_ kq2_ (by decide) (by decide) hGeq2_
  have g := g.more hF_4
  refine lv_aload_n hx hb dX2_readLet_7 rfl (lv_at hl 0 rfl) ?_
  refine g_getk (C := RX2) (T := TX2) (N := 16) hx hb hts (mc_ inX2) hown hK g rfl 0 (by decide) rfl (hts _ (List.mem_cons_of_mem _ t_416)) (fun _ h9 => h9) 1 rfl dX2_readLet_8 ?_
  have go_ := g
  refine g_calli (va_runV (As := []) (rest := []) ⟨hx, hb, hml, hown, hts⟩ (r_X8_place l dC dI L kd tys fr_1 H.size g.2.2.2.1 q0_ mq0_ kq0_) (cwV 0 hts (gV_ t_1110 t_1111 t_1112 t_184 t_1113) rfl rfl rfl (by decide +kernel) ⟨(Nat.le_of_ble_eq_true rfl), (Nat.le_of_ble_eq_true rfl)⟩) (pre3V g hK mq0_ kq0_ (by decide) (q := (RX8, TX8, 10)) rfl) rfl rfl hl.1 rfl (lv_room (Nat.le_of_ble_eq_true rfl)) dX2_readLet_11 ⟨(Nat.le_of_ble_eq_true rfl), (Nat.le_of_ble_eq_true rfl)⟩) g hK (by decide) (by decide) (fx' := [(8, 6, q0_, .int x_2), (2, 0, a0_, .ref q0_), (2, 1, a0_, .ref q1_), (2, 2, a0_, .ref q2_), (2, 3, a0_, .ref q3_), (0, 0, q2_, .ref q0_), (0, 1, q2_, .ref q1_), (5, 0, q1_, .ref q6_), (5, 1, q1_, .ref q7_), (8, 8, q0_, .int y0_)]) rfl (fun r_6 fr_6 H locs hp hMr_6 g => ?_)
  have hG_7 := eOK.frame hMr_6 go_.2.2.2.1 mq2_ kq2_ (by decide) (by decide) hG_5
  refine lv_istore_n (lv' := [(1, .int r_6), (0, .ref a0_)]) hx hb dX2_readLet_14 rfl hl (by decide) rfl (fun ls hl => ?_)
  refine lv_aload_n hx hb dX2_readLet_15 rfl (lv_at hl 1 rfl) ?_
  refine g_getk (C := RX2) (T := TX2) (N := 16) hx hb hts (mc_ inX2) hown hK g rfl 0 (by decide) rfl (hts _ (List.mem_cons_of_mem _ t_416)) (fun _ h9 => h9) 1 rfl dX2_readLet_16 ?_
  have go_ := g
  refine g_calll (va_runV (As := []) (rest := []) ⟨hx, hb, hml, hown, hts⟩ (r_X8_value l dC dI L kd tys fr_6 H.size g.2.2.2.1 q0_ mq0_ kq0_) (cwV 0 hts (gV_ t_1114 t_1115 t_1116 t_184 t_1117) rfl rfl rfl (by decide +kernel) ⟨(Nat.le_of_ble_eq_true rfl), (Nat.le_of_ble_eq_true rfl)⟩) (pre3V g hK mq0_ kq0_ (by decide) (q := (RX8, TX8, 10)) rfl) rfl rfl hl.1 rfl (lv_room (Nat.le_of_ble_eq_true rfl)) dX2_readLet_19 ⟨(Nat.le_of_ble_eq_true rfl), (Nat.le_of_ble_eq_true rfl)⟩) g hK (by decide) (by decide) (fx' := [(8, 6, q0_, .int x_2), (2, 0, a0_, .ref q0_), (2, 1, a0_, .ref q1_), (2, 2, a0_, .ref q2_), (2, 3, a0_, .ref q3_), (0, 0, q2_, .ref q0_), (0, 1, q2_, .ref q1_), (5, 0, q1_, .ref q6_), (5, 1, q1_, .ref q7_), (8, 8, q0_, .int y0_)]) rfl (fun r_8 fr_8 H locs hp hMr_8 g => ?_)
  have hG_9 := eOK.frame hMr_8 go_.2.2.2.1 mq2_ kq2_ (by decide) (by decide) hG_7
  refine lv_lstore_n (lv' := [(2, .long r_8), (1, .int r_6), (0, .ref a0_)]) hx hb dX2_readLet_22 rfl hl (by decide) rfl (fun ls hl => ?_)
  refine lv_aload_n hx hb dX2_readLet_23 rfl (lv_at hl 2 rfl) ?_
  refine g_getk (C := RX2) (T := TX2) (N := 16) hx hb hts (mc_ inX2) hown hK g rfl 1 (by decide) rfl (hts _ (List.mem_cons_of_mem _ t_417)) (fun _ h9 => h9) 2 rfl dX2_readLet_24 ?_
  refine g_geti (C := RX5) (T := TX5) (N := 9) hx hb hts (mc_ inX5) hown hK g mq1_ kq1_ (by decide) rfl 6 (by decide) rfl (hts _ (List.mem_cons_of_mem _ t_341)) (fun _ h9 => h9) rfl dX2_readLet_27 (fun x_10 bx_10 g => ?_)
  refine lv_istore (lv' := [(4, .int x_10), (2, .long r_8), (1, .int r_6), (0, .ref a0_)]) hx hb dX2_readLet_30 hl (by decide) rfl (fun ls hl => ?_)
  refine lv_aload_n hx hb dX2_readLet_32 rfl (lv_at hl 3 rfl) ?_
  refine g_getk (C := RX2) (T := TX2) (N := 16) hx hb hts (mc_ inX2) hown hK g rfl 0 (by decide) rfl (hts _ (List.mem_cons_of_mem _ t_416)) (fun _ h9 => h9) 2 rfl dX2_readLet_33 ?_
  have go_ := g
  refine g_calli (va_runV (As := []) (rest := []) ⟨hx, hb, hml, hown, hts⟩ (r_X8_kind l dC dI L kd tys fr_8 H.size g.2.2.2.1 q0_ mq0_ kq0_) (cwV 0 hts (gV_ t_1118 t_1119 t_1120 t_184 t_1121) rfl rfl rfl (by decide +kernel) ⟨(Nat.le_of_ble_eq_true rfl), (Nat.le_of_ble_eq_true rfl)⟩) (pre3V g hK mq0_ kq0_ (by decide) (q := (RX8, TX8, 10)) rfl) rfl rfl hl.1 rfl (lv_room (Nat.le_of_ble_eq_true rfl)) dX2_readLet_36 ⟨(Nat.le_of_ble_eq_true rfl), (Nat.le_of_ble_eq_true rfl)⟩) g hK (by decide) (by decide) (fx' := [(5, 6, q1_, .int x_10), (8, 6, q0_, .int x_2), (2, 0, a0_, .ref q0_), (2, 1, a0_, .ref q1_), (2, 2, a0_, .ref q2_), (2, 3, a0_, .ref q3_), (0, 0, q2_, .ref q0_), (0, 1, q2_, .ref q1_), (5, 0, q1_, .ref q6_), (5, 1, q1_, .ref q7_), (8, 8, q0_, .int y0_)]) rfl (fun r_11 fr_11 H locs hp hMr_11 g => ?_)
  have hG_12 := eOK.frame hMr_11 go_.2.2.2.1 mq2_ kq2_ (by decide) (by decide) hG_9
  refine lv_iconst (v := 3) hx hb dX2_readLet_39 (by decide) ?_
  have kb_3 : bd 3 3 (3 : Int32) := ⟨by decide, by decide⟩
  refine lv_icmp_eq (tgt := 55) hx hb dX2_readLet_40 (by decide) (fun c_13 => ?_) (fun c_13 => ?_)
  · have fc_13 := eq_f c_13
    have b_14 : bd 3 3 r_11 := eqX fc_13 (bdT r_11) kb_3 (by decide)
    refine lv_aload_n hx hb dX2_readLet_55 rfl (lv_at hl 3 rfl) ?_
    refine g_getk (C := RX2) (T := TX2) (N := 16) hx hb hts (mc_ inX2) hown hK g rfl 1 (by decide) rfl (hts _ (List.mem_cons_of_mem _ t_417)) (fun _ h9 => h9) 3 rfl dX2_readLet_56 ?_
    refine lv_lload_n hx hb dX2_readLet_59 rfl (lv_at hl 1 rfl) ?_
    have go_ := g
    refine g_calli (va_runV (As := [.long r_8]) (rest := []) ⟨hx, hb, hml, hown, hts⟩ (r_X5_placeNamed l dC dI L kd tys fr_11 H.size g.2.2.2.1 q1_ mq1_ kq1_ r_8 q7_ mq7_ kq7_ (g.fcts [9] rfl)) (cwV 1 hts (gV_ t_1317 t_1252 t_1253 t_189 t_1254) rfl rfl rfl (by decide +kernel) ⟨(Nat.le_of_ble_eq_true rfl), (Nat.le_of_ble_eq_true rfl)⟩) (pre3V g hK mq1_ kq1_ (by decide) (q := (RX5, TX5, 9)) rfl) rfl rfl hl.1 rfl (lv_room (Nat.le_of_ble_eq_true rfl)) dX2_readLet_60 ⟨(Nat.le_of_ble_eq_true rfl), (Nat.le_of_ble_eq_true rfl)⟩) g hK (by decide) (by decide) (fx' := [(5, 6, q1_, .int x_10), (8, 6, q0_, .int x_2), (2, 0, a0_, .ref q0_), (2, 1, a0_, .ref q1_), (2, 2, a0_, .ref q2_), (2, 3, a0_, .ref q3_), (0, 0, q2_, .ref q0_), (0, 1, q2_, .ref q1_), (5, 0, q1_, .ref q6_), (5, 1, q1_, .ref q7_), (8, 8, q0_, .int y0_)]) rfl (fun r_15 fr_15 H locs hp hMr_15 g => ?_)
    obtain ⟨h_16, -⟩ := hp
    have hG_17 := eOK.frame hMr_15 go_.2.2.2.1 mq2_ kq2_ (by decide) (by decide) hG_12
    refine lv_iconst (v := (-1)) hx hb dX2_readLet_63 (by decide) ?_
    have kb_m1 : bd (-1) (-1) ((-1) : Int32) := ⟨by decide, by decide⟩
    refine lv_icmp_eq (tgt := 79) hx hb dX2_readLet_64 (by decide) (fun c_18 => ?_) (fun c_18 => ?_)
    · have fc_18 := eq_f c_18
      have b_19 : bd (-1) (-1) r_15 := eqX fc_18 h_16 kb_m1 (by decide)
      refine lv_iload hx hb dX2_readLet_79 (lv_at hl 0 rfl) ?_
      refine lv_bipush (v := 8) hx hb dX2_readLet_81 (by decide) ?_
      have kb_8 : bd 8 8 (8 : Int32) := ⟨by decide, by decide⟩
      refine lv_icmp_lt (tgt := 98) hx hb dX2_readLet_83 (by decide) (fun c_20 => ?_) (fun c_20 => ?_)
      · have fc_20 := lt_f c_20
        have b_21 : bd 0 7 x_10 := ltL fc_20 bx_10 kb_8 (by decide)
        refine lv_aload_n hx hb dX2_readLet_98 rfl (lv_at hl 3 rfl) ?_
        refine g_getk (C := RX2) (T := TX2) (N := 16) hx hb hts (mc_ inX2) hown hK g rfl 1 (by decide) rfl (hts _ (List.mem_cons_of_mem _ t_417)) (fun _ h9 => h9) 3 rfl dX2_readLet_99 ?_
        refine g_getr (K := 133) (C := RX5) (T := TX5) (N := 9) hx hb hts (mc_ inX5) hown hK g mq1_ kq1_ (by decide) rfl 5 (by decide) rfl (hts _ (List.mem_cons_of_mem _ t_339)) (fun _ h9 => h9) rfl dX2_readLet_102 (fun a_22 ma_22 ka_22 g => ?_)
        refine lv_iload hx hb dX2_readLet_105 (lv_at hl 0 rfl) ?_
        refine lv_lload_n hx hb dX2_readLet_107 rfl (lv_at hl 1 rfl) ?_
        have go_ := g
        refine g_last hx hb hK g ma_22 ka_22 (by decide) rfl (in_bd b_21 (by decide)) (by decide) dX2_readLet_108 (fun f H locs hM_23 g => ?_)
        have hG_24 := eOK.frame hM_23 go_.2.2.2.1 mq2_ kq2_ (by decide) (by decide) hG_17
        refine lv_aload_n hx hb dX2_readLet_109 rfl (lv_at hl 3 rfl) ?_
        refine g_getk (C := RX2) (T := TX2) (N := 16) hx hb hts (mc_ inX2) hown hK g rfl 1 (by decide) rfl (hts _ (List.mem_cons_of_mem _ t_417)) (fun _ h9 => h9) 4 rfl dX2_readLet_110 ?_
        refine lv_iload hx hb dX2_readLet_113 (lv_at hl 0 rfl) ?_
        refine lv_iconst (v := 1) hx hb dX2_readLet_115 (by decide) ?_
        have kb_1 : bd 1 1 (1 : Int32) := ⟨by decide, by decide⟩
        refine lv_iadd hx hb dX2_readLet_116 ?_
        refine lv_topi (fun y_25 ey_25 => ?_)
        have ty_25 := add_bd ey_25 b_21 kb_1 (by decide)
        have b_26 : bd 1 8 y_25 := add_rg ty_25 b_21 kb_1 (by decide)
        have go_ := g
        refine g_put (C := RX5) (T := TX5) (N := 9) hx hb hts (mc_ inX5) tyX5 tyX5_ok nmX5 hown hK g mq1_ kq1_ (by decide) rfl 6 (by decide) (hts _ (List.mem_cons_of_mem _ t_341)) (fun _ h9 => h9) rfl rfl (okV_i (bd_sub b_26 (by decide))) rfl rfl (by decide) (Or.inr (Or.inl (by decide))) (fx' := [(5, 5, q1_, .ref a_22), (8, 6, q0_, .int x_2), (2, 0, a0_, .ref q0_), (2, 1, a0_, .ref q1_), (2, 2, a0_, .ref q2_), (2, 3, a0_, .ref q3_), (0, 0, q2_, .ref q0_), (0, 1, q2_, .ref q1_), (5, 0, q1_, .ref q6_), (5, 1, q1_, .ref q7_), (8, 8, q0_, .int y0_)]) rfl dX2_readLet_117 (fun f H locs hM_27 g => ?_)
        have hG_28 := eOK.frame hM_27 go_.2.2.2.1 mq2_ kq2_ (by decide) (by decide) hG_24
        refine lv_aload_n hx hb dX2_readLet_120 rfl (lv_at hl 3 rfl) ?_
        refine g_getk (C := RX2) (T := TX2) (N := 16) hx hb hts (mc_ inX2) hown hK g rfl 0 (by decide) rfl (hts _ (List.mem_cons_of_mem _ t_416)) (fun _ h9 => h9) 3 rfl dX2_readLet_121 ?_
        have go_ := g
        refine g_callv (va_runV (As := []) (rest := []) ⟨hx, hb, hml, hown, hts⟩ (r_X8_next l dC dI L kd tys f H.size g.2.2.2.1 q0_ mq0_ kq0_) (cwV 0 hts (gV_ t_1131 t_1103 t_1104 t_184 t_1105) rfl rfl rfl (by decide +kernel) ⟨(Nat.le_of_ble_eq_true rfl), (Nat.le_of_ble_eq_true rfl)⟩) (pre3V g hK mq0_ kq0_ (by decide) (q := (RX8, TX8, 10)) rfl) rfl rfl hl.1 rfl (lv_room (Nat.le_of_ble_eq_true rfl)) dX2_readLet_124 ⟨(Nat.le_of_ble_eq_true rfl), (Nat.le_of_ble_eq_true rfl)⟩) g hK (by decide) (by decide) (fx' := [(5, 6, q1_, .int y_25), (5, 5, q1_, .ref a_22), (2, 0, a0_, .ref q0_), (2, 1, a0_, .ref q1_), (2, 2, a0_, .ref q2_), (2, 3, a0_, .ref q3_), (0, 0, q2_, .ref q0_), (0, 1, q2_, .ref q1_), (5, 0, q1_, .ref q6_), (5, 1, q1_, .ref q7_), (8, 8, q0_, .int y0_)]) rfl (fun fr_29 H locs hp hMr_29 g => ?_)
        obtain ⟨x_30, h_31, hF_32⟩ := hp
        have hG_33 := eOK.frame hMr_29 go_.2.2.2.1 mq2_ kq2_ (by decide) (by decide) hG_28
        have g := g.more hF_32
        refine lv_aload_n hx hb dX2_readLet_127 rfl (lv_at hl 3 rfl) ?_
        refine g_getk (C := RX2) (T := TX2) (N := 16) hx hb hts (mc_ inX2) hown hK g rfl 0 (by decide) rfl (hts _ (List.mem_cons_of_mem _ t_416)) (fun _ h9 => h9) 3 rfl dX2_readLet_128 ?_
        refine lv_bipush (v := 61) hx hb dX2_readLet_131 (by decide) ?_
        have go_ := g
        refine g_callv (va_runV (As := [.int 61]) (rest := []) ⟨hx, hb, hml, hown, hts⟩ (r_X8_take l dC dI L kd tys fr_29 H.size g.2.2.2.1 q0_ mq0_ kq0_ 61 y0_ by0_ (g.fcts [11] rfl)) (cwV 1 hts (gV_ t_1098 t_1099 t_1100 t_184 t_1101) rfl rfl rfl (by decide +kernel) ⟨(Nat.le_of_ble_eq_true rfl), (Nat.le_of_ble_eq_true rfl)⟩) (pre3V g hK mq0_ kq0_ (by decide) (q := (RX8, TX8, 10)) rfl) rfl rfl hl.1 rfl (lv_room (Nat.le_of_ble_eq_true rfl)) dX2_readLet_133 ⟨(Nat.le_of_ble_eq_true rfl), (Nat.le_of_ble_eq_true rfl)⟩) g hK (by decide) (by decide) (fx' := [(5, 6, q1_, .int y_25), (5, 5, q1_, .ref a_22), (2, 0, a0_, .ref q0_), (2, 1, a0_, .ref q1_), (2, 2, a0_, .ref q2_), (2, 3, a0_, .ref q3_), (0, 0, q2_, .ref q0_), (0, 1, q2_, .ref q1_), (5, 0, q1_, .ref q6_), (5, 1, q1_, .ref q7_)]) rfl (fun fr_34 H locs hp hMr_34 g => ?_)
        rcases hp with ⟨x_35, h_36, hF_37⟩ | ⟨x_38, h_39, hF_40⟩
        · have hG_41 := eOK.frame hMr_34 go_.2.2.2.1 mq2_ kq2_ (by decide) (by decide) hG_33
          have g := g.more hF_37
          refine lv_aload_n hx hb dX2_readLet_136 rfl (lv_at hl 3 rfl) ?_
          refine g_getk (C := RX2) (T := TX2) (N := 16) hx hb hts (mc_ inX2) hown hK g rfl 3 (by decide) rfl (hts _ (List.mem_cons_of_mem _ t_419)) (fun _ h9 => h9) 7 rfl dX2_readLet_137 ?_
          refine lv_bipush (v := 14) hx hb dX2_readLet_140 (by decide) ?_
          refine lv_iconst (v := 3) hx hb dX2_readLet_142 (by decide) ?_
          refine lv_iload hx hb dX2_readLet_143 (lv_at hl 0 rfl) ?_
          refine lv_iadd hx hb dX2_readLet_145 ?_
          refine lv_topi (fun y_42 ey_42 => ?_)
          have ty_42 := add_bd ey_42 kb_3 b_21 (by decide)
          have b_43 : bd 3 10 y_42 := add_rg ty_42 kb_3 b_21 (by decide)
          have go_ := g
          refine g_callv (va_runV (As := [.int 14, .int y_42]) (rest := []) ⟨hx, hb, hml, hown, hts⟩ (r_X7_emit l dC dI L kd tys fr_34 H.size g.2.2.2.1 q3_ mq3_ kq3_ 14 y_42) (cwV 2 hts (gV_ t_1301 t_1204 t_1205 t_191 t_1206) rfl rfl rfl (by decide +kernel) ⟨(Nat.le_of_ble_eq_true rfl), (Nat.le_of_ble_eq_true rfl)⟩) (pre3V g hK mq3_ kq3_ (by decide) (q := (RX7, TX7, 19)) rfl) rfl rfl hl.1 rfl (lv_room (Nat.le_of_ble_eq_true rfl)) dX2_readLet_146 ⟨(Nat.le_of_ble_eq_true rfl), (Nat.le_of_ble_eq_true rfl)⟩) g hK (by decide) (by decide) (fx' := [(8, 6, q0_, .int x_35), (8, 8, q0_, .int y0_), (5, 6, q1_, .int y_25), (5, 5, q1_, .ref a_22), (2, 0, a0_, .ref q0_), (2, 1, a0_, .ref q1_), (2, 2, a0_, .ref q2_), (2, 3, a0_, .ref q3_), (0, 0, q2_, .ref q0_), (0, 1, q2_, .ref q1_), (5, 0, q1_, .ref q6_), (5, 1, q1_, .ref q7_)]) rfl (fun fr_44 H locs hp hMr_44 g => ?_)
          obtain ⟨x_45, h_46, hF_47⟩ := hp
          have hG_48 := eOK.frame hMr_44 go_.2.2.2.1 mq2_ kq2_ (by decide) (by decide) hG_41
          have g := g.more hF_47
          refine lv_aload_n hx hb dX2_readLet_149 rfl (lv_at hl 3 rfl) ?_
          refine g_getk (C := RX2) (T := TX2) (N := 16) hx hb hts (mc_ inX2) hown hK g rfl 2 (by decide) rfl (hts _ (List.mem_cons_of_mem _ t_418)) (fun _ h9 => h9) 7 rfl dX2_readLet_150 ?_
          have go_ := g
          refine g_callv (va_runV (As := []) (rest := []) ⟨hx, hb, hml, hown, hts⟩ (r_X0_read l dC dI L kd tys fr_44 H.size g.2.2.2.1 q2_ mq2_ kq2_ q0_ mq0_ kq0_ q1_ mq1_ kq1_ q6_ mq6_ kq6_ q7_ mq7_ kq7_ y0_ by0_ hG_48 (g.fcts [9, 10, 11, 12, 2] rfl)) (cwV 0 hts (gV_ t_1182 t_1183 t_1184 t_190 t_1185) rfl rfl rfl (by decide +kernel) ⟨(Nat.le_of_ble_eq_true rfl), (Nat.le_of_ble_eq_true rfl)⟩) (pre3V g hK mq2_ kq2_ (by decide) (q := (RX0, TX0, 14)) rfl) rfl rfl hl.1 rfl (lv_room (Nat.le_of_ble_eq_true rfl)) dX2_readLet_153 ⟨(Nat.le_of_ble_eq_true rfl), (Nat.le_of_ble_eq_true rfl)⟩) g hK (by decide) (by decide) (fx' := [(5, 6, q1_, .int y_25), (5, 5, q1_, .ref a_22), (2, 0, a0_, .ref q0_), (2, 1, a0_, .ref q1_), (2, 2, a0_, .ref q2_), (2, 3, a0_, .ref q3_), (0, 0, q2_, .ref q0_), (0, 1, q2_, .ref q1_), (5, 0, q1_, .ref q6_), (5, 1, q1_, .ref q7_)]) rfl (fun fr_49 H locs hp hMr_49 g => ?_)
          rcases hp with ⟨hG_50, hF_51⟩ | ⟨hG_52, x_53, h_54, x_55, h_56, hF_57⟩
          · have g := g.more hF_51
            refine lv_aload_n hx hb dX2_readLet_156 rfl (lv_at hl 3 rfl) ?_
            refine g_getk (C := RX2) (T := TX2) (N := 16) hx hb hts (mc_ inX2) hown hK g rfl 3 (by decide) rfl (hts _ (List.mem_cons_of_mem _ t_419)) (fun _ h9 => h9) 7 rfl dX2_readLet_157 ?_
            refine lv_bipush (v := 20) hx hb dX2_readLet_160 (by decide) ?_
            refine lv_iconst (v := 3) hx hb dX2_readLet_162 (by decide) ?_
            refine lv_iload hx hb dX2_readLet_163 (lv_at hl 0 rfl) ?_
            refine lv_iadd hx hb dX2_readLet_165 ?_
            refine lv_topi (fun y_58 ey_58 => ?_)
            obtain rfl : y_42 = y_58 := ey_42.trans ey_58.symm
            have go_ := g
            refine g_callv (va_runV (As := [.int 20, .int y_42]) (rest := []) ⟨hx, hb, hml, hown, hts⟩ (r_X7_emit l dC dI L kd tys fr_49 H.size g.2.2.2.1 q3_ mq3_ kq3_ 20 y_42) (cwV 2 hts (gV_ t_1301 t_1204 t_1205 t_191 t_1206) rfl rfl rfl (by decide +kernel) ⟨(Nat.le_of_ble_eq_true rfl), (Nat.le_of_ble_eq_true rfl)⟩) (pre3V g hK mq3_ kq3_ (by decide) (q := (RX7, TX7, 19)) rfl) rfl rfl hl.1 rfl (lv_room (Nat.le_of_ble_eq_true rfl)) dX2_readLet_166 ⟨(Nat.le_of_ble_eq_true rfl), (Nat.le_of_ble_eq_true rfl)⟩) g hK (by decide) (by decide) (fx' := [(0, 2, q2_, .ref q6_), (8, 8, q0_, .int y0_), (5, 6, q1_, .int y_25), (5, 5, q1_, .ref a_22), (2, 0, a0_, .ref q0_), (2, 1, a0_, .ref q1_), (2, 2, a0_, .ref q2_), (2, 3, a0_, .ref q3_), (0, 0, q2_, .ref q0_), (0, 1, q2_, .ref q1_), (5, 0, q1_, .ref q6_), (5, 1, q1_, .ref q7_)]) rfl (fun fr_59 H locs hp hMr_59 g => ?_)
            obtain ⟨x_60, h_61, hF_62⟩ := hp
            have hG_63 := eOK.frame hMr_59 go_.2.2.2.1 mq2_ kq2_ (by decide) (by decide) hG_50
            have g := g.more hF_62
            refine lv_aload_n hx hb dX2_readLet_169 rfl (lv_at hl 3 rfl) ?_
            refine g_getk (C := RX2) (T := TX2) (N := 16) hx hb hts (mc_ inX2) hown hK g rfl 0 (by decide) rfl (hts _ (List.mem_cons_of_mem _ t_416)) (fun _ h9 => h9) 5 rfl dX2_readLet_170 ?_
            refine lv_bipush (v := 59) hx hb dX2_readLet_173 (by decide) ?_
            have go_ := g
            refine g_callv (va_runV (As := [.int 59]) (rest := []) ⟨hx, hb, hml, hown, hts⟩ (r_X8_take l dC dI L kd tys fr_59 H.size g.2.2.2.1 q0_ mq0_ kq0_ 59 y0_ by0_ (g.fcts [2] rfl)) (cwV 1 hts (gV_ t_1098 t_1099 t_1100 t_184 t_1101) rfl rfl rfl (by decide +kernel) ⟨(Nat.le_of_ble_eq_true rfl), (Nat.le_of_ble_eq_true rfl)⟩) (pre3V g hK mq0_ kq0_ (by decide) (q := (RX8, TX8, 10)) rfl) rfl rfl hl.1 rfl (lv_room (Nat.le_of_ble_eq_true rfl)) dX2_readLet_175 ⟨(Nat.le_of_ble_eq_true rfl), (Nat.le_of_ble_eq_true rfl)⟩) g hK (by decide) (by decide) (fx' := [(7, 6, q3_, .int x_60), (0, 2, q2_, .ref q6_), (5, 6, q1_, .int y_25), (5, 5, q1_, .ref a_22), (2, 0, a0_, .ref q0_), (2, 1, a0_, .ref q1_), (2, 2, a0_, .ref q2_), (2, 3, a0_, .ref q3_), (0, 0, q2_, .ref q0_), (0, 1, q2_, .ref q1_), (5, 0, q1_, .ref q6_), (5, 1, q1_, .ref q7_)]) rfl (fun fr_64 H locs hp hMr_64 g => ?_)
            rcases hp with ⟨x_65, h_66, hF_67⟩ | ⟨x_68, h_69, hF_70⟩
            · have hG_71 := eOK.frame hMr_64 go_.2.2.2.1 mq2_ kq2_ (by decide) (by decide) hG_63
              have g := g.more hF_67
              subst hQ
              exact W.vret hx hb hr (fun t ht hW => ⟨⟨_, rfl, Or.inl ⟨hG_71, x_65, h_66, x_60, h_61, y_25, b_26, (g.fcts [0, 1, 2, 3, 4] rfl)⟩, q3_of g hK ht hW⟩, g.2.2.1.F ht⟩) g.2.2.1.2.2 dX2_readLet_178
            · have hG_72 := eOK.frame hMr_64 go_.2.2.2.1 mq2_ kq2_ (by decide) (by decide) hG_63
              have g := g.more hF_70
              have kb_1201 : bd 1201 1201 (1201 : Int32) := ⟨by decide, by decide⟩
              subst hQ
              exact W.vret hx hb hr (fun t ht hW => ⟨⟨_, rfl, Or.inr (⟨hG_72, 1201, kb_1201, x_68, h_69, x_60, h_61, (g.fcts [0, 1, 2, 3] rfl)⟩), q3_of g hK ht hW⟩, g.2.2.1.F ht⟩) g.2.2.1.2.2 dX2_readLet_178
          · have g := g.more hF_57
            refine lv_aload_n hx hb dX2_readLet_156 rfl (lv_at hl 3 rfl) ?_
            refine g_getk (C := RX2) (T := TX2) (N := 16) hx hb hts (mc_ inX2) hown hK g rfl 3 (by decide) rfl (hts _ (List.mem_cons_of_mem _ t_419)) (fun _ h9 => h9) 8 rfl dX2_readLet_157 ?_
            refine lv_bipush (v := 20) hx hb dX2_readLet_160 (by decide) ?_
            refine lv_iconst (v := 3) hx hb dX2_readLet_162 (by decide) ?_
            refine lv_iload hx hb dX2_readLet_163 (lv_at hl 0 rfl) ?_
            refine lv_iadd hx hb dX2_readLet_165 ?_
            refine lv_topi (fun y_73 ey_73 => ?_)
            obtain rfl : y_42 = y_73 := ey_42.trans ey_73.symm
            have go_ := g
            refine g_callv (va_runV (As := [.int 20, .int y_42]) (rest := []) ⟨hx, hb, hml, hown, hts⟩ (r_X7_emit l dC dI L kd tys fr_49 H.size g.2.2.2.1 q3_ mq3_ kq3_ 20 y_42) (cwV 2 hts (gV_ t_1301 t_1204 t_1205 t_191 t_1206) rfl rfl rfl (by decide +kernel) ⟨(Nat.le_of_ble_eq_true rfl), (Nat.le_of_ble_eq_true rfl)⟩) (pre3V g hK mq3_ kq3_ (by decide) (q := (RX7, TX7, 19)) rfl) rfl rfl hl.1 rfl (lv_room (Nat.le_of_ble_eq_true rfl)) dX2_readLet_166 ⟨(Nat.le_of_ble_eq_true rfl), (Nat.le_of_ble_eq_true rfl)⟩) g hK (by decide) (by decide) (fx' := [(8, 6, q0_, .int x_53), (8, 8, q0_, .int x_55), (0, 2, q2_, .ref q6_), (5, 6, q1_, .int y_25), (5, 5, q1_, .ref a_22), (2, 0, a0_, .ref q0_), (2, 1, a0_, .ref q1_), (2, 2, a0_, .ref q2_), (2, 3, a0_, .ref q3_), (0, 0, q2_, .ref q0_), (0, 1, q2_, .ref q1_), (5, 0, q1_, .ref q6_), (5, 1, q1_, .ref q7_)]) rfl (fun fr_74 H locs hp hMr_74 g => ?_)
            obtain ⟨x_75, h_76, hF_77⟩ := hp
            have hG_78 := eOK.frame hMr_74 go_.2.2.2.1 mq2_ kq2_ (by decide) (by decide) hG_52
            have g := g.more hF_77
            refine lv_aload_n hx hb dX2_readLet_169 rfl (lv_at hl 3 rfl) ?_
            refine g_getk (C := RX2) (T := TX2) (N := 16) hx hb hts (mc_ inX2) hown hK g rfl 0 (by decide) rfl (hts _ (List.mem_cons_of_mem _ t_416)) (fun _ h9 => h9) 6 rfl dX2_readLet_170 ?_
            refine lv_bipush (v := 59) hx hb dX2_readLet_173 (by decide) ?_
            have go_ := g
            refine g_callv (va_runV (As := [.int 59]) (rest := []) ⟨hx, hb, hml, hown, hts⟩ (r_X8_take_2 l dC dI L kd tys fr_74 H.size g.2.2.2.1 q0_ mq0_ kq0_ 59 x_53 h_54 x_55 h_56 (g.fcts [1, 2] rfl)) (cwV 1 hts (gV_ t_1098 t_1099 t_1100 t_184 t_1101) rfl rfl rfl (by decide +kernel) ⟨(Nat.le_of_ble_eq_true rfl), (Nat.le_of_ble_eq_true rfl)⟩) (pre3V g hK mq0_ kq0_ (by decide) (q := (RX8, TX8, 10)) rfl) rfl rfl hl.1 rfl (lv_room (Nat.le_of_ble_eq_true rfl)) dX2_readLet_175 ⟨(Nat.le_of_ble_eq_true rfl), (Nat.le_of_ble_eq_true rfl)⟩) g hK (by decide) (by decide) (fx' := [(7, 6, q3_, .int x_75), (8, 8, q0_, .int x_55), (0, 2, q2_, .ref q6_), (5, 6, q1_, .int y_25), (5, 5, q1_, .ref a_22), (2, 0, a0_, .ref q0_), (2, 1, a0_, .ref q1_), (2, 2, a0_, .ref q2_), (2, 3, a0_, .ref q3_), (0, 0, q2_, .ref q0_), (0, 1, q2_, .ref q1_), (5, 0, q1_, .ref q6_), (5, 1, q1_, .ref q7_)]) rfl (fun fr_79 H locs hp hMr_79 g => ?_)
            obtain ⟨x_80, h_81, hF_82⟩ := hp
            have hG_83 := eOK.frame hMr_79 go_.2.2.2.1 mq2_ kq2_ (by decide) (by decide) hG_78
            have g := g.more hF_82
            subst hQ
            exact W.vret hx hb hr (fun t ht hW => ⟨⟨_, rfl, Or.inr (⟨hG_83, x_80, h_81, x_55, h_56, x_75, h_76, (g.fcts [0, 2, 1, 3] rfl)⟩), q3_of g hK ht hW⟩, g.2.2.1.F ht⟩) g.2.2.1.2.2 dX2_readLet_178
        · have hG_84 := eOK.frame hMr_34 go_.2.2.2.1 mq2_ kq2_ (by decide) (by decide) hG_33
          have g := g.more hF_40
          refine lv_aload_n hx hb dX2_readLet_136 rfl (lv_at hl 3 rfl) ?_
          refine g_getk (C := RX2) (T := TX2) (N := 16) hx hb hts (mc_ inX2) hown hK g rfl 3 (by decide) rfl (hts _ (List.mem_cons_of_mem _ t_419)) (fun _ h9 => h9) 7 rfl dX2_readLet_137 ?_
          refine lv_bipush (v := 14) hx hb dX2_readLet_140 (by decide) ?_
          refine lv_iconst (v := 3) hx hb dX2_readLet_142 (by decide) ?_
          refine lv_iload hx hb dX2_readLet_143 (lv_at hl 0 rfl) ?_
          refine lv_iadd hx hb dX2_readLet_145 ?_
          refine lv_topi (fun y_85 ey_85 => ?_)
          have ty_85 := add_bd ey_85 kb_3 b_21 (by decide)
          have b_86 : bd 3 10 y_85 := add_rg ty_85 kb_3 b_21 (by decide)
          have go_ := g
          refine g_callv (va_runV (As := [.int 14, .int y_85]) (rest := []) ⟨hx, hb, hml, hown, hts⟩ (r_X7_emit l dC dI L kd tys fr_34 H.size g.2.2.2.1 q3_ mq3_ kq3_ 14 y_85) (cwV 2 hts (gV_ t_1301 t_1204 t_1205 t_191 t_1206) rfl rfl rfl (by decide +kernel) ⟨(Nat.le_of_ble_eq_true rfl), (Nat.le_of_ble_eq_true rfl)⟩) (pre3V g hK mq3_ kq3_ (by decide) (q := (RX7, TX7, 19)) rfl) rfl rfl hl.1 rfl (lv_room (Nat.le_of_ble_eq_true rfl)) dX2_readLet_146 ⟨(Nat.le_of_ble_eq_true rfl), (Nat.le_of_ble_eq_true rfl)⟩) g hK (by decide) (by decide) (fx' := [(8, 6, q0_, .int 1201), (8, 8, q0_, .int x_38), (5, 6, q1_, .int y_25), (5, 5, q1_, .ref a_22), (2, 0, a0_, .ref q0_), (2, 1, a0_, .ref q1_), (2, 2, a0_, .ref q2_), (2, 3, a0_, .ref q3_), (0, 0, q2_, .ref q0_), (0, 1, q2_, .ref q1_), (5, 0, q1_, .ref q6_), (5, 1, q1_, .ref q7_)]) rfl (fun fr_87 H locs hp hMr_87 g => ?_)
          obtain ⟨x_88, h_89, hF_90⟩ := hp
          have hG_91 := eOK.frame hMr_87 go_.2.2.2.1 mq2_ kq2_ (by decide) (by decide) hG_84
          have g := g.more hF_90
          refine lv_aload_n hx hb dX2_readLet_149 rfl (lv_at hl 3 rfl) ?_
          refine g_getk (C := RX2) (T := TX2) (N := 16) hx hb hts (mc_ inX2) hown hK g rfl 2 (by decide) rfl (hts _ (List.mem_cons_of_mem _ t_418)) (fun _ h9 => h9) 7 rfl dX2_readLet_150 ?_
          have kb_1201 : bd 1201 1201 (1201 : Int32) := ⟨by decide, by decide⟩
          have go_ := g
          refine g_callv (va_runV (As := []) (rest := []) ⟨hx, hb, hml, hown, hts⟩ (r_X0_read_2 l dC dI L kd tys fr_87 H.size g.2.2.2.1 q2_ mq2_ kq2_ q0_ mq0_ kq0_ q1_ mq1_ kq1_ q6_ mq6_ kq6_ q7_ mq7_ kq7_ 1201 kb_1201 x_38 h_39 hG_91 (g.fcts [9, 10, 11, 12, 1, 2] rfl)) (cwV 0 hts (gV_ t_1182 t_1183 t_1184 t_190 t_1185) rfl rfl rfl (by decide +kernel) ⟨(Nat.le_of_ble_eq_true rfl), (Nat.le_of_ble_eq_true rfl)⟩) (pre3V g hK mq2_ kq2_ (by decide) (q := (RX0, TX0, 14)) rfl) rfl rfl hl.1 rfl (lv_room (Nat.le_of_ble_eq_true rfl)) dX2_readLet_153 ⟨(Nat.le_of_ble_eq_true rfl), (Nat.le_of_ble_eq_true rfl)⟩) g hK (by decide) (by decide) (fx' := [(7, 6, q3_, .int x_88), (8, 6, q0_, .int 1201), (8, 8, q0_, .int x_38), (5, 6, q1_, .int y_25), (5, 5, q1_, .ref a_22), (2, 0, a0_, .ref q0_), (2, 1, a0_, .ref q1_), (2, 2, a0_, .ref q2_), (2, 3, a0_, .ref q3_), (0, 0, q2_, .ref q0_), (0, 1, q2_, .ref q1_), (5, 0, q1_, .ref q6_), (5, 1, q1_, .ref q7_)]) rfl (fun fr_92 H locs hp hMr_92 g => ?_)
          have hF_93 := hp
          have hG_94 := eOK.frame hMr_92 go_.2.2.2.1 mq2_ kq2_ (by decide) (by decide) hG_91
          have g := g.more hF_93
          refine lv_aload_n hx hb dX2_readLet_156 rfl (lv_at hl 3 rfl) ?_
          refine g_getk (C := RX2) (T := TX2) (N := 16) hx hb hts (mc_ inX2) hown hK g rfl 3 (by decide) rfl (hts _ (List.mem_cons_of_mem _ t_419)) (fun _ h9 => h9) 14 rfl dX2_readLet_157 ?_
          refine lv_bipush (v := 20) hx hb dX2_readLet_160 (by decide) ?_
          refine lv_iconst (v := 3) hx hb dX2_readLet_162 (by decide) ?_
          refine lv_iload hx hb dX2_readLet_163 (lv_at hl 0 rfl) ?_
          refine lv_iadd hx hb dX2_readLet_165 ?_
          refine lv_topi (fun y_95 ey_95 => ?_)
          obtain rfl : y_85 = y_95 := ey_85.trans ey_95.symm
          have go_ := g
          refine g_callv (va_runV (As := [.int 20, .int y_85]) (rest := []) ⟨hx, hb, hml, hown, hts⟩ (r_X7_emit l dC dI L kd tys fr_92 H.size g.2.2.2.1 q3_ mq3_ kq3_ 20 y_85) (cwV 2 hts (gV_ t_1301 t_1204 t_1205 t_191 t_1206) rfl rfl rfl (by decide +kernel) ⟨(Nat.le_of_ble_eq_true rfl), (Nat.le_of_ble_eq_true rfl)⟩) (pre3V g hK mq3_ kq3_ (by decide) (q := (RX7, TX7, 19)) rfl) rfl rfl hl.1 rfl (lv_room (Nat.le_of_ble_eq_true rfl)) dX2_readLet_166 ⟨(Nat.le_of_ble_eq_true rfl), (Nat.le_of_ble_eq_true rfl)⟩) g hK (by decide) (by decide) (fx' := [(0, 13, q2_, .int 0), (0, 12, q2_, .int 1), (0, 11, q2_, .int 0), (0, 10, q2_, .int 0), (0, 8, q2_, .int 0), (0, 2, q2_, .ref q6_), (8, 6, q0_, .int 1201), (8, 8, q0_, .int x_38), (5, 6, q1_, .int y_25), (5, 5, q1_, .ref a_22), (2, 0, a0_, .ref q0_), (2, 1, a0_, .ref q1_), (2, 2, a0_, .ref q2_), (2, 3, a0_, .ref q3_), (0, 0, q2_, .ref q0_), (0, 1, q2_, .ref q1_), (5, 0, q1_, .ref q6_), (5, 1, q1_, .ref q7_)]) rfl (fun fr_96 H locs hp hMr_96 g => ?_)
          obtain ⟨x_97, h_98, hF_99⟩ := hp
          have hG_100 := eOK.frame hMr_96 go_.2.2.2.1 mq2_ kq2_ (by decide) (by decide) hG_94
          have g := g.more hF_99
          refine lv_aload_n hx hb dX2_readLet_169 rfl (lv_at hl 3 rfl) ?_
          refine g_getk (C := RX2) (T := TX2) (N := 16) hx hb hts (mc_ inX2) hown hK g rfl 0 (by decide) rfl (hts _ (List.mem_cons_of_mem _ t_416)) (fun _ h9 => h9) 11 rfl dX2_readLet_170 ?_
          refine lv_bipush (v := 59) hx hb dX2_readLet_173 (by decide) ?_
          have go_ := g
          refine g_callv (va_runV (As := [.int 59]) (rest := []) ⟨hx, hb, hml, hown, hts⟩ (r_X8_take_2 l dC dI L kd tys fr_96 H.size g.2.2.2.1 q0_ mq0_ kq0_ 59 1201 kb_1201 x_38 h_39 (g.fcts [7, 8] rfl)) (cwV 1 hts (gV_ t_1098 t_1099 t_1100 t_184 t_1101) rfl rfl rfl (by decide +kernel) ⟨(Nat.le_of_ble_eq_true rfl), (Nat.le_of_ble_eq_true rfl)⟩) (pre3V g hK mq0_ kq0_ (by decide) (q := (RX8, TX8, 10)) rfl) rfl rfl hl.1 rfl (lv_room (Nat.le_of_ble_eq_true rfl)) dX2_readLet_175 ⟨(Nat.le_of_ble_eq_true rfl), (Nat.le_of_ble_eq_true rfl)⟩) g hK (by decide) (by decide) (fx' := [(7, 6, q3_, .int x_97), (0, 13, q2_, .int 0), (0, 12, q2_, .int 1), (0, 11, q2_, .int 0), (0, 10, q2_, .int 0), (0, 8, q2_, .int 0), (0, 2, q2_, .ref q6_), (8, 8, q0_, .int x_38), (5, 6, q1_, .int y_25), (5, 5, q1_, .ref a_22), (2, 0, a0_, .ref q0_), (2, 1, a0_, .ref q1_), (2, 2, a0_, .ref q2_), (2, 3, a0_, .ref q3_), (0, 0, q2_, .ref q0_), (0, 1, q2_, .ref q1_), (5, 0, q1_, .ref q6_), (5, 1, q1_, .ref q7_)]) rfl (fun fr_101 H locs hp hMr_101 g => ?_)
          obtain ⟨x_102, h_103, hF_104⟩ := hp
          have hG_105 := eOK.frame hMr_101 go_.2.2.2.1 mq2_ kq2_ (by decide) (by decide) hG_100
          have g := g.more hF_104
          subst hQ
          exact W.vret hx hb hr (fun t ht hW => ⟨⟨_, rfl, Or.inr (⟨hG_105, x_102, h_103, x_38, h_39, x_97, h_98, (g.fcts [0, 8, 1, 7] rfl)⟩), q3_of g hK ht hW⟩, g.2.2.1.F ht⟩) g.2.2.1.2.2 dX2_readLet_178
      · have fc_20 := nlt_f c_20
        have b_106 : bd 8 8 x_10 := leR fc_20 kb_8 bx_10 (by decide)
        refine lv_aload_n hx hb dX2_readLet_86 rfl (lv_at hl 3 rfl) ?_
        refine g_getk (C := RX2) (T := TX2) (N := 16) hx hb hts (mc_ inX2) hown hK g rfl 0 (by decide) rfl (hts _ (List.mem_cons_of_mem _ t_416)) (fun _ h9 => h9) 2 rfl dX2_readLet_87 ?_
        refine lv_iconst (v := 4) hx hb dX2_readLet_90 (by decide) ?_
        refine lv_iload_n hx hb dX2_readLet_91 rfl (lv_at hl 2 rfl) ?_
        have kb_4 : bd 4 4 (4 : Int32) := ⟨by decide, by decide⟩
        have go_ := g
        refine g_callv (va_runV (As := [.int 4, .int r_6]) (rest := []) ⟨hx, hb, hml, hown, hts⟩ (r_X8_fail l dC dI L kd tys fr_15 H.size g.2.2.2.1 q0_ mq0_ kq0_ 4 (bd_sub kb_4 (by decide)) r_6 y0_ by0_ (g.fcts [10] rfl)) (cwV 2 hts (gV_ t_1122 t_1107 t_1108 t_184 t_1109) rfl rfl rfl (by decide +kernel) ⟨(Nat.le_of_ble_eq_true rfl), (Nat.le_of_ble_eq_true rfl)⟩) (pre3V g hK mq0_ kq0_ (by decide) (q := (RX8, TX8, 10)) rfl) rfl rfl hl.1 rfl (lv_room (Nat.le_of_ble_eq_true rfl)) dX2_readLet_92 ⟨(Nat.le_of_ble_eq_true rfl), (Nat.le_of_ble_eq_true rfl)⟩) g hK (by decide) (by decide) (fx' := [(5, 6, q1_, .int x_10), (2, 0, a0_, .ref q0_), (2, 1, a0_, .ref q1_), (2, 2, a0_, .ref q2_), (2, 3, a0_, .ref q3_), (0, 0, q2_, .ref q0_), (0, 1, q2_, .ref q1_), (5, 0, q1_, .ref q6_), (5, 1, q1_, .ref q7_)]) rfl (fun fr_107 H locs hp hMr_107 g => ?_)
        obtain ⟨x_108, h_109, hF_110⟩ := hp
        have hG_111 := eOK.frame hMr_107 go_.2.2.2.1 mq2_ kq2_ (by decide) (by decide) hG_17
        have g := g.more hF_110
        refine lv_goto (tgt := 120) hx hb dX2_readLet_95 (by decide) ?_
        refine lv_aload_n hx hb dX2_readLet_120 rfl (lv_at hl 3 rfl) ?_
        refine g_getk (C := RX2) (T := TX2) (N := 16) hx hb hts (mc_ inX2) hown hK g rfl 0 (by decide) rfl (hts _ (List.mem_cons_of_mem _ t_416)) (fun _ h9 => h9) 3 rfl dX2_readLet_121 ?_
        have kb_1201 : bd 1201 1201 (1201 : Int32) := ⟨by decide, by decide⟩
        have go_ := g
        refine g_callv (va_runV (As := []) (rest := []) ⟨hx, hb, hml, hown, hts⟩ (r_X8_next_2 l dC dI L kd tys fr_107 H.size g.2.2.2.1 q0_ mq0_ kq0_ 1201 kb_1201 (g.fcts [0] rfl)) (cwV 0 hts (gV_ t_1131 t_1103 t_1104 t_184 t_1105) rfl rfl rfl (by decide +kernel) ⟨(Nat.le_of_ble_eq_true rfl), (Nat.le_of_ble_eq_true rfl)⟩) (pre3V g hK mq0_ kq0_ (by decide) (q := (RX8, TX8, 10)) rfl) rfl rfl hl.1 rfl (lv_room (Nat.le_of_ble_eq_true rfl)) dX2_readLet_124 ⟨(Nat.le_of_ble_eq_true rfl), (Nat.le_of_ble_eq_true rfl)⟩) g hK (by decide) (by decide) (fx' := [(8, 6, q0_, .int 1201), (8, 8, q0_, .int x_108), (5, 6, q1_, .int x_10), (2, 0, a0_, .ref q0_), (2, 1, a0_, .ref q1_), (2, 2, a0_, .ref q2_), (2, 3, a0_, .ref q3_), (0, 0, q2_, .ref q0_), (0, 1, q2_, .ref q1_), (5, 0, q1_, .ref q6_), (5, 1, q1_, .ref q7_)]) rfl (fun fr_112 H locs hp hMr_112 g => ?_)
        have hG_113 := eOK.frame hMr_112 go_.2.2.2.1 mq2_ kq2_ (by decide) (by decide) hG_111
        refine lv_aload_n hx hb dX2_readLet_127 rfl (lv_at hl 3 rfl) ?_
        refine g_getk (C := RX2) (T := TX2) (N := 16) hx hb hts (mc_ inX2) hown hK g rfl 0 (by decide) rfl (hts _ (List.mem_cons_of_mem _ t_416)) (fun _ h9 => h9) 3 rfl dX2_readLet_128 ?_
        refine lv_bipush (v := 61) hx hb dX2_readLet_131 (by decide) ?_
        have go_ := g
        refine g_callv (va_runV (As := [.int 61]) (rest := []) ⟨hx, hb, hml, hown, hts⟩ (r_X8_take_2 l dC dI L kd tys fr_112 H.size g.2.2.2.1 q0_ mq0_ kq0_ 61 1201 kb_1201 x_108 h_109 (g.fcts [0, 1] rfl)) (cwV 1 hts (gV_ t_1098 t_1099 t_1100 t_184 t_1101) rfl rfl rfl (by decide +kernel) ⟨(Nat.le_of_ble_eq_true rfl), (Nat.le_of_ble_eq_true rfl)⟩) (pre3V g hK mq0_ kq0_ (by decide) (q := (RX8, TX8, 10)) rfl) rfl rfl hl.1 rfl (lv_room (Nat.le_of_ble_eq_true rfl)) dX2_readLet_133 ⟨(Nat.le_of_ble_eq_true rfl), (Nat.le_of_ble_eq_true rfl)⟩) g hK (by decide) (by decide) (fx' := [(8, 8, q0_, .int x_108), (5, 6, q1_, .int x_10), (2, 0, a0_, .ref q0_), (2, 1, a0_, .ref q1_), (2, 2, a0_, .ref q2_), (2, 3, a0_, .ref q3_), (0, 0, q2_, .ref q0_), (0, 1, q2_, .ref q1_), (5, 0, q1_, .ref q6_), (5, 1, q1_, .ref q7_)]) rfl (fun fr_114 H locs hp hMr_114 g => ?_)
        obtain ⟨x_115, h_116, hF_117⟩ := hp
        have hG_118 := eOK.frame hMr_114 go_.2.2.2.1 mq2_ kq2_ (by decide) (by decide) hG_113
        have g := g.more hF_117
        refine lv_aload_n hx hb dX2_readLet_136 rfl (lv_at hl 3 rfl) ?_
        refine g_getk (C := RX2) (T := TX2) (N := 16) hx hb hts (mc_ inX2) hown hK g rfl 3 (by decide) rfl (hts _ (List.mem_cons_of_mem _ t_419)) (fun _ h9 => h9) 6 rfl dX2_readLet_137 ?_
        refine lv_bipush (v := 14) hx hb dX2_readLet_140 (by decide) ?_
        refine lv_iconst (v := 3) hx hb dX2_readLet_142 (by decide) ?_
        refine lv_iload hx hb dX2_readLet_143 (lv_at hl 0 rfl) ?_
        refine lv_iadd hx hb dX2_readLet_145 ?_
        refine lv_topi (fun y_119 ey_119 => ?_)
        have ty_119 := add_bd ey_119 kb_3 b_106 (by decide)
        have b_120 : bd 11 11 y_119 := add_rg ty_119 kb_3 b_106 (by decide)
        have go_ := g
        refine g_callv (va_runV (As := [.int 14, .int y_119]) (rest := []) ⟨hx, hb, hml, hown, hts⟩ (r_X7_emit l dC dI L kd tys fr_114 H.size g.2.2.2.1 q3_ mq3_ kq3_ 14 y_119) (cwV 2 hts (gV_ t_1301 t_1204 t_1205 t_191 t_1206) rfl rfl rfl (by decide +kernel) ⟨(Nat.le_of_ble_eq_true rfl), (Nat.le_of_ble_eq_true rfl)⟩) (pre3V g hK mq3_ kq3_ (by decide) (q := (RX7, TX7, 19)) rfl) rfl rfl hl.1 rfl (lv_room (Nat.le_of_ble_eq_true rfl)) dX2_readLet_146 ⟨(Nat.le_of_ble_eq_true rfl), (Nat.le_of_ble_eq_true rfl)⟩) g hK (by decide) (by decide) (fx' := [(8, 6, q0_, .int x_115), (8, 8, q0_, .int x_108), (5, 6, q1_, .int x_10), (2, 0, a0_, .ref q0_), (2, 1, a0_, .ref q1_), (2, 2, a0_, .ref q2_), (2, 3, a0_, .ref q3_), (0, 0, q2_, .ref q0_), (0, 1, q2_, .ref q1_), (5, 0, q1_, .ref q6_), (5, 1, q1_, .ref q7_)]) rfl (fun fr_121 H locs hp hMr_121 g => ?_)
        obtain ⟨x_122, h_123, hF_124⟩ := hp
        have hG_125 := eOK.frame hMr_121 go_.2.2.2.1 mq2_ kq2_ (by decide) (by decide) hG_118
        have g := g.more hF_124
        refine lv_aload_n hx hb dX2_readLet_149 rfl (lv_at hl 3 rfl) ?_
        refine g_getk (C := RX2) (T := TX2) (N := 16) hx hb hts (mc_ inX2) hown hK g rfl 2 (by decide) rfl (hts _ (List.mem_cons_of_mem _ t_418)) (fun _ h9 => h9) 6 rfl dX2_readLet_150 ?_
        have go_ := g
        refine g_callv (va_runV (As := []) (rest := []) ⟨hx, hb, hml, hown, hts⟩ (r_X0_read_2 l dC dI L kd tys fr_121 H.size g.2.2.2.1 q2_ mq2_ kq2_ q0_ mq0_ kq0_ q1_ mq1_ kq1_ q6_ mq6_ kq6_ q7_ mq7_ kq7_ x_115 h_116 x_108 h_109 hG_125 (g.fcts [8, 9, 10, 11, 1, 2] rfl)) (cwV 0 hts (gV_ t_1182 t_1183 t_1184 t_190 t_1185) rfl rfl rfl (by decide +kernel) ⟨(Nat.le_of_ble_eq_true rfl), (Nat.le_of_ble_eq_true rfl)⟩) (pre3V g hK mq2_ kq2_ (by decide) (q := (RX0, TX0, 14)) rfl) rfl rfl hl.1 rfl (lv_room (Nat.le_of_ble_eq_true rfl)) dX2_readLet_153 ⟨(Nat.le_of_ble_eq_true rfl), (Nat.le_of_ble_eq_true rfl)⟩) g hK (by decide) (by decide) (fx' := [(7, 6, q3_, .int x_122), (8, 6, q0_, .int x_115), (8, 8, q0_, .int x_108), (5, 6, q1_, .int x_10), (2, 0, a0_, .ref q0_), (2, 1, a0_, .ref q1_), (2, 2, a0_, .ref q2_), (2, 3, a0_, .ref q3_), (0, 0, q2_, .ref q0_), (0, 1, q2_, .ref q1_), (5, 0, q1_, .ref q6_), (5, 1, q1_, .ref q7_)]) rfl (fun fr_126 H locs hp hMr_126 g => ?_)
        have hF_127 := hp
        have hG_128 := eOK.frame hMr_126 go_.2.2.2.1 mq2_ kq2_ (by decide) (by decide) hG_125
        have g := g.more hF_127
        refine lv_aload_n hx hb dX2_readLet_156 rfl (lv_at hl 3 rfl) ?_
        refine g_getk (C := RX2) (T := TX2) (N := 16) hx hb hts (mc_ inX2) hown hK g rfl 3 (by decide) rfl (hts _ (List.mem_cons_of_mem _ t_419)) (fun _ h9 => h9) 13 rfl dX2_readLet_157 ?_
        refine lv_bipush (v := 20) hx hb dX2_readLet_160 (by decide) ?_
        refine lv_iconst (v := 3) hx hb dX2_readLet_162 (by decide) ?_
        refine lv_iload hx hb dX2_readLet_163 (lv_at hl 0 rfl) ?_
        refine lv_iadd hx hb dX2_readLet_165 ?_
        refine lv_topi (fun y_129 ey_129 => ?_)
        obtain rfl : y_119 = y_129 := ey_119.trans ey_129.symm
        have go_ := g
        refine g_callv (va_runV (As := [.int 20, .int y_119]) (rest := []) ⟨hx, hb, hml, hown, hts⟩ (r_X7_emit l dC dI L kd tys fr_126 H.size g.2.2.2.1 q3_ mq3_ kq3_ 20 y_119) (cwV 2 hts (gV_ t_1301 t_1204 t_1205 t_191 t_1206) rfl rfl rfl (by decide +kernel) ⟨(Nat.le_of_ble_eq_true rfl), (Nat.le_of_ble_eq_true rfl)⟩) (pre3V g hK mq3_ kq3_ (by decide) (q := (RX7, TX7, 19)) rfl) rfl rfl hl.1 rfl (lv_room (Nat.le_of_ble_eq_true rfl)) dX2_readLet_166 ⟨(Nat.le_of_ble_eq_true rfl), (Nat.le_of_ble_eq_true rfl)⟩) g hK (by decide) (by decide) (fx' := [(0, 13, q2_, .int 0), (0, 12, q2_, .int 1), (0, 11, q2_, .int 0), (0, 10, q2_, .int 0), (0, 8, q2_, .int 0), (0, 2, q2_, .ref q6_), (8, 6, q0_, .int x_115), (8, 8, q0_, .int x_108), (5, 6, q1_, .int x_10), (2, 0, a0_, .ref q0_), (2, 1, a0_, .ref q1_), (2, 2, a0_, .ref q2_), (2, 3, a0_, .ref q3_), (0, 0, q2_, .ref q0_), (0, 1, q2_, .ref q1_), (5, 0, q1_, .ref q6_), (5, 1, q1_, .ref q7_)]) rfl (fun fr_130 H locs hp hMr_130 g => ?_)
        obtain ⟨x_131, h_132, hF_133⟩ := hp
        have hG_134 := eOK.frame hMr_130 go_.2.2.2.1 mq2_ kq2_ (by decide) (by decide) hG_128
        have g := g.more hF_133
        refine lv_aload_n hx hb dX2_readLet_169 rfl (lv_at hl 3 rfl) ?_
        refine g_getk (C := RX2) (T := TX2) (N := 16) hx hb hts (mc_ inX2) hown hK g rfl 0 (by decide) rfl (hts _ (List.mem_cons_of_mem _ t_416)) (fun _ h9 => h9) 10 rfl dX2_readLet_170 ?_
        refine lv_bipush (v := 59) hx hb dX2_readLet_173 (by decide) ?_
        have go_ := g
        refine g_callv (va_runV (As := [.int 59]) (rest := []) ⟨hx, hb, hml, hown, hts⟩ (r_X8_take_2 l dC dI L kd tys fr_130 H.size g.2.2.2.1 q0_ mq0_ kq0_ 59 x_115 h_116 x_108 h_109 (g.fcts [7, 8] rfl)) (cwV 1 hts (gV_ t_1098 t_1099 t_1100 t_184 t_1101) rfl rfl rfl (by decide +kernel) ⟨(Nat.le_of_ble_eq_true rfl), (Nat.le_of_ble_eq_true rfl)⟩) (pre3V g hK mq0_ kq0_ (by decide) (q := (RX8, TX8, 10)) rfl) rfl rfl hl.1 rfl (lv_room (Nat.le_of_ble_eq_true rfl)) dX2_readLet_175 ⟨(Nat.le_of_ble_eq_true rfl), (Nat.le_of_ble_eq_true rfl)⟩) g hK (by decide) (by decide) (fx' := [(7, 6, q3_, .int x_131), (0, 13, q2_, .int 0), (0, 12, q2_, .int 1), (0, 11, q2_, .int 0), (0, 10, q2_, .int 0), (0, 8, q2_, .int 0), (0, 2, q2_, .ref q6_), (8, 8, q0_, .int x_108), (5, 6, q1_, .int x_10), (2, 0, a0_, .ref q0_), (2, 1, a0_, .ref q1_), (2, 2, a0_, .ref q2_), (2, 3, a0_, .ref q3_), (0, 0, q2_, .ref q0_), (0, 1, q2_, .ref q1_), (5, 0, q1_, .ref q6_), (5, 1, q1_, .ref q7_)]) rfl (fun fr_135 H locs hp hMr_135 g => ?_)
        obtain ⟨x_136, h_137, hF_138⟩ := hp
        have hG_139 := eOK.frame hMr_135 go_.2.2.2.1 mq2_ kq2_ (by decide) (by decide) hG_134
        have g := g.more hF_138
        subst hQ
        exact W.vret hx hb hr (fun t ht hW => ⟨⟨_, rfl, Or.inr (⟨hG_139, x_136, h_137, x_108, h_109, x_131, h_132, (g.fcts [0, 8, 1, 7] rfl)⟩), q3_of g hK ht hW⟩, g.2.2.1.F ht⟩) g.2.2.1.2.2 dX2_readLet_178
    · have fc_18 := neq_f c_18
      have b_140 : bd 0 26 r_15 := neX fc_18 h_16 kb_m1 (by decide)
      refine lv_aload_n hx hb dX2_readLet_67 rfl (lv_at hl 3 rfl) ?_
      refine g_getk (C := RX2) (T := TX2) (N := 16) hx hb hts (mc_ inX2) hown hK g rfl 0 (by decide) rfl (hts _ (List.mem_cons_of_mem _ t_416)) (fun _ h9 => h9) 2 rfl dX2_readLet_68 ?_
      refine lv_iconst (v := 2) hx hb dX2_readLet_71 (by decide) ?_
      refine lv_iload_n hx hb dX2_readLet_72 rfl (lv_at hl 2 rfl) ?_
      have kb_2 : bd 2 2 (2 : Int32) := ⟨by decide, by decide⟩
      have go_ := g
      refine g_callv (va_runV (As := [.int 2, .int r_6]) (rest := []) ⟨hx, hb, hml, hown, hts⟩ (r_X8_fail l dC dI L kd tys fr_15 H.size g.2.2.2.1 q0_ mq0_ kq0_ 2 (bd_sub kb_2 (by decide)) r_6 y0_ by0_ (g.fcts [10] rfl)) (cwV 2 hts (gV_ t_1122 t_1107 t_1108 t_184 t_1109) rfl rfl rfl (by decide +kernel) ⟨(Nat.le_of_ble_eq_true rfl), (Nat.le_of_ble_eq_true rfl)⟩) (pre3V g hK mq0_ kq0_ (by decide) (q := (RX8, TX8, 10)) rfl) rfl rfl hl.1 rfl (lv_room (Nat.le_of_ble_eq_true rfl)) dX2_readLet_73 ⟨(Nat.le_of_ble_eq_true rfl), (Nat.le_of_ble_eq_true rfl)⟩) g hK (by decide) (by decide) (fx' := [(5, 6, q1_, .int x_10), (2, 0, a0_, .ref q0_), (2, 1, a0_, .ref q1_), (2, 2, a0_, .ref q2_), (2, 3, a0_, .ref q3_), (0, 0, q2_, .ref q0_), (0, 1, q2_, .ref q1_), (5, 0, q1_, .ref q6_), (5, 1, q1_, .ref q7_)]) rfl (fun fr_141 H locs hp hMr_141 g => ?_)
      obtain ⟨x_142, h_143, hF_144⟩ := hp
      have hG_145 := eOK.frame hMr_141 go_.2.2.2.1 mq2_ kq2_ (by decide) (by decide) hG_17
      have g := g.more hF_144
      refine lv_goto (tgt := 120) hx hb dX2_readLet_76 (by decide) ?_
      refine lv_aload_n hx hb dX2_readLet_120 rfl (lv_at hl 3 rfl) ?_
      refine g_getk (C := RX2) (T := TX2) (N := 16) hx hb hts (mc_ inX2) hown hK g rfl 0 (by decide) rfl (hts _ (List.mem_cons_of_mem _ t_416)) (fun _ h9 => h9) 3 rfl dX2_readLet_121 ?_
      have kb_1201 : bd 1201 1201 (1201 : Int32) := ⟨by decide, by decide⟩
      have go_ := g
      refine g_callv (va_runV (As := []) (rest := []) ⟨hx, hb, hml, hown, hts⟩ (r_X8_next_2 l dC dI L kd tys fr_141 H.size g.2.2.2.1 q0_ mq0_ kq0_ 1201 kb_1201 (g.fcts [0] rfl)) (cwV 0 hts (gV_ t_1131 t_1103 t_1104 t_184 t_1105) rfl rfl rfl (by decide +kernel) ⟨(Nat.le_of_ble_eq_true rfl), (Nat.le_of_ble_eq_true rfl)⟩) (pre3V g hK mq0_ kq0_ (by decide) (q := (RX8, TX8, 10)) rfl) rfl rfl hl.1 rfl (lv_room (Nat.le_of_ble_eq_true rfl)) dX2_readLet_124 ⟨(Nat.le_of_ble_eq_true rfl), (Nat.le_of_ble_eq_true rfl)⟩) g hK (by decide) (by decide) (fx' := [(8, 6, q0_, .int 1201), (8, 8, q0_, .int x_142), (5, 6, q1_, .int x_10), (2, 0, a0_, .ref q0_), (2, 1, a0_, .ref q1_), (2, 2, a0_, .ref q2_), (2, 3, a0_, .ref q3_), (0, 0, q2_, .ref q0_), (0, 1, q2_, .ref q1_), (5, 0, q1_, .ref q6_), (5, 1, q1_, .ref q7_)]) rfl (fun fr_146 H locs hp hMr_146 g => ?_)
      have hG_147 := eOK.frame hMr_146 go_.2.2.2.1 mq2_ kq2_ (by decide) (by decide) hG_145
      refine lv_aload_n hx hb dX2_readLet_127 rfl (lv_at hl 3 rfl) ?_
      refine g_getk (C := RX2) (T := TX2) (N := 16) hx hb hts (mc_ inX2) hown hK g rfl 0 (by decide) rfl (hts _ (List.mem_cons_of_mem _ t_416)) (fun _ h9 => h9) 3 rfl dX2_readLet_128 ?_
      refine lv_bipush (v := 61) hx hb dX2_readLet_131 (by decide) ?_
      have go_ := g
      refine g_callv (va_runV (As := [.int 61]) (rest := []) ⟨hx, hb, hml, hown, hts⟩ (r_X8_take_2 l dC dI L kd tys fr_146 H.size g.2.2.2.1 q0_ mq0_ kq0_ 61 1201 kb_1201 x_142 h_143 (g.fcts [0, 1] rfl)) (cwV 1 hts (gV_ t_1098 t_1099 t_1100 t_184 t_1101) rfl rfl rfl (by decide +kernel) ⟨(Nat.le_of_ble_eq_true rfl), (Nat.le_of_ble_eq_true rfl)⟩) (pre3V g hK mq0_ kq0_ (by decide) (q := (RX8, TX8, 10)) rfl) rfl rfl hl.1 rfl (lv_room (Nat.le_of_ble_eq_true rfl)) dX2_readLet_133 ⟨(Nat.le_of_ble_eq_true rfl), (Nat.le_of_ble_eq_true rfl)⟩) g hK (by decide) (by decide) (fx' := [(8, 8, q0_, .int x_142), (5, 6, q1_, .int x_10), (2, 0, a0_, .ref q0_), (2, 1, a0_, .ref q1_), (2, 2, a0_, .ref q2_), (2, 3, a0_, .ref q3_), (0, 0, q2_, .ref q0_), (0, 1, q2_, .ref q1_), (5, 0, q1_, .ref q6_), (5, 1, q1_, .ref q7_)]) rfl (fun fr_148 H locs hp hMr_148 g => ?_)
      obtain ⟨x_149, h_150, hF_151⟩ := hp
      have hG_152 := eOK.frame hMr_148 go_.2.2.2.1 mq2_ kq2_ (by decide) (by decide) hG_147
      have g := g.more hF_151
      refine lv_aload_n hx hb dX2_readLet_136 rfl (lv_at hl 3 rfl) ?_
      refine g_getk (C := RX2) (T := TX2) (N := 16) hx hb hts (mc_ inX2) hown hK g rfl 3 (by decide) rfl (hts _ (List.mem_cons_of_mem _ t_419)) (fun _ h9 => h9) 6 rfl dX2_readLet_137 ?_
      refine lv_bipush (v := 14) hx hb dX2_readLet_140 (by decide) ?_
      refine lv_iconst (v := 3) hx hb dX2_readLet_142 (by decide) ?_
      refine lv_iload hx hb dX2_readLet_143 (lv_at hl 0 rfl) ?_
      refine lv_iadd hx hb dX2_readLet_145 ?_
      refine lv_topi (fun y_153 ey_153 => ?_)
      have ty_153 := add_bd ey_153 kb_3 bx_10 (by decide)
      have b_154 : bd 3 11 y_153 := add_rg ty_153 kb_3 bx_10 (by decide)
      have go_ := g
      refine g_callv (va_runV (As := [.int 14, .int y_153]) (rest := []) ⟨hx, hb, hml, hown, hts⟩ (r_X7_emit l dC dI L kd tys fr_148 H.size g.2.2.2.1 q3_ mq3_ kq3_ 14 y_153) (cwV 2 hts (gV_ t_1301 t_1204 t_1205 t_191 t_1206) rfl rfl rfl (by decide +kernel) ⟨(Nat.le_of_ble_eq_true rfl), (Nat.le_of_ble_eq_true rfl)⟩) (pre3V g hK mq3_ kq3_ (by decide) (q := (RX7, TX7, 19)) rfl) rfl rfl hl.1 rfl (lv_room (Nat.le_of_ble_eq_true rfl)) dX2_readLet_146 ⟨(Nat.le_of_ble_eq_true rfl), (Nat.le_of_ble_eq_true rfl)⟩) g hK (by decide) (by decide) (fx' := [(8, 6, q0_, .int x_149), (8, 8, q0_, .int x_142), (5, 6, q1_, .int x_10), (2, 0, a0_, .ref q0_), (2, 1, a0_, .ref q1_), (2, 2, a0_, .ref q2_), (2, 3, a0_, .ref q3_), (0, 0, q2_, .ref q0_), (0, 1, q2_, .ref q1_), (5, 0, q1_, .ref q6_), (5, 1, q1_, .ref q7_)]) rfl (fun fr_155 H locs hp hMr_155 g => ?_)
      obtain ⟨x_156, h_157, hF_158⟩ := hp
      have hG_159 := eOK.frame hMr_155 go_.2.2.2.1 mq2_ kq2_ (by decide) (by decide) hG_152
      have g := g.more hF_158
      refine lv_aload_n hx hb dX2_readLet_149 rfl (lv_at hl 3 rfl) ?_
      refine g_getk (C := RX2) (T := TX2) (N := 16) hx hb hts (mc_ inX2) hown hK g rfl 2 (by decide) rfl (hts _ (List.mem_cons_of_mem _ t_418)) (fun _ h9 => h9) 6 rfl dX2_readLet_150 ?_
      have go_ := g
      refine g_callv (va_runV (As := []) (rest := []) ⟨hx, hb, hml, hown, hts⟩ (r_X0_read_2 l dC dI L kd tys fr_155 H.size g.2.2.2.1 q2_ mq2_ kq2_ q0_ mq0_ kq0_ q1_ mq1_ kq1_ q6_ mq6_ kq6_ q7_ mq7_ kq7_ x_149 h_150 x_142 h_143 hG_159 (g.fcts [8, 9, 10, 11, 1, 2] rfl)) (cwV 0 hts (gV_ t_1182 t_1183 t_1184 t_190 t_1185) rfl rfl rfl (by decide +kernel) ⟨(Nat.le_of_ble_eq_true rfl), (Nat.le_of_ble_eq_true rfl)⟩) (pre3V g hK mq2_ kq2_ (by decide) (q := (RX0, TX0, 14)) rfl) rfl rfl hl.1 rfl (lv_room (Nat.le_of_ble_eq_true rfl)) dX2_readLet_153 ⟨(Nat.le_of_ble_eq_true rfl), (Nat.le_of_ble_eq_true rfl)⟩) g hK (by decide) (by decide) (fx' := [(7, 6, q3_, .int x_156), (8, 6, q0_, .int x_149), (8, 8, q0_, .int x_142), (5, 6, q1_, .int x_10), (2, 0, a0_, .ref q0_), (2, 1, a0_, .ref q1_), (2, 2, a0_, .ref q2_), (2, 3, a0_, .ref q3_), (0, 0, q2_, .ref q0_), (0, 1, q2_, .ref q1_), (5, 0, q1_, .ref q6_), (5, 1, q1_, .ref q7_)]) rfl (fun fr_160 H locs hp hMr_160 g => ?_)
      have hF_161 := hp
      have hG_162 := eOK.frame hMr_160 go_.2.2.2.1 mq2_ kq2_ (by decide) (by decide) hG_159
      have g := g.more hF_161
      refine lv_aload_n hx hb dX2_readLet_156 rfl (lv_at hl 3 rfl) ?_
      refine g_getk (C := RX2) (T := TX2) (N := 16) hx hb hts (mc_ inX2) hown hK g rfl 3 (by decide) rfl (hts _ (List.mem_cons_of_mem _ t_419)) (fun _ h9 => h9) 13 rfl dX2_readLet_157 ?_
      refine lv_bipush (v := 20) hx hb dX2_readLet_160 (by decide) ?_
      refine lv_iconst (v := 3) hx hb dX2_readLet_162 (by decide) ?_
      refine lv_iload hx hb dX2_readLet_163 (lv_at hl 0 rfl) ?_
      refine lv_iadd hx hb dX2_readLet_165 ?_
      refine lv_topi (fun y_163 ey_163 => ?_)
      obtain rfl : y_153 = y_163 := ey_153.trans ey_163.symm
      have go_ := g
      refine g_callv (va_runV (As := [.int 20, .int y_153]) (rest := []) ⟨hx, hb, hml, hown, hts⟩ (r_X7_emit l dC dI L kd tys fr_160 H.size g.2.2.2.1 q3_ mq3_ kq3_ 20 y_153) (cwV 2 hts (gV_ t_1301 t_1204 t_1205 t_191 t_1206) rfl rfl rfl (by decide +kernel) ⟨(Nat.le_of_ble_eq_true rfl), (Nat.le_of_ble_eq_true rfl)⟩) (pre3V g hK mq3_ kq3_ (by decide) (q := (RX7, TX7, 19)) rfl) rfl rfl hl.1 rfl (lv_room (Nat.le_of_ble_eq_true rfl)) dX2_readLet_166 ⟨(Nat.le_of_ble_eq_true rfl), (Nat.le_of_ble_eq_true rfl)⟩) g hK (by decide) (by decide) (fx' := [(0, 13, q2_, .int 0), (0, 12, q2_, .int 1), (0, 11, q2_, .int 0), (0, 10, q2_, .int 0), (0, 8, q2_, .int 0), (0, 2, q2_, .ref q6_), (8, 6, q0_, .int x_149), (8, 8, q0_, .int x_142), (5, 6, q1_, .int x_10), (2, 0, a0_, .ref q0_), (2, 1, a0_, .ref q1_), (2, 2, a0_, .ref q2_), (2, 3, a0_, .ref q3_), (0, 0, q2_, .ref q0_), (0, 1, q2_, .ref q1_), (5, 0, q1_, .ref q6_), (5, 1, q1_, .ref q7_)]) rfl (fun fr_164 H locs hp hMr_164 g => ?_)
      obtain ⟨x_165, h_166, hF_167⟩ := hp
      have hG_168 := eOK.frame hMr_164 go_.2.2.2.1 mq2_ kq2_ (by decide) (by decide) hG_162
      have g := g.more hF_167
      refine lv_aload_n hx hb dX2_readLet_169 rfl (lv_at hl 3 rfl) ?_
      refine g_getk (C := RX2) (T := TX2) (N := 16) hx hb hts (mc_ inX2) hown hK g rfl 0 (by decide) rfl (hts _ (List.mem_cons_of_mem _ t_416)) (fun _ h9 => h9) 10 rfl dX2_readLet_170 ?_
      refine lv_bipush (v := 59) hx hb dX2_readLet_173 (by decide) ?_
      have go_ := g
      refine g_callv (va_runV (As := [.int 59]) (rest := []) ⟨hx, hb, hml, hown, hts⟩ (r_X8_take_2 l dC dI L kd tys fr_164 H.size g.2.2.2.1 q0_ mq0_ kq0_ 59 x_149 h_150 x_142 h_143 (g.fcts [7, 8] rfl)) (cwV 1 hts (gV_ t_1098 t_1099 t_1100 t_184 t_1101) rfl rfl rfl (by decide +kernel) ⟨(Nat.le_of_ble_eq_true rfl), (Nat.le_of_ble_eq_true rfl)⟩) (pre3V g hK mq0_ kq0_ (by decide) (q := (RX8, TX8, 10)) rfl) rfl rfl hl.1 rfl (lv_room (Nat.le_of_ble_eq_true rfl)) dX2_readLet_175 ⟨(Nat.le_of_ble_eq_true rfl), (Nat.le_of_ble_eq_true rfl)⟩) g hK (by decide) (by decide) (fx' := [(7, 6, q3_, .int x_165), (0, 13, q2_, .int 0), (0, 12, q2_, .int 1), (0, 11, q2_, .int 0), (0, 10, q2_, .int 0), (0, 8, q2_, .int 0), (0, 2, q2_, .ref q6_), (8, 8, q0_, .int x_142), (5, 6, q1_, .int x_10), (2, 0, a0_, .ref q0_), (2, 1, a0_, .ref q1_), (2, 2, a0_, .ref q2_), (2, 3, a0_, .ref q3_), (0, 0, q2_, .ref q0_), (0, 1, q2_, .ref q1_), (5, 0, q1_, .ref q6_), (5, 1, q1_, .ref q7_)]) rfl (fun fr_169 H locs hp hMr_169 g => ?_)
      obtain ⟨x_170, h_171, hF_172⟩ := hp
      have hG_173 := eOK.frame hMr_169 go_.2.2.2.1 mq2_ kq2_ (by decide) (by decide) hG_168
      have g := g.more hF_172
      subst hQ
      exact W.vret hx hb hr (fun t ht hW => ⟨⟨_, rfl, Or.inr (⟨hG_173, x_170, h_171, x_142, h_143, x_165, h_166, (g.fcts [0, 8, 1, 7] rfl)⟩), q3_of g hK ht hW⟩, g.2.2.1.F ht⟩) g.2.2.1.2.2 dX2_readLet_178
  · have fc_13 := neq_f c_13
    refine lv_aload_n hx hb dX2_readLet_43 rfl (lv_at hl 3 rfl) ?_
    refine g_getk (C := RX2) (T := TX2) (N := 16) hx hb hts (mc_ inX2) hown hK g rfl 0 (by decide) rfl (hts _ (List.mem_cons_of_mem _ t_416)) (fun _ h9 => h9) 2 rfl dX2_readLet_44 ?_
    refine lv_iconst (v := 1) hx hb dX2_readLet_47 (by decide) ?_
    refine lv_iload_n hx hb dX2_readLet_48 rfl (lv_at hl 2 rfl) ?_
    have kb_1 : bd 1 1 (1 : Int32) := ⟨by decide, by decide⟩
    have go_ := g
    refine g_callv (va_runV (As := [.int 1, .int r_6]) (rest := []) ⟨hx, hb, hml, hown, hts⟩ (r_X8_fail l dC dI L kd tys fr_11 H.size g.2.2.2.1 q0_ mq0_ kq0_ 1 (bd_sub kb_1 (by decide)) r_6 y0_ by0_ (g.fcts [10] rfl)) (cwV 2 hts (gV_ t_1122 t_1107 t_1108 t_184 t_1109) rfl rfl rfl (by decide +kernel) ⟨(Nat.le_of_ble_eq_true rfl), (Nat.le_of_ble_eq_true rfl)⟩) (pre3V g hK mq0_ kq0_ (by decide) (q := (RX8, TX8, 10)) rfl) rfl rfl hl.1 rfl (lv_room (Nat.le_of_ble_eq_true rfl)) dX2_readLet_49 ⟨(Nat.le_of_ble_eq_true rfl), (Nat.le_of_ble_eq_true rfl)⟩) g hK (by decide) (by decide) (fx' := [(5, 6, q1_, .int x_10), (2, 0, a0_, .ref q0_), (2, 1, a0_, .ref q1_), (2, 2, a0_, .ref q2_), (2, 3, a0_, .ref q3_), (0, 0, q2_, .ref q0_), (0, 1, q2_, .ref q1_), (5, 0, q1_, .ref q6_), (5, 1, q1_, .ref q7_)]) rfl (fun fr_174 H locs hp hMr_174 g => ?_)
    obtain ⟨x_175, h_176, hF_177⟩ := hp
    have hG_178 := eOK.frame hMr_174 go_.2.2.2.1 mq2_ kq2_ (by decide) (by decide) hG_12
    have g := g.more hF_177
    refine lv_goto (tgt := 120) hx hb dX2_readLet_52 (by decide) ?_
    refine lv_aload_n hx hb dX2_readLet_120 rfl (lv_at hl 3 rfl) ?_
    refine g_getk (C := RX2) (T := TX2) (N := 16) hx hb hts (mc_ inX2) hown hK g rfl 0 (by decide) rfl (hts _ (List.mem_cons_of_mem _ t_416)) (fun _ h9 => h9) 3 rfl dX2_readLet_121 ?_
    have kb_1201 : bd 1201 1201 (1201 : Int32) := ⟨by decide, by decide⟩
    have go_ := g
    refine g_callv (va_runV (As := []) (rest := []) ⟨hx, hb, hml, hown, hts⟩ (r_X8_next_2 l dC dI L kd tys fr_174 H.size g.2.2.2.1 q0_ mq0_ kq0_ 1201 kb_1201 (g.fcts [0] rfl)) (cwV 0 hts (gV_ t_1131 t_1103 t_1104 t_184 t_1105) rfl rfl rfl (by decide +kernel) ⟨(Nat.le_of_ble_eq_true rfl), (Nat.le_of_ble_eq_true rfl)⟩) (pre3V g hK mq0_ kq0_ (by decide) (q := (RX8, TX8, 10)) rfl) rfl rfl hl.1 rfl (lv_room (Nat.le_of_ble_eq_true rfl)) dX2_readLet_124 ⟨(Nat.le_of_ble_eq_true rfl), (Nat.le_of_ble_eq_true rfl)⟩) g hK (by decide) (by decide) (fx' := [(8, 6, q0_, .int 1201), (8, 8, q0_, .int x_175), (5, 6, q1_, .int x_10), (2, 0, a0_, .ref q0_), (2, 1, a0_, .ref q1_), (2, 2, a0_, .ref q2_), (2, 3, a0_, .ref q3_), (0, 0, q2_, .ref q0_), (0, 1, q2_, .ref q1_), (5, 0, q1_, .ref q6_), (5, 1, q1_, .ref q7_)]) rfl (fun fr_179 H locs hp hMr_179 g => ?_)
    have hG_180 := eOK.frame hMr_179 go_.2.2.2.1 mq2_ kq2_ (by decide) (by decide) hG_178
    refine lv_aload_n hx hb dX2_readLet_127 rfl (lv_at hl 3 rfl) ?_
    refine g_getk (C := RX2) (T := TX2) (N := 16) hx hb hts (mc_ inX2) hown hK g rfl 0 (by decide) rfl (hts _ (List.mem_cons_of_mem _ t_416)) (fun _ h9 => h9) 3 rfl dX2_readLet_128 ?_
    refine lv_bipush (v := 61) hx hb dX2_readLet_131 (by decide) ?_
    have go_ := g
    refine g_callv (va_runV (As := [.int 61]) (rest := []) ⟨hx, hb, hml, hown, hts⟩ (r_X8_take_2 l dC dI L kd tys fr_179 H.size g.2.2.2.1 q0_ mq0_ kq0_ 61 1201 kb_1201 x_175 h_176 (g.fcts [0, 1] rfl)) (cwV 1 hts (gV_ t_1098 t_1099 t_1100 t_184 t_1101) rfl rfl rfl (by decide +kernel) ⟨(Nat.le_of_ble_eq_true rfl), (Nat.le_of_ble_eq_true rfl)⟩) (pre3V g hK mq0_ kq0_ (by decide) (q := (RX8, TX8, 10)) rfl) rfl rfl hl.1 rfl (lv_room (Nat.le_of_ble_eq_true rfl)) dX2_readLet_133 ⟨(Nat.le_of_ble_eq_true rfl), (Nat.le_of_ble_eq_true rfl)⟩) g hK (by decide) (by decide) (fx' := [(8, 8, q0_, .int x_175), (5, 6, q1_, .int x_10), (2, 0, a0_, .ref q0_), (2, 1, a0_, .ref q1_), (2, 2, a0_, .ref q2_), (2, 3, a0_, .ref q3_), (0, 0, q2_, .ref q0_), (0, 1, q2_, .ref q1_), (5, 0, q1_, .ref q6_), (5, 1, q1_, .ref q7_)]) rfl (fun fr_181 H locs hp hMr_181 g => ?_)
    obtain ⟨x_182, h_183, hF_184⟩ := hp
    have hG_185 := eOK.frame hMr_181 go_.2.2.2.1 mq2_ kq2_ (by decide) (by decide) hG_180
    have g := g.more hF_184
    refine lv_aload_n hx hb dX2_readLet_136 rfl (lv_at hl 3 rfl) ?_
    refine g_getk (C := RX2) (T := TX2) (N := 16) hx hb hts (mc_ inX2) hown hK g rfl 3 (by decide) rfl (hts _ (List.mem_cons_of_mem _ t_419)) (fun _ h9 => h9) 6 rfl dX2_readLet_137 ?_
    refine lv_bipush (v := 14) hx hb dX2_readLet_140 (by decide) ?_
    refine lv_iconst (v := 3) hx hb dX2_readLet_142 (by decide) ?_
    refine lv_iload hx hb dX2_readLet_143 (lv_at hl 0 rfl) ?_
    refine lv_iadd hx hb dX2_readLet_145 ?_
    refine lv_topi (fun y_186 ey_186 => ?_)
    have ty_186 := add_bd ey_186 kb_3 bx_10 (by decide)
    have b_187 : bd 3 11 y_186 := add_rg ty_186 kb_3 bx_10 (by decide)
    have go_ := g
    refine g_callv (va_runV (As := [.int 14, .int y_186]) (rest := []) ⟨hx, hb, hml, hown, hts⟩ (r_X7_emit l dC dI L kd tys fr_181 H.size g.2.2.2.1 q3_ mq3_ kq3_ 14 y_186) (cwV 2 hts (gV_ t_1301 t_1204 t_1205 t_191 t_1206) rfl rfl rfl (by decide +kernel) ⟨(Nat.le_of_ble_eq_true rfl), (Nat.le_of_ble_eq_true rfl)⟩) (pre3V g hK mq3_ kq3_ (by decide) (q := (RX7, TX7, 19)) rfl) rfl rfl hl.1 rfl (lv_room (Nat.le_of_ble_eq_true rfl)) dX2_readLet_146 ⟨(Nat.le_of_ble_eq_true rfl), (Nat.le_of_ble_eq_true rfl)⟩) g hK (by decide) (by decide) (fx' := [(8, 6, q0_, .int x_182), (8, 8, q0_, .int x_175), (5, 6, q1_, .int x_10), (2, 0, a0_, .ref q0_), (2, 1, a0_, .ref q1_), (2, 2, a0_, .ref q2_), (2, 3, a0_, .ref q3_), (0, 0, q2_, .ref q0_), (0, 1, q2_, .ref q1_), (5, 0, q1_, .ref q6_), (5, 1, q1_, .ref q7_)]) rfl (fun fr_188 H locs hp hMr_188 g => ?_)
    obtain ⟨x_189, h_190, hF_191⟩ := hp
    have hG_192 := eOK.frame hMr_188 go_.2.2.2.1 mq2_ kq2_ (by decide) (by decide) hG_185
    have g := g.more hF_191
    refine lv_aload_n hx hb dX2_readLet_149 rfl (lv_at hl 3 rfl) ?_
    refine g_getk (C := RX2) (T := TX2) (N := 16) hx hb hts (mc_ inX2) hown hK g rfl 2 (by decide) rfl (hts _ (List.mem_cons_of_mem _ t_418)) (fun _ h9 => h9) 6 rfl dX2_readLet_150 ?_
    have go_ := g
    refine g_callv (va_runV (As := []) (rest := []) ⟨hx, hb, hml, hown, hts⟩ (r_X0_read_2 l dC dI L kd tys fr_188 H.size g.2.2.2.1 q2_ mq2_ kq2_ q0_ mq0_ kq0_ q1_ mq1_ kq1_ q6_ mq6_ kq6_ q7_ mq7_ kq7_ x_182 h_183 x_175 h_176 hG_192 (g.fcts [8, 9, 10, 11, 1, 2] rfl)) (cwV 0 hts (gV_ t_1182 t_1183 t_1184 t_190 t_1185) rfl rfl rfl (by decide +kernel) ⟨(Nat.le_of_ble_eq_true rfl), (Nat.le_of_ble_eq_true rfl)⟩) (pre3V g hK mq2_ kq2_ (by decide) (q := (RX0, TX0, 14)) rfl) rfl rfl hl.1 rfl (lv_room (Nat.le_of_ble_eq_true rfl)) dX2_readLet_153 ⟨(Nat.le_of_ble_eq_true rfl), (Nat.le_of_ble_eq_true rfl)⟩) g hK (by decide) (by decide) (fx' := [(7, 6, q3_, .int x_189), (8, 6, q0_, .int x_182), (8, 8, q0_, .int x_175), (5, 6, q1_, .int x_10), (2, 0, a0_, .ref q0_), (2, 1, a0_, .ref q1_), (2, 2, a0_, .ref q2_), (2, 3, a0_, .ref q3_), (0, 0, q2_, .ref q0_), (0, 1, q2_, .ref q1_), (5, 0, q1_, .ref q6_), (5, 1, q1_, .ref q7_)]) rfl (fun fr_193 H locs hp hMr_193 g => ?_)
    have hF_194 := hp
    have hG_195 := eOK.frame hMr_193 go_.2.2.2.1 mq2_ kq2_ (by decide) (by decide) hG_192
    have g := g.more hF_194
    refine lv_aload_n hx hb dX2_readLet_156 rfl (lv_at hl 3 rfl) ?_
    refine g_getk (C := RX2) (T := TX2) (N := 16) hx hb hts (mc_ inX2) hown hK g rfl 3 (by decide) rfl (hts _ (List.mem_cons_of_mem _ t_419)) (fun _ h9 => h9) 13 rfl dX2_readLet_157 ?_
    refine lv_bipush (v := 20) hx hb dX2_readLet_160 (by decide) ?_
    refine lv_iconst (v := 3) hx hb dX2_readLet_162 (by decide) ?_
    refine lv_iload hx hb dX2_readLet_163 (lv_at hl 0 rfl) ?_
    refine lv_iadd hx hb dX2_readLet_165 ?_
    refine lv_topi (fun y_196 ey_196 => ?_)
    obtain rfl : y_186 = y_196 := ey_186.trans ey_196.symm
    have go_ := g
    refine g_callv (va_runV (As := [.int 20, .int y_186]) (rest := []) ⟨hx, hb, hml, hown, hts⟩ (r_X7_emit l dC dI L kd tys fr_193 H.size g.2.2.2.1 q3_ mq3_ kq3_ 20 y_186) (cwV 2 hts (gV_ t_1301 t_1204 t_1205 t_191 t_1206) rfl rfl rfl (by decide +kernel) ⟨(Nat.le_of_ble_eq_true rfl), (Nat.le_of_ble_eq_true rfl)⟩) (pre3V g hK mq3_ kq3_ (by decide) (q := (RX7, TX7, 19)) rfl) rfl rfl hl.1 rfl (lv_room (Nat.le_of_ble_eq_true rfl)) dX2_readLet_166 ⟨(Nat.le_of_ble_eq_true rfl), (Nat.le_of_ble_eq_true rfl)⟩) g hK (by decide) (by decide) (fx' := [(0, 13, q2_, .int 0), (0, 12, q2_, .int 1), (0, 11, q2_, .int 0), (0, 10, q2_, .int 0), (0, 8, q2_, .int 0), (0, 2, q2_, .ref q6_), (8, 6, q0_, .int x_182), (8, 8, q0_, .int x_175), (5, 6, q1_, .int x_10), (2, 0, a0_, .ref q0_), (2, 1, a0_, .ref q1_), (2, 2, a0_, .ref q2_), (2, 3, a0_, .ref q3_), (0, 0, q2_, .ref q0_), (0, 1, q2_, .ref q1_), (5, 0, q1_, .ref q6_), (5, 1, q1_, .ref q7_)]) rfl (fun fr_197 H locs hp hMr_197 g => ?_)
    obtain ⟨x_198, h_199, hF_200⟩ := hp
    have hG_201 := eOK.frame hMr_197 go_.2.2.2.1 mq2_ kq2_ (by decide) (by decide) hG_195
    have g := g.more hF_200
    refine lv_aload_n hx hb dX2_readLet_169 rfl (lv_at hl 3 rfl) ?_
    refine g_getk (C := RX2) (T := TX2) (N := 16) hx hb hts (mc_ inX2) hown hK g rfl 0 (by decide) rfl (hts _ (List.mem_cons_of_mem _ t_416)) (fun _ h9 => h9) 10 rfl dX2_readLet_170 ?_
    refine lv_bipush (v := 59) hx hb dX2_readLet_173 (by decide) ?_
    have go_ := g
    refine g_callv (va_runV (As := [.int 59]) (rest := []) ⟨hx, hb, hml, hown, hts⟩ (r_X8_take_2 l dC dI L kd tys fr_197 H.size g.2.2.2.1 q0_ mq0_ kq0_ 59 x_182 h_183 x_175 h_176 (g.fcts [7, 8] rfl)) (cwV 1 hts (gV_ t_1098 t_1099 t_1100 t_184 t_1101) rfl rfl rfl (by decide +kernel) ⟨(Nat.le_of_ble_eq_true rfl), (Nat.le_of_ble_eq_true rfl)⟩) (pre3V g hK mq0_ kq0_ (by decide) (q := (RX8, TX8, 10)) rfl) rfl rfl hl.1 rfl (lv_room (Nat.le_of_ble_eq_true rfl)) dX2_readLet_175 ⟨(Nat.le_of_ble_eq_true rfl), (Nat.le_of_ble_eq_true rfl)⟩) g hK (by decide) (by decide) (fx' := [(7, 6, q3_, .int x_198), (0, 13, q2_, .int 0), (0, 12, q2_, .int 1), (0, 11, q2_, .int 0), (0, 10, q2_, .int 0), (0, 8, q2_, .int 0), (0, 2, q2_, .ref q6_), (8, 8, q0_, .int x_175), (5, 6, q1_, .int x_10), (2, 0, a0_, .ref q0_), (2, 1, a0_, .ref q1_), (2, 2, a0_, .ref q2_), (2, 3, a0_, .ref q3_), (0, 0, q2_, .ref q0_), (0, 1, q2_, .ref q1_), (5, 0, q1_, .ref q6_), (5, 1, q1_, .ref q7_)]) rfl (fun fr_202 H locs hp hMr_202 g => ?_)
    obtain ⟨x_203, h_204, hF_205⟩ := hp
    have hG_206 := eOK.frame hMr_202 go_.2.2.2.1 mq2_ kq2_ (by decide) (by decide) hG_201
    have g := g.more hF_205
    subst hQ
    exact W.vret hx hb hr (fun t ht hW => ⟨⟨_, rfl, Or.inr (⟨hG_206, x_203, h_204, x_175, h_176, x_198, h_199, (g.fcts [0, 8, 1, 7] rfl)⟩), q3_of g hK ht hW⟩, g.2.2.1.F ht⟩) g.2.2.1.2.2 dX2_readLet_178
set_option maxHeartbeats 4000000 in
set_option maxRecDepth 100000 in
theorem r_X2_readTest_2 (l : Launch) (dC : Nat → ClassId) (dI : Nat → Nat → Nat) (L : List Nat) (kd : Nat → Nat) (tys : List (ClassId × FieldType)) (f0 : Nat → va_E) (sz : Nat) (hWT : WT L kd tys f0) (a0_ : Nat) (ma0_ : a0_ ∈ L) (ka0_ : kd a0_ = 2) (x1_ : Int32) (q0_ : Nat) (mq0_ : q0_ ∈ L) (kq0_ : kd q0_ = 8) (q1_ : Nat) (mq1_ : q1_ ∈ L) (kq1_ : kd q1_ = 5) (q2_ : Nat) (mq2_ : q2_ ∈ L) (kq2_ : kd q2_ = 0) (q3_ : Nat) (mq3_ : q3_ ∈ L) (kq3_ : kd q3_ = 7) (q6_ : Nat) (mq6_ : q6_ ∈ L) (kq6_ : kd q6_ = 7) (q7_ : Nat) (mq7_ : q7_ ∈ L) (kq7_ : kd q7_ = 9) (y0_ : Int32) (by0_ : bd 0 0 y0_) (hGeq2_ : eOK f0 q2_) (hfx : Fs L kd f0 [(2, 0, a0_, .ref q0_), (2, 1, a0_, .ref q1_), (2, 2, a0_, .ref q2_), (2, 3, a0_, .ref q3_), (0, 0, q2_, .ref q0_), (0, 1, q2_, .ref q1_), (5, 0, q1_, .ref q6_), (5, 1, q1_, .ref q7_), (8, 8, q0_, .int y0_)]) : Met l yX2_readTest (.code yX2_readTest cX2_readTest 4 none :: lw_g) ({ frames := 4, cells := 0, slots := 0, locals := 97 }) (va_Pc [.ref a0_, .int x1_] (P3 (dC, dI) L tys f0 sz)) (va_Qv (fun (f : Nat → va_E) => (eOK f q2_ ∧ ∃ z0_ : Int32, bd 1 1201 z0_ ∧ ∃ z1_ : Int32, bd 1 8 z1_ ∧ ∃ z3_ : Int32, bd 1 2000 z3_ ∧ Fs L kd f [(8, 6, q0_, .int z0_), (2, 11, a0_, .int z1_), (8, 8, q0_, .int y0_), (7, 6, q3_, .int z3_), (0, 2, q2_, .ref q6_)]) ∨ (eOK f q2_ ∧ ∃ z1_ : Int32, bd 1 7 z1_ ∧ ∃ z2_ : Int32, bd 1 2000 z2_ ∧ Fs L kd f [(8, 6, q0_, .int 1201), (8, 8, q0_, .int z1_), (7, 6, q3_, .int z2_), (0, 2, q2_, .ref q6_)])) (Q3 (dC, dI) L kd tys [(0, 2), (0, 8), (0, 10), (0, 11), (0, 12), (0, 13), (2, 11), (7, 6), (7, 18), (8, 6), (8, 8), (8, 9)] [110, 111, 112, 113, 114, 115, 118, 119, 120, 121, 138, 139] f0 sz) (pA L sz)) 0 0 (pA L sz) := by
  refine Met.ofW (cc := cX2_readTest) (maxL := 4) (ret := none) (by decide) rfl ?_
  intro p e s m args below meth c s₁ B hml hv
  obtain ⟨rfl, hsz, hP, hK, hD0⟩ := hv
  have hx := B.exec
  have hb := B.bytes
  have hr := B.returns
  have hts := atoms_spec (ws := (.code yX2_readTest cX2_readTest 4 none :: lw_g)) B.pre
  have hown : s.vm.findClass RX2 = some m.cls := findClass_of_methodNamed B.named
  have hlocks := B.notSynchronized
  subst hsz
  have g : G3 (dC, dI) L kd tys s f0 [(0, 2), (0, 8), (0, 10), (0, 11), (0, 12), (0, 13), (2, 11), (7, 6), (7, 18), (8, 6), (8, 8), (8, 9)] [110, 111, 112, 113, 114, 115, 118, 119, 120, 121, 138, 139] f0 s.heap [] [(2, 0, a0_, .ref q0_), (2, 1, a0_, .ref q1_), (2, 2, a0_, .ref q2_), (2, 3, a0_, .ref q3_), (0, 0, q2_, .ref q0_), (0, 1, q2_, .ref q1_), (5, 0, q1_, .ref q6_), (5, 1, q1_, .ref q7_), (8, 8, q0_, .int y0_)] := G3.start hP hD0 hWT hfx
  have hl := lv_entry ([.ref a0_, .int x1_]) (n := 4) (Nat.le_of_ble_eq_true rfl)
  rw [lg_entry_eq]
  generalize (lg_sl ([.ref a0_, .int x1_]) ++ List.replicate (4 - (lg_sl ([.ref a0_, .int x1_])).length) Slot.unset).toArray = ls at hl ⊢
  have hl : lv_has ls 4 [(0, .ref a0_), (1, .int x1_)] := hl
  refine W_q (fun Q hQ => ?_)
  refine lv_aload_n hx hb dX2_readTest_0 rfl (lv_at hl 0 rfl) ?_
  refine g_getk (C := RX2) (T := TX2) (N := 16) hx hb hts (mc_ inX2) hown hK g rfl 0 (by decide) rfl (hts _ (List.mem_cons_of_mem _ t_416)) (fun _ h9 => h9) 0 rfl dX2_readTest_1 ?_
  have go_ := g
  refine g_callv (va_runV (As := []) (rest := []) ⟨hx, hb, hml, hown, hts⟩ (r_X8_next l dC dI L kd tys f0 s.heap.size g.2.2.2.1 q0_ mq0_ kq0_) (cwV 0 hts (gV_ t_1131 t_1103 t_1104 t_184 t_1105) rfl rfl rfl (by decide +kernel) ⟨(Nat.le_of_ble_eq_true rfl), (Nat.le_of_ble_eq_true rfl)⟩) (pre3V g hK mq0_ kq0_ (by decide) (q := (RX8, TX8, 10)) rfl) rfl rfl hl.1 rfl (lv_room (Nat.le_of_ble_eq_true rfl)) dX2_readTest_4 ⟨(Nat.le_of_ble_eq_true rfl), (Nat.le_of_ble_eq_true rfl)⟩) g hK (by decide) (by decide) (fx' := [(2, 0, a0_, .ref q0_), (2, 1, a0_, .ref q1_), (2, 2, a0_, .ref q2_), (2, 3, a0_, .ref q3_), (0, 0, q2_, .ref q0_), (0, 1, q2_, .ref q1_), (5, 0, q1_, .ref q6_), (5, 1, q1_, .ref q7_), (8, 8, q0_, .int y0_)]) rfl (fun fr_1 H locs hp hMr_1 g => ?_)
  obtain ⟨x_2, h_3, hF_4⟩ := hp
  have hG_5 := eOK.frame hMr_1 go_.2.2.2.1 mq2_ kq2_ (by decide) (by decide) hGeq2_
  have g := g.more hF_4
  refine lv_aload_n hx hb dX2_readTest_7 rfl (lv_at hl 0 rfl) ?_
  refine g_getk (C := RX2) (T := TX2) (N := 16) hx hb hts (mc_ inX2) hown hK g rfl 3 (by decide) rfl (hts _ (List.mem_cons_of_mem _ t_419)) (fun _ h9 => h9) 4 rfl dX2_readTest_8 ?_
  refine g_geti (C := RX7) (T := TX7) (N := 19) hx hb hts (mc_ inX7) hown hK g mq3_ kq3_ (by decide) rfl 6 (by decide) rfl (hts _ (List.mem_cons_of_mem _ t_647)) (fun _ h9 => h9) rfl dX2_readTest_11 (fun x_6 bx_6 g => ?_)
  refine lv_istore_n (lv' := [(2, .int x_6), (0, .ref a0_), (1, .int x1_)]) hx hb dX2_readTest_14 rfl hl (by decide) rfl (fun ls hl => ?_)
  refine lv_iload_n hx hb dX2_readTest_15 rfl (lv_at hl 2 rfl) ?_
  refine lv_bipush (v := 25) hx hb dX2_readTest_16 (by decide) ?_
  have kb_25 : bd 25 25 (25 : Int32) := ⟨by decide, by decide⟩
  refine lv_icmp_ne (tgt := 31) hx hb dX2_readTest_18 (by decide) (fun c_7 => ?_) (fun c_7 => ?_)
  · have fc_7 := neq_f c_7
    refine lv_aload_n hx hb dX2_readTest_31 rfl (lv_at hl 1 rfl) ?_
    refine g_getk (C := RX2) (T := TX2) (N := 16) hx hb hts (mc_ inX2) hown hK g rfl 2 (by decide) rfl (hts _ (List.mem_cons_of_mem _ t_418)) (fun _ h9 => h9) 4 rfl dX2_readTest_32 ?_
    have go_ := g
    refine g_callv (va_runV (As := []) (rest := []) ⟨hx, hb, hml, hown, hts⟩ (r_X0_read l dC dI L kd tys fr_1 H.size g.2.2.2.1 q2_ mq2_ kq2_ q0_ mq0_ kq0_ q1_ mq1_ kq1_ q6_ mq6_ kq6_ q7_ mq7_ kq7_ y0_ by0_ hG_5 (g.fcts [6, 7, 8, 9, 10] rfl)) (cwV 0 hts (gV_ t_1182 t_1183 t_1184 t_190 t_1185) rfl rfl rfl (by decide +kernel) ⟨(Nat.le_of_ble_eq_true rfl), (Nat.le_of_ble_eq_true rfl)⟩) (pre3V g hK mq2_ kq2_ (by decide) (q := (RX0, TX0, 14)) rfl) rfl rfl hl.1 rfl (lv_room (Nat.le_of_ble_eq_true rfl)) dX2_readTest_35 ⟨(Nat.le_of_ble_eq_true rfl), (Nat.le_of_ble_eq_true rfl)⟩) g hK (by decide) (by decide) (fx' := [(2, 0, a0_, .ref q0_), (2, 1, a0_, .ref q1_), (2, 2, a0_, .ref q2_), (2, 3, a0_, .ref q3_), (0, 0, q2_, .ref q0_), (0, 1, q2_, .ref q1_), (5, 0, q1_, .ref q6_), (5, 1, q1_, .ref q7_)]) rfl (fun fr_8 H locs hp hMr_8 g => ?_)
    rcases hp with ⟨hG_9, hF_10⟩ | ⟨hG_11, x_12, h_13, x_14, h_15, hF_16⟩
    · have g := g.more hF_10
      refine lv_aload_n hx hb dX2_readTest_38 rfl (lv_at hl 1 rfl) ?_
      refine g_getk (C := RX2) (T := TX2) (N := 16) hx hb hts (mc_ inX2) hown hK g rfl 3 (by decide) rfl (hts _ (List.mem_cons_of_mem _ t_419)) (fun _ h9 => h9) 5 rfl dX2_readTest_39 ?_
      refine g_geti (C := RX7) (T := TX7) (N := 19) hx hb hts (mc_ inX7) hown hK g mq3_ kq3_ (by decide) rfl 6 (by decide) rfl (hts _ (List.mem_cons_of_mem _ t_647)) (fun _ h9 => h9) rfl dX2_readTest_42 (fun x_17 bx_17 g => ?_)
      refine lv_istore_n (lv' := [(3, .int x_17), (2, .int x_6), (0, .ref a0_), (1, .int x1_)]) hx hb dX2_readTest_45 rfl hl (by decide) rfl (fun ls hl => ?_)
      refine lv_aload_n hx hb dX2_readTest_46 rfl (lv_at hl 2 rfl) ?_
      refine g_getk (C := RX2) (T := TX2) (N := 16) hx hb hts (mc_ inX2) hown hK g rfl 3 (by decide) rfl (hts _ (List.mem_cons_of_mem _ t_419)) (fun _ h9 => h9) 6 rfl dX2_readTest_47 ?_
      refine lv_bipush (v := 23) hx hb dX2_readTest_50 (by decide) ?_
      refine lv_iconst (v := 0) hx hb dX2_readTest_52 (by decide) ?_
      have go_ := g
      refine g_callv (va_runV (As := [.int 23, .int 0]) (rest := []) ⟨hx, hb, hml, hown, hts⟩ (r_X7_emit l dC dI L kd tys fr_8 H.size g.2.2.2.1 q3_ mq3_ kq3_ 23 0) (cwV 2 hts (gV_ t_1301 t_1204 t_1205 t_191 t_1206) rfl rfl rfl (by decide +kernel) ⟨(Nat.le_of_ble_eq_true rfl), (Nat.le_of_ble_eq_true rfl)⟩) (pre3V g hK mq3_ kq3_ (by decide) (q := (RX7, TX7, 19)) rfl) rfl rfl hl.1 rfl (lv_room (Nat.le_of_ble_eq_true rfl)) dX2_readTest_53 ⟨(Nat.le_of_ble_eq_true rfl), (Nat.le_of_ble_eq_true rfl)⟩) g hK (by decide) (by decide) (fx' := [(0, 2, q2_, .ref q6_), (8, 8, q0_, .int y0_), (2, 0, a0_, .ref q0_), (2, 1, a0_, .ref q1_), (2, 2, a0_, .ref q2_), (2, 3, a0_, .ref q3_), (0, 0, q2_, .ref q0_), (0, 1, q2_, .ref q1_), (5, 0, q1_, .ref q6_), (5, 1, q1_, .ref q7_)]) rfl (fun fr_18 H locs hp hMr_18 g => ?_)
      obtain ⟨x_19, h_20, hF_21⟩ := hp
      have hG_22 := eOK.frame hMr_18 go_.2.2.2.1 mq2_ kq2_ (by decide) (by decide) hG_9
      have g := g.more hF_21
      refine lv_aload_n hx hb dX2_readTest_56 rfl (lv_at hl 2 rfl) ?_
      refine lv_iload_n hx hb dX2_readTest_57 rfl (lv_at hl 3 rfl) ?_
      refine lv_bipush (v := 25) hx hb dX2_readTest_58 (by decide) ?_
      refine lv_icmp_ne (tgt := 67) hx hb dX2_readTest_60 (by decide) (fun c_23 => ?_) (fun c_23 => ?_)
      · have fc_23 := neq_f c_23
        refine lv_iconst (v := 1) hx hb dX2_readTest_67 (by decide) ?_
        refine lv_iload_n hx hb dX2_readTest_68 rfl (lv_at hl 0 rfl) ?_
        refine lv_iload_n hx hb dX2_readTest_69 rfl (lv_at hl 1 rfl) ?_
        have go_ := g
        refine g_callv (va_runV (As := [.int 1, .int x_17, .int x_6]) (rest := []) ⟨hx, hb, hml, hown, hts⟩ (r_X2_openBlock l dC dI L kd tys fr_18 H.size g.2.2.2.1 a0_ ma0_ ka0_ 1 x_17 x_6 q0_ mq0_ kq0_ y0_ by0_ (g.fcts [3, 2] rfl)) (cwV 3 hts (gV_ t_1338 t_1340 t_40 t_183 t_1341) rfl rfl rfl (by decide +kernel) ⟨(Nat.le_of_ble_eq_true rfl), (Nat.le_of_ble_eq_true rfl)⟩) (pre3V g hK ma0_ ka0_ (by decide) (q := (RX2, TX2, 16)) rfl) rfl rfl hl.1 rfl (lv_room (Nat.le_of_ble_eq_true rfl)) dX2_readTest_70 ⟨(Nat.le_of_ble_eq_true rfl), (Nat.le_of_ble_eq_true rfl)⟩) g hK (by decide) (by decide) (fx' := [(7, 6, q3_, .int x_19), (0, 2, q2_, .ref q6_), (2, 0, a0_, .ref q0_), (2, 1, a0_, .ref q1_), (2, 2, a0_, .ref q2_), (2, 3, a0_, .ref q3_), (0, 0, q2_, .ref q0_), (0, 1, q2_, .ref q1_), (5, 0, q1_, .ref q6_), (5, 1, q1_, .ref q7_)]) rfl (fun fr_24 H locs hp hMr_24 g => ?_)
        rcases hp with ⟨x_25, h_26, x_27, h_28, hF_29⟩ | ⟨x_30, h_31, hF_32⟩
        · have hG_33 := eOK.frame hMr_24 go_.2.2.2.1 mq2_ kq2_ (by decide) (by decide) hG_22
          have g := g.more hF_29
          subst hQ
          exact W.vret hx hb hr (fun t ht hW => ⟨⟨_, rfl, Or.inl ⟨hG_33, x_25, h_26, x_27, h_28, x_19, h_20, (g.fcts [0, 1, 2, 3, 4] rfl)⟩, q3_of g hK ht hW⟩, g.2.2.1.F ht⟩) g.2.2.1.2.2 dX2_readTest_73
        · have hG_34 := eOK.frame hMr_24 go_.2.2.2.1 mq2_ kq2_ (by decide) (by decide) hG_22
          have g := g.more hF_32
          subst hQ
          exact W.vret hx hb hr (fun t ht hW => ⟨⟨_, rfl, Or.inr (⟨hG_34, x_30, h_31, x_19, h_20, (g.fcts [0, 1, 2, 3] rfl)⟩), q3_of g hK ht hW⟩, g.2.2.1.F ht⟩) g.2.2.1.2.2 dX2_readTest_73
      · have fc_23 := eq_f c_23
        exact absurd fc_23 fc_7
    · have g := g.more hF_16
      refine lv_aload_n hx hb dX2_readTest_38 rfl (lv_at hl 1 rfl) ?_
      refine g_getk (C := RX2) (T := TX2) (N := 16) hx hb hts (mc_ inX2) hown hK g rfl 3 (by decide) rfl (hts _ (List.mem_cons_of_mem _ t_419)) (fun _ h9 => h9) 6 rfl dX2_readTest_39 ?_
      refine g_geti (C := RX7) (T := TX7) (N := 19) hx hb hts (mc_ inX7) hown hK g mq3_ kq3_ (by decide) rfl 6 (by decide) rfl (hts _ (List.mem_cons_of_mem _ t_647)) (fun _ h9 => h9) rfl dX2_readTest_42 (fun x_35 bx_35 g => ?_)
      refine lv_istore_n (lv' := [(3, .int x_35), (2, .int x_6), (0, .ref a0_), (1, .int x1_)]) hx hb dX2_readTest_45 rfl hl (by decide) rfl (fun ls hl => ?_)
      refine lv_aload_n hx hb dX2_readTest_46 rfl (lv_at hl 2 rfl) ?_
      refine g_getk (C := RX2) (T := TX2) (N := 16) hx hb hts (mc_ inX2) hown hK g rfl 3 (by decide) rfl (hts _ (List.mem_cons_of_mem _ t_419)) (fun _ h9 => h9) 7 rfl dX2_readTest_47 ?_
      refine lv_bipush (v := 23) hx hb dX2_readTest_50 (by decide) ?_
      refine lv_iconst (v := 0) hx hb dX2_readTest_52 (by decide) ?_
      have go_ := g
      refine g_callv (va_runV (As := [.int 23, .int 0]) (rest := []) ⟨hx, hb, hml, hown, hts⟩ (r_X7_emit l dC dI L kd tys fr_8 H.size g.2.2.2.1 q3_ mq3_ kq3_ 23 0) (cwV 2 hts (gV_ t_1301 t_1204 t_1205 t_191 t_1206) rfl rfl rfl (by decide +kernel) ⟨(Nat.le_of_ble_eq_true rfl), (Nat.le_of_ble_eq_true rfl)⟩) (pre3V g hK mq3_ kq3_ (by decide) (q := (RX7, TX7, 19)) rfl) rfl rfl hl.1 rfl (lv_room (Nat.le_of_ble_eq_true rfl)) dX2_readTest_53 ⟨(Nat.le_of_ble_eq_true rfl), (Nat.le_of_ble_eq_true rfl)⟩) g hK (by decide) (by decide) (fx' := [(8, 6, q0_, .int x_12), (8, 8, q0_, .int x_14), (0, 2, q2_, .ref q6_), (2, 0, a0_, .ref q0_), (2, 1, a0_, .ref q1_), (2, 2, a0_, .ref q2_), (2, 3, a0_, .ref q3_), (0, 0, q2_, .ref q0_), (0, 1, q2_, .ref q1_), (5, 0, q1_, .ref q6_), (5, 1, q1_, .ref q7_)]) rfl (fun fr_36 H locs hp hMr_36 g => ?_)
      obtain ⟨x_37, h_38, hF_39⟩ := hp
      have hG_40 := eOK.frame hMr_36 go_.2.2.2.1 mq2_ kq2_ (by decide) (by decide) hG_11
      have g := g.more hF_39
      refine lv_aload_n hx hb dX2_readTest_56 rfl (lv_at hl 2 rfl) ?_
      refine lv_iload_n hx hb dX2_readTest_57 rfl (lv_at hl 3 rfl) ?_
      refine lv_bipush (v := 25) hx hb dX2_readTest_58 (by decide) ?_
      refine lv_icmp_ne (tgt := 67) hx hb dX2_readTest_60 (by decide) (fun c_41 => ?_) (fun c_41 => ?_)
      · have fc_41 := neq_f c_41
        refine lv_iconst (v := 1) hx hb dX2_readTest_67 (by decide) ?_
        refine lv_iload_n hx hb dX2_readTest_68 rfl (lv_at hl 0 rfl) ?_
        refine lv_iload_n hx hb dX2_readTest_69 rfl (lv_at hl 1 rfl) ?_
        have go_ := g
        refine g_callv (va_runV (As := [.int 1, .int x_35, .int x_6]) (rest := []) ⟨hx, hb, hml, hown, hts⟩ (r_X2_openBlock_2 l dC dI L kd tys fr_36 H.size g.2.2.2.1 a0_ ma0_ ka0_ 1 x_35 x_6 q0_ mq0_ kq0_ x_12 h_13 x_14 h_15 (g.fcts [4, 1, 2] rfl)) (cwV 3 hts (gV_ t_1338 t_1340 t_40 t_183 t_1341) rfl rfl rfl (by decide +kernel) ⟨(Nat.le_of_ble_eq_true rfl), (Nat.le_of_ble_eq_true rfl)⟩) (pre3V g hK ma0_ ka0_ (by decide) (q := (RX2, TX2, 16)) rfl) rfl rfl hl.1 rfl (lv_room (Nat.le_of_ble_eq_true rfl)) dX2_readTest_70 ⟨(Nat.le_of_ble_eq_true rfl), (Nat.le_of_ble_eq_true rfl)⟩) g hK (by decide) (by decide) (fx' := [(7, 6, q3_, .int x_37), (8, 8, q0_, .int x_14), (0, 2, q2_, .ref q6_), (2, 0, a0_, .ref q0_), (2, 1, a0_, .ref q1_), (2, 2, a0_, .ref q2_), (2, 3, a0_, .ref q3_), (0, 0, q2_, .ref q0_), (0, 1, q2_, .ref q1_), (5, 0, q1_, .ref q6_), (5, 1, q1_, .ref q7_)]) rfl (fun fr_42 H locs hp hMr_42 g => ?_)
        have hF_43 := hp
        have hG_44 := eOK.frame hMr_42 go_.2.2.2.1 mq2_ kq2_ (by decide) (by decide) hG_40
        have g := g.more hF_43
        subst hQ
        exact W.vret hx hb hr (fun t ht hW => ⟨⟨_, rfl, Or.inr (⟨hG_44, x_14, h_15, x_37, h_38, (g.fcts [0, 2, 1, 3] rfl)⟩), q3_of g hK ht hW⟩, g.2.2.1.F ht⟩) g.2.2.1.2.2 dX2_readTest_73
      · have fc_41 := eq_f c_41
        exact absurd fc_41 fc_7
  · have fc_7 := eq_f c_7
    have b_45 : bd 25 25 x1_ := eqX fc_7 (bdT x1_) kb_25 (by decide)
    refine lv_aload_n hx hb dX2_readTest_21 rfl (lv_at hl 1 rfl) ?_
    refine g_getk (C := RX2) (T := TX2) (N := 16) hx hb hts (mc_ inX2) hown hK g rfl 3 (by decide) rfl (hts _ (List.mem_cons_of_mem _ t_419)) (fun _ h9 => h9) 5 rfl dX2_readTest_22 ?_
    refine lv_bipush (v := 13) hx hb dX2_readTest_25 (by decide) ?_
    refine lv_iconst (v := 0) hx hb dX2_readTest_27 (by decide) ?_
    have go_ := g
    refine g_callv (va_runV (As := [.int 13, .int 0]) (rest := []) ⟨hx, hb, hml, hown, hts⟩ (r_X7_emit l dC dI L kd tys fr_1 H.size g.2.2.2.1 q3_ mq3_ kq3_ 13 0) (cwV 2 hts (gV_ t_1301 t_1204 t_1205 t_191 t_1206) rfl rfl rfl (by decide +kernel) ⟨(Nat.le_of_ble_eq_true rfl), (Nat.le_of_ble_eq_true rfl)⟩) (pre3V g hK mq3_ kq3_ (by decide) (q := (RX7, TX7, 19)) rfl) rfl rfl hl.1 rfl (lv_room (Nat.le_of_ble_eq_true rfl)) dX2_readTest_28 ⟨(Nat.le_of_ble_eq_true rfl), (Nat.le_of_ble_eq_true rfl)⟩) g hK (by decide) (by decide) (fx' := [(8, 6, q0_, .int x_2), (2, 0, a0_, .ref q0_), (2, 1, a0_, .ref q1_), (2, 2, a0_, .ref q2_), (2, 3, a0_, .ref q3_), (0, 0, q2_, .ref q0_), (0, 1, q2_, .ref q1_), (5, 0, q1_, .ref q6_), (5, 1, q1_, .ref q7_), (8, 8, q0_, .int y0_)]) rfl (fun fr_46 H locs hp hMr_46 g => ?_)
    obtain ⟨x_47, h_48, hF_49⟩ := hp
    have hG_50 := eOK.frame hMr_46 go_.2.2.2.1 mq2_ kq2_ (by decide) (by decide) hG_5
    have g := g.more hF_49
    refine lv_aload_n hx hb dX2_readTest_31 rfl (lv_at hl 1 rfl) ?_
    refine g_getk (C := RX2) (T := TX2) (N := 16) hx hb hts (mc_ inX2) hown hK g rfl 2 (by decide) rfl (hts _ (List.mem_cons_of_mem _ t_418)) (fun _ h9 => h9) 4 rfl dX2_readTest_32 ?_
    have go_ := g
    refine g_callv (va_runV (As := []) (rest := []) ⟨hx, hb, hml, hown, hts⟩ (r_X0_read l dC dI L kd tys fr_46 H.size g.2.2.2.1 q2_ mq2_ kq2_ q0_ mq0_ kq0_ q1_ mq1_ kq1_ q6_ mq6_ kq6_ q7_ mq7_ kq7_ y0_ by0_ hG_50 (g.fcts [6, 7, 8, 9, 10] rfl)) (cwV 0 hts (gV_ t_1182 t_1183 t_1184 t_190 t_1185) rfl rfl rfl (by decide +kernel) ⟨(Nat.le_of_ble_eq_true rfl), (Nat.le_of_ble_eq_true rfl)⟩) (pre3V g hK mq2_ kq2_ (by decide) (q := (RX0, TX0, 14)) rfl) rfl rfl hl.1 rfl (lv_room (Nat.le_of_ble_eq_true rfl)) dX2_readTest_35 ⟨(Nat.le_of_ble_eq_true rfl), (Nat.le_of_ble_eq_true rfl)⟩) g hK (by decide) (by decide) (fx' := [(2, 0, a0_, .ref q0_), (2, 1, a0_, .ref q1_), (2, 2, a0_, .ref q2_), (2, 3, a0_, .ref q3_), (0, 0, q2_, .ref q0_), (0, 1, q2_, .ref q1_), (5, 0, q1_, .ref q6_), (5, 1, q1_, .ref q7_)]) rfl (fun fr_51 H locs hp hMr_51 g => ?_)
    rcases hp with ⟨hG_52, hF_53⟩ | ⟨hG_54, x_55, h_56, x_57, h_58, hF_59⟩
    · have g := g.more hF_53
      refine lv_aload_n hx hb dX2_readTest_38 rfl (lv_at hl 1 rfl) ?_
      refine g_getk (C := RX2) (T := TX2) (N := 16) hx hb hts (mc_ inX2) hown hK g rfl 3 (by decide) rfl (hts _ (List.mem_cons_of_mem _ t_419)) (fun _ h9 => h9) 5 rfl dX2_readTest_39 ?_
      refine g_geti (C := RX7) (T := TX7) (N := 19) hx hb hts (mc_ inX7) hown hK g mq3_ kq3_ (by decide) rfl 6 (by decide) rfl (hts _ (List.mem_cons_of_mem _ t_647)) (fun _ h9 => h9) rfl dX2_readTest_42 (fun x_60 bx_60 g => ?_)
      refine lv_istore_n (lv' := [(3, .int x_60), (2, .int x_6), (0, .ref a0_), (1, .int x1_)]) hx hb dX2_readTest_45 rfl hl (by decide) rfl (fun ls hl => ?_)
      refine lv_aload_n hx hb dX2_readTest_46 rfl (lv_at hl 2 rfl) ?_
      refine g_getk (C := RX2) (T := TX2) (N := 16) hx hb hts (mc_ inX2) hown hK g rfl 3 (by decide) rfl (hts _ (List.mem_cons_of_mem _ t_419)) (fun _ h9 => h9) 6 rfl dX2_readTest_47 ?_
      refine lv_bipush (v := 23) hx hb dX2_readTest_50 (by decide) ?_
      refine lv_iconst (v := 0) hx hb dX2_readTest_52 (by decide) ?_
      have go_ := g
      refine g_callv (va_runV (As := [.int 23, .int 0]) (rest := []) ⟨hx, hb, hml, hown, hts⟩ (r_X7_emit l dC dI L kd tys fr_51 H.size g.2.2.2.1 q3_ mq3_ kq3_ 23 0) (cwV 2 hts (gV_ t_1301 t_1204 t_1205 t_191 t_1206) rfl rfl rfl (by decide +kernel) ⟨(Nat.le_of_ble_eq_true rfl), (Nat.le_of_ble_eq_true rfl)⟩) (pre3V g hK mq3_ kq3_ (by decide) (q := (RX7, TX7, 19)) rfl) rfl rfl hl.1 rfl (lv_room (Nat.le_of_ble_eq_true rfl)) dX2_readTest_53 ⟨(Nat.le_of_ble_eq_true rfl), (Nat.le_of_ble_eq_true rfl)⟩) g hK (by decide) (by decide) (fx' := [(0, 2, q2_, .ref q6_), (8, 8, q0_, .int y0_), (2, 0, a0_, .ref q0_), (2, 1, a0_, .ref q1_), (2, 2, a0_, .ref q2_), (2, 3, a0_, .ref q3_), (0, 0, q2_, .ref q0_), (0, 1, q2_, .ref q1_), (5, 0, q1_, .ref q6_), (5, 1, q1_, .ref q7_)]) rfl (fun fr_61 H locs hp hMr_61 g => ?_)
      obtain ⟨x_62, h_63, hF_64⟩ := hp
      have hG_65 := eOK.frame hMr_61 go_.2.2.2.1 mq2_ kq2_ (by decide) (by decide) hG_52
      have g := g.more hF_64
      refine lv_aload_n hx hb dX2_readTest_56 rfl (lv_at hl 2 rfl) ?_
      refine lv_iload_n hx hb dX2_readTest_57 rfl (lv_at hl 3 rfl) ?_
      refine lv_bipush (v := 25) hx hb dX2_readTest_58 (by decide) ?_
      refine lv_icmp_ne (tgt := 67) hx hb dX2_readTest_60 (by decide) (fun c_66 => ?_) (fun c_66 => ?_)
      · have fc_66 := neq_f c_66
        have b_67 : bd 26 24 x1_ := neX fc_66 b_45 kb_25 (by decide)
        exact bd_no b_67 (by decide)
      · have fc_66 := eq_f c_66
        refine lv_iconst (v := 3) hx hb dX2_readTest_63 (by decide) ?_
        refine lv_goto (tgt := 68) hx hb dX2_readTest_64 (by decide) ?_
        refine lv_iload_n hx hb dX2_readTest_68 rfl (lv_at hl 0 rfl) ?_
        refine lv_iload_n hx hb dX2_readTest_69 rfl (lv_at hl 1 rfl) ?_
        have go_ := g
        refine g_callv (va_runV (As := [.int 3, .int x_60, .int x_6]) (rest := []) ⟨hx, hb, hml, hown, hts⟩ (r_X2_openBlock l dC dI L kd tys fr_61 H.size g.2.2.2.1 a0_ ma0_ ka0_ 3 x_60 x_6 q0_ mq0_ kq0_ y0_ by0_ (g.fcts [3, 2] rfl)) (cwV 3 hts (gV_ t_1338 t_1340 t_40 t_183 t_1341) rfl rfl rfl (by decide +kernel) ⟨(Nat.le_of_ble_eq_true rfl), (Nat.le_of_ble_eq_true rfl)⟩) (pre3V g hK ma0_ ka0_ (by decide) (q := (RX2, TX2, 16)) rfl) rfl rfl hl.1 rfl (lv_room (Nat.le_of_ble_eq_true rfl)) dX2_readTest_70 ⟨(Nat.le_of_ble_eq_true rfl), (Nat.le_of_ble_eq_true rfl)⟩) g hK (by decide) (by decide) (fx' := [(7, 6, q3_, .int x_62), (0, 2, q2_, .ref q6_), (2, 0, a0_, .ref q0_), (2, 1, a0_, .ref q1_), (2, 2, a0_, .ref q2_), (2, 3, a0_, .ref q3_), (0, 0, q2_, .ref q0_), (0, 1, q2_, .ref q1_), (5, 0, q1_, .ref q6_), (5, 1, q1_, .ref q7_)]) rfl (fun fr_68 H locs hp hMr_68 g => ?_)
        rcases hp with ⟨x_69, h_70, x_71, h_72, hF_73⟩ | ⟨x_74, h_75, hF_76⟩
        · have hG_77 := eOK.frame hMr_68 go_.2.2.2.1 mq2_ kq2_ (by decide) (by decide) hG_65
          have g := g.more hF_73
          subst hQ
          exact W.vret hx hb hr (fun t ht hW => ⟨⟨_, rfl, Or.inl ⟨hG_77, x_69, h_70, x_71, h_72, x_62, h_63, (g.fcts [0, 1, 2, 3, 4] rfl)⟩, q3_of g hK ht hW⟩, g.2.2.1.F ht⟩) g.2.2.1.2.2 dX2_readTest_73
        · have hG_78 := eOK.frame hMr_68 go_.2.2.2.1 mq2_ kq2_ (by decide) (by decide) hG_65
          have g := g.more hF_76
          subst hQ
          exact W.vret hx hb hr (fun t ht hW => ⟨⟨_, rfl, Or.inr (⟨hG_78, x_74, h_75, x_62, h_63, (g.fcts [0, 1, 2, 3] rfl)⟩), q3_of g hK ht hW⟩, g.2.2.1.F ht⟩) g.2.2.1.2.2 dX2_readTest_73
    · have g := g.more hF_59
      refine lv_aload_n hx hb dX2_readTest_38 rfl (lv_at hl 1 rfl) ?_
      refine g_getk (C := RX2) (T := TX2) (N := 16) hx hb hts (mc_ inX2) hown hK g rfl 3 (by decide) rfl (hts _ (List.mem_cons_of_mem _ t_419)) (fun _ h9 => h9) 6 rfl dX2_readTest_39 ?_
      refine g_geti (C := RX7) (T := TX7) (N := 19) hx hb hts (mc_ inX7) hown hK g mq3_ kq3_ (by decide) rfl 6 (by decide) rfl (hts _ (List.mem_cons_of_mem _ t_647)) (fun _ h9 => h9) rfl dX2_readTest_42 (fun x_79 bx_79 g => ?_)
      refine lv_istore_n (lv' := [(3, .int x_79), (2, .int x_6), (0, .ref a0_), (1, .int x1_)]) hx hb dX2_readTest_45 rfl hl (by decide) rfl (fun ls hl => ?_)
      refine lv_aload_n hx hb dX2_readTest_46 rfl (lv_at hl 2 rfl) ?_
      refine g_getk (C := RX2) (T := TX2) (N := 16) hx hb hts (mc_ inX2) hown hK g rfl 3 (by decide) rfl (hts _ (List.mem_cons_of_mem _ t_419)) (fun _ h9 => h9) 7 rfl dX2_readTest_47 ?_
      refine lv_bipush (v := 23) hx hb dX2_readTest_50 (by decide) ?_
      refine lv_iconst (v := 0) hx hb dX2_readTest_52 (by decide) ?_
      have go_ := g
      refine g_callv (va_runV (As := [.int 23, .int 0]) (rest := []) ⟨hx, hb, hml, hown, hts⟩ (r_X7_emit l dC dI L kd tys fr_51 H.size g.2.2.2.1 q3_ mq3_ kq3_ 23 0) (cwV 2 hts (gV_ t_1301 t_1204 t_1205 t_191 t_1206) rfl rfl rfl (by decide +kernel) ⟨(Nat.le_of_ble_eq_true rfl), (Nat.le_of_ble_eq_true rfl)⟩) (pre3V g hK mq3_ kq3_ (by decide) (q := (RX7, TX7, 19)) rfl) rfl rfl hl.1 rfl (lv_room (Nat.le_of_ble_eq_true rfl)) dX2_readTest_53 ⟨(Nat.le_of_ble_eq_true rfl), (Nat.le_of_ble_eq_true rfl)⟩) g hK (by decide) (by decide) (fx' := [(8, 6, q0_, .int x_55), (8, 8, q0_, .int x_57), (0, 2, q2_, .ref q6_), (2, 0, a0_, .ref q0_), (2, 1, a0_, .ref q1_), (2, 2, a0_, .ref q2_), (2, 3, a0_, .ref q3_), (0, 0, q2_, .ref q0_), (0, 1, q2_, .ref q1_), (5, 0, q1_, .ref q6_), (5, 1, q1_, .ref q7_)]) rfl (fun fr_80 H locs hp hMr_80 g => ?_)
      obtain ⟨x_81, h_82, hF_83⟩ := hp
      have hG_84 := eOK.frame hMr_80 go_.2.2.2.1 mq2_ kq2_ (by decide) (by decide) hG_54
      have g := g.more hF_83
      refine lv_aload_n hx hb dX2_readTest_56 rfl (lv_at hl 2 rfl) ?_
      refine lv_iload_n hx hb dX2_readTest_57 rfl (lv_at hl 3 rfl) ?_
      refine lv_bipush (v := 25) hx hb dX2_readTest_58 (by decide) ?_
      refine lv_icmp_ne (tgt := 67) hx hb dX2_readTest_60 (by decide) (fun c_85 => ?_) (fun c_85 => ?_)
      · have fc_85 := neq_f c_85
        have b_86 : bd 26 24 x1_ := neX fc_85 b_45 kb_25 (by decide)
        exact bd_no b_86 (by decide)
      · have fc_85 := eq_f c_85
        refine lv_iconst (v := 3) hx hb dX2_readTest_63 (by decide) ?_
        refine lv_goto (tgt := 68) hx hb dX2_readTest_64 (by decide) ?_
        refine lv_iload_n hx hb dX2_readTest_68 rfl (lv_at hl 0 rfl) ?_
        refine lv_iload_n hx hb dX2_readTest_69 rfl (lv_at hl 1 rfl) ?_
        have go_ := g
        refine g_callv (va_runV (As := [.int 3, .int x_79, .int x_6]) (rest := []) ⟨hx, hb, hml, hown, hts⟩ (r_X2_openBlock_2 l dC dI L kd tys fr_80 H.size g.2.2.2.1 a0_ ma0_ ka0_ 3 x_79 x_6 q0_ mq0_ kq0_ x_55 h_56 x_57 h_58 (g.fcts [4, 1, 2] rfl)) (cwV 3 hts (gV_ t_1338 t_1340 t_40 t_183 t_1341) rfl rfl rfl (by decide +kernel) ⟨(Nat.le_of_ble_eq_true rfl), (Nat.le_of_ble_eq_true rfl)⟩) (pre3V g hK ma0_ ka0_ (by decide) (q := (RX2, TX2, 16)) rfl) rfl rfl hl.1 rfl (lv_room (Nat.le_of_ble_eq_true rfl)) dX2_readTest_70 ⟨(Nat.le_of_ble_eq_true rfl), (Nat.le_of_ble_eq_true rfl)⟩) g hK (by decide) (by decide) (fx' := [(7, 6, q3_, .int x_81), (8, 8, q0_, .int x_57), (0, 2, q2_, .ref q6_), (2, 0, a0_, .ref q0_), (2, 1, a0_, .ref q1_), (2, 2, a0_, .ref q2_), (2, 3, a0_, .ref q3_), (0, 0, q2_, .ref q0_), (0, 1, q2_, .ref q1_), (5, 0, q1_, .ref q6_), (5, 1, q1_, .ref q7_)]) rfl (fun fr_87 H locs hp hMr_87 g => ?_)
        have hF_88 := hp
        have hG_89 := eOK.frame hMr_87 go_.2.2.2.1 mq2_ kq2_ (by decide) (by decide) hG_84
        have g := g.more hF_88
        subst hQ
        exact W.vret hx hb hr (fun t ht hW => ⟨⟨_, rfl, Or.inr (⟨hG_89, x_57, h_58, x_81, h_82, (g.fcts [0, 2, 1, 3] rfl)⟩), q3_of g hK ht hW⟩, g.2.2.1.F ht⟩) g.2.2.1.2.2 dX2_readTest_73
