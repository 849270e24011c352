set_option maxHeartbeats 4000000 in
set_option maxRecDepth 100000 in
theorem r_X2_readLet_2 (l : Launch) (dC : Nat → ClassId) (dI : Nat → Nat → Nat) (L : List Nat) (kd : Nat → Nat) (tys : List (ClassId × FieldType)) (f0 : Nat → va_E) (sz : Nat) (hWT : WT L kd tys f0) (a0_ : Nat) (ma0_ : a0_ ∈ L) (ka0_ : kd a0_ = 2) (q0_ : Nat) (mq0_ : q0_ ∈ L) (kq0_ : kd q0_ = 8) (q1_ : Nat) (mq1_ : q1_ ∈ L) (kq1_ : kd q1_ = 5) (q2_ : Nat) (mq2_ : q2_ ∈ L) (kq2_ : kd q2_ = 0) (q3_ : Nat) (mq3_ : q3_ ∈ L) (kq3_ : kd q3_ = 7) (q6_ : Nat) (mq6_ : q6_ ∈ L) (kq6_ : kd q6_ = 7) (q7_ : Nat) (mq7_ : q7_ ∈ L) (kq7_ : kd q7_ = 9) (y0_ : Int32) (by0_ : bd 0 0 y0_) (hGeq2_ : eOK f0 q2_) (hfx : Fs L kd f0 [(2, 0, a0_, .ref q0_), (2, 1, a0_, .ref q1_), (2, 2, a0_, .ref q2_), (2, 3, a0_, .ref q3_), (0, 0, q2_, .ref q0_), (0, 1, q2_, .ref q1_), (5, 0, q1_, .ref q6_), (5, 1, q1_, .ref q7_), (8, 8, q0_, .int y0_)]) : Met l yX2_readLet (.code yX2_readLet cX2_readLet 5 none :: lw_g) ({ frames := 4, cells := 0, slots := 0, locals := 97 }) (va_Pc [.ref a0_] (P3 (dC, dI) L tys f0 sz)) (va_Qv (fun (f : Nat → va_E) => (eOK f q2_ ∧ ∃ z0_ : Int32, bd 1 1201 z0_ ∧ ∃ z1_ : Int32, bd 0 0 z1_ ∧ ∃ z2_ : Int32, bd 1 2000 z2_ ∧ ∃ z4_ : Int32, bd 1 8 z4_ ∧ Fs L kd f [(8, 6, q0_, .int z0_), (8, 8, q0_, .int z1_), (7, 6, q3_, .int z2_), (0, 2, q2_, .ref q6_), (5, 6, q1_, .int z4_)]) ∨ (eOK f q2_ ∧ ∃ z0_ : Int32, bd 1201 1201 z0_ ∧ ∃ z1_ : Int32, bd 1 7 z1_ ∧ ∃ z2_ : Int32, bd 1 2000 z2_ ∧ Fs L kd f [(8, 6, q0_, .int z0_), (8, 8, q0_, .int z1_), (7, 6, q3_, .int z2_), (0, 2, q2_, .ref q6_)])) (Q3 (dC, dI) L kd tys [(0, 2), (0, 8), (0, 10), (0, 11), (0, 12), (0, 13), (5, 6), (7, 6), (7, 18), (8, 6), (8, 8), (8, 9)] [110, 111, 112, 113, 114, 115, 133, 138, 139] f0 sz) (pA L sz)) 0 0 (pA L sz) := by
  refine Met.ofW (cc := cX2_readLet) (maxL := 5) (ret := none) (by decide) rfl ?_
  intro p e s m args below meth c s₁ B hml hv
  obtain ⟨rfl, hsz, hP, hK, hD0⟩ := hv
  have hx := B.exec
  have hb := B.bytes
  have hr := B.returns
  have hts := atoms_spec (ws := (.code yX2_readLet cX2_readLet 5 none :: lw_g)) B.pre
  have hown : s.vm.findClass RX2 = some m.cls := findClass_of_methodNamed B.named
  have hlocks := B.notSynchronized
  subst hsz
  have g : G3 (dC, dI) L kd tys s f0 [(0, 2), (0, 8), (0, 10), (0, 11), (0, 12), (0, 13), (5, 6), (7, 6), (7, 18), (8, 6), (8, 8), (8, 9)] [110, 111, 112, 113, 114, 115, 133, 138, 139] f0 s.heap [] [(2, 0, a0_, .ref q0_), (2, 1, a0_, .ref q1_), (2, 2, a0_, .ref q2_), (2, 3, a0_, .ref q3_), (0, 0, q2_, .ref q0_), (0, 1, q2_, .ref q1_), (5, 0, q1_, .ref q6_), (5, 1, q1_, .ref q7_), (8, 8, q0_, .int y0_)] := G3.start hP hD0 hWT hfx
  have hl := lv_entry ([.ref a0_]) (n := 5) (Nat.le_of_ble_eq_true rfl)
  rw [lg_entry_eq]
  generalize (lg_sl ([.ref a0_]) ++ List.replicate (5 - (lg_sl ([.ref a0_])).length) Slot.unset).toArray = ls at hl ⊢
  have hl : lv_has ls 5 [(0, .ref a0_)] := hl
  refine W_q (fun Q hQ => ?_)
  refine lv_aload_n hx hb dX2_readLet_0 rfl (lv_at hl 0 rfl) ?_
  refine g_getk (C := RX2) (T := TX2) (N := 16) hx hb hts (mc_ inX2) hown hK g rfl 0 (by decide) rfl (hts _ (List.mem_cons_of_mem _ t_416)) (fun _ h9 => h9) 0 rfl dX2_readLet_1 ?_
  have go_ := g
  refine g_callv (va_runV (As := []) (rest := []) ⟨hx, hb, hml, hown, hts⟩ (r_X8_next l dC dI L kd tys f0 s.heap.size g.2.2.2.1 q0_ mq0_ kq0_) (cwV 0 hts (gV_ t_1131 t_1103 t_1104 t_184 t_1105) rfl rfl rfl (by decide +kernel) ⟨(Nat.le_of_ble_eq_true rfl), (Nat.le_of_ble_eq_true rfl)⟩) (pre3V g hK mq0_ kq0_ (by decide) (q := (RX8, TX8, 10)) rfl) rfl rfl hl.1 rfl (lv_room (Nat.le_of_ble_eq_true rfl)) dX2_readLet_4 ⟨(Nat.le_of_ble_eq_true rfl), (Nat.le_of_ble_eq_true rfl)⟩) g hK (by decide) (by decide) (fx' := [(2, 0, a0_, .ref q0_), (2, 1, a0_, .ref q1_), (2, 2, a0_, .ref q2_), (2, 3, a0_, .ref q3_), (0, 0, q2_, .ref q0_), (0, 1, q2_, .ref q1_), (5, 0, q1_, .ref q6_), (5, 1, q1_, .ref q7_), (8, 8, q0_, .int y0_)]) rfl (fun fr_1 H locs hp hMr_1 g => ?_)
  obtain ⟨x_2, h_3, hF_4⟩ := hp
  have hG_5 := eOK.frame hMr_1 go_.2.2.2.1 mq2_ kq2_ (by decide) (by decide) hGeq2_
  have g := g.more hF_4
  refine lv_aload_n hx hb dX2_readLet_7 rfl (lv_at hl 0 rfl) ?_
  refine g_getk (C := RX2) (T := TX2) (N := 16) hx hb hts (mc_ inX2) hown hK g rfl 0 (by decide) rfl (hts _ (List.mem_cons_of_mem _ t_416)) (fun _ h9 => h9) 1 rfl dX2_readLet_8 ?_
  have go_ := g
  refine g_calli (va_runV (As := []) (rest := []) ⟨hx, hb, hml, hown, hts⟩ (r_X8_place l dC dI L kd tys fr_1 H.size g.2.2.2.1 q0_ mq0_ kq0_) (cwV 0 hts (gV_ t_1110 t_1111 t_1112 t_184 t_1113) rfl rfl rfl (by decide +kernel) ⟨(Nat.le_of_ble_eq_true rfl), (Nat.le_of_ble_eq_true rfl)⟩) (pre3V g hK mq0_ kq0_ (by decide) (q := (RX8, TX8, 10)) rfl) rfl rfl hl.1 rfl (lv_room (Nat.le_of_ble_eq_true rfl)) dX2_readLet_11 ⟨(Nat.le_of_ble_eq_true rfl), (Nat.le_of_ble_eq_true rfl)⟩) g hK (by decide) (by decide) (fx' := [(8, 6, q0_, .int x_2), (2, 0, a0_, .ref q0_), (2, 1, a0_, .ref q1_), (2, 2, a0_, .ref q2_), (2, 3, a0_, .ref q3_), (0, 0, q2_, .ref q0_), (0, 1, q2_, .ref q1_), (5, 0, q1_, .ref q6_), (5, 1, q1_, .ref q7_), (8, 8, q0_, .int y0_)]) rfl (fun r_6 fr_6 H locs hp hMr_6 g => ?_)
  have hG_7 := eOK.frame hMr_6 go_.2.2.2.1 mq2_ kq2_ (by decide) (by decide) hG_5
  refine lv_istore_n (lv' := [(1, .int r_6), (0, .ref a0_)]) hx hb dX2_readLet_14 rfl hl (by decide) rfl (fun ls hl => ?_)
  refine lv_aload_n hx hb dX2_readLet_15 rfl (lv_at hl 1 rfl) ?_
  refine g_getk (C := RX2) (T := TX2) (N := 16) hx hb hts (mc_ inX2) hown hK g rfl 0 (by decide) rfl (hts _ (List.mem_cons_of_mem _ t_416)) (fun _ h9 => h9) 1 rfl dX2_readLet_16 ?_
  have go_ := g
  refine g_calll (va_runV (As := []) (rest := []) ⟨hx, hb, hml, hown, hts⟩ (r_X8_value l dC dI L kd tys fr_6 H.size g.2.2.2.1 q0_ mq0_ kq0_) (cwV 0 hts (gV_ t_1114 t_1115 t_1116 t_184 t_1117) rfl rfl rfl (by decide +kernel) ⟨(Nat.le_of_ble_eq_true rfl), (Nat.le_of_ble_eq_true rfl)⟩) (pre3V g hK mq0_ kq0_ (by decide) (q := (RX8, TX8, 10)) rfl) rfl rfl hl.1 rfl (lv_room (Nat.le_of_ble_eq_true rfl)) dX2_readLet_19 ⟨(Nat.le_of_ble_eq_true rfl), (Nat.le_of_ble_eq_true rfl)⟩) g hK (by decide) (by decide) (fx' := [(8, 6, q0_, .int x_2), (2, 0, a0_, .ref q0_), (2, 1, a0_, .ref q1_), (2, 2, a0_, .ref q2_), (2, 3, a0_, .ref q3_), (0, 0, q2_, .ref q0_), (0, 1, q2_, .ref q1_), (5, 0, q1_, .ref q6_), (5, 1, q1_, .ref q7_), (8, 8, q0_, .int y0_)]) rfl (fun r_8 fr_8 H locs hp hMr_8 g => ?_)
  have hG_9 := eOK.frame hMr_8 go_.2.2.2.1 mq2_ kq2_ (by decide) (by decide) hG_7
  refine lv_lstore_n (lv' := [(2, .long r_8), (1, .int r_6), (0, .ref a0_)]) hx hb dX2_readLet_22 rfl hl (by decide) rfl (fun ls hl => ?_)
  refine lv_aload_n hx hb dX2_readLet_23 rfl (lv_at hl 2 rfl) ?_
  refine g_getk (C := RX2) (T := TX2) (N := 16) hx hb hts (mc_ inX2) hown hK g rfl 1 (by decide) rfl (hts _ (List.mem_cons_of_mem _ t_417)) (fun _ h9 => h9) 2 rfl dX2_readLet_24 ?_
  refine g_geti (C := RX5) (T := TX5) (N := 9) hx hb hts (mc_ inX5) hown hK g mq1_ kq1_ (by decide) rfl 6 (by decide) rfl (hts _ (List.mem_cons_of_mem _ t_341)) (fun _ h9 => h9) rfl dX2_readLet_27 (fun x_10 bx_10 g => ?_)
  refine lv_istore (lv' := [(4, .int x_10), (2, .long r_8), (1, .int r_6), (0, .ref a0_)]) hx hb dX2_readLet_30 hl (by decide) rfl (fun ls hl => ?_)
  refine lv_aload_n hx hb dX2_readLet_32 rfl (lv_at hl 3 rfl) ?_
  refine g_getk (C := RX2) (T := TX2) (N := 16) hx hb hts (mc_ inX2) hown hK g rfl 0 (by decide) rfl (hts _ (List.mem_cons_of_mem _ t_416)) (fun _ h9 => h9) 2 rfl dX2_readLet_33 ?_
  have go_ := g
  refine g_calli (va_runV (As := []) (rest := []) ⟨hx, hb, hml, hown, hts⟩ (r_X8_kind l dC dI L kd tys fr_8 H.size g.2.2.2.1 q0_ mq0_ kq0_) (cwV 0 hts (gV_ t_1118 t_1119 t_1120 t_184 t_1121) rfl rfl rfl (by decide +kernel) ⟨(Nat.le_of_ble_eq_true rfl), (Nat.le_of_ble_eq_true rfl)⟩) (pre3V g hK mq0_ kq0_ (by decide) (q := (RX8, TX8, 10)) rfl) rfl rfl hl.1 rfl (lv_room (Nat.le_of_ble_eq_true rfl)) dX2_readLet_36 ⟨(Nat.le_of_ble_eq_true rfl), (Nat.le_of_ble_eq_true rfl)⟩) g hK (by decide) (by decide) (fx' := [(5, 6, q1_, .int x_10), (8, 6, q0_, .int x_2), (2, 0, a0_, .ref q0_), (2, 1, a0_, .ref q1_), (2, 2, a0_, .ref q2_), (2, 3, a0_, .ref q3_), (0, 0, q2_, .ref q0_), (0, 1, q2_, .ref q1_), (5, 0, q1_, .ref q6_), (5, 1, q1_, .ref q7_), (8, 8, q0_, .int y0_)]) rfl (fun r_11 fr_11 H locs hp hMr_11 g => ?_)
  have hG_12 := eOK.frame hMr_11 go_.2.2.2.1 mq2_ kq2_ (by decide) (by decide) hG_9
  refine lv_iconst (v := 3) hx hb dX2_readLet_39 (by decide) ?_
  have kb_3 : bd 3 3 (3 : Int32) := ⟨by decide, by decide⟩
  refine lv_icmp_eq (tgt := 55) hx hb dX2_readLet_40 (by decide) (fun c_13 => ?_) (fun c_13 => ?_)
  · have fc_13 := eq_f c_13
    have b_14 : bd 3 3 r_11 := eqX fc_13 (bdT r_11) kb_3 (by decide)
    refine lv_aload_n hx hb dX2_readLet_55 rfl (lv_at hl 3 rfl) ?_
    refine g_getk (C := RX2) (T := TX2) (N := 16) hx hb hts (mc_ inX2) hown hK g rfl 1 (by decide) rfl (hts _ (List.mem_cons_of_mem _ t_417)) (fun _ h9 => h9) 3 rfl dX2_readLet_56 ?_
    refine lv_lload_n hx hb dX2_readLet_59 rfl (lv_at hl 1 rfl) ?_
    have go_ := g
    refine g_calli (va_runV (As := [.long r_8]) (rest := []) ⟨hx, hb, hml, hown, hts⟩ (r_X5_placeNamed l dC dI L kd tys fr_11 H.size g.2.2.2.1 q1_ mq1_ kq1_ r_8 q7_ mq7_ kq7_ (g.fcts [9] rfl)) (cwV 1 hts (gV_ t_1317 t_1252 t_1253 t_189 t_1254) rfl rfl rfl (by decide +kernel) ⟨(Nat.le_of_ble_eq_true rfl), (Nat.le_of_ble_eq_true rfl)⟩) (pre3V g hK mq1_ kq1_ (by decide) (q := (RX5, TX5, 9)) rfl) rfl rfl hl.1 rfl (lv_room (Nat.le_of_ble_eq_true rfl)) dX2_readLet_60 ⟨(Nat.le_of_ble_eq_true rfl), (Nat.le_of_ble_eq_true rfl)⟩) g hK (by decide) (by decide) (fx' := [(5, 6, q1_, .int x_10), (8, 6, q0_, .int x_2), (2, 0, a0_, .ref q0_), (2, 1, a0_, .ref q1_), (2, 2, a0_, .ref q2_), (2, 3, a0_, .ref q3_), (0, 0, q2_, .ref q0_), (0, 1, q2_, .ref q1_), (5, 0, q1_, .ref q6_), (5, 1, q1_, .ref q7_), (8, 8, q0_, .int y0_)]) rfl (fun r_15 fr_15 H locs hp hMr_15 g => ?_)
    obtain ⟨h_16, -⟩ := hp
    have hG_17 := eOK.frame hMr_15 go_.2.2.2.1 mq2_ kq2_ (by decide) (by decide) hG_12
    refine lv_iconst (v := (-1)) hx hb dX2_readLet_63 (by decide) ?_
    have kb_m1 : bd (-1) (-1) ((-1) : Int32) := ⟨by decide, by decide⟩
    refine lv_icmp_eq (tgt := 79) hx hb dX2_readLet_64 (by decide) (fun c_18 => ?_) (fun c_18 => ?_)
    · have fc_18 := eq_f c_18
      have b_19 : bd (-1) (-1) r_15 := eqX fc_18 h_16 kb_m1 (by decide)
      refine lv_iload hx hb dX2_readLet_79 (lv_at hl 0 rfl) ?_
      refine lv_bipush (v := 8) hx hb dX2_readLet_81 (by decide) ?_
      have kb_8 : bd 8 8 (8 : Int32) := ⟨by decide, by decide⟩
      refine lv_icmp_lt (tgt := 98) hx hb dX2_readLet_83 (by decide) (fun c_20 => ?_) (fun c_20 => ?_)
      · have fc_20 := lt_f c_20
        have b_21 : bd 0 7 x_10 := ltL fc_20 bx_10 kb_8 (by decide)
        refine lv_aload_n hx hb dX2_readLet_98 rfl (lv_at hl 3 rfl) ?_
        refine g_getk (C := RX2) (T := TX2) (N := 16) hx hb hts (mc_ inX2) hown hK g rfl 1 (by decide) rfl (hts _ (List.mem_cons_of_mem _ t_417)) (fun _ h9 => h9) 3 rfl dX2_readLet_99 ?_
        refine g_getr (K := 133) (C := RX5) (T := TX5) (N := 9) hx hb hts (mc_ inX5) hown hK g mq1_ kq1_ (by decide) rfl 5 (by decide) rfl (hts _ (List.mem_cons_of_mem _ t_339)) (fun _ h9 => h9) rfl dX2_readLet_102 (fun a_22 ma_22 ka_22 g => ?_)
        refine lv_iload hx hb dX2_readLet_105 (lv_at hl 0 rfl) ?_
        refine lv_lload_n hx hb dX2_readLet_107 rfl (lv_at hl 1 rfl) ?_
        have go_ := g
        refine g_last hx hb hK g ma_22 ka_22 (by decide) rfl (in_bd b_21 (by decide)) (by decide) dX2_readLet_108 (fun f H locs hM_23 g => ?_)
        have hG_24 := eOK.frame hM_23 go_.2.2.2.1 mq2_ kq2_ (by decide) (by decide) hG_17
        refine lv_aload_n hx hb dX2_readLet_109 rfl (lv_at hl 3 rfl) ?_
        refine g_getk (C := RX2) (T := TX2) (N := 16) hx hb hts (mc_ inX2) hown hK g rfl 1 (by decide) rfl (hts _ (List.mem_cons_of_mem _ t_417)) (fun _ h9 => h9) 4 rfl dX2_readLet_110 ?_
        refine lv_iload hx hb dX2_readLet_113 (lv_at hl 0 rfl) ?_
        refine lv_iconst (v := 1) hx hb dX2_readLet_115 (by decide) ?_
        have kb_1 : bd 1 1 (1 : Int32) := ⟨by decide, by decide⟩
        refine lv_iadd hx hb dX2_readLet_116 ?_
        refine lv_topi (fun y_25 ey_25 => ?_)
        have ty_25 := add_bd ey_25 b_21 kb_1 (by decide)
        have b_26 : bd 1 8 y_25 := add_rg ty_25 b_21 kb_1 (by decide)
        have go_ := g
        refine g_put (C := RX5) (T := TX5) (N := 9) hx hb hts (mc_ inX5) tyX5 tyX5_ok nmX5 hown hK g mq1_ kq1_ (by decide) rfl 6 (by decide) (hts _ (List.mem_cons_of_mem _ t_341)) (fun _ h9 => h9) rfl rfl (okV_i (bd_sub b_26 (by decide))) rfl rfl (by decide) (Or.inr (Or.inl (by decide))) (fx' := [(5, 5, q1_, .ref a_22), (8, 6, q0_, .int x_2), (2, 0, a0_, .ref q0_), (2, 1, a0_, .ref q1_), (2, 2, a0_, .ref q2_), (2, 3, a0_, .ref q3_), (0, 0, q2_, .ref q0_), (0, 1, q2_, .ref q1_), (5, 0, q1_, .ref q6_), (5, 1, q1_, .ref q7_), (8, 8, q0_, .int y0_)]) rfl dX2_readLet_117 (fun f H locs hM_27 g => ?_)
        have hG_28 := eOK.frame hM_27 go_.2.2.2.1 mq2_ kq2_ (by decide) (by decide) hG_24
        refine lv_aload_n hx hb dX2_readLet_120 rfl (lv_at hl 3 rfl) ?_
        refine g_getk (C := RX2) (T := TX2) (N := 16) hx hb hts (mc_ inX2) hown hK g rfl 0 (by decide) rfl (hts _ (List.mem_cons_of_mem _ t_416)) (fun _ h9 => h9) 3 rfl dX2_readLet_121 ?_
        have go_ := g
        refine g_callv (va_runV (As := []) (rest := []) ⟨hx, hb, hml, hown, hts⟩ (r_X8_next l dC dI L kd tys f H.size g.2.2.2.1 q0_ mq0_ kq0_) (cwV 0 hts (gV_ t_1131 t_1103 t_1104 t_184 t_1105) rfl rfl rfl (by decide +kernel) ⟨(Nat.le_of_ble_eq_true rfl), (Nat.le_of_ble_eq_true rfl)⟩) (pre3V g hK mq0_ kq0_ (by decide) (q := (RX8, TX8, 10)) rfl) rfl rfl hl.1 rfl (lv_room (Nat.le_of_ble_eq_true rfl)) dX2_readLet_124 ⟨(Nat.le_of_ble_eq_true rfl), (Nat.le_of_ble_eq_true rfl)⟩) g hK (by decide) (by decide) (fx' := [(5, 6, q1_, .int y_25), (5, 5, q1_, .ref a_22), (2, 0, a0_, .ref q0_), (2, 1, a0_, .ref q1_), (2, 2, a0_, .ref q2_), (2, 3, a0_, .ref q3_), (0, 0, q2_, .ref q0_), (0, 1, q2_, .ref q1_), (5, 0, q1_, .ref q6_), (5, 1, q1_, .ref q7_), (8, 8, q0_, .int y0_)]) rfl (fun fr_29 H locs hp hMr_29 g => ?_)
        obtain ⟨x_30, h_31, hF_32⟩ := hp
        have hG_33 := eOK.frame hMr_29 go_.2.2.2.1 mq2_ kq2_ (by decide) (by decide) hG_28
        have g := g.more hF_32
        refine lv_aload_n hx hb dX2_readLet_127 rfl (lv_at hl 3 rfl) ?_
        refine g_getk (C := RX2) (T := TX2) (N := 16) hx hb hts (mc_ inX2) hown hK g rfl 0 (by decide) rfl (hts _ (List.mem_cons_of_mem _ t_416)) (fun _ h9 => h9) 3 rfl dX2_readLet_128 ?_
        refine lv_bipush (v := 61) hx hb dX2_readLet_131 (by decide) ?_
        have go_ := g
        refine g_callv (va_runV (As := [.int 61]) (rest := []) ⟨hx, hb, hml, hown, hts⟩ (r_X8_take l dC dI L kd tys fr_29 H.size g.2.2.2.1 q0_ mq0_ kq0_ 61 y0_ by0_ (g.fcts [11] rfl)) (cwV 1 hts (gV_ t_1098 t_1099 t_1100 t_184 t_1101) rfl rfl rfl (by decide +kernel) ⟨(Nat.le_of_ble_eq_true rfl), (Nat.le_of_ble_eq_true rfl)⟩) (pre3V g hK mq0_ kq0_ (by decide) (q := (RX8, TX8, 10)) rfl) rfl rfl hl.1 rfl (lv_room (Nat.le_of_ble_eq_true rfl)) dX2_readLet_133 ⟨(Nat.le_of_ble_eq_true rfl), (Nat.le_of_ble_eq_true rfl)⟩) g hK (by decide) (by decide) (fx' := [(5, 6, q1_, .int y_25), (5, 5, q1_, .ref a_22), (2, 0, a0_, .ref q0_), (2, 1, a0_, .ref q1_), (2, 2, a0_, .ref q2_), (2, 3, a0_, .ref q3_), (0, 0, q2_, .ref q0_), (0, 1, q2_, .ref q1_), (5, 0, q1_, .ref q6_), (5, 1, q1_, .ref q7_)]) rfl (fun fr_34 H locs hp hMr_34 g => ?_)
        rcases hp with ⟨x_35, h_36, x_37, h_38, hF_39⟩ | ⟨x_40, h_41, hF_42⟩
        · have hG_43 := eOK.frame hMr_34 go_.2.2.2.1 mq2_ kq2_ (by decide) (by decide) hG_33
          have g := g.more hF_39
          refine lv_aload_n hx hb dX2_readLet_136 rfl (lv_at hl 3 rfl) ?_
          refine g_getk (C := RX2) (T := TX2) (N := 16) hx hb hts (mc_ inX2) hown hK g rfl 3 (by decide) rfl (hts _ (List.mem_cons_of_mem _ t_419)) (fun _ h9 => h9) 7 rfl dX2_readLet_137 ?_
          refine lv_bipush (v := 14) hx hb dX2_readLet_140 (by decide) ?_
          refine lv_iconst (v := 3) hx hb dX2_readLet_142 (by decide) ?_
          refine lv_iload hx hb dX2_readLet_143 (lv_at hl 0 rfl) ?_
          refine lv_iadd hx hb dX2_readLet_145 ?_
          refine lv_topi (fun y_44 ey_44 => ?_)
          have ty_44 := add_bd ey_44 kb_3 b_21 (by decide)
          have b_45 : bd 3 10 y_44 := add_rg ty_44 kb_3 b_21 (by decide)
          have go_ := g
          refine g_callv (va_runV (As := [.int 14, .int y_44]) (rest := []) ⟨hx, hb, hml, hown, hts⟩ (r_X7_emit l dC dI L kd tys fr_34 H.size g.2.2.2.1 q3_ mq3_ kq3_ 14 y_44) (cwV 2 hts (gV_ t_1301 t_1204 t_1205 t_191 t_1206) rfl rfl rfl (by decide +kernel) ⟨(Nat.le_of_ble_eq_true rfl), (Nat.le_of_ble_eq_true rfl)⟩) (pre3V g hK mq3_ kq3_ (by decide) (q := (RX7, TX7, 19)) rfl) rfl rfl hl.1 rfl (lv_room (Nat.le_of_ble_eq_true rfl)) dX2_readLet_146 ⟨(Nat.le_of_ble_eq_true rfl), (Nat.le_of_ble_eq_true rfl)⟩) g hK (by decide) (by decide) (fx' := [(8, 6, q0_, .int x_35), (8, 8, q0_, .int x_37), (5, 6, q1_, .int y_25), (5, 5, q1_, .ref a_22), (2, 0, a0_, .ref q0_), (2, 1, a0_, .ref q1_), (2, 2, a0_, .ref q2_), (2, 3, a0_, .ref q3_), (0, 0, q2_, .ref q0_), (0, 1, q2_, .ref q1_), (5, 0, q1_, .ref q6_), (5, 1, q1_, .ref q7_)]) rfl (fun fr_46 H locs hp hMr_46 g => ?_)
          obtain ⟨x_47, h_48, hF_49⟩ := hp
          have hG_50 := eOK.frame hMr_46 go_.2.2.2.1 mq2_ kq2_ (by decide) (by decide) hG_43
          have g := g.more hF_49
          refine lv_aload_n hx hb dX2_readLet_149 rfl (lv_at hl 3 rfl) ?_
          refine g_getk (C := RX2) (T := TX2) (N := 16) hx hb hts (mc_ inX2) hown hK g rfl 2 (by decide) rfl (hts _ (List.mem_cons_of_mem _ t_418)) (fun _ h9 => h9) 7 rfl dX2_readLet_150 ?_
          have go_ := g
          refine g_callv (va_runV (As := []) (rest := []) ⟨hx, hb, hml, hown, hts⟩ (r_X0_read l dC dI L kd tys fr_46 H.size g.2.2.2.1 q2_ mq2_ kq2_ q0_ mq0_ kq0_ q1_ mq1_ kq1_ q6_ mq6_ kq6_ q7_ mq7_ kq7_ x_37 h_38 hG_50 (g.fcts [9, 10, 11, 12, 2] rfl)) (cwV 0 hts (gV_ t_1182 t_1183 t_1184 t_190 t_1185) rfl rfl rfl (by decide +kernel) ⟨(Nat.le_of_ble_eq_true rfl), (Nat.le_of_ble_eq_true rfl)⟩) (pre3V g hK mq2_ kq2_ (by decide) (q := (RX0, TX0, 14)) rfl) rfl rfl hl.1 rfl (lv_room (Nat.le_of_ble_eq_true rfl)) dX2_readLet_153 ⟨(Nat.le_of_ble_eq_true rfl), (Nat.le_of_ble_eq_true rfl)⟩) g hK (by decide) (by decide) (fx' := [(5, 6, q1_, .int y_25), (5, 5, q1_, .ref a_22), (2, 0, a0_, .ref q0_), (2, 1, a0_, .ref q1_), (2, 2, a0_, .ref q2_), (2, 3, a0_, .ref q3_), (0, 0, q2_, .ref q0_), (0, 1, q2_, .ref q1_), (5, 0, q1_, .ref q6_), (5, 1, q1_, .ref q7_)]) rfl (fun fr_51 H locs hp hMr_51 g => ?_)
          rcases hp with ⟨hG_52, x_53, h_54, hF_55⟩ | ⟨hG_56, x_57, h_58, x_59, h_60, hF_61⟩
          · have g := g.more hF_55
            refine lv_aload_n hx hb dX2_readLet_156 rfl (lv_at hl 3 rfl) ?_
            refine g_getk (C := RX2) (T := TX2) (N := 16) hx hb hts (mc_ inX2) hown hK g rfl 3 (by decide) rfl (hts _ (List.mem_cons_of_mem _ t_419)) (fun _ h9 => h9) 7 rfl dX2_readLet_157 ?_
            refine lv_bipush (v := 20) hx hb dX2_readLet_160 (by decide) ?_
            refine lv_iconst (v := 3) hx hb dX2_readLet_162 (by decide) ?_
            refine lv_iload hx hb dX2_readLet_163 (lv_at hl 0 rfl) ?_
            refine lv_iadd hx hb dX2_readLet_165 ?_
            refine lv_topi (fun y_62 ey_62 => ?_)
            obtain rfl : y_44 = y_62 := ey_44.trans ey_62.symm
            have go_ := g
            refine g_callv (va_runV (As := [.int 20, .int y_44]) (rest := []) ⟨hx, hb, hml, hown, hts⟩ (r_X7_emit l dC dI L kd tys fr_51 H.size g.2.2.2.1 q3_ mq3_ kq3_ 20 y_44) (cwV 2 hts (gV_ t_1301 t_1204 t_1205 t_191 t_1206) rfl rfl rfl (by decide +kernel) ⟨(Nat.le_of_ble_eq_true rfl), (Nat.le_of_ble_eq_true rfl)⟩) (pre3V g hK mq3_ kq3_ (by decide) (q := (RX7, TX7, 19)) rfl) rfl rfl hl.1 rfl (lv_room (Nat.le_of_ble_eq_true rfl)) dX2_readLet_166 ⟨(Nat.le_of_ble_eq_true rfl), (Nat.le_of_ble_eq_true rfl)⟩) g hK (by decide) (by decide) (fx' := [(0, 2, q2_, .ref q6_), (8, 8, q0_, .int x_53), (5, 6, q1_, .int y_25), (5, 5, q1_, .ref a_22), (2, 0, a0_, .ref q0_), (2, 1, a0_, .ref q1_), (2, 2, a0_, .ref q2_), (2, 3, a0_, .ref q3_), (0, 0, q2_, .ref q0_), (0, 1, q2_, .ref q1_), (5, 0, q1_, .ref q6_), (5, 1, q1_, .ref q7_)]) rfl (fun fr_63 H locs hp hMr_63 g => ?_)
            obtain ⟨x_64, h_65, hF_66⟩ := hp
            have hG_67 := eOK.frame hMr_63 go_.2.2.2.1 mq2_ kq2_ (by decide) (by decide) hG_52
            have g := g.more hF_66
            refine lv_aload_n hx hb dX2_readLet_169 rfl (lv_at hl 3 rfl) ?_
            refine g_getk (C := RX2) (T := TX2) (N := 16) hx hb hts (mc_ inX2) hown hK g rfl 0 (by decide) rfl (hts _ (List.mem_cons_of_mem _ t_416)) (fun _ h9 => h9) 5 rfl dX2_readLet_170 ?_
            refine lv_bipush (v := 59) hx hb dX2_readLet_173 (by decide) ?_
            have go_ := g
            refine g_callv (va_runV (As := [.int 59]) (rest := []) ⟨hx, hb, hml, hown, hts⟩ (r_X8_take l dC dI L kd tys fr_63 H.size g.2.2.2.1 q0_ mq0_ kq0_ 59 x_53 h_54 (g.fcts [2] rfl)) (cwV 1 hts (gV_ t_1098 t_1099 t_1100 t_184 t_1101) rfl rfl rfl (by decide +kernel) ⟨(Nat.le_of_ble_eq_true rfl), (Nat.le_of_ble_eq_true rfl)⟩) (pre3V g hK mq0_ kq0_ (by decide) (q := (RX8, TX8, 10)) rfl) rfl rfl hl.1 rfl (lv_room (Nat.le_of_ble_eq_true rfl)) dX2_readLet_175 ⟨(Nat.le_of_ble_eq_true rfl), (Nat.le_of_ble_eq_true rfl)⟩) g hK (by decide) (by decide) (fx' := [(7, 6, q3_, .int x_64), (0, 2, q2_, .ref q6_), (5, 6, q1_, .int y_25), (5, 5, q1_, .ref a_22), (2, 0, a0_, .ref q0_), (2, 1, a0_, .ref q1_), (2, 2, a0_, .ref q2_), (2, 3, a0_, .ref q3_), (0, 0, q2_, .ref q0_), (0, 1, q2_, .ref q1_), (5, 0, q1_, .ref q6_), (5, 1, q1_, .ref q7_)]) rfl (fun fr_68 H locs hp hMr_68 g => ?_)
            rcases hp with ⟨x_69, h_70, x_71, h_72, hF_73⟩ | ⟨x_74, h_75, hF_76⟩
            · have hG_77 := eOK.frame hMr_68 go_.2.2.2.1 mq2_ kq2_ (by decide) (by decide) hG_67
              have g := g.more hF_73
              subst hQ
              exact W.vret hx hb hr (fun t ht hW => ⟨⟨_, rfl, Or.inl ⟨hG_77, x_69, h_70, x_71, h_72, x_64, h_65, y_25, b_26, (g.fcts [0, 1, 2, 3, 4] rfl)⟩, q3_of g hK ht hW⟩, g.2.2.1.F ht⟩) g.2.2.1.2.2 dX2_readLet_178
            · have hG_78 := eOK.frame hMr_68 go_.2.2.2.1 mq2_ kq2_ (by decide) (by decide) hG_67
              have g := g.more hF_76
              have kb_1201 : bd 1201 1201 (1201 : Int32) := ⟨by decide, by decide⟩
              subst hQ
              exact W.vret hx hb hr (fun t ht hW => ⟨⟨_, rfl, Or.inr (⟨hG_78, 1201, kb_1201, x_74, h_75, x_64, h_65, (g.fcts [0, 1, 2, 3] rfl)⟩), q3_of g hK ht hW⟩, g.2.2.1.F ht⟩) g.2.2.1.2.2 dX2_readLet_178
          · have g := g.more hF_61
            refine lv_aload_n hx hb dX2_readLet_156 rfl (lv_at hl 3 rfl) ?_
            refine g_getk (C := RX2) (T := TX2) (N := 16) hx hb hts (mc_ inX2) hown hK g rfl 3 (by decide) rfl (hts _ (List.mem_cons_of_mem _ t_419)) (fun _ h9 => h9) 8 rfl dX2_readLet_157 ?_
            refine lv_bipush (v := 20) hx hb dX2_readLet_160 (by decide) ?_
            refine lv_iconst (v := 3) hx hb dX2_readLet_162 (by decide) ?_
            refine lv_iload hx hb dX2_readLet_163 (lv_at hl 0 rfl) ?_
            refine lv_iadd hx hb dX2_readLet_165 ?_
            refine lv_topi (fun y_79 ey_79 => ?_)
            obtain rfl : y_44 = y_79 := ey_44.trans ey_79.symm
            have go_ := g
            refine g_callv (va_runV (As := [.int 20, .int y_44]) (rest := []) ⟨hx, hb, hml, hown, hts⟩ (r_X7_emit l dC dI L kd tys fr_51 H.size g.2.2.2.1 q3_ mq3_ kq3_ 20 y_44) (cwV 2 hts (gV_ t_1301 t_1204 t_1205 t_191 t_1206) rfl rfl rfl (by decide +kernel) ⟨(Nat.le_of_ble_eq_true rfl), (Nat.le_of_ble_eq_true rfl)⟩) (pre3V g hK mq3_ kq3_ (by decide) (q := (RX7, TX7, 19)) rfl) rfl rfl hl.1 rfl (lv_room (Nat.le_of_ble_eq_true rfl)) dX2_readLet_166 ⟨(Nat.le_of_ble_eq_true rfl), (Nat.le_of_ble_eq_true rfl)⟩) g hK (by decide) (by decide) (fx' := [(8, 6, q0_, .int x_57), (8, 8, q0_, .int x_59), (0, 2, q2_, .ref q6_), (5, 6, q1_, .int y_25), (5, 5, q1_, .ref a_22), (2, 0, a0_, .ref q0_), (2, 1, a0_, .ref q1_), (2, 2, a0_, .ref q2_), (2, 3, a0_, .ref q3_), (0, 0, q2_, .ref q0_), (0, 1, q2_, .ref q1_), (5, 0, q1_, .ref q6_), (5, 1, q1_, .ref q7_)]) rfl (fun fr_80 H locs hp hMr_80 g => ?_)
            obtain ⟨x_81, h_82, hF_83⟩ := hp
            have hG_84 := eOK.frame hMr_80 go_.2.2.2.1 mq2_ kq2_ (by decide) (by decide) hG_56
            have g := g.more hF_83
            refine lv_aload_n hx hb dX2_readLet_169 rfl (lv_at hl 3 rfl) ?_
            refine g_getk (C := RX2) (T := TX2) (N := 16) hx hb hts (mc_ inX2) hown hK g rfl 0 (by decide) rfl (hts _ (List.mem_cons_of_mem _ t_416)) (fun _ h9 => h9) 6 rfl dX2_readLet_170 ?_
            refine lv_bipush (v := 59) hx hb dX2_readLet_173 (by decide) ?_
            have go_ := g
            refine g_callv (va_runV (As := [.int 59]) (rest := []) ⟨hx, hb, hml, hown, hts⟩ (r_X8_take_2 l dC dI L kd tys fr_80 H.size g.2.2.2.1 q0_ mq0_ kq0_ 59 x_57 h_58 x_59 h_60 (g.fcts [1, 2] rfl)) (cwV 1 hts (gV_ t_1098 t_1099 t_1100 t_184 t_1101) rfl rfl rfl (by decide +kernel) ⟨(Nat.le_of_ble_eq_true rfl), (Nat.le_of_ble_eq_true rfl)⟩) (pre3V g hK mq0_ kq0_ (by decide) (q := (RX8, TX8, 10)) rfl) rfl rfl hl.1 rfl (lv_room (Nat.le_of_ble_eq_true rfl)) dX2_readLet_175 ⟨(Nat.le_of_ble_eq_true rfl), (Nat.le_of_ble_eq_true rfl)⟩) g hK (by decide) (by decide) (fx' := [(7, 6, q3_, .int x_81), (8, 8, q0_, .int x_59), (0, 2, q2_, .ref q6_), (5, 6, q1_, .int y_25), (5, 5, q1_, .ref a_22), (2, 0, a0_, .ref q0_), (2, 1, a0_, .ref q1_), (2, 2, a0_, .ref q2_), (2, 3, a0_, .ref q3_), (0, 0, q2_, .ref q0_), (0, 1, q2_, .ref q1_), (5, 0, q1_, .ref q6_), (5, 1, q1_, .ref q7_)]) rfl (fun fr_85 H locs hp hMr_85 g => ?_)
            obtain ⟨x_86, h_87, hF_88⟩ := hp
            have hG_89 := eOK.frame hMr_85 go_.2.2.2.1 mq2_ kq2_ (by decide) (by decide) hG_84
            have g := g.more hF_88
            subst hQ
            exact W.vret hx hb hr (fun t ht hW => ⟨⟨_, rfl, Or.inr (⟨hG_89, x_86, h_87, x_59, h_60, x_81, h_82, (g.fcts [0, 2, 1, 3] rfl)⟩), q3_of g hK ht hW⟩, g.2.2.1.F ht⟩) g.2.2.1.2.2 dX2_readLet_178
        · have hG_90 := eOK.frame hMr_34 go_.2.2.2.1 mq2_ kq2_ (by decide) (by decide) hG_33
          have g := g.more hF_42
          refine lv_aload_n hx hb dX2_readLet_136 rfl (lv_at hl 3 rfl) ?_
          refine g_getk (C := RX2) (T := TX2) (N := 16) hx hb hts (mc_ inX2) hown hK g rfl 3 (by decide) rfl (hts _ (List.mem_cons_of_mem _ t_419)) (fun _ h9 => h9) 7 rfl dX2_readLet_137 ?_
          refine lv_bipush (v := 14) hx hb dX2_readLet_140 (by decide) ?_
          refine lv_iconst (v := 3) hx hb dX2_readLet_142 (by decide) ?_
          refine lv_iload hx hb dX2_readLet_143 (lv_at hl 0 rfl) ?_
          refine lv_iadd hx hb dX2_readLet_145 ?_
          refine lv_topi (fun y_91 ey_91 => ?_)
          have ty_91 := add_bd ey_91 kb_3 b_21 (by decide)
          have b_92 : bd 3 10 y_91 := add_rg ty_91 kb_3 b_21 (by decide)
          have go_ := g
          refine g_callv (va_runV (As := [.int 14, .int y_91]) (rest := []) ⟨hx, hb, hml, hown, hts⟩ (r_X7_emit l dC dI L kd tys fr_34 H.size g.2.2.2.1 q3_ mq3_ kq3_ 14 y_91) (cwV 2 hts (gV_ t_1301 t_1204 t_1205 t_191 t_1206) rfl rfl rfl (by decide +kernel) ⟨(Nat.le_of_ble_eq_true rfl), (Nat.le_of_ble_eq_true rfl)⟩) (pre3V g hK mq3_ kq3_ (by decide) (q := (RX7, TX7, 19)) rfl) rfl rfl hl.1 rfl (lv_room (Nat.le_of_ble_eq_true rfl)) dX2_readLet_146 ⟨(Nat.le_of_ble_eq_true rfl), (Nat.le_of_ble_eq_true rfl)⟩) g hK (by decide) (by decide) (fx' := [(8, 6, q0_, .int 1201), (8, 8, q0_, .int x_40), (5, 6, q1_, .int y_25), (5, 5, q1_, .ref a_22), (2, 0, a0_, .ref q0_), (2, 1, a0_, .ref q1_), (2, 2, a0_, .ref q2_), (2, 3, a0_, .ref q3_), (0, 0, q2_, .ref q0_), (0, 1, q2_, .ref q1_), (5, 0, q1_, .ref q6_), (5, 1, q1_, .ref q7_)]) rfl (fun fr_93 H locs hp hMr_93 g => ?_)
          obtain ⟨x_94, h_95, hF_96⟩ := hp
          have hG_97 := eOK.frame hMr_93 go_.2.2.2.1 mq2_ kq2_ (by decide) (by decide) hG_90
          have g := g.more hF_96
          refine lv_aload_n hx hb dX2_readLet_149 rfl (lv_at hl 3 rfl) ?_
          refine g_getk (C := RX2) (T := TX2) (N := 16) hx hb hts (mc_ inX2) hown hK g rfl 2 (by decide) rfl (hts _ (List.mem_cons_of_mem _ t_418)) (fun _ h9 => h9) 7 rfl dX2_readLet_150 ?_
          have kb_1201 : bd 1201 1201 (1201 : Int32) := ⟨by decide, by decide⟩
          have go_ := g
          refine g_callv (va_runV (As := []) (rest := []) ⟨hx, hb, hml, hown, hts⟩ (r_X0_read_2 l dC dI L kd tys fr_93 H.size g.2.2.2.1 q2_ mq2_ kq2_ q0_ mq0_ kq0_ q1_ mq1_ kq1_ q6_ mq6_ kq6_ q7_ mq7_ kq7_ 1201 kb_1201 x_40 h_41 hG_97 (g.fcts [9, 10, 11, 12, 1, 2] rfl)) (cwV 0 hts (gV_ t_1182 t_1183 t_1184 t_190 t_1185) rfl rfl rfl (by decide +kernel) ⟨(Nat.le_of_ble_eq_true rfl), (Nat.le_of_ble_eq_true rfl)⟩) (pre3V g hK mq2_ kq2_ (by decide) (q := (RX0, TX0, 14)) rfl) rfl rfl hl.1 rfl (lv_room (Nat.le_of_ble_eq_true rfl)) dX2_readLet_153 ⟨(Nat.le_of_ble_eq_true rfl), (Nat.le_of_ble_eq_true rfl)⟩) g hK (by decide) (by decide) (fx' := [(7, 6, q3_, .int x_94), (8, 6, q0_, .int 1201), (8, 8, q0_, .int x_40), (5, 6, q1_, .int y_25), (5, 5, q1_, .ref a_22), (2, 0, a0_, .ref q0_), (2, 1, a0_, .ref q1_), (2, 2, a0_, .ref q2_), (2, 3, a0_, .ref q3_), (0, 0, q2_, .ref q0_), (0, 1, q2_, .ref q1_), (5, 0, q1_, .ref q6_), (5, 1, q1_, .ref q7_)]) rfl (fun fr_98 H locs hp hMr_98 g => ?_)
          have hF_99 := hp
          have hG_100 := eOK.frame hMr_98 go_.2.2.2.1 mq2_ kq2_ (by decide) (by decide) hG_97
          have g := g.more hF_99
          refine lv_aload_n hx hb dX2_readLet_156 rfl (lv_at hl 3 rfl) ?_
          refine g_getk (C := RX2) (T := TX2) (N := 16) hx hb hts (mc_ inX2) hown hK g rfl 3 (by decide) rfl (hts _ (List.mem_cons_of_mem _ t_419)) (fun _ h9 => h9) 14 rfl dX2_readLet_157 ?_
          refine lv_bipush (v := 20) hx hb dX2_readLet_160 (by decide) ?_
          refine lv_iconst (v := 3) hx hb dX2_readLet_162 (by decide) ?_
          refine lv_iload hx hb dX2_readLet_163 (lv_at hl 0 rfl) ?_
          refine lv_iadd hx hb dX2_readLet_165 ?_
          refine lv_topi (fun y_101 ey_101 => ?_)
          obtain rfl : y_91 = y_101 := ey_91.trans ey_101.symm
          have go_ := g
          refine g_callv (va_runV (As := [.int 20, .int y_91]) (rest := []) ⟨hx, hb, hml, hown, hts⟩ (r_X7_emit l dC dI L kd tys fr_98 H.size g.2.2.2.1 q3_ mq3_ kq3_ 20 y_91) (cwV 2 hts (gV_ t_1301 t_1204 t_1205 t_191 t_1206) rfl rfl rfl (by decide +kernel) ⟨(Nat.le_of_ble_eq_true rfl), (Nat.le_of_ble_eq_true rfl)⟩) (pre3V g hK mq3_ kq3_ (by decide) (q := (RX7, TX7, 19)) rfl) rfl rfl hl.1 rfl (lv_room (Nat.le_of_ble_eq_true rfl)) dX2_readLet_166 ⟨(Nat.le_of_ble_eq_true rfl), (Nat.le_of_ble_eq_true rfl)⟩) g hK (by decide) (by decide) (fx' := [(0, 13, q2_, .int 0), (0, 12, q2_, .int 1), (0, 11, q2_, .int 0), (0, 10, q2_, .int 0), (0, 8, q2_, .int 0), (0, 2, q2_, .ref q6_), (8, 6, q0_, .int 1201), (8, 8, q0_, .int x_40), (5, 6, q1_, .int y_25), (5, 5, q1_, .ref a_22), (2, 0, a0_, .ref q0_), (2, 1, a0_, .ref q1_), (2, 2, a0_, .ref q2_), (2, 3, a0_, .ref q3_), (0, 0, q2_, .ref q0_), (0, 1, q2_, .ref q1_), (5, 0, q1_, .ref q6_), (5, 1, q1_, .ref q7_)]) rfl (fun fr_102 H locs hp hMr_102 g => ?_)
          obtain ⟨x_103, h_104, hF_105⟩ := hp
          have hG_106 := eOK.frame hMr_102 go_.2.2.2.1 mq2_ kq2_ (by decide) (by decide) hG_100
          have g := g.more hF_105
          refine lv_aload_n hx hb dX2_readLet_169 rfl (lv_at hl 3 rfl) ?_
          refine g_getk (C := RX2) (T := TX2) (N := 16) hx hb hts (mc_ inX2) hown hK g rfl 0 (by decide) rfl (hts _ (List.mem_cons_of_mem _ t_416)) (fun _ h9 => h9) 11 rfl dX2_readLet_170 ?_
          refine lv_bipush (v := 59) hx hb dX2_readLet_173 (by decide) ?_
          have go_ := g
          refine g_callv (va_runV (As := [.int 59]) (rest := []) ⟨hx, hb, hml, hown, hts⟩ (r_X8_take_2 l dC dI L kd tys fr_102 H.size g.2.2.2.1 q0_ mq0_ kq0_ 59 1201 kb_1201 x_40 h_41 (g.fcts [7, 8] rfl)) (cwV 1 hts (gV_ t_1098 t_1099 t_1100 t_184 t_1101) rfl rfl rfl (by decide +kernel) ⟨(Nat.le_of_ble_eq_true rfl), (Nat.le_of_ble_eq_true rfl)⟩) (pre3V g hK mq0_ kq0_ (by decide) (q := (RX8, TX8, 10)) rfl) rfl rfl hl.1 rfl (lv_room (Nat.le_of_ble_eq_true rfl)) dX2_readLet_175 ⟨(Nat.le_of_ble_eq_true rfl), (Nat.le_of_ble_eq_true rfl)⟩) g hK (by decide) (by decide) (fx' := [(7, 6, q3_, .int x_103), (0, 13, q2_, .int 0), (0, 12, q2_, .int 1), (0, 11, q2_, .int 0), (0, 10, q2_, .int 0), (0, 8, q2_, .int 0), (0, 2, q2_, .ref q6_), (8, 8, q0_, .int x_40), (5, 6, q1_, .int y_25), (5, 5, q1_, .ref a_22), (2, 0, a0_, .ref q0_), (2, 1, a0_, .ref q1_), (2, 2, a0_, .ref q2_), (2, 3, a0_, .ref q3_), (0, 0, q2_, .ref q0_), (0, 1, q2_, .ref q1_), (5, 0, q1_, .ref q6_), (5, 1, q1_, .ref q7_)]) rfl (fun fr_107 H locs hp hMr_107 g => ?_)
          obtain ⟨x_108, h_109, hF_110⟩ := hp
          have hG_111 := eOK.frame hMr_107 go_.2.2.2.1 mq2_ kq2_ (by decide) (by decide) hG_106
          have g := g.more hF_110
          subst hQ
          exact W.vret hx hb hr (fun t ht hW => ⟨⟨_, rfl, Or.inr (⟨hG_111, x_108, h_109, x_40, h_41, x_103, h_104, (g.fcts [0, 8, 1, 7] rfl)⟩), q3_of g hK ht hW⟩, g.2.2.1.F ht⟩) g.2.2.1.2.2 dX2_readLet_178
      · have fc_20 := nlt_f c_20
        have b_112 : bd 8 8 x_10 := leR fc_20 kb_8 bx_10 (by decide)
        refine lv_aload_n hx hb dX2_readLet_86 rfl (lv_at hl 3 rfl) ?_
        refine g_getk (C := RX2) (T := TX2) (N := 16) hx hb hts (mc_ inX2) hown hK g rfl 0 (by decide) rfl (hts _ (List.mem_cons_of_mem _ t_416)) (fun _ h9 => h9) 2 rfl dX2_readLet_87 ?_
        refine lv_iconst (v := 4) hx hb dX2_readLet_90 (by decide) ?_
        refine lv_iload_n hx hb dX2_readLet_91 rfl (lv_at hl 2 rfl) ?_
        have kb_4 : bd 4 4 (4 : Int32) := ⟨by decide, by decide⟩
        have go_ := g
        refine g_callv (va_runV (As := [.int 4, .int r_6]) (rest := []) ⟨hx, hb, hml, hown, hts⟩ (r_X8_fail l dC dI L kd tys fr_15 H.size g.2.2.2.1 q0_ mq0_ kq0_ 4 (bd_sub kb_4 (by decide)) r_6 y0_ by0_ (g.fcts [10] rfl)) (cwV 2 hts (gV_ t_1122 t_1107 t_1108 t_184 t_1109) rfl rfl rfl (by decide +kernel) ⟨(Nat.le_of_ble_eq_true rfl), (Nat.le_of_ble_eq_true rfl)⟩) (pre3V g hK mq0_ kq0_ (by decide) (q := (RX8, TX8, 10)) rfl) rfl rfl hl.1 rfl (lv_room (Nat.le_of_ble_eq_true rfl)) dX2_readLet_92 ⟨(Nat.le_of_ble_eq_true rfl), (Nat.le_of_ble_eq_true rfl)⟩) g hK (by decide) (by decide) (fx' := [(5, 6, q1_, .int x_10), (2, 0, a0_, .ref q0_), (2, 1, a0_, .ref q1_), (2, 2, a0_, .ref q2_), (2, 3, a0_, .ref q3_), (0, 0, q2_, .ref q0_), (0, 1, q2_, .ref q1_), (5, 0, q1_, .ref q6_), (5, 1, q1_, .ref q7_)]) rfl (fun fr_113 H locs hp hMr_113 g => ?_)
        obtain ⟨x_114, h_115, hF_116⟩ := hp
        have hG_117 := eOK.frame hMr_113 go_.2.2.2.1 mq2_ kq2_ (by decide) (by decide) hG_17
        have g := g.more hF_116
        refine lv_goto (tgt := 120) hx hb dX2_readLet_95 (by decide) ?_
        refine lv_aload_n hx hb dX2_readLet_120 rfl (lv_at hl 3 rfl) ?_
        refine g_getk (C := RX2) (T := TX2) (N := 16) hx hb hts (mc_ inX2) hown hK g rfl 0 (by decide) rfl (hts _ (List.mem_cons_of_mem _ t_416)) (fun _ h9 => h9) 3 rfl dX2_readLet_121 ?_
        have kb_1201 : bd 1201 1201 (1201 : Int32) := ⟨by decide, by decide⟩
        have go_ := g
        refine g_callv (va_runV (As := []) (rest := []) ⟨hx, hb, hml, hown, hts⟩ (r_X8_next_2 l dC dI L kd tys fr_113 H.size g.2.2.2.1 q0_ mq0_ kq0_ 1201 kb_1201 (g.fcts [0] rfl)) (cwV 0 hts (gV_ t_1131 t_1103 t_1104 t_184 t_1105) rfl rfl rfl (by decide +kernel) ⟨(Nat.le_of_ble_eq_true rfl), (Nat.le_of_ble_eq_true rfl)⟩) (pre3V g hK mq0_ kq0_ (by decide) (q := (RX8, TX8, 10)) rfl) rfl rfl hl.1 rfl (lv_room (Nat.le_of_ble_eq_true rfl)) dX2_readLet_124 ⟨(Nat.le_of_ble_eq_true rfl), (Nat.le_of_ble_eq_true rfl)⟩) g hK (by decide) (by decide) (fx' := [(8, 6, q0_, .int 1201), (8, 8, q0_, .int x_114), (5, 6, q1_, .int x_10), (2, 0, a0_, .ref q0_), (2, 1, a0_, .ref q1_), (2, 2, a0_, .ref q2_), (2, 3, a0_, .ref q3_), (0, 0, q2_, .ref q0_), (0, 1, q2_, .ref q1_), (5, 0, q1_, .ref q6_), (5, 1, q1_, .ref q7_)]) rfl (fun fr_118 H locs hp hMr_118 g => ?_)
        have hG_119 := eOK.frame hMr_118 go_.2.2.2.1 mq2_ kq2_ (by decide) (by decide) hG_117
        refine lv_aload_n hx hb dX2_readLet_127 rfl (lv_at hl 3 rfl) ?_
        refine g_getk (C := RX2) (T := TX2) (N := 16) hx hb hts (mc_ inX2) hown hK g rfl 0 (by decide) rfl (hts _ (List.mem_cons_of_mem _ t_416)) (fun _ h9 => h9) 3 rfl dX2_readLet_128 ?_
        refine lv_bipush (v := 61) hx hb dX2_readLet_131 (by decide) ?_
        have go_ := g
        refine g_callv (va_runV (As := [.int 61]) (rest := []) ⟨hx, hb, hml, hown, hts⟩ (r_X8_take_2 l dC dI L kd tys fr_118 H.size g.2.2.2.1 q0_ mq0_ kq0_ 61 1201 kb_1201 x_114 h_115 (g.fcts [0, 1] rfl)) (cwV 1 hts (gV_ t_1098 t_1099 t_1100 t_184 t_1101) rfl rfl rfl (by decide +kernel) ⟨(Nat.le_of_ble_eq_true rfl), (Nat.le_of_ble_eq_true rfl)⟩) (pre3V g hK mq0_ kq0_ (by decide) (q := (RX8, TX8, 10)) rfl) rfl rfl hl.1 rfl (lv_room (Nat.le_of_ble_eq_true rfl)) dX2_readLet_133 ⟨(Nat.le_of_ble_eq_true rfl), (Nat.le_of_ble_eq_true rfl)⟩) g hK (by decide) (by decide) (fx' := [(8, 8, q0_, .int x_114), (5, 6, q1_, .int x_10), (2, 0, a0_, .ref q0_), (2, 1, a0_, .ref q1_), (2, 2, a0_, .ref q2_), (2, 3, a0_, .ref q3_), (0, 0, q2_, .ref q0_), (0, 1, q2_, .ref q1_), (5, 0, q1_, .ref q6_), (5, 1, q1_, .ref q7_)]) rfl (fun fr_120 H locs hp hMr_120 g => ?_)
        obtain ⟨x_121, h_122, hF_123⟩ := hp
        have hG_124 := eOK.frame hMr_120 go_.2.2.2.1 mq2_ kq2_ (by decide) (by decide) hG_119
        have g := g.more hF_123
        refine lv_aload_n hx hb dX2_readLet_136 rfl (lv_at hl 3 rfl) ?_
        refine g_getk (C := RX2) (T := TX2) (N := 16) hx hb hts (mc_ inX2) hown hK g rfl 3 (by decide) rfl (hts _ (List.mem_cons_of_mem _ t_419)) (fun _ h9 => h9) 6 rfl dX2_readLet_137 ?_
        refine lv_bipush (v := 14) hx hb dX2_readLet_140 (by decide) ?_
        refine lv_iconst (v := 3) hx hb dX2_readLet_142 (by decide) ?_
        refine lv_iload hx hb dX2_readLet_143 (lv_at hl 0 rfl) ?_
        refine lv_iadd hx hb dX2_readLet_145 ?_
        refine lv_topi (fun y_125 ey_125 => ?_)
        have ty_125 := add_bd ey_125 kb_3 b_112 (by decide)
        have b_126 : bd 11 11 y_125 := add_rg ty_125 kb_3 b_112 (by decide)
        have go_ := g
        refine g_callv (va_runV (As := [.int 14, .int y_125]) (rest := []) ⟨hx, hb, hml, hown, hts⟩ (r_X7_emit l dC dI L kd tys fr_120 H.size g.2.2.2.1 q3_ mq3_ kq3_ 14 y_125) (cwV 2 hts (gV_ t_1301 t_1204 t_1205 t_191 t_1206) rfl rfl rfl (by decide +kernel) ⟨(Nat.le_of_ble_eq_true rfl), (Nat.le_of_ble_eq_true rfl)⟩) (pre3V g hK mq3_ kq3_ (by decide) (q := (RX7, TX7, 19)) rfl) rfl rfl hl.1 rfl (lv_room (Nat.le_of_ble_eq_true rfl)) dX2_readLet_146 ⟨(Nat.le_of_ble_eq_true rfl), (Nat.le_of_ble_eq_true rfl)⟩) g hK (by decide) (by decide) (fx' := [(8, 6, q0_, .int x_121), (8, 8, q0_, .int x_114), (5, 6, q1_, .int x_10), (2, 0, a0_, .ref q0_), (2, 1, a0_, .ref q1_), (2, 2, a0_, .ref q2_), (2, 3, a0_, .ref q3_), (0, 0, q2_, .ref q0_), (0, 1, q2_, .ref q1_), (5, 0, q1_, .ref q6_), (5, 1, q1_, .ref q7_)]) rfl (fun fr_127 H locs hp hMr_127 g => ?_)
        obtain ⟨x_128, h_129, hF_130⟩ := hp
        have hG_131 := eOK.frame hMr_127 go_.2.2.2.1 mq2_ kq2_ (by decide) (by decide) hG_124
        have g := g.more hF_130
        refine lv_aload_n hx hb dX2_readLet_149 rfl (lv_at hl 3 rfl) ?_
        refine g_getk (C := RX2) (T := TX2) (N := 16) hx hb hts (mc_ inX2) hown hK g rfl 2 (by decide) rfl (hts _ (List.mem_cons_of_mem _ t_418)) (fun _ h9 => h9) 6 rfl dX2_readLet_150 ?_
        have go_ := g
        refine g_callv (va_runV (As := []) (rest := []) ⟨hx, hb, hml, hown, hts⟩ (r_X0_read_2 l dC dI L kd tys fr_127 H.size g.2.2.2.1 q2_ mq2_ kq2_ q0_ mq0_ kq0_ q1_ mq1_ kq1_ q6_ mq6_ kq6_ q7_ mq7_ kq7_ x_121 h_122 x_114 h_115 hG_131 (g.fcts [8, 9, 10, 11, 1, 2] rfl)) (cwV 0 hts (gV_ t_1182 t_1183 t_1184 t_190 t_1185) rfl rfl rfl (by decide +kernel) ⟨(Nat.le_of_ble_eq_true rfl), (Nat.le_of_ble_eq_true rfl)⟩) (pre3V g hK mq2_ kq2_ (by decide) (q := (RX0, TX0, 14)) rfl) rfl rfl hl.1 rfl (lv_room (Nat.le_of_ble_eq_true rfl)) dX2_readLet_153 ⟨(Nat.le_of_ble_eq_true rfl), (Nat.le_of_ble_eq_true rfl)⟩) g hK (by decide) (by decide) (fx' := [(7, 6, q3_, .int x_128), (8, 6, q0_, .int x_121), (8, 8, q0_, .int x_114), (5, 6, q1_, .int x_10), (2, 0, a0_, .ref q0_), (2, 1, a0_, .ref q1_), (2, 2, a0_, .ref q2_), (2, 3, a0_, .ref q3_), (0, 0, q2_, .ref q0_), (0, 1, q2_, .ref q1_), (5, 0, q1_, .ref q6_), (5, 1, q1_, .ref q7_)]) rfl (fun fr_132 H locs hp hMr_132 g => ?_)
        have hF_133 := hp
        have hG_134 := eOK.frame hMr_132 go_.2.2.2.1 mq2_ kq2_ (by decide) (by decide) hG_131
        have g := g.more hF_133
        refine lv_aload_n hx hb dX2_readLet_156 rfl (lv_at hl 3 rfl) ?_
        refine g_getk (C := RX2) (T := TX2) (N := 16) hx hb hts (mc_ inX2) hown hK g rfl 3 (by decide) rfl (hts _ (List.mem_cons_of_mem _ t_419)) (fun _ h9 => h9) 13 rfl dX2_readLet_157 ?_
        refine lv_bipush (v := 20) hx hb dX2_readLet_160 (by decide) ?_
        refine lv_iconst (v := 3) hx hb dX2_readLet_162 (by decide) ?_
        refine lv_iload hx hb dX2_readLet_163 (lv_at hl 0 rfl) ?_
        refine lv_iadd hx hb dX2_readLet_165 ?_
        refine lv_topi (fun y_135 ey_135 => ?_)
        obtain rfl : y_125 = y_135 := ey_125.trans ey_135.symm
        have go_ := g
        refine g_callv (va_runV (As := [.int 20, .int y_125]) (rest := []) ⟨hx, hb, hml, hown, hts⟩ (r_X7_emit l dC dI L kd tys fr_132 H.size g.2.2.2.1 q3_ mq3_ kq3_ 20 y_125) (cwV 2 hts (gV_ t_1301 t_1204 t_1205 t_191 t_1206) rfl rfl rfl (by decide +kernel) ⟨(Nat.le_of_ble_eq_true rfl), (Nat.le_of_ble_eq_true rfl)⟩) (pre3V g hK mq3_ kq3_ (by decide) (q := (RX7, TX7, 19)) rfl) rfl rfl hl.1 rfl (lv_room (Nat.le_of_ble_eq_true rfl)) dX2_readLet_166 ⟨(Nat.le_of_ble_eq_true rfl), (Nat.le_of_ble_eq_true rfl)⟩) g hK (by decide) (by decide) (fx' := [(0, 13, q2_, .int 0), (0, 12, q2_, .int 1), (0, 11, q2_, .int 0), (0, 10, q2_, .int 0), (0, 8, q2_, .int 0), (0, 2, q2_, .ref q6_), (8, 6, q0_, .int x_121), (8, 8, q0_, .int x_114), (5, 6, q1_, .int x_10), (2, 0, a0_, .ref q0_), (2, 1, a0_, .ref q1_), (2, 2, a0_, .ref q2_), (2, 3, a0_, .ref q3_), (0, 0, q2_, .ref q0_), (0, 1, q2_, .ref q1_), (5, 0, q1_, .ref q6_), (5, 1, q1_, .ref q7_)]) rfl (fun fr_136 H locs hp hMr_136 g => ?_)
        obtain ⟨x_137, h_138, hF_139⟩ := hp
        have hG_140 := eOK.frame hMr_136 go_.2.2.2.1 mq2_ kq2_ (by decide) (by decide) hG_134
        have g := g.more hF_139
        refine lv_aload_n hx hb dX2_readLet_169 rfl (lv_at hl 3 rfl) ?_
        refine g_getk (C := RX2) (T := TX2) (N := 16) hx hb hts (mc_ inX2) hown hK g rfl 0 (by decide) rfl (hts _ (List.mem_cons_of_mem _ t_416)) (fun _ h9 => h9) 10 rfl dX2_readLet_170 ?_
        refine lv_bipush (v := 59) hx hb dX2_readLet_173 (by decide) ?_
        have go_ := g
        refine g_callv (va_runV (As := [.int 59]) (rest := []) ⟨hx, hb, hml, hown, hts⟩ (r_X8_take_2 l dC dI L kd tys fr_136 H.size g.2.2.2.1 q0_ mq0_ kq0_ 59 x_121 h_122 x_114 h_115 (g.fcts [7, 8] rfl)) (cwV 1 hts (gV_ t_1098 t_1099 t_1100 t_184 t_1101) rfl rfl rfl (by decide +kernel) ⟨(Nat.le_of_ble_eq_true rfl), (Nat.le_of_ble_eq_true rfl)⟩) (pre3V g hK mq0_ kq0_ (by decide) (q := (RX8, TX8, 10)) rfl) rfl rfl hl.1 rfl (lv_room (Nat.le_of_ble_eq_true rfl)) dX2_readLet_175 ⟨(Nat.le_of_ble_eq_true rfl), (Nat.le_of_ble_eq_true rfl)⟩) g hK (by decide) (by decide) (fx' := [(7, 6, q3_, .int x_137), (0, 13, q2_, .int 0), (0, 12, q2_, .int 1), (0, 11, q2_, .int 0), (0, 10, q2_, .int 0), (0, 8, q2_, .int 0), (0, 2, q2_, .ref q6_), (8, 8, q0_, .int x_114), (5, 6, q1_, .int x_10), (2, 0, a0_, .ref q0_), (2, 1, a0_, .ref q1_), (2, 2, a0_, .ref q2_), (2, 3, a0_, .ref q3_), (0, 0, q2_, .ref q0_), (0, 1, q2_, .ref q1_), (5, 0, q1_, .ref q6_), (5, 1, q1_, .ref q7_)]) rfl (fun fr_141 H locs hp hMr_141 g => ?_)
        obtain ⟨x_142, h_143, hF_144⟩ := hp
        have hG_145 := eOK.frame hMr_141 go_.2.2.2.1 mq2_ kq2_ (by decide) (by decide) hG_140
        have g := g.more hF_144
        subst hQ
        exact W.vret hx hb hr (fun t ht hW => ⟨⟨_, rfl, Or.inr (⟨hG_145, x_142, h_143, x_114, h_115, x_137, h_138, (g.fcts [0, 8, 1, 7] rfl)⟩), q3_of g hK ht hW⟩, g.2.2.1.F ht⟩) g.2.2.1.2.2 dX2_readLet_178
    · have fc_18 := neq_f c_18
      have b_146 : bd 0 26 r_15 := neX fc_18 h_16 kb_m1 (by decide)
      refine lv_aload_n hx hb dX2_readLet_67 rfl (lv_at hl 3 rfl) ?_
      refine g_getk (C := RX2) (T := TX2) (N := 16) hx hb hts (mc_ inX2) hown hK g rfl 0 (by decide) rfl (hts _ (List.mem_cons_of_mem _ t_416)) (fun _ h9 => h9) 2 rfl dX2_readLet_68 ?_
      refine lv_iconst (v := 2) hx hb dX2_readLet_71 (by decide) ?_
      refine lv_iload_n hx hb dX2_readLet_72 rfl (lv_at hl 2 rfl) ?_
      have kb_2 : bd 2 2 (2 : Int32) := ⟨by decide, by decide⟩
      have go_ := g
      refine g_callv (va_runV (As := [.int 2, .int r_6]) (rest := []) ⟨hx, hb, hml, hown, hts⟩ (r_X8_fail l dC dI L kd tys fr_15 H.size g.2.2.2.1 q0_ mq0_ kq0_ 2 (bd_sub kb_2 (by decide)) r_6 y0_ by0_ (g.fcts [10] rfl)) (cwV 2 hts (gV_ t_1122 t_1107 t_1108 t_184 t_1109) rfl rfl rfl (by decide +kernel) ⟨(Nat.le_of_ble_eq_true rfl), (Nat.le_of_ble_eq_true rfl)⟩) (pre3V g hK mq0_ kq0_ (by decide) (q := (RX8, TX8, 10)) rfl) rfl rfl hl.1 rfl (lv_room (Nat.le_of_ble_eq_true rfl)) dX2_readLet_73 ⟨(Nat.le_of_ble_eq_true rfl), (Nat.le_of_ble_eq_true rfl)⟩) g hK (by decide) (by decide) (fx' := [(5, 6, q1_, .int x_10), (2, 0, a0_, .ref q0_), (2, 1, a0_, .ref q1_), (2, 2, a0_, .ref q2_), (2, 3, a0_, .ref q3_), (0, 0, q2_, .ref q0_), (0, 1, q2_, .ref q1_), (5, 0, q1_, .ref q6_), (5, 1, q1_, .ref q7_)]) rfl (fun fr_147 H locs hp hMr_147 g => ?_)
      obtain ⟨x_148, h_149, hF_150⟩ := hp
      have hG_151 := eOK.frame hMr_147 go_.2.2.2.1 mq2_ kq2_ (by decide) (by decide) hG_17
      have g := g.more hF_150
      refine lv_goto (tgt := 120) hx hb dX2_readLet_76 (by decide) ?_
      refine lv_aload_n hx hb dX2_readLet_120 rfl (lv_at hl 3 rfl) ?_
      refine g_getk (C := RX2) (T := TX2) (N := 16) hx hb hts (mc_ inX2) hown hK g rfl 0 (by decide) rfl (hts _ (List.mem_cons_of_mem _ t_416)) (fun _ h9 => h9) 3 rfl dX2_readLet_121 ?_
      have kb_1201 : bd 1201 1201 (1201 : Int32) := ⟨by decide, by decide⟩
      have go_ := g
      refine g_callv (va_runV (As := []) (rest := []) ⟨hx, hb, hml, hown, hts⟩ (r_X8_next_2 l dC dI L kd tys fr_147 H.size g.2.2.2.1 q0_ mq0_ kq0_ 1201 kb_1201 (g.fcts [0] rfl)) (cwV 0 hts (gV_ t_1131 t_1103 t_1104 t_184 t_1105) rfl rfl rfl (by decide +kernel) ⟨(Nat.le_of_ble_eq_true rfl), (Nat.le_of_ble_eq_true rfl)⟩) (pre3V g hK mq0_ kq0_ (by decide) (q := (RX8, TX8, 10)) rfl) rfl rfl hl.1 rfl (lv_room (Nat.le_of_ble_eq_true rfl)) dX2_readLet_124 ⟨(Nat.le_of_ble_eq_true rfl), (Nat.le_of_ble_eq_true rfl)⟩) g hK (by decide) (by decide) (fx' := [(8, 6, q0_, .int 1201), (8, 8, q0_, .int x_148), (5, 6, q1_, .int x_10), (2, 0, a0_, .ref q0_), (2, 1, a0_, .ref q1_), (2, 2, a0_, .ref q2_), (2, 3, a0_, .ref q3_), (0, 0, q2_, .ref q0_), (0, 1, q2_, .ref q1_), (5, 0, q1_, .ref q6_), (5, 1, q1_, .ref q7_)]) rfl (fun fr_152 H locs hp hMr_152 g => ?_)
      have hG_153 := eOK.frame hMr_152 go_.2.2.2.1 mq2_ kq2_ (by decide) (by decide) hG_151
      refine lv_aload_n hx hb dX2_readLet_127 rfl (lv_at hl 3 rfl) ?_
      refine g_getk (C := RX2) (T := TX2) (N := 16) hx hb hts (mc_ inX2) hown hK g rfl 0 (by decide) rfl (hts _ (List.mem_cons_of_mem _ t_416)) (fun _ h9 => h9) 3 rfl dX2_readLet_128 ?_
      refine lv_bipush (v := 61) hx hb dX2_readLet_131 (by decide) ?_
      have go_ := g
      refine g_callv (va_runV (As := [.int 61]) (rest := []) ⟨hx, hb, hml, hown, hts⟩ (r_X8_take_2 l dC dI L kd tys fr_152 H.size g.2.2.2.1 q0_ mq0_ kq0_ 61 1201 kb_1201 x_148 h_149 (g.fcts [0, 1] rfl)) (cwV 1 hts (gV_ t_1098 t_1099 t_1100 t_184 t_1101) rfl rfl rfl (by decide +kernel) ⟨(Nat.le_of_ble_eq_true rfl), (Nat.le_of_ble_eq_true rfl)⟩) (pre3V g hK mq0_ kq0_ (by decide) (q := (RX8, TX8, 10)) rfl) rfl rfl hl.1 rfl (lv_room (Nat.le_of_ble_eq_true rfl)) dX2_readLet_133 ⟨(Nat.le_of_ble_eq_true rfl), (Nat.le_of_ble_eq_true rfl)⟩) g hK (by decide) (by decide) (fx' := [(8, 8, q0_, .int x_148), (5, 6, q1_, .int x_10), (2, 0, a0_, .ref q0_), (2, 1, a0_, .ref q1_), (2, 2, a0_, .ref q2_), (2, 3, a0_, .ref q3_), (0, 0, q2_, .ref q0_), (0, 1, q2_, .ref q1_), (5, 0, q1_, .ref q6_), (5, 1, q1_, .ref q7_)]) rfl (fun fr_154 H locs hp hMr_154 g => ?_)
      obtain ⟨x_155, h_156, hF_157⟩ := hp
      have hG_158 := eOK.frame hMr_154 go_.2.2.2.1 mq2_ kq2_ (by decide) (by decide) hG_153
      have g := g.more hF_157
      refine lv_aload_n hx hb dX2_readLet_136 rfl (lv_at hl 3 rfl) ?_
      refine g_getk (C := RX2) (T := TX2) (N := 16) hx hb hts (mc_ inX2) hown hK g rfl 3 (by decide) rfl (hts _ (List.mem_cons_of_mem _ t_419)) (fun _ h9 => h9) 6 rfl dX2_readLet_137 ?_
      refine lv_bipush (v := 14) hx hb dX2_readLet_140 (by decide) ?_
      refine lv_iconst (v := 3) hx hb dX2_readLet_142 (by decide) ?_
      refine lv_iload hx hb dX2_readLet_143 (lv_at hl 0 rfl) ?_
      refine lv_iadd hx hb dX2_readLet_145 ?_
      refine lv_topi (fun y_159 ey_159 => ?_)
      have ty_159 := add_bd ey_159 kb_3 bx_10 (by decide)
      have b_160 : bd 3 11 y_159 := add_rg ty_159 kb_3 bx_10 (by decide)
      have go_ := g
      refine g_callv (va_runV (As := [.int 14, .int y_159]) (rest := []) ⟨hx, hb, hml, hown, hts⟩ (r_X7_emit l dC dI L kd tys fr_154 H.size g.2.2.2.1 q3_ mq3_ kq3_ 14 y_159) (cwV 2 hts (gV_ t_1301 t_1204 t_1205 t_191 t_1206) rfl rfl rfl (by decide +kernel) ⟨(Nat.le_of_ble_eq_true rfl), (Nat.le_of_ble_eq_true rfl)⟩) (pre3V g hK mq3_ kq3_ (by decide) (q := (RX7, TX7, 19)) rfl) rfl rfl hl.1 rfl (lv_room (Nat.le_of_ble_eq_true rfl)) dX2_readLet_146 ⟨(Nat.le_of_ble_eq_true rfl), (Nat.le_of_ble_eq_true rfl)⟩) g hK (by decide) (by decide) (fx' := [(8, 6, q0_, .int x_155), (8, 8, q0_, .int x_148), (5, 6, q1_, .int x_10), (2, 0, a0_, .ref q0_), (2, 1, a0_, .ref q1_), (2, 2, a0_, .ref q2_), (2, 3, a0_, .ref q3_), (0, 0, q2_, .ref q0_), (0, 1, q2_, .ref q1_), (5, 0, q1_, .ref q6_), (5, 1, q1_, .ref q7_)]) rfl (fun fr_161 H locs hp hMr_161 g => ?_)
      obtain ⟨x_162, h_163, hF_164⟩ := hp
      have hG_165 := eOK.frame hMr_161 go_.2.2.2.1 mq2_ kq2_ (by decide) (by decide) hG_158
      have g := g.more hF_164
      refine lv_aload_n hx hb dX2_readLet_149 rfl (lv_at hl 3 rfl) ?_
      refine g_getk (C := RX2) (T := TX2) (N := 16) hx hb hts (mc_ inX2) hown hK g rfl 2 (by decide) rfl (hts _ (List.mem_cons_of_mem _ t_418)) (fun _ h9 => h9) 6 rfl dX2_readLet_150 ?_
      have go_ := g
      refine g_callv (va_runV (As := []) (rest := []) ⟨hx, hb, hml, hown, hts⟩ (r_X0_read_2 l dC dI L kd tys fr_161 H.size g.2.2.2.1 q2_ mq2_ kq2_ q0_ mq0_ kq0_ q1_ mq1_ kq1_ q6_ mq6_ kq6_ q7_ mq7_ kq7_ x_155 h_156 x_148 h_149 hG_165 (g.fcts [8, 9, 10, 11, 1, 2] rfl)) (cwV 0 hts (gV_ t_1182 t_1183 t_1184 t_190 t_1185) rfl rfl rfl (by decide +kernel) ⟨(Nat.le_of_ble_eq_true rfl), (Nat.le_of_ble_eq_true rfl)⟩) (pre3V g hK mq2_ kq2_ (by decide) (q := (RX0, TX0, 14)) rfl) rfl rfl hl.1 rfl (lv_room (Nat.le_of_ble_eq_true rfl)) dX2_readLet_153 ⟨(Nat.le_of_ble_eq_true rfl), (Nat.le_of_ble_eq_true rfl)⟩) g hK (by decide) (by decide) (fx' := [(7, 6, q3_, .int x_162), (8, 6, q0_, .int x_155), (8, 8, q0_, .int x_148), (5, 6, q1_, .int x_10), (2, 0, a0_, .ref q0_), (2, 1, a0_, .ref q1_), (2, 2, a0_, .ref q2_), (2, 3, a0_, .ref q3_), (0, 0, q2_, .ref q0_), (0, 1, q2_, .ref q1_), (5, 0, q1_, .ref q6_), (5, 1, q1_, .ref q7_)]) rfl (fun fr_166 H locs hp hMr_166 g => ?_)
      have hF_167 := hp
      have hG_168 := eOK.frame hMr_166 go_.2.2.2.1 mq2_ kq2_ (by decide) (by decide) hG_165
      have g := g.more hF_167
      refine lv_aload_n hx hb dX2_readLet_156 rfl (lv_at hl 3 rfl) ?_
      refine g_getk (C := RX2) (T := TX2) (N := 16) hx hb hts (mc_ inX2) hown hK g rfl 3 (by decide) rfl (hts _ (List.mem_cons_of_mem _ t_419)) (fun _ h9 => h9) 13 rfl dX2_readLet_157 ?_
      refine lv_bipush (v := 20) hx hb dX2_readLet_160 (by decide) ?_
      refine lv_iconst (v := 3) hx hb dX2_readLet_162 (by decide) ?_
      refine lv_iload hx hb dX2_readLet_163 (lv_at hl 0 rfl) ?_
      refine lv_iadd hx hb dX2_readLet_165 ?_
      refine lv_topi (fun y_169 ey_169 => ?_)
      obtain rfl : y_159 = y_169 := ey_159.trans ey_169.symm
      have go_ := g
      refine g_callv (va_runV (As := [.int 20, .int y_159]) (rest := []) ⟨hx, hb, hml, hown, hts⟩ (r_X7_emit l dC dI L kd tys fr_166 H.size g.2.2.2.1 q3_ mq3_ kq3_ 20 y_159) (cwV 2 hts (gV_ t_1301 t_1204 t_1205 t_191 t_1206) rfl rfl rfl (by decide +kernel) ⟨(Nat.le_of_ble_eq_true rfl), (Nat.le_of_ble_eq_true rfl)⟩) (pre3V g hK mq3_ kq3_ (by decide) (q := (RX7, TX7, 19)) rfl) rfl rfl hl.1 rfl (lv_room (Nat.le_of_ble_eq_true rfl)) dX2_readLet_166 ⟨(Nat.le_of_ble_eq_true rfl), (Nat.le_of_ble_eq_true rfl)⟩) g hK (by decide) (by decide) (fx' := [(0, 13, q2_, .int 0), (0, 12, q2_, .int 1), (0, 11, q2_, .int 0), (0, 10, q2_, .int 0), (0, 8, q2_, .int 0), (0, 2, q2_, .ref q6_), (8, 6, q0_, .int x_155), (8, 8, q0_, .int x_148), (5, 6, q1_, .int x_10), (2, 0, a0_, .ref q0_), (2, 1, a0_, .ref q1_), (2, 2, a0_, .ref q2_), (2, 3, a0_, .ref q3_), (0, 0, q2_, .ref q0_), (0, 1, q2_, .ref q1_), (5, 0, q1_, .ref q6_), (5, 1, q1_, .ref q7_)]) rfl (fun fr_170 H locs hp hMr_170 g => ?_)
      obtain ⟨x_171, h_172, hF_173⟩ := hp
      have hG_174 := eOK.frame hMr_170 go_.2.2.2.1 mq2_ kq2_ (by decide) (by decide) hG_168
      have g := g.more hF_173
      refine lv_aload_n hx hb dX2_readLet_169 rfl (lv_at hl 3 rfl) ?_
      refine g_getk (C := RX2) (T := TX2) (N := 16) hx hb hts (mc_ inX2) hown hK g rfl 0 (by decide) rfl (hts _ (List.mem_cons_of_mem _ t_416)) (fun _ h9 => h9) 10 rfl dX2_readLet_170 ?_
      refine lv_bipush (v := 59) hx hb dX2_readLet_173 (by decide) ?_
      have go_ := g
      refine g_callv (va_runV (As := [.int 59]) (rest := []) ⟨hx, hb, hml, hown, hts⟩ (r_X8_take_2 l dC dI L kd tys fr_170 H.size g.2.2.2.1 q0_ mq0_ kq0_ 59 x_155 h_156 x_148 h_149 (g.fcts [7, 8] rfl)) (cwV 1 hts (gV_ t_1098 t_1099 t_1100 t_184 t_1101) rfl rfl rfl (by decide +kernel) ⟨(Nat.le_of_ble_eq_true rfl), (Nat.le_of_ble_eq_true rfl)⟩) (pre3V g hK mq0_ kq0_ (by decide) (q := (RX8, TX8, 10)) rfl) rfl rfl hl.1 rfl (lv_room (Nat.le_of_ble_eq_true rfl)) dX2_readLet_175 ⟨(Nat.le_of_ble_eq_true rfl), (Nat.le_of_ble_eq_true rfl)⟩) g hK (by decide) (by decide) (fx' := [(7, 6, q3_, .int x_171), (0, 13, q2_, .int 0), (0, 12, q2_, .int 1), (0, 11, q2_, .int 0), (0, 10, q2_, .int 0), (0, 8, q2_, .int 0), (0, 2, q2_, .ref q6_), (8, 8, q0_, .int x_148), (5, 6, q1_, .int x_10), (2, 0, a0_, .ref q0_), (2, 1, a0_, .ref q1_), (2, 2, a0_, .ref q2_), (2, 3, a0_, .ref q3_), (0, 0, q2_, .ref q0_), (0, 1, q2_, .ref q1_), (5, 0, q1_, .ref q6_), (5, 1, q1_, .ref q7_)]) rfl (fun fr_175 H locs hp hMr_175 g => ?_)
      obtain ⟨x_176, h_177, hF_178⟩ := hp
      have hG_179 := eOK.frame hMr_175 go_.2.2.2.1 mq2_ kq2_ (by decide) (by decide) hG_174
      have g := g.more hF_178
      subst hQ
      exact W.vret hx hb hr (fun t ht hW => ⟨⟨_, rfl, Or.inr (⟨hG_179, x_176, h_177, x_148, h_149, x_171, h_172, (g.fcts [0, 8, 1, 7] rfl)⟩), q3_of g hK ht hW⟩, g.2.2.1.F ht⟩) g.2.2.1.2.2 dX2_readLet_178
  · have fc_13 := neq_f c_13
    refine lv_aload_n hx hb dX2_readLet_43 rfl (lv_at hl 3 rfl) ?_
    refine g_getk (C := RX2) (T := TX2) (N := 16) hx hb hts (mc_ inX2) hown hK g rfl 0 (by decide) rfl (hts _ (List.mem_cons_of_mem _ t_416)) (fun _ h9 => h9) 2 rfl dX2_readLet_44 ?_
    refine lv_iconst (v := 1) hx hb dX2_readLet_47 (by decide) ?_
    refine lv_iload_n hx hb dX2_readLet_48 rfl (lv_at hl 2 rfl) ?_
    have kb_1 : bd 1 1 (1 : Int32) := ⟨by decide, by decide⟩
    have go_ := g
    refine g_callv (va_runV (As := [.int 1, .int r_6]) (rest := []) ⟨hx, hb, hml, hown, hts⟩ (r_X8_fail l dC dI L kd tys fr_11 H.size g.2.2.2.1 q0_ mq0_ kq0_ 1 (bd_sub kb_1 (by decide)) r_6 y0_ by0_ (g.fcts [10] rfl)) (cwV 2 hts (gV_ t_1122 t_1107 t_1108 t_184 t_1109) rfl rfl rfl (by decide +kernel) ⟨(Nat.le_of_ble_eq_true rfl), (Nat.le_of_ble_eq_true rfl)⟩) (pre3V g hK mq0_ kq0_ (by decide) (q := (RX8, TX8, 10)) rfl) rfl rfl hl.1 rfl (lv_room (Nat.le_of_ble_eq_true rfl)) dX2_readLet_49 ⟨(Nat.le_of_ble_eq_true rfl), (Nat.le_of_ble_eq_true rfl)⟩) g hK (by decide) (by decide) (fx' := [(5, 6, q1_, .int x_10), (2, 0, a0_, .ref q0_), (2, 1, a0_, .ref q1_), (2, 2, a0_, .ref q2_), (2, 3, a0_, .ref q3_), (0, 0, q2_, .ref q0_), (0, 1, q2_, .ref q1_), (5, 0, q1_, .ref q6_), (5, 1, q1_, .ref q7_)]) rfl (fun fr_180 H locs hp hMr_180 g => ?_)
    obtain ⟨x_181, h_182, hF_183⟩ := hp
    have hG_184 := eOK.frame hMr_180 go_.2.2.2.1 mq2_ kq2_ (by decide) (by decide) hG_12
    have g := g.more hF_183
    refine lv_goto (tgt := 120) hx hb dX2_readLet_52 (by decide) ?_
    refine lv_aload_n hx hb dX2_readLet_120 rfl (lv_at hl 3 rfl) ?_
    refine g_getk (C := RX2) (T := TX2) (N := 16) hx hb hts (mc_ inX2) hown hK g rfl 0 (by decide) rfl (hts _ (List.mem_cons_of_mem _ t_416)) (fun _ h9 => h9) 3 rfl dX2_readLet_121 ?_
    have kb_1201 : bd 1201 1201 (1201 : Int32) := ⟨by decide, by decide⟩
    have go_ := g
    refine g_callv (va_runV (As := []) (rest := []) ⟨hx, hb, hml, hown, hts⟩ (r_X8_next_2 l dC dI L kd tys fr_180 H.size g.2.2.2.1 q0_ mq0_ kq0_ 1201 kb_1201 (g.fcts [0] rfl)) (cwV 0 hts (gV_ t_1131 t_1103 t_1104 t_184 t_1105) rfl rfl rfl (by decide +kernel) ⟨(Nat.le_of_ble_eq_true rfl), (Nat.le_of_ble_eq_true rfl)⟩) (pre3V g hK mq0_ kq0_ (by decide) (q := (RX8, TX8, 10)) rfl) rfl rfl hl.1 rfl (lv_room (Nat.le_of_ble_eq_true rfl)) dX2_readLet_124 ⟨(Nat.le_of_ble_eq_true rfl), (Nat.le_of_ble_eq_true rfl)⟩) g hK (by decide) (by decide) (fx' := [(8, 6, q0_, .int 1201), (8, 8, q0_, .int x_181), (5, 6, q1_, .int x_10), (2, 0, a0_, .ref q0_), (2, 1, a0_, .ref q1_), (2, 2, a0_, .ref q2_), (2, 3, a0_, .ref q3_), (0, 0, q2_, .ref q0_), (0, 1, q2_, .ref q1_), (5, 0, q1_, .ref q6_), (5, 1, q1_, .ref q7_)]) rfl (fun fr_185 H locs hp hMr_185 g => ?_)
    have hG_186 := eOK.frame hMr_185 go_.2.2.2.1 mq2_ kq2_ (by decide) (by decide) hG_184
    refine lv_aload_n hx hb dX2_readLet_127 rfl (lv_at hl 3 rfl) ?_
    refine g_getk (C := RX2) (T := TX2) (N := 16) hx hb hts (mc_ inX2) hown hK g rfl 0 (by decide) rfl (hts _ (List.mem_cons_of_mem _ t_416)) (fun _ h9 => h9) 3 rfl dX2_readLet_128 ?_
    refine lv_bipush (v := 61) hx hb dX2_readLet_131 (by decide) ?_
    have go_ := g
    refine g_callv (va_runV (As := [.int 61]) (rest := []) ⟨hx, hb, hml, hown, hts⟩ (r_X8_take_2 l dC dI L kd tys fr_185 H.size g.2.2.2.1 q0_ mq0_ kq0_ 61 1201 kb_1201 x_181 h_182 (g.fcts [0, 1] rfl)) (cwV 1 hts (gV_ t_1098 t_1099 t_1100 t_184 t_1101) rfl rfl rfl (by decide +kernel) ⟨(Nat.le_of_ble_eq_true rfl), (Nat.le_of_ble_eq_true rfl)⟩) (pre3V g hK mq0_ kq0_ (by decide) (q := (RX8, TX8, 10)) rfl) rfl rfl hl.1 rfl (lv_room (Nat.le_of_ble_eq_true rfl)) dX2_readLet_133 ⟨(Nat.le_of_ble_eq_true rfl), (Nat.le_of_ble_eq_true rfl)⟩) g hK (by decide) (by decide) (fx' := [(8, 8, q0_, .int x_181), (5, 6, q1_, .int x_10), (2, 0, a0_, .ref q0_), (2, 1, a0_, .ref q1_), (2, 2, a0_, .ref q2_), (2, 3, a0_, .ref q3_), (0, 0, q2_, .ref q0_), (0, 1, q2_, .ref q1_), (5, 0, q1_, .ref q6_), (5, 1, q1_, .ref q7_)]) rfl (fun fr_187 H locs hp hMr_187 g => ?_)
    obtain ⟨x_188, h_189, hF_190⟩ := hp
    have hG_191 := eOK.frame hMr_187 go_.2.2.2.1 mq2_ kq2_ (by decide) (by decide) hG_186
    have g := g.more hF_190
    refine lv_aload_n hx hb dX2_readLet_136 rfl (lv_at hl 3 rfl) ?_
    refine g_getk (C := RX2) (T := TX2) (N := 16) hx hb hts (mc_ inX2) hown hK g rfl 3 (by decide) rfl (hts _ (List.mem_cons_of_mem _ t_419)) (fun _ h9 => h9) 6 rfl dX2_readLet_137 ?_
    refine lv_bipush (v := 14) hx hb dX2_readLet_140 (by decide) ?_
    refine lv_iconst (v := 3) hx hb dX2_readLet_142 (by decide) ?_
    refine lv_iload hx hb dX2_readLet_143 (lv_at hl 0 rfl) ?_
    refine lv_iadd hx hb dX2_readLet_145 ?_
    refine lv_topi (fun y_192 ey_192 => ?_)
    have ty_192 := add_bd ey_192 kb_3 bx_10 (by decide)
    have b_193 : bd 3 11 y_192 := add_rg ty_192 kb_3 bx_10 (by decide)
    have go_ := g
    refine g_callv (va_runV (As := [.int 14, .int y_192]) (rest := []) ⟨hx, hb, hml, hown, hts⟩ (r_X7_emit l dC dI L kd tys fr_187 H.size g.2.2.2.1 q3_ mq3_ kq3_ 14 y_192) (cwV 2 hts (gV_ t_1301 t_1204 t_1205 t_191 t_1206) rfl rfl rfl (by decide +kernel) ⟨(Nat.le_of_ble_eq_true rfl), (Nat.le_of_ble_eq_true rfl)⟩) (pre3V g hK mq3_ kq3_ (by decide) (q := (RX7, TX7, 19)) rfl) rfl rfl hl.1 rfl (lv_room (Nat.le_of_ble_eq_true rfl)) dX2_readLet_146 ⟨(Nat.le_of_ble_eq_true rfl), (Nat.le_of_ble_eq_true rfl)⟩) g hK (by decide) (by decide) (fx' := [(8, 6, q0_, .int x_188), (8, 8, q0_, .int x_181), (5, 6, q1_, .int x_10), (2, 0, a0_, .ref q0_), (2, 1, a0_, .ref q1_), (2, 2, a0_, .ref q2_), (2, 3, a0_, .ref q3_), (0, 0, q2_, .ref q0_), (0, 1, q2_, .ref q1_), (5, 0, q1_, .ref q6_), (5, 1, q1_, .ref q7_)]) rfl (fun fr_194 H locs hp hMr_194 g => ?_)
    obtain ⟨x_195, h_196, hF_197⟩ := hp
    have hG_198 := eOK.frame hMr_194 go_.2.2.2.1 mq2_ kq2_ (by decide) (by decide) hG_191
    have g := g.more hF_197
    refine lv_aload_n hx hb dX2_readLet_149 rfl (lv_at hl 3 rfl) ?_
    refine g_getk (C := RX2) (T := TX2) (N := 16) hx hb hts (mc_ inX2) hown hK g rfl 2 (by decide) rfl (hts _ (List.mem_cons_of_mem _ t_418)) (fun _ h9 => h9) 6 rfl dX2_readLet_150 ?_
    have go_ := g
    refine g_callv (va_runV (As := []) (rest := []) ⟨hx, hb, hml, hown, hts⟩ (r_X0_read_2 l dC dI L kd tys fr_194 H.size g.2.2.2.1 q2_ mq2_ kq2_ q0_ mq0_ kq0_ q1_ mq1_ kq1_ q6_ mq6_ kq6_ q7_ mq7_ kq7_ x_188 h_189 x_181 h_182 hG_198 (g.fcts [8, 9, 10, 11, 1, 2] rfl)) (cwV 0 hts (gV_ t_1182 t_1183 t_1184 t_190 t_1185) rfl rfl rfl (by decide +kernel) ⟨(Nat.le_of_ble_eq_true rfl), (Nat.le_of_ble_eq_true rfl)⟩) (pre3V g hK mq2_ kq2_ (by decide) (q := (RX0, TX0, 14)) rfl) rfl rfl hl.1 rfl (lv_room (Nat.le_of_ble_eq_true rfl)) dX2_readLet_153 ⟨(Nat.le_of_ble_eq_true rfl), (Nat.le_of_ble_eq_true rfl)⟩) g hK (by decide) (by decide) (fx' := [(7, 6, q3_, .int x_195), (8, 6, q0_, .int x_188), (8, 8, q0_, .int x_181), (5, 6, q1_, .int x_10), (2, 0, a0_, .ref q0_), (2, 1, a0_, .ref q1_), (2, 2, a0_, .ref q2_), (2, 3, a0_, .ref q3_), (0, 0, q2_, .ref q0_), (0, 1, q2_, .ref q1_), (5, 0, q1_, .ref q6_), (5, 1, q1_, .ref q7_)]) rfl (fun fr_199 H locs hp hMr_199 g => ?_)
    have hF_200 := hp
    have hG_201 := eOK.frame hMr_199 go_.2.2.2.1 mq2_ kq2_ (by decide) (by decide) hG_198
    have g := g.more hF_200
    refine lv_aload_n hx hb dX2_readLet_156 rfl (lv_at hl 3 rfl) ?_
    refine g_getk (C := RX2) (T := TX2) (N := 16) hx hb hts (mc_ inX2) hown hK g rfl 3 (by decide) rfl (hts _ (List.mem_cons_of_mem _ t_419)) (fun _ h9 => h9) 13 rfl dX2_readLet_157 ?_
    refine lv_bipush (v := 20) hx hb dX2_readLet_160 (by decide) ?_
    refine lv_iconst (v := 3) hx hb dX2_readLet_162 (by decide) ?_
    refine lv_iload hx hb dX2_readLet_163 (lv_at hl 0 rfl) ?_
    refine lv_iadd hx hb dX2_readLet_165 ?_
    refine lv_topi (fun y_202 ey_202 => ?_)
    obtain rfl : y_192 = y_202 := ey_192.trans ey_202.symm
    have go_ := g
    refine g_callv (va_runV (As := [.int 20, .int y_192]) (rest := []) ⟨hx, hb, hml, hown, hts⟩ (r_X7_emit l dC dI L kd tys fr_199 H.size g.2.2.2.1 q3_ mq3_ kq3_ 20 y_192) (cwV 2 hts (gV_ t_1301 t_1204 t_1205 t_191 t_1206) rfl rfl rfl (by decide +kernel) ⟨(Nat.le_of_ble_eq_true rfl), (Nat.le_of_ble_eq_true rfl)⟩) (pre3V g hK mq3_ kq3_ (by decide) (q := (RX7, TX7, 19)) rfl) rfl rfl hl.1 rfl (lv_room (Nat.le_of_ble_eq_true rfl)) dX2_readLet_166 ⟨(Nat.le_of_ble_eq_true rfl), (Nat.le_of_ble_eq_true rfl)⟩) g hK (by decide) (by decide) (fx' := [(0, 13, q2_, .int 0), (0, 12, q2_, .int 1), (0, 11, q2_, .int 0), (0, 10, q2_, .int 0), (0, 8, q2_, .int 0), (0, 2, q2_, .ref q6_), (8, 6, q0_, .int x_188), (8, 8, q0_, .int x_181), (5, 6, q1_, .int x_10), (2, 0, a0_, .ref q0_), (2, 1, a0_, .ref q1_), (2, 2, a0_, .ref q2_), (2, 3, a0_, .ref q3_), (0, 0, q2_, .ref q0_), (0, 1, q2_, .ref q1_), (5, 0, q1_, .ref q6_), (5, 1, q1_, .ref q7_)]) rfl (fun fr_203 H locs hp hMr_203 g => ?_)
    obtain ⟨x_204, h_205, hF_206⟩ := hp
    have hG_207 := eOK.frame hMr_203 go_.2.2.2.1 mq2_ kq2_ (by decide) (by decide) hG_201
    have g := g.more hF_206
    refine lv_aload_n hx hb dX2_readLet_169 rfl (lv_at hl 3 rfl) ?_
    refine g_getk (C := RX2) (T := TX2) (N := 16) hx hb hts (mc_ inX2) hown hK g rfl 0 (by decide) rfl (hts _ (List.mem_cons_of_mem _ t_416)) (fun _ h9 => h9) 10 rfl dX2_readLet_170 ?_
    refine lv_bipush (v := 59) hx hb dX2_readLet_173 (by decide) ?_
    have go_ := g
    refine g_callv (va_runV (As := [.int 59]) (rest := []) ⟨hx, hb, hml, hown, hts⟩ (r_X8_take_2 l dC dI L kd tys fr_203 H.size g.2.2.2.1 q0_ mq0_ kq0_ 59 x_188 h_189 x_181 h_182 (g.fcts [7, 8] rfl)) (cwV 1 hts (gV_ t_1098 t_1099 t_1100 t_184 t_1101) rfl rfl rfl (by decide +kernel) ⟨(Nat.le_of_ble_eq_true rfl), (Nat.le_of_ble_eq_true rfl)⟩) (pre3V g hK mq0_ kq0_ (by decide) (q := (RX8, TX8, 10)) rfl) rfl rfl hl.1 rfl (lv_room (Nat.le_of_ble_eq_true rfl)) dX2_readLet_175 ⟨(Nat.le_of_ble_eq_true rfl), (Nat.le_of_ble_eq_true rfl)⟩) g hK (by decide) (by decide) (fx' := [(7, 6, q3_, .int x_204), (0, 13, q2_, .int 0), (0, 12, q2_, .int 1), (0, 11, q2_, .int 0), (0, 10, q2_, .int 0), (0, 8, q2_, .int 0), (0, 2, q2_, .ref q6_), (8, 8, q0_, .int x_181), (5, 6, q1_, .int x_10), (2, 0, a0_, .ref q0_), (2, 1, a0_, .ref q1_), (2, 2, a0_, .ref q2_), (2, 3, a0_, .ref q3_), (0, 0, q2_, .ref q0_), (0, 1, q2_, .ref q1_), (5, 0, q1_, .ref q6_), (5, 1, q1_, .ref q7_)]) rfl (fun fr_208 H locs hp hMr_208 g => ?_)
    obtain ⟨x_209, h_210, hF_211⟩ := hp
    have hG_212 := eOK.frame hMr_208 go_.2.2.2.1 mq2_ kq2_ (by decide) (by decide) hG_207
    have g := g.more hF_211
    subst hQ
    exact W.vret hx hb hr (fun t ht hW => ⟨⟨_, rfl, Or.inr (⟨hG_212, x_209, h_210, x_181, h_182, x_204, h_205, (g.fcts [0, 8, 1, 7] rfl)⟩), q3_of g hK ht hW⟩, g.2.2.1.F ht⟩) g.2.2.1.2.2 dX2_readLet_178
set_option maxHeartbeats 4000000 in
set_option maxRecDepth 100000 in
theorem r_X2_readTest_2 (l : Launch) (dC : Nat → ClassId) (dI : Nat → Nat → Nat) (L : List Nat) (kd : Nat → Nat) (tys : List (ClassId × FieldType)) (f0 : Nat → va_E) (sz : Nat) (hWT : WT L kd tys f0) (a0_ : Nat) (ma0_ : a0_ ∈ L) (ka0_ : kd a0_ = 2) (x1_ : Int32) (q0_ : Nat) (mq0_ : q0_ ∈ L) (kq0_ : kd q0_ = 8) (q1_ : Nat) (mq1_ : q1_ ∈ L) (kq1_ : kd q1_ = 5) (q2_ : Nat) (mq2_ : q2_ ∈ L) (kq2_ : kd q2_ = 0) (q3_ : Nat) (mq3_ : q3_ ∈ L) (kq3_ : kd q3_ = 7) (q6_ : Nat) (mq6_ : q6_ ∈ L) (kq6_ : kd q6_ = 7) (q7_ : Nat) (mq7_ : q7_ ∈ L) (kq7_ : kd q7_ = 9) (y0_ : Int32) (by0_ : bd 0 0 y0_) (hGeq2_ : eOK f0 q2_) (hfx : Fs L kd f0 [(2, 0, a0_, .ref q0_), (2, 1, a0_, .ref q1_), (2, 2, a0_, .ref q2_), (2, 3, a0_, .ref q3_), (0, 0, q2_, .ref q0_), (0, 1, q2_, .ref q1_), (5, 0, q1_, .ref q6_), (5, 1, q1_, .ref q7_), (8, 8, q0_, .int y0_)]) : Met l yX2_readTest (.code yX2_readTest cX2_readTest 4 none :: lw_g) ({ frames := 4, cells := 0, slots := 0, locals := 97 }) (va_Pc [.ref a0_, .int x1_] (P3 (dC, dI) L tys f0 sz)) (va_Qv (fun (f : Nat → va_E) => (eOK f q2_ ∧ ∃ z0_ : Int32, bd 1 1201 z0_ ∧ ∃ z1_ : Int32, bd 1 8 z1_ ∧ ∃ z2_ : Int32, bd 0 0 z2_ ∧ ∃ z3_ : Int32, bd 1 2000 z3_ ∧ Fs L kd f [(8, 6, q0_, .int z0_), (2, 11, a0_, .int z1_), (8, 8, q0_, .int z2_), (7, 6, q3_, .int z3_), (0, 2, q2_, .ref q6_)]) ∨ (eOK f q2_ ∧ ∃ z1_ : Int32, bd 1 7 z1_ ∧ ∃ z2_ : Int32, bd 1 2000 z2_ ∧ Fs L kd f [(8, 6, q0_, .int 1201), (8, 8, q0_, .int z1_), (7, 6, q3_, .int z2_), (0, 2, q2_, .ref q6_)])) (Q3 (dC, dI) L kd tys [(0, 2), (0, 8), (0, 10), (0, 11), (0, 12), (0, 13), (2, 11), (7, 6), (7, 18), (8, 6), (8, 8), (8, 9)] [110, 111, 112, 113, 114, 115, 118, 119, 120, 121, 138, 139] f0 sz) (pA L sz)) 0 0 (pA L sz) := by
  refine Met.ofW (cc := cX2_readTest) (maxL := 4) (ret := none) (by decide) rfl ?_
  intro p e s m args below meth c s₁ B hml hv
  obtain ⟨rfl, hsz, hP, hK, hD0⟩ := hv
  have hx := B.exec
  have hb := B.bytes
  have hr := B.returns
  have hts := atoms_spec (ws := (.code yX2_readTest cX2_readTest 4 none :: lw_g)) B.pre
  have hown : s.vm.findClass RX2 = some m.cls := findClass_of_methodNamed B.named
  have hlocks := B.notSynchronized
  subst hsz
  have g : G3 (dC, dI) L kd tys s f0 [(0, 2), (0, 8), (0, 10), (0, 11), (0, 12), (0, 13), (2, 11), (7, 6), (7, 18), (8, 6), (8, 8), (8, 9)] [110, 111, 112, 113, 114, 115, 118, 119, 120, 121, 138, 139] f0 s.heap [] [(2, 0, a0_, .ref q0_), (2, 1, a0_, .ref q1_), (2, 2, a0_, .ref q2_), (2, 3, a0_, .ref q3_), (0, 0, q2_, .ref q0_), (0, 1, q2_, .ref q1_), (5, 0, q1_, .ref q6_), (5, 1, q1_, .ref q7_), (8, 8, q0_, .int y0_)] := G3.start hP hD0 hWT hfx
  have hl := lv_entry ([.ref a0_, .int x1_]) (n := 4) (Nat.le_of_ble_eq_true rfl)
  rw [lg_entry_eq]
  generalize (lg_sl ([.ref a0_, .int x1_]) ++ List.replicate (4 - (lg_sl ([.ref a0_, .int x1_])).length) Slot.unset).toArray = ls at hl ⊢
  have hl : lv_has ls 4 [(0, .ref a0_), (1, .int x1_)] := hl
  refine W_q (fun Q hQ => ?_)
  refine lv_aload_n hx hb dX2_readTest_0 rfl (lv_at hl 0 rfl) ?_
  refine g_getk (C := RX2) (T := TX2) (N := 16) hx hb hts (mc_ inX2) hown hK g rfl 0 (by decide) rfl (hts _ (List.mem_cons_of_mem _ t_416)) (fun _ h9 => h9) 0 rfl dX2_readTest_1 ?_
  have go_ := g
  refine g_callv (va_runV (As := []) (rest := []) ⟨hx, hb, hml, hown, hts⟩ (r_X8_next l dC dI L kd tys f0 s.heap.size g.2.2.2.1 q0_ mq0_ kq0_) (cwV 0 hts (gV_ t_1131 t_1103 t_1104 t_184 t_1105) rfl rfl rfl (by decide +kernel) ⟨(Nat.le_of_ble_eq_true rfl), (Nat.le_of_ble_eq_true rfl)⟩) (pre3V g hK mq0_ kq0_ (by decide) (q := (RX8, TX8, 10)) rfl) rfl rfl hl.1 rfl (lv_room (Nat.le_of_ble_eq_true rfl)) dX2_readTest_4 ⟨(Nat.le_of_ble_eq_true rfl), (Nat.le_of_ble_eq_true rfl)⟩) g hK (by decide) (by decide) (fx' := [(2, 0, a0_, .ref q0_), (2, 1, a0_, .ref q1_), (2, 2, a0_, .ref q2_), (2, 3, a0_, .ref q3_), (0, 0, q2_, .ref q0_), (0, 1, q2_, .ref q1_), (5, 0, q1_, .ref q6_), (5, 1, q1_, .ref q7_), (8, 8, q0_, .int y0_)]) rfl (fun fr_1 H locs hp hMr_1 g => ?_)
  obtain ⟨x_2, h_3, hF_4⟩ := hp
  have hG_5 := eOK.frame hMr_1 go_.2.2.2.1 mq2_ kq2_ (by decide) (by decide) hGeq2_
  have g := g.more hF_4
  refine lv_aload_n hx hb dX2_readTest_7 rfl (lv_at hl 0 rfl) ?_
  refine g_getk (C := RX2) (T := TX2) (N := 16) hx hb hts (mc_ inX2) hown hK g rfl 3 (by decide) rfl (hts _ (List.mem_cons_of_mem _ t_419)) (fun _ h9 => h9) 4 rfl dX2_readTest_8 ?_
  refine g_geti (C := RX7) (T := TX7) (N := 19) hx hb hts (mc_ inX7) hown hK g mq3_ kq3_ (by decide) rfl 6 (by decide) rfl (hts _ (List.mem_cons_of_mem _ t_647)) (fun _ h9 => h9) rfl dX2_readTest_11 (fun x_6 bx_6 g => ?_)
  refine lv_istore_n (lv' := [(2, .int x_6), (0, .ref a0_), (1, .int x1_)]) hx hb dX2_readTest_14 rfl hl (by decide) rfl (fun ls hl => ?_)
  refine lv_iload_n hx hb dX2_readTest_15 rfl (lv_at hl 2 rfl) ?_
  refine lv_bipush (v := 25) hx hb dX2_readTest_16 (by decide) ?_
  have kb_25 : bd 25 25 (25 : Int32) := ⟨by decide, by decide⟩
  refine lv_icmp_ne (tgt := 31) hx hb dX2_readTest_18 (by decide) (fun c_7 => ?_) (fun c_7 => ?_)
  · have fc_7 := neq_f c_7
    refine lv_aload_n hx hb dX2_readTest_31 rfl (lv_at hl 1 rfl) ?_
    refine g_getk (C := RX2) (T := TX2) (N := 16) hx hb hts (mc_ inX2) hown hK g rfl 2 (by decide) rfl (hts _ (List.mem_cons_of_mem _ t_418)) (fun _ h9 => h9) 4 rfl dX2_readTest_32 ?_
    have go_ := g
    refine g_callv (va_runV (As := []) (rest := []) ⟨hx, hb, hml, hown, hts⟩ (r_X0_read l dC dI L kd tys fr_1 H.size g.2.2.2.1 q2_ mq2_ kq2_ q0_ mq0_ kq0_ q1_ mq1_ kq1_ q6_ mq6_ kq6_ q7_ mq7_ kq7_ y0_ by0_ hG_5 (g.fcts [6, 7, 8, 9, 10] rfl)) (cwV 0 hts (gV_ t_1182 t_1183 t_1184 t_190 t_1185) rfl rfl rfl (by decide +kernel) ⟨(Nat.le_of_ble_eq_true rfl), (Nat.le_of_ble_eq_true rfl)⟩) (pre3V g hK mq2_ kq2_ (by decide) (q := (RX0, TX0, 14)) rfl) rfl rfl hl.1 rfl (lv_room (Nat.le_of_ble_eq_true rfl)) dX2_readTest_35 ⟨(Nat.le_of_ble_eq_true rfl), (Nat.le_of_ble_eq_true rfl)⟩) g hK (by decide) (by decide) (fx' := [(2, 0, a0_, .ref q0_), (2, 1, a0_, .ref q1_), (2, 2, a0_, .ref q2_), (2, 3, a0_, .ref q3_), (0, 0, q2_, .ref q0_), (0, 1, q2_, .ref q1_), (5, 0, q1_, .ref q6_), (5, 1, q1_, .ref q7_)]) rfl (fun fr_8 H locs hp hMr_8 g => ?_)
    rcases hp with ⟨hG_9, x_10, h_11, hF_12⟩ | ⟨hG_13, x_14, h_15, x_16, h_17, hF_18⟩
    · have g := g.more hF_12
      refine lv_aload_n hx hb dX2_readTest_38 rfl (lv_at hl 1 rfl) ?_
      refine g_getk (C := RX2) (T := TX2) (N := 16) hx hb hts (mc_ inX2) hown hK g rfl 3 (by decide) rfl (hts _ (List.mem_cons_of_mem _ t_419)) (fun _ h9 => h9) 5 rfl dX2_readTest_39 ?_
      refine g_geti (C := RX7) (T := TX7) (N := 19) hx hb hts (mc_ inX7) hown hK g mq3_ kq3_ (by decide) rfl 6 (by decide) rfl (hts _ (List.mem_cons_of_mem _ t_647)) (fun _ h9 => h9) rfl dX2_readTest_42 (fun x_19 bx_19 g => ?_)
      refine lv_istore_n (lv' := [(3, .int x_19), (2, .int x_6), (0, .ref a0_), (1, .int x1_)]) hx hb dX2_readTest_45 rfl hl (by decide) rfl (fun ls hl => ?_)
      refine lv_aload_n hx hb dX2_readTest_46 rfl (lv_at hl 2 rfl) ?_
      refine g_getk (C := RX2) (T := TX2) (N := 16) hx hb hts (mc_ inX2) hown hK g rfl 3 (by decide) rfl (hts _ (List.mem_cons_of_mem _ t_419)) (fun _ h9 => h9) 6 rfl dX2_readTest_47 ?_
      refine lv_bipush (v := 23) hx hb dX2_readTest_50 (by decide) ?_
      refine lv_iconst (v := 0) hx hb dX2_readTest_52 (by decide) ?_
      have go_ := g
      refine g_callv (va_runV (As := [.int 23, .int 0]) (rest := []) ⟨hx, hb, hml, hown, hts⟩ (r_X7_emit l dC dI L kd tys fr_8 H.size g.2.2.2.1 q3_ mq3_ kq3_ 23 0) (cwV 2 hts (gV_ t_1301 t_1204 t_1205 t_191 t_1206) rfl rfl rfl (by decide +kernel) ⟨(Nat.le_of_ble_eq_true rfl), (Nat.le_of_ble_eq_true rfl)⟩) (pre3V g hK mq3_ kq3_ (by decide) (q := (RX7, TX7, 19)) rfl) rfl rfl hl.1 rfl (lv_room (Nat.le_of_ble_eq_true rfl)) dX2_readTest_53 ⟨(Nat.le_of_ble_eq_true rfl), (Nat.le_of_ble_eq_true rfl)⟩) g hK (by decide) (by decide) (fx' := [(0, 2, q2_, .ref q6_), (8, 8, q0_, .int x_10), (2, 0, a0_, .ref q0_), (2, 1, a0_, .ref q1_), (2, 2, a0_, .ref q2_), (2, 3, a0_, .ref q3_), (0, 0, q2_, .ref q0_), (0, 1, q2_, .ref q1_), (5, 0, q1_, .ref q6_), (5, 1, q1_, .ref q7_)]) rfl (fun fr_20 H locs hp hMr_20 g => ?_)
      obtain ⟨x_21, h_22, hF_23⟩ := hp
      have hG_24 := eOK.frame hMr_20 go_.2.2.2.1 mq2_ kq2_ (by decide) (by decide) hG_9
      have g := g.more hF_23
      refine lv_aload_n hx hb dX2_readTest_56 rfl (lv_at hl 2 rfl) ?_
      refine lv_iload_n hx hb dX2_readTest_57 rfl (lv_at hl 3 rfl) ?_
      refine lv_bipush (v := 25) hx hb dX2_readTest_58 (by decide) ?_
      refine lv_icmp_ne (tgt := 67) hx hb dX2_readTest_60 (by decide) (fun c_25 => ?_) (fun c_25 => ?_)
      · have fc_25 := neq_f c_25
        refine lv_iconst (v := 1) hx hb dX2_readTest_67 (by decide) ?_
        refine lv_iload_n hx hb dX2_readTest_68 rfl (lv_at hl 0 rfl) ?_
        refine lv_iload_n hx hb dX2_readTest_69 rfl (lv_at hl 1 rfl) ?_
        have go_ := g
        refine g_callv (va_runV (As := [.int 1, .int x_19, .int x_6]) (rest := []) ⟨hx, hb, hml, hown, hts⟩ (r_X2_openBlock l dC dI L kd tys fr_20 H.size g.2.2.2.1 a0_ ma0_ ka0_ 1 x_19 x_6 q0_ mq0_ kq0_ x_10 h_11 (g.fcts [3, 2] rfl)) (cwV 3 hts (gV_ t_1338 t_1340 t_40 t_183 t_1341) rfl rfl rfl (by decide +kernel) ⟨(Nat.le_of_ble_eq_true rfl), (Nat.le_of_ble_eq_true rfl)⟩) (pre3V g hK ma0_ ka0_ (by decide) (q := (RX2, TX2, 16)) rfl) rfl rfl hl.1 rfl (lv_room (Nat.le_of_ble_eq_true rfl)) dX2_readTest_70 ⟨(Nat.le_of_ble_eq_true rfl), (Nat.le_of_ble_eq_true rfl)⟩) g hK (by decide) (by decide) (fx' := [(7, 6, q3_, .int x_21), (0, 2, q2_, .ref q6_), (2, 0, a0_, .ref q0_), (2, 1, a0_, .ref q1_), (2, 2, a0_, .ref q2_), (2, 3, a0_, .ref q3_), (0, 0, q2_, .ref q0_), (0, 1, q2_, .ref q1_), (5, 0, q1_, .ref q6_), (5, 1, q1_, .ref q7_)]) rfl (fun fr_26 H locs hp hMr_26 g => ?_)
        rcases hp with ⟨x_27, h_28, x_29, h_30, x_31, h_32, hF_33⟩ | ⟨x_34, h_35, hF_36⟩
        · have hG_37 := eOK.frame hMr_26 go_.2.2.2.1 mq2_ kq2_ (by decide) (by decide) hG_24
          have g := g.more hF_33
          subst hQ
          exact W.vret hx hb hr (fun t ht hW => ⟨⟨_, rfl, Or.inl ⟨hG_37, x_27, h_28, x_29, h_30, x_31, h_32, x_21, h_22, (g.fcts [0, 1, 2, 3, 4] rfl)⟩, q3_of g hK ht hW⟩, g.2.2.1.F ht⟩) g.2.2.1.2.2 dX2_readTest_73
        · have hG_38 := eOK.frame hMr_26 go_.2.2.2.1 mq2_ kq2_ (by decide) (by decide) hG_24
          have g := g.more hF_36
          subst hQ
          exact W.vret hx hb hr (fun t ht hW => ⟨⟨_, rfl, Or.inr (⟨hG_38, x_34, h_35, x_21, h_22, (g.fcts [0, 1, 2, 3] rfl)⟩), q3_of g hK ht hW⟩, g.2.2.1.F ht⟩) g.2.2.1.2.2 dX2_readTest_73
      · have fc_25 := eq_f c_25
        have b_39 : bd 25 25 x1_ := eqX fc_25 (bdT x1_) kb_25 (by decide)
        refine lv_iconst (v := 3) hx hb dX2_readTest_63 (by decide) ?_
        refine lv_goto (tgt := 68) hx hb dX2_readTest_64 (by decide) ?_
        refine lv_iload_n hx hb dX2_readTest_68 rfl (lv_at hl 0 rfl) ?_
        refine lv_iload_n hx hb dX2_readTest_69 rfl (lv_at hl 1 rfl) ?_
        have go_ := g
        refine g_callv (va_runV (As := [.int 3, .int x_19, .int x_6]) (rest := []) ⟨hx, hb, hml, hown, hts⟩ (r_X2_openBlock l dC dI L kd tys fr_20 H.size g.2.2.2.1 a0_ ma0_ ka0_ 3 x_19 x_6 q0_ mq0_ kq0_ x_10 h_11 (g.fcts [3, 2] rfl)) (cwV 3 hts (gV_ t_1338 t_1340 t_40 t_183 t_1341) rfl rfl rfl (by decide +kernel) ⟨(Nat.le_of_ble_eq_true rfl), (Nat.le_of_ble_eq_true rfl)⟩) (pre3V g hK ma0_ ka0_ (by decide) (q := (RX2, TX2, 16)) rfl) rfl rfl hl.1 rfl (lv_room (Nat.le_of_ble_eq_true rfl)) dX2_readTest_70 ⟨(Nat.le_of_ble_eq_true rfl), (Nat.le_of_ble_eq_true rfl)⟩) g hK (by decide) (by decide) (fx' := [(7, 6, q3_, .int x_21), (0, 2, q2_, .ref q6_), (2, 0, a0_, .ref q0_), (2, 1, a0_, .ref q1_), (2, 2, a0_, .ref q2_), (2, 3, a0_, .ref q3_), (0, 0, q2_, .ref q0_), (0, 1, q2_, .ref q1_), (5, 0, q1_, .ref q6_), (5, 1, q1_, .ref q7_)]) rfl (fun fr_40 H locs hp hMr_40 g => ?_)
        rcases hp with ⟨x_41, h_42, x_43, h_44, x_45, h_46, hF_47⟩ | ⟨x_48, h_49, hF_50⟩
        · have hG_51 := eOK.frame hMr_40 go_.2.2.2.1 mq2_ kq2_ (by decide) (by decide) hG_24
          have g := g.more hF_47
          subst hQ
          exact W.vret hx hb hr (fun t ht hW => ⟨⟨_, rfl, Or.inl ⟨hG_51, x_41, h_42, x_43, h_44, x_45, h_46, x_21, h_22, (g.fcts [0, 1, 2, 3, 4] rfl)⟩, q3_of g hK ht hW⟩, g.2.2.1.F ht⟩) g.2.2.1.2.2 dX2_readTest_73
        · have hG_52 := eOK.frame hMr_40 go_.2.2.2.1 mq2_ kq2_ (by decide) (by decide) hG_24
          have g := g.more hF_50
          subst hQ
          exact W.vret hx hb hr (fun t ht hW => ⟨⟨_, rfl, Or.inr (⟨hG_52, x_48, h_49, x_21, h_22, (g.fcts [0, 1, 2, 3] rfl)⟩), q3_of g hK ht hW⟩, g.2.2.1.F ht⟩) g.2.2.1.2.2 dX2_readTest_73
    · have g := g.more hF_18
      refine lv_aload_n hx hb dX2_readTest_38 rfl (lv_at hl 1 rfl) ?_
      refine g_getk (C := RX2) (T := TX2) (N := 16) hx hb hts (mc_ inX2) hown hK g rfl 3 (by decide) rfl (hts _ (List.mem_cons_of_mem _ t_419)) (fun _ h9 => h9) 6 rfl dX2_readTest_39 ?_
      refine g_geti (C := RX7) (T := TX7) (N := 19) hx hb hts (mc_ inX7) hown hK g mq3_ kq3_ (by decide) rfl 6 (by decide) rfl (hts _ (List.mem_cons_of_mem _ t_647)) (fun _ h9 => h9) rfl dX2_readTest_42 (fun x_53 bx_53 g => ?_)
      refine lv_istore_n (lv' := [(3, .int x_53), (2, .int x_6), (0, .ref a0_), (1, .int x1_)]) hx hb dX2_readTest_45 rfl hl (by decide) rfl (fun ls hl => ?_)
      refine lv_aload_n hx hb dX2_readTest_46 rfl (lv_at hl 2 rfl) ?_
      refine g_getk (C := RX2) (T := TX2) (N := 16) hx hb hts (mc_ inX2) hown hK g rfl 3 (by decide) rfl (hts _ (List.mem_cons_of_mem _ t_419)) (fun _ h9 => h9) 7 rfl dX2_readTest_47 ?_
      refine lv_bipush (v := 23) hx hb dX2_readTest_50 (by decide) ?_
      refine lv_iconst (v := 0) hx hb dX2_readTest_52 (by decide) ?_
      have go_ := g
      refine g_callv (va_runV (As := [.int 23, .int 0]) (rest := []) ⟨hx, hb, hml, hown, hts⟩ (r_X7_emit l dC dI L kd tys fr_8 H.size g.2.2.2.1 q3_ mq3_ kq3_ 23 0) (cwV 2 hts (gV_ t_1301 t_1204 t_1205 t_191 t_1206) rfl rfl rfl (by decide +kernel) ⟨(Nat.le_of_ble_eq_true rfl), (Nat.le_of_ble_eq_true rfl)⟩) (pre3V g hK mq3_ kq3_ (by decide) (q := (RX7, TX7, 19)) rfl) rfl rfl hl.1 rfl (lv_room (Nat.le_of_ble_eq_true rfl)) dX2_readTest_53 ⟨(Nat.le_of_ble_eq_true rfl), (Nat.le_of_ble_eq_true rfl)⟩) g hK (by decide) (by decide) (fx' := [(8, 6, q0_, .int x_14), (8, 8, q0_, .int x_16), (0, 2, q2_, .ref q6_), (2, 0, a0_, .ref q0_), (2, 1, a0_, .ref q1_), (2, 2, a0_, .ref q2_), (2, 3, a0_, .ref q3_), (0, 0, q2_, .ref q0_), (0, 1, q2_, .ref q1_), (5, 0, q1_, .ref q6_), (5, 1, q1_, .ref q7_)]) rfl (fun fr_54 H locs hp hMr_54 g => ?_)
      obtain ⟨x_55, h_56, hF_57⟩ := hp
      have hG_58 := eOK.frame hMr_54 go_.2.2.2.1 mq2_ kq2_ (by decide) (by decide) hG_13
      have g := g.more hF_57
      refine lv_aload_n hx hb dX2_readTest_56 rfl (lv_at hl 2 rfl) ?_
      refine lv_iload_n hx hb dX2_readTest_57 rfl (lv_at hl 3 rfl) ?_
      refine lv_bipush (v := 25) hx hb dX2_readTest_58 (by decide) ?_
      refine lv_icmp_ne (tgt := 67) hx hb dX2_readTest_60 (by decide) (fun c_59 => ?_) (fun c_59 => ?_)
      · have fc_59 := neq_f c_59
        refine lv_iconst (v := 1) hx hb dX2_readTest_67 (by decide) ?_
        refine lv_iload_n hx hb dX2_readTest_68 rfl (lv_at hl 0 rfl) ?_
        refine lv_iload_n hx hb dX2_readTest_69 rfl (lv_at hl 1 rfl) ?_
        have go_ := g
        refine g_callv (va_runV (As := [.int 1, .int x_53, .int x_6]) (rest := []) ⟨hx, hb, hml, hown, hts⟩ (r_X2_openBlock_2 l dC dI L kd tys fr_54 H.size g.2.2.2.1 a0_ ma0_ ka0_ 1 x_53 x_6 q0_ mq0_ kq0_ x_14 h_15 x_16 h_17 (g.fcts [4, 1, 2] rfl)) (cwV 3 hts (gV_ t_1338 t_1340 t_40 t_183 t_1341) rfl rfl rfl (by decide +kernel) ⟨(Nat.le_of_ble_eq_true rfl), (Nat.le_of_ble_eq_true rfl)⟩) (pre3V g hK ma0_ ka0_ (by decide) (q := (RX2, TX2, 16)) rfl) rfl rfl hl.1 rfl (lv_room (Nat.le_of_ble_eq_true rfl)) dX2_readTest_70 ⟨(Nat.le_of_ble_eq_true rfl), (Nat.le_of_ble_eq_true rfl)⟩) g hK (by decide) (by decide) (fx' := [(7, 6, q3_, .int x_55), (8, 8, q0_, .int x_16), (0, 2, q2_, .ref q6_), (2, 0, a0_, .ref q0_), (2, 1, a0_, .ref q1_), (2, 2, a0_, .ref q2_), (2, 3, a0_, .ref q3_), (0, 0, q2_, .ref q0_), (0, 1, q2_, .ref q1_), (5, 0, q1_, .ref q6_), (5, 1, q1_, .ref q7_)]) rfl (fun fr_60 H locs hp hMr_60 g => ?_)
        have hF_61 := hp
        have hG_62 := eOK.frame hMr_60 go_.2.2.2.1 mq2_ kq2_ (by decide) (by decide) hG_58
        have g := g.more hF_61
        subst hQ
        exact W.vret hx hb hr (fun t ht hW => ⟨⟨_, rfl, Or.inr (⟨hG_62, x_16, h_17, x_55, h_56, (g.fcts [0, 2, 1, 3] rfl)⟩), q3_of g hK ht hW⟩, g.2.2.1.F ht⟩) g.2.2.1.2.2 dX2_readTest_73
      · have fc_59 := eq_f c_59
        have b_63 : bd 25 25 x1_ := eqX fc_59 (bdT x1_) kb_25 (by decide)
        refine lv_iconst (v := 3) hx hb dX2_readTest_63 (by decide) ?_
        refine lv_goto (tgt := 68) hx hb dX2_readTest_64 (by decide) ?_
        refine lv_iload_n hx hb dX2_readTest_68 rfl (lv_at hl 0 rfl) ?_
        refine lv_iload_n hx hb dX2_readTest_69 rfl (lv_at hl 1 rfl) ?_
        have go_ := g
        refine g_callv (va_runV (As := [.int 3, .int x_53, .int x_6]) (rest := []) ⟨hx, hb, hml, hown, hts⟩ (r_X2_openBlock_2 l dC dI L kd tys fr_54 H.size g.2.2.2.1 a0_ ma0_ ka0_ 3 x_53 x_6 q0_ mq0_ kq0_ x_14 h_15 x_16 h_17 (g.fcts [4, 1, 2] rfl)) (cwV 3 hts (gV_ t_1338 t_1340 t_40 t_183 t_1341) rfl rfl rfl (by decide +kernel) ⟨(Nat.le_of_ble_eq_true rfl), (Nat.le_of_ble_eq_true rfl)⟩) (pre3V g hK ma0_ ka0_ (by decide) (q := (RX2, TX2, 16)) rfl) rfl rfl hl.1 rfl (lv_room (Nat.le_of_ble_eq_true rfl)) dX2_readTest_70 ⟨(Nat.le_of_ble_eq_true rfl), (Nat.le_of_ble_eq_true rfl)⟩) g hK (by decide) (by decide) (fx' := [(7, 6, q3_, .int x_55), (8, 8, q0_, .int x_16), (0, 2, q2_, .ref q6_), (2, 0, a0_, .ref q0_), (2, 1, a0_, .ref q1_), (2, 2, a0_, .ref q2_), (2, 3, a0_, .ref q3_), (0, 0, q2_, .ref q0_), (0, 1, q2_, .ref q1_), (5, 0, q1_, .ref q6_), (5, 1, q1_, .ref q7_)]) rfl (fun fr_64 H locs hp hMr_64 g => ?_)
        have hF_65 := hp
        have hG_66 := eOK.frame hMr_64 go_.2.2.2.1 mq2_ kq2_ (by decide) (by decide) hG_58
        have g := g.more hF_65
        subst hQ
        exact W.vret hx hb hr (fun t ht hW => ⟨⟨_, rfl, Or.inr (⟨hG_66, x_16, h_17, x_55, h_56, (g.fcts [0, 2, 1, 3] rfl)⟩), q3_of g hK ht hW⟩, g.2.2.1.F ht⟩) g.2.2.1.2.2 dX2_readTest_73
  · have fc_7 := eq_f c_7
    have b_67 : bd 25 25 x1_ := eqX fc_7 (bdT x1_) kb_25 (by decide)
    refine lv_aload_n hx hb dX2_readTest_21 rfl (lv_at hl 1 rfl) ?_
    refine g_getk (C := RX2) (T := TX2) (N := 16) hx hb hts (mc_ inX2) hown hK g rfl 3 (by decide) rfl (hts _ (List.mem_cons_of_mem _ t_419)) (fun _ h9 => h9) 5 rfl dX2_readTest_22 ?_
    refine lv_bipush (v := 13) hx hb dX2_readTest_25 (by decide) ?_
    refine lv_iconst (v := 0) hx hb dX2_readTest_27 (by decide) ?_
    have go_ := g
    refine g_callv (va_runV (As := [.int 13, .int 0]) (rest := []) ⟨hx, hb, hml, hown, hts⟩ (r_X7_emit l dC dI L kd tys fr_1 H.size g.2.2.2.1 q3_ mq3_ kq3_ 13 0) (cwV 2 hts (gV_ t_1301 t_1204 t_1205 t_191 t_1206) rfl rfl rfl (by decide +kernel) ⟨(Nat.le_of_ble_eq_true rfl), (Nat.le_of_ble_eq_true rfl)⟩) (pre3V g hK mq3_ kq3_ (by decide) (q := (RX7, TX7, 19)) rfl) rfl rfl hl.1 rfl (lv_room (Nat.le_of_ble_eq_true rfl)) dX2_readTest_28 ⟨(Nat.le_of_ble_eq_true rfl), (Nat.le_of_ble_eq_true rfl)⟩) g hK (by decide) (by decide) (fx' := [(8, 6, q0_, .int x_2), (2, 0, a0_, .ref q0_), (2, 1, a0_, .ref q1_), (2, 2, a0_, .ref q2_), (2, 3, a0_, .ref q3_), (0, 0, q2_, .ref q0_), (0, 1, q2_, .ref q1_), (5, 0, q1_, .ref q6_), (5, 1, q1_, .ref q7_), (8, 8, q0_, .int y0_)]) rfl (fun fr_68 H locs hp hMr_68 g => ?_)
    obtain ⟨x_69, h_70, hF_71⟩ := hp
    have hG_72 := eOK.frame hMr_68 go_.2.2.2.1 mq2_ kq2_ (by decide) (by decide) hG_5
    have g := g.more hF_71
    refine lv_aload_n hx hb dX2_readTest_31 rfl (lv_at hl 1 rfl) ?_
    refine g_getk (C := RX2) (T := TX2) (N := 16) hx hb hts (mc_ inX2) hown hK g rfl 2 (by decide) rfl (hts _ (List.mem_cons_of_mem _ t_418)) (fun _ h9 => h9) 4 rfl dX2_readTest_32 ?_
    have go_ := g
    refine g_callv (va_runV (As := []) (rest := []) ⟨hx, hb, hml, hown, hts⟩ (r_X0_read l dC dI L kd tys fr_68 H.size g.2.2.2.1 q2_ mq2_ kq2_ q0_ mq0_ kq0_ q1_ mq1_ kq1_ q6_ mq6_ kq6_ q7_ mq7_ kq7_ y0_ by0_ hG_72 (g.fcts [6, 7, 8, 9, 10] rfl)) (cwV 0 hts (gV_ t_1182 t_1183 t_1184 t_190 t_1185) rfl rfl rfl (by decide +kernel) ⟨(Nat.le_of_ble_eq_true rfl), (Nat.le_of_ble_eq_true rfl)⟩) (pre3V g hK mq2_ kq2_ (by decide) (q := (RX0, TX0, 14)) rfl) rfl rfl hl.1 rfl (lv_room (Nat.le_of_ble_eq_true rfl)) dX2_readTest_35 ⟨(Nat.le_of_ble_eq_true rfl), (Nat.le_of_ble_eq_true rfl)⟩) g hK (by decide) (by decide) (fx' := [(2, 0, a0_, .ref q0_), (2, 1, a0_, .ref q1_), (2, 2, a0_, .ref q2_), (2, 3, a0_, .ref q3_), (0, 0, q2_, .ref q0_), (0, 1, q2_, .ref q1_), (5, 0, q1_, .ref q6_), (5, 1, q1_, .ref q7_)]) rfl (fun fr_73 H locs hp hMr_73 g => ?_)
    rcases hp with ⟨hG_74, x_75, h_76, hF_77⟩ | ⟨hG_78, x_79, h_80, x_81, h_82, hF_83⟩
    · have g := g.more hF_77
      refine lv_aload_n hx hb dX2_readTest_38 rfl (lv_at hl 1 rfl) ?_
      refine g_getk (C := RX2) (T := TX2) (N := 16) hx hb hts (mc_ inX2) hown hK g rfl 3 (by decide) rfl (hts _ (List.mem_cons_of_mem _ t_419)) (fun _ h9 => h9) 5 rfl dX2_readTest_39 ?_
      refine g_geti (C := RX7) (T := TX7) (N := 19) hx hb hts (mc_ inX7) hown hK g mq3_ kq3_ (by decide) rfl 6 (by decide) rfl (hts _ (List.mem_cons_of_mem _ t_647)) (fun _ h9 => h9) rfl dX2_readTest_42 (fun x_84 bx_84 g => ?_)
      refine lv_istore_n (lv' := [(3, .int x_84), (2, .int x_6), (0, .ref a0_), (1, .int x1_)]) hx hb dX2_readTest_45 rfl hl (by decide) rfl (fun ls hl => ?_)
      refine lv_aload_n hx hb dX2_readTest_46 rfl (lv_at hl 2 rfl) ?_
      refine g_getk (C := RX2) (T := TX2) (N := 16) hx hb hts (mc_ inX2) hown hK g rfl 3 (by decide) rfl (hts _ (List.mem_cons_of_mem _ t_419)) (fun _ h9 => h9) 6 rfl dX2_readTest_47 ?_
      refine lv_bipush (v := 23) hx hb dX2_readTest_50 (by decide) ?_
      refine lv_iconst (v := 0) hx hb dX2_readTest_52 (by decide) ?_
      have go_ := g
      refine g_callv (va_runV (As := [.int 23, .int 0]) (rest := []) ⟨hx, hb, hml, hown, hts⟩ (r_X7_emit l dC dI L kd tys fr_73 H.size g.2.2.2.1 q3_ mq3_ kq3_ 23 0) (cwV 2 hts (gV_ t_1301 t_1204 t_1205 t_191 t_1206) rfl rfl rfl (by decide +kernel) ⟨(Nat.le_of_ble_eq_true rfl), (Nat.le_of_ble_eq_true rfl)⟩) (pre3V g hK mq3_ kq3_ (by decide) (q := (RX7, TX7, 19)) rfl) rfl rfl hl.1 rfl (lv_room (Nat.le_of_ble_eq_true rfl)) dX2_readTest_53 ⟨(Nat.le_of_ble_eq_true rfl), (Nat.le_of_ble_eq_true rfl)⟩) g hK (by decide) (by decide) (fx' := [(0, 2, q2_, .ref q6_), (8, 8, q0_, .int x_75), (2, 0, a0_, .ref q0_), (2, 1, a0_, .ref q1_), (2, 2, a0_, .ref q2_), (2, 3, a0_, .ref q3_), (0, 0, q2_, .ref q0_), (0, 1, q2_, .ref q1_), (5, 0, q1_, .ref q6_), (5, 1, q1_, .ref q7_)]) rfl (fun fr_85 H locs hp hMr_85 g => ?_)
      obtain ⟨x_86, h_87, hF_88⟩ := hp
      have hG_89 := eOK.frame hMr_85 go_.2.2.2.1 mq2_ kq2_ (by decide) (by decide) hG_74
      have g := g.more hF_88
      refine lv_aload_n hx hb dX2_readTest_56 rfl (lv_at hl 2 rfl) ?_
      refine lv_iload_n hx hb dX2_readTest_57 rfl (lv_at hl 3 rfl) ?_
      refine lv_bipush (v := 25) hx hb dX2_readTest_58 (by decide) ?_
      refine lv_icmp_ne (tgt := 67) hx hb dX2_readTest_60 (by decide) (fun c_90 => ?_) (fun c_90 => ?_)
      · have fc_90 := neq_f c_90
        have b_91 : bd 26 24 x1_ := neX fc_90 b_67 kb_25 (by decide)
        exact bd_no b_91 (by decide)
      · have fc_90 := eq_f c_90
        refine lv_iconst (v := 3) hx hb dX2_readTest_63 (by decide) ?_
        refine lv_goto (tgt := 68) hx hb dX2_readTest_64 (by decide) ?_
        refine lv_iload_n hx hb dX2_readTest_68 rfl (lv_at hl 0 rfl) ?_
        refine lv_iload_n hx hb dX2_readTest_69 rfl (lv_at hl 1 rfl) ?_
        have go_ := g
        refine g_callv (va_runV (As := [.int 3, .int x_84, .int x_6]) (rest := []) ⟨hx, hb, hml, hown, hts⟩ (r_X2_openBlock l dC dI L kd tys fr_85 H.size g.2.2.2.1 a0_ ma0_ ka0_ 3 x_84 x_6 q0_ mq0_ kq0_ x_75 h_76 (g.fcts [3, 2] rfl)) (cwV 3 hts (gV_ t_1338 t_1340 t_40 t_183 t_1341) rfl rfl rfl (by decide +kernel) ⟨(Nat.le_of_ble_eq_true rfl), (Nat.le_of_ble_eq_true rfl)⟩) (pre3V g hK ma0_ ka0_ (by decide) (q := (RX2, TX2, 16)) rfl) rfl rfl hl.1 rfl (lv_room (Nat.le_of_ble_eq_true rfl)) dX2_readTest_70 ⟨(Nat.le_of_ble_eq_true rfl), (Nat.le_of_ble_eq_true rfl)⟩) g hK (by decide) (by decide) (fx' := [(7, 6, q3_, .int x_86), (0, 2, q2_, .ref q6_), (2, 0, a0_, .ref q0_), (2, 1, a0_, .ref q1_), (2, 2, a0_, .ref q2_), (2, 3, a0_, .ref q3_), (0, 0, q2_, .ref q0_), (0, 1, q2_, .ref q1_), (5, 0, q1_, .ref q6_), (5, 1, q1_, .ref q7_)]) rfl (fun fr_92 H locs hp hMr_92 g => ?_)
        rcases hp with ⟨x_93, h_94, x_95, h_96, x_97, h_98, hF_99⟩ | ⟨x_100, h_101, hF_102⟩
        · have hG_103 := eOK.frame hMr_92 go_.2.2.2.1 mq2_ kq2_ (by decide) (by decide) hG_89
          have g := g.more hF_99
          subst hQ
          exact W.vret hx hb hr (fun t ht hW => ⟨⟨_, rfl, Or.inl ⟨hG_103, x_93, h_94, x_95, h_96, x_97, h_98, x_86, h_87, (g.fcts [0, 1, 2, 3, 4] rfl)⟩, q3_of g hK ht hW⟩, g.2.2.1.F ht⟩) g.2.2.1.2.2 dX2_readTest_73
        · have hG_104 := eOK.frame hMr_92 go_.2.2.2.1 mq2_ kq2_ (by decide) (by decide) hG_89
          have g := g.more hF_102
          subst hQ
          exact W.vret hx hb hr (fun t ht hW => ⟨⟨_, rfl, Or.inr (⟨hG_104, x_100, h_101, x_86, h_87, (g.fcts [0, 1, 2, 3] rfl)⟩), q3_of g hK ht hW⟩, g.2.2.1.F ht⟩) g.2.2.1.2.2 dX2_readTest_73
    · have g := g.more hF_83
      refine lv_aload_n hx hb dX2_readTest_38 rfl (lv_at hl 1 rfl) ?_
      refine g_getk (C := RX2) (T := TX2) (N := 16) hx hb hts (mc_ inX2) hown hK g rfl 3 (by decide) rfl (hts _ (List.mem_cons_of_mem _ t_419)) (fun _ h9 => h9) 6 rfl dX2_readTest_39 ?_
      refine g_geti (C := RX7) (T := TX7) (N := 19) hx hb hts (mc_ inX7) hown hK g mq3_ kq3_ (by decide) rfl 6 (by decide) rfl (hts _ (List.mem_cons_of_mem _ t_647)) (fun _ h9 => h9) rfl dX2_readTest_42 (fun x_105 bx_105 g => ?_)
      refine lv_istore_n (lv' := [(3, .int x_105), (2, .int x_6), (0, .ref a0_), (1, .int x1_)]) hx hb dX2_readTest_45 rfl hl (by decide) rfl (fun ls hl => ?_)
      refine lv_aload_n hx hb dX2_readTest_46 rfl (lv_at hl 2 rfl) ?_
      refine g_getk (C := RX2) (T := TX2) (N := 16) hx hb hts (mc_ inX2) hown hK g rfl 3 (by decide) rfl (hts _ (List.mem_cons_of_mem _ t_419)) (fun _ h9 => h9) 7 rfl dX2_readTest_47 ?_
      refine lv_bipush (v := 23) hx hb dX2_readTest_50 (by decide) ?_
      refine lv_iconst (v := 0) hx hb dX2_readTest_52 (by decide) ?_
      have go_ := g
      refine g_callv (va_runV (As := [.int 23, .int 0]) (rest := []) ⟨hx, hb, hml, hown, hts⟩ (r_X7_emit l dC dI L kd tys fr_73 H.size g.2.2.2.1 q3_ mq3_ kq3_ 23 0) (cwV 2 hts (gV_ t_1301 t_1204 t_1205 t_191 t_1206) rfl rfl rfl (by decide +kernel) ⟨(Nat.le_of_ble_eq_true rfl), (Nat.le_of_ble_eq_true rfl)⟩) (pre3V g hK mq3_ kq3_ (by decide) (q := (RX7, TX7, 19)) rfl) rfl rfl hl.1 rfl (lv_room (Nat.le_of_ble_eq_true rfl)) dX2_readTest_53 ⟨(Nat.le_of_ble_eq_true rfl), (Nat.le_of_ble_eq_true rfl)⟩) g hK (by decide) (by decide) (fx' := [(8, 6, q0_, .int x_79), (8, 8, q0_, .int x_81), (0, 2, q2_, .ref q6_), (2, 0, a0_, .ref q0_), (2, 1, a0_, .ref q1_), (2, 2, a0_, .ref q2_), (2, 3, a0_, .ref q3_), (0, 0, q2_, .ref q0_), (0, 1, q2_, .ref q1_), (5, 0, q1_, .ref q6_), (5, 1, q1_, .ref q7_)]) rfl (fun fr_106 H locs hp hMr_106 g => ?_)
      obtain ⟨x_107, h_108, hF_109⟩ := hp
      have hG_110 := eOK.frame hMr_106 go_.2.2.2.1 mq2_ kq2_ (by decide) (by decide) hG_78
      have g := g.more hF_109
      refine lv_aload_n hx hb dX2_readTest_56 rfl (lv_at hl 2 rfl) ?_
      refine lv_iload_n hx hb dX2_readTest_57 rfl (lv_at hl 3 rfl) ?_
      refine lv_bipush (v := 25) hx hb dX2_readTest_58 (by decide) ?_
      refine lv_icmp_ne (tgt := 67) hx hb dX2_readTest_60 (by decide) (fun c_111 => ?_) (fun c_111 => ?_)
      · have fc_111 := neq_f c_111
        have b_112 : bd 26 24 x1_ := neX fc_111 b_67 kb_25 (by decide)
        exact bd_no b_112 (by decide)
      · have fc_111 := eq_f c_111
        refine lv_iconst (v := 3) hx hb dX2_readTest_63 (by decide) ?_
        refine lv_goto (tgt := 68) hx hb dX2_readTest_64 (by decide) ?_
        refine lv_iload_n hx hb dX2_readTest_68 rfl (lv_at hl 0 rfl) ?_
        refine lv_iload_n hx hb dX2_readTest_69 rfl (lv_at hl 1 rfl) ?_
        have go_ := g
        refine g_callv (va_runV (As := [.int 3, .int x_105, .int x_6]) (rest := []) ⟨hx, hb, hml, hown, hts⟩ (r_X2_openBlock_2 l dC dI L kd tys fr_106 H.size g.2.2.2.1 a0_ ma0_ ka0_ 3 x_105 x_6 q0_ mq0_ kq0_ x_79 h_80 x_81 h_82 (g.fcts [4, 1, 2] rfl)) (cwV 3 hts (gV_ t_1338 t_1340 t_40 t_183 t_1341) rfl rfl rfl (by decide +kernel) ⟨(Nat.le_of_ble_eq_true rfl), (Nat.le_of_ble_eq_true rfl)⟩) (pre3V g hK ma0_ ka0_ (by decide) (q := (RX2, TX2, 16)) rfl) rfl rfl hl.1 rfl (lv_room (Nat.le_of_ble_eq_true rfl)) dX2_readTest_70 ⟨(Nat.le_of_ble_eq_true rfl), (Nat.le_of_ble_eq_true rfl)⟩) g hK (by decide) (by decide) (fx' := [(7, 6, q3_, .int x_107), (8, 8, q0_, .int x_81), (0, 2, q2_, .ref q6_), (2, 0, a0_, .ref q0_), (2, 1, a0_, .ref q1_), (2, 2, a0_, .ref q2_), (2, 3, a0_, .ref q3_), (0, 0, q2_, .ref q0_), (0, 1, q2_, .ref q1_), (5, 0, q1_, .ref q6_), (5, 1, q1_, .ref q7_)]) rfl (fun fr_113 H locs hp hMr_113 g => ?_)
        have hF_114 := hp
        have hG_115 := eOK.frame hMr_113 go_.2.2.2.1 mq2_ kq2_ (by decide) (by decide) hG_110
        have g := g.more hF_114
        subst hQ
        exact W.vret hx hb hr (fun t ht hW => ⟨⟨_, rfl, Or.inr (⟨hG_115, x_81, h_82, x_107, h_108, (g.fcts [0, 2, 1, 3] rfl)⟩), q3_of g hK ht hW⟩, g.2.2.1.F ht⟩) g.2.2.1.2.2 dX2_readTest_73
