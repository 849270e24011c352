set_option maxHeartbeats 4000000 in
set_option maxRecDepth 100000 in
theorem r_X2_readLet_2 (l : Launch) (dC : Nat → ClassId) (dI : Nat → Nat → Nat) (L : List Nat) (kd : Nat → Nat) (tys : List (ClassId × FieldType)) (f0 : Nat → va_E) (sz : Nat) (hWT : WT L kd tys f0) (a0_ : Nat) (ma0_ : a0_ ∈ L) (ka0_ : kd a0_ = 2) (q0_ : Nat) (mq0_ : q0_ ∈ L) (kq0_ : kd q0_ = 8) (q1_ : Nat) (mq1_ : q1_ ∈ L) (kq1_ : kd q1_ = 5) (q2_ : Nat) (mq2_ : q2_ ∈ L) (kq2_ : kd q2_ = 0) (q3_ : Nat) (mq3_ : q3_ ∈ L) (kq3_ : kd q3_ = 7) (q7_ : Nat) (mq7_ : q7_ ∈ L) (kq7_ : kd q7_ = 9) (y0_ : Int32) (by0_ : bd 0 0 y0_) (T_ : Nat) (J_ : Int32 → Prop) (hGdq3_ : dOK L kd f0 q3_ T_) (hGcq3_ : cOK f0 q3_) (hGsq3_ : jS f0 q3_ J_) (hGeq2_ : eOK f0 q2_) (hfx : Fs L kd f0 [(2, 0, a0_, .ref q0_), (2, 1, a0_, .ref q1_), (2, 2, a0_, .ref q2_), (2, 3, a0_, .ref q3_), (0, 0, q2_, .ref q0_), (0, 1, q2_, .ref q1_), (5, 0, q1_, .ref q3_), (5, 1, q1_, .ref q7_), (8, 8, q0_, .int y0_)]) : Met l yX2_readLet (.code yX2_readLet cX2_readLet 5 none :: lw_g) ({ frames := 4, cells := 0, slots := 0, locals := 97 }) (va_Pc [.ref a0_] (P3 (dC, dI) L tys f0 sz)) (va_Qv (fun (f : Nat → va_E) => (dOK L kd f q3_ T_ ∧ cOK f q3_ ∧ jS f q3_ J_ ∧ eOK f q2_ ∧ ∃ z0_ : Int32, bd 1 1201 z0_ ∧ ∃ z3_ : Int32, bd 1 8 z3_ ∧ Fs L kd f [(8, 6, q0_, .int z0_), (8, 8, q0_, .int y0_), (0, 2, q2_, .ref q3_), (5, 6, q1_, .int z3_)]) ∨ (dOK L kd f q3_ T_ ∧ eOK f q2_ ∧ ∃ z0_ : Int32, bd 1201 1201 z0_ ∧ ∃ z1_ : Int32, bd 1 7 z1_ ∧ Fs L kd f [(8, 6, q0_, .int z0_), (8, 8, q0_, .int z1_), (0, 2, q2_, .ref q3_)])) (Q3 (dC, dI) L kd tys [(0, 2), (0, 8), (0, 10), (0, 11), (0, 12), (0, 13), (5, 6), (7, 6), (7, 18), (8, 6), (8, 8), (8, 9)] [110, 111, 112, 113, 114, 115, 133, 138, 139] f0 sz) (pA L sz)) 0 0 (pA L sz) := by
  refine Met.ofW (cc := cX2_readLet) (maxL := 5) (ret := none) (by decide) rfl ?_
  intro p e s m args below meth c s₁ B hml hv
  obtain ⟨rfl, hsz, hP, hK, hD0⟩ := hv
  have hx := B.exec
  have hb := B.bytes
  have hr := B.returns
  have hts := atoms_spec (ws := (.code yX2_readLet cX2_readLet 5 none :: lw_g)) B.pre
  have hown : s.vm.findClass RX2 = some m.cls := findClass_of_methodNamed B.named
  have hlocks := B.notSynchronized
  subst hsz
  have g : G3 (dC, dI) L kd tys s f0 [(0, 2), (0, 8), (0, 10), (0, 11), (0, 12), (0, 13), (5, 6), (7, 6), (7, 18), (8, 6), (8, 8), (8, 9)] [110, 111, 112, 113, 114, 115, 133, 138, 139] f0 s.heap [] [(2, 0, a0_, .ref q0_), (2, 1, a0_, .ref q1_), (2, 2, a0_, .ref q2_), (2, 3, a0_, .ref q3_), (0, 0, q2_, .ref q0_), (0, 1, q2_, .ref q1_), (5, 0, q1_, .ref q3_), (5, 1, q1_, .ref q7_), (8, 8, q0_, .int y0_)] := G3.start hP hD0 hWT hfx
  have hl := lv_entry ([.ref a0_]) (n := 5) (Nat.le_of_ble_eq_true rfl)
  rw [lg_entry_eq]
  generalize (lg_sl ([.ref a0_]) ++ List.replicate (5 - (lg_sl ([.ref a0_])).length) Slot.unset).toArray = ls at hl ⊢
  have hl : lv_has ls 5 [(0, .ref a0_)] := hl
  refine W_q (fun Q hQ => ?_)
  refine lv_aload_n hx hb dX2_readLet_0 rfl (lv_at hl 0 rfl) ?_
  refine g_getk (C := RX2) (T := TX2) (N := 16) hx hb hts (mc_ inX2) hown hK g rfl 0 (by decide) rfl (hts _ (List.mem_cons_of_mem _ t_416)) (fun _ h9 => h9) 0 rfl dX2_readLet_1 ?_
  have go_ := g
  refine g_callv (va_runV (As := []) (rest := []) ⟨hx, hb, hml, hown, hts⟩ (r_X8_next l dC dI L kd tys f0 s.heap.size g.2.2.2.1 q0_ mq0_ kq0_) (cwV 0 hts (gV_ t_1131 t_1103 t_1104 t_184 t_1105) rfl rfl rfl (by decide +kernel) ⟨(Nat.le_of_ble_eq_true rfl), (Nat.le_of_ble_eq_true rfl)⟩) (pre3V g hK mq0_ kq0_ (by decide) (q := (RX8, TX8, 10)) rfl) rfl rfl hl.1 rfl (lv_room (Nat.le_of_ble_eq_true rfl)) dX2_readLet_4 ⟨(Nat.le_of_ble_eq_true rfl), (Nat.le_of_ble_eq_true rfl)⟩) g hK (by decide) (by decide) (fx' := [(2, 0, a0_, .ref q0_), (2, 1, a0_, .ref q1_), (2, 2, a0_, .ref q2_), (2, 3, a0_, .ref q3_), (0, 0, q2_, .ref q0_), (0, 1, q2_, .ref q1_), (5, 0, q1_, .ref q3_), (5, 1, q1_, .ref q7_), (8, 8, q0_, .int y0_)]) rfl (fun fr_1 H locs hp hMr_1 g => ?_)
  obtain ⟨x_2, h_3, hF_4⟩ := hp
  have hG_5 := dOK.frame hMr_1 go_.2.2.2.1 mq3_ kq3_ (by decide) (by decide) hGdq3_
  have hG_6 := cOK.frame hMr_1 go_.2.2.2.1 mq3_ kq3_ (by decide) (by decide) hGcq3_
  have hG_7 := jS.frame hMr_1 go_.2.2.2.1 mq3_ kq3_ (by decide) (by decide) hGsq3_
  have hG_8 := eOK.frame hMr_1 go_.2.2.2.1 mq2_ kq2_ (by decide) (by decide) hGeq2_
  have g := g.more hF_4
  refine lv_aload_n hx hb dX2_readLet_7 rfl (lv_at hl 0 rfl) ?_
  refine g_getk (C := RX2) (T := TX2) (N := 16) hx hb hts (mc_ inX2) hown hK g rfl 0 (by decide) rfl (hts _ (List.mem_cons_of_mem _ t_416)) (fun _ h9 => h9) 1 rfl dX2_readLet_8 ?_
  have go_ := g
  refine g_calli (va_runV (As := []) (rest := []) ⟨hx, hb, hml, hown, hts⟩ (r_X8_place l dC dI L kd tys fr_1 H.size g.2.2.2.1 q0_ mq0_ kq0_) (cwV 0 hts (gV_ t_1110 t_1111 t_1112 t_184 t_1113) rfl rfl rfl (by decide +kernel) ⟨(Nat.le_of_ble_eq_true rfl), (Nat.le_of_ble_eq_true rfl)⟩) (pre3V g hK mq0_ kq0_ (by decide) (q := (RX8, TX8, 10)) rfl) rfl rfl hl.1 rfl (lv_room (Nat.le_of_ble_eq_true rfl)) dX2_readLet_11 ⟨(Nat.le_of_ble_eq_true rfl), (Nat.le_of_ble_eq_true rfl)⟩) g hK (by decide) (by decide) (fx' := [(8, 6, q0_, .int x_2), (2, 0, a0_, .ref q0_), (2, 1, a0_, .ref q1_), (2, 2, a0_, .ref q2_), (2, 3, a0_, .ref q3_), (0, 0, q2_, .ref q0_), (0, 1, q2_, .ref q1_), (5, 0, q1_, .ref q3_), (5, 1, q1_, .ref q7_), (8, 8, q0_, .int y0_)]) rfl (fun r_9 fr_9 H locs hp hMr_9 g => ?_)
  have hG_10 := dOK.frame hMr_9 go_.2.2.2.1 mq3_ kq3_ (by decide) (by decide) hG_5
  have hG_11 := cOK.frame hMr_9 go_.2.2.2.1 mq3_ kq3_ (by decide) (by decide) hG_6
  have hG_12 := jS.frame hMr_9 go_.2.2.2.1 mq3_ kq3_ (by decide) (by decide) hG_7
  have hG_13 := eOK.frame hMr_9 go_.2.2.2.1 mq2_ kq2_ (by decide) (by decide) hG_8
  refine lv_istore_n (lv' := [(1, .int r_9), (0, .ref a0_)]) hx hb dX2_readLet_14 rfl hl (by decide) rfl (fun ls hl => ?_)
  refine lv_aload_n hx hb dX2_readLet_15 rfl (lv_at hl 1 rfl) ?_
  refine g_getk (C := RX2) (T := TX2) (N := 16) hx hb hts (mc_ inX2) hown hK g rfl 0 (by decide) rfl (hts _ (List.mem_cons_of_mem _ t_416)) (fun _ h9 => h9) 1 rfl dX2_readLet_16 ?_
  have go_ := g
  refine g_calll (va_runV (As := []) (rest := []) ⟨hx, hb, hml, hown, hts⟩ (r_X8_value l dC dI L kd tys fr_9 H.size g.2.2.2.1 q0_ mq0_ kq0_) (cwV 0 hts (gV_ t_1114 t_1115 t_1116 t_184 t_1117) rfl rfl rfl (by decide +kernel) ⟨(Nat.le_of_ble_eq_true rfl), (Nat.le_of_ble_eq_true rfl)⟩) (pre3V g hK mq0_ kq0_ (by decide) (q := (RX8, TX8, 10)) rfl) rfl rfl hl.1 rfl (lv_room (Nat.le_of_ble_eq_true rfl)) dX2_readLet_19 ⟨(Nat.le_of_ble_eq_true rfl), (Nat.le_of_ble_eq_true rfl)⟩) g hK (by decide) (by decide) (fx' := [(8, 6, q0_, .int x_2), (2, 0, a0_, .ref q0_), (2, 1, a0_, .ref q1_), (2, 2, a0_, .ref q2_), (2, 3, a0_, .ref q3_), (0, 0, q2_, .ref q0_), (0, 1, q2_, .ref q1_), (5, 0, q1_, .ref q3_), (5, 1, q1_, .ref q7_), (8, 8, q0_, .int y0_)]) rfl (fun r_14 fr_14 H locs hp hMr_14 g => ?_)
  have hG_15 := dOK.frame hMr_14 go_.2.2.2.1 mq3_ kq3_ (by decide) (by decide) hG_10
  have hG_16 := cOK.frame hMr_14 go_.2.2.2.1 mq3_ kq3_ (by decide) (by decide) hG_11
  have hG_17 := jS.frame hMr_14 go_.2.2.2.1 mq3_ kq3_ (by decide) (by decide) hG_12
  have hG_18 := eOK.frame hMr_14 go_.2.2.2.1 mq2_ kq2_ (by decide) (by decide) hG_13
  refine lv_lstore_n (lv' := [(2, .long r_14), (1, .int r_9), (0, .ref a0_)]) hx hb dX2_readLet_22 rfl hl (by decide) rfl (fun ls hl => ?_)
  refine lv_aload_n hx hb dX2_readLet_23 rfl (lv_at hl 2 rfl) ?_
  refine g_getk (C := RX2) (T := TX2) (N := 16) hx hb hts (mc_ inX2) hown hK g rfl 1 (by decide) rfl (hts _ (List.mem_cons_of_mem _ t_417)) (fun _ h9 => h9) 2 rfl dX2_readLet_24 ?_
  refine g_geti (C := RX5) (T := TX5) (N := 9) hx hb hts (mc_ inX5) hown hK g mq1_ kq1_ (by decide) rfl 6 (by decide) rfl (hts _ (List.mem_cons_of_mem _ t_341)) (fun _ h9 => h9) rfl dX2_readLet_27 (fun x_19 bx_19 g => ?_)
  refine lv_istore (lv' := [(4, .int x_19), (2, .long r_14), (1, .int r_9), (0, .ref a0_)]) hx hb dX2_readLet_30 hl (by decide) rfl (fun ls hl => ?_)
  refine lv_aload_n hx hb dX2_readLet_32 rfl (lv_at hl 3 rfl) ?_
  refine g_getk (C := RX2) (T := TX2) (N := 16) hx hb hts (mc_ inX2) hown hK g rfl 0 (by decide) rfl (hts _ (List.mem_cons_of_mem _ t_416)) (fun _ h9 => h9) 2 rfl dX2_readLet_33 ?_
  have go_ := g
  refine g_calli (va_runV (As := []) (rest := []) ⟨hx, hb, hml, hown, hts⟩ (r_X8_kind l dC dI L kd tys fr_14 H.size g.2.2.2.1 q0_ mq0_ kq0_) (cwV 0 hts (gV_ t_1118 t_1119 t_1120 t_184 t_1121) rfl rfl rfl (by decide +kernel) ⟨(Nat.le_of_ble_eq_true rfl), (Nat.le_of_ble_eq_true rfl)⟩) (pre3V g hK mq0_ kq0_ (by decide) (q := (RX8, TX8, 10)) rfl) rfl rfl hl.1 rfl (lv_room (Nat.le_of_ble_eq_true rfl)) dX2_readLet_36 ⟨(Nat.le_of_ble_eq_true rfl), (Nat.le_of_ble_eq_true rfl)⟩) g hK (by decide) (by decide) (fx' := [(5, 6, q1_, .int x_19), (8, 6, q0_, .int x_2), (2, 0, a0_, .ref q0_), (2, 1, a0_, .ref q1_), (2, 2, a0_, .ref q2_), (2, 3, a0_, .ref q3_), (0, 0, q2_, .ref q0_), (0, 1, q2_, .ref q1_), (5, 0, q1_, .ref q3_), (5, 1, q1_, .ref q7_), (8, 8, q0_, .int y0_)]) rfl (fun r_20 fr_20 H locs hp hMr_20 g => ?_)
  have hG_21 := dOK.frame hMr_20 go_.2.2.2.1 mq3_ kq3_ (by decide) (by decide) hG_15
  have hG_22 := cOK.frame hMr_20 go_.2.2.2.1 mq3_ kq3_ (by decide) (by decide) hG_16
  have hG_23 := jS.frame hMr_20 go_.2.2.2.1 mq3_ kq3_ (by decide) (by decide) hG_17
  have hG_24 := eOK.frame hMr_20 go_.2.2.2.1 mq2_ kq2_ (by decide) (by decide) hG_18
  refine lv_iconst (v := 3) hx hb dX2_readLet_39 (by decide) ?_
  have kb_3 : bd 3 3 (3 : Int32) := ⟨by decide, by decide⟩
  refine lv_icmp_eq (tgt := 55) hx hb dX2_readLet_40 (by decide) (fun c_25 => ?_) (fun c_25 => ?_)
  · have fc_25 := eq_f c_25
    have b_26 : bd 3 3 r_20 := eqX fc_25 (bdT r_20) kb_3 (by decide)
    refine lv_aload_n hx hb dX2_readLet_55 rfl (lv_at hl 3 rfl) ?_
    refine g_getk (C := RX2) (T := TX2) (N := 16) hx hb hts (mc_ inX2) hown hK g rfl 1 (by decide) rfl (hts _ (List.mem_cons_of_mem _ t_417)) (fun _ h9 => h9) 3 rfl dX2_readLet_56 ?_
    refine lv_lload_n hx hb dX2_readLet_59 rfl (lv_at hl 1 rfl) ?_
    have go_ := g
    refine g_calli (va_runV (As := [.long r_14]) (rest := []) ⟨hx, hb, hml, hown, hts⟩ (r_X5_placeNamed l dC dI L kd tys fr_20 H.size g.2.2.2.1 q1_ mq1_ kq1_ r_14 q7_ mq7_ kq7_ (g.fcts [9] rfl)) (cwV 1 hts (gV_ t_1317 t_1252 t_1253 t_189 t_1254) rfl rfl rfl (by decide +kernel) ⟨(Nat.le_of_ble_eq_true rfl), (Nat.le_of_ble_eq_true rfl)⟩) (pre3V g hK mq1_ kq1_ (by decide) (q := (RX5, TX5, 9)) rfl) rfl rfl hl.1 rfl (lv_room (Nat.le_of_ble_eq_true rfl)) dX2_readLet_60 ⟨(Nat.le_of_ble_eq_true rfl), (Nat.le_of_ble_eq_true rfl)⟩) g hK (by decide) (by decide) (fx' := [(5, 6, q1_, .int x_19), (8, 6, q0_, .int x_2), (2, 0, a0_, .ref q0_), (2, 1, a0_, .ref q1_), (2, 2, a0_, .ref q2_), (2, 3, a0_, .ref q3_), (0, 0, q2_, .ref q0_), (0, 1, q2_, .ref q1_), (5, 0, q1_, .ref q3_), (5, 1, q1_, .ref q7_), (8, 8, q0_, .int y0_)]) rfl (fun r_27 fr_27 H locs hp hMr_27 g => ?_)
    obtain ⟨h_28, -⟩ := hp
    have hG_29 := dOK.frame hMr_27 go_.2.2.2.1 mq3_ kq3_ (by decide) (by decide) hG_21
    have hG_30 := cOK.frame hMr_27 go_.2.2.2.1 mq3_ kq3_ (by decide) (by decide) hG_22
    have hG_31 := jS.frame hMr_27 go_.2.2.2.1 mq3_ kq3_ (by decide) (by decide) hG_23
    have hG_32 := eOK.frame hMr_27 go_.2.2.2.1 mq2_ kq2_ (by decide) (by decide) hG_24
    refine lv_iconst (v := (-1)) hx hb dX2_readLet_63 (by decide) ?_
    have kb_m1 : bd (-1) (-1) ((-1) : Int32) := ⟨by decide, by decide⟩
    refine lv_icmp_eq (tgt := 79) hx hb dX2_readLet_64 (by decide) (fun c_33 => ?_) (fun c_33 => ?_)
    · have fc_33 := eq_f c_33
      have b_34 : bd (-1) (-1) r_27 := eqX fc_33 h_28 kb_m1 (by decide)
      refine lv_iload hx hb dX2_readLet_79 (lv_at hl 0 rfl) ?_
      refine lv_bipush (v := 8) hx hb dX2_readLet_81 (by decide) ?_
      have kb_8 : bd 8 8 (8 : Int32) := ⟨by decide, by decide⟩
      refine lv_icmp_lt (tgt := 98) hx hb dX2_readLet_83 (by decide) (fun c_35 => ?_) (fun c_35 => ?_)
      · have fc_35 := lt_f c_35
        have b_36 : bd 0 7 x_19 := ltL fc_35 bx_19 kb_8 (by decide)
        refine lv_aload_n hx hb dX2_readLet_98 rfl (lv_at hl 3 rfl) ?_
        refine g_getk (C := RX2) (T := TX2) (N := 16) hx hb hts (mc_ inX2) hown hK g rfl 1 (by decide) rfl (hts _ (List.mem_cons_of_mem _ t_417)) (fun _ h9 => h9) 3 rfl dX2_readLet_99 ?_
        refine g_getr (K := 133) (C := RX5) (T := TX5) (N := 9) hx hb hts (mc_ inX5) hown hK g mq1_ kq1_ (by decide) rfl 5 (by decide) rfl (hts _ (List.mem_cons_of_mem _ t_339)) (fun _ h9 => h9) rfl dX2_readLet_102 (fun a_37 ma_37 ka_37 g => ?_)
        refine lv_iload hx hb dX2_readLet_105 (lv_at hl 0 rfl) ?_
        refine lv_lload_n hx hb dX2_readLet_107 rfl (lv_at hl 1 rfl) ?_
        have go_ := g
        refine g_last hx hb hK g ma_37 ka_37 (by decide) rfl (in_bd b_36 (by decide)) (by decide) dX2_readLet_108 (fun f H locs hM_38 g => ?_)
        have hG_39 := dOK.frame hM_38 go_.2.2.2.1 mq3_ kq3_ (by decide) (by decide) hG_29
        have hG_40 := cOK.frame hM_38 go_.2.2.2.1 mq3_ kq3_ (by decide) (by decide) hG_30
        have hG_41 := jS.frame hM_38 go_.2.2.2.1 mq3_ kq3_ (by decide) (by decide) hG_31
        have hG_42 := eOK.frame hM_38 go_.2.2.2.1 mq2_ kq2_ (by decide) (by decide) hG_32
        refine lv_aload_n hx hb dX2_readLet_109 rfl (lv_at hl 3 rfl) ?_
        refine g_getk (C := RX2) (T := TX2) (N := 16) hx hb hts (mc_ inX2) hown hK g rfl 1 (by decide) rfl (hts _ (List.mem_cons_of_mem _ t_417)) (fun _ h9 => h9) 4 rfl dX2_readLet_110 ?_
        refine lv_iload hx hb dX2_readLet_113 (lv_at hl 0 rfl) ?_
        refine lv_iconst (v := 1) hx hb dX2_readLet_115 (by decide) ?_
        have kb_1 : bd 1 1 (1 : Int32) := ⟨by decide, by decide⟩
        refine lv_iadd hx hb dX2_readLet_116 ?_
        refine lv_topi (fun y_43 ey_43 => ?_)
        have ty_43 := add_bd ey_43 b_36 kb_1 (by decide)
        have b_44 : bd 1 8 y_43 := add_rg ty_43 b_36 kb_1 (by decide)
        have go_ := g
        refine g_put (C := RX5) (T := TX5) (N := 9) hx hb hts (mc_ inX5) tyX5 tyX5_ok nmX5 hown hK g mq1_ kq1_ (by decide) rfl 6 (by decide) (hts _ (List.mem_cons_of_mem _ t_341)) (fun _ h9 => h9) rfl rfl (okV_i (bd_sub b_44 (by decide))) rfl rfl (by decide) (Or.inr (Or.inl (by decide))) (fx' := [(5, 5, q1_, .ref a_37), (8, 6, q0_, .int x_2), (2, 0, a0_, .ref q0_), (2, 1, a0_, .ref q1_), (2, 2, a0_, .ref q2_), (2, 3, a0_, .ref q3_), (0, 0, q2_, .ref q0_), (0, 1, q2_, .ref q1_), (5, 0, q1_, .ref q3_), (5, 1, q1_, .ref q7_), (8, 8, q0_, .int y0_)]) rfl dX2_readLet_117 (fun f H locs hM_45 g => ?_)
        have hG_46 := dOK.frame hM_45 go_.2.2.2.1 mq3_ kq3_ (by decide) (by decide) hG_39
        have hG_47 := cOK.frame hM_45 go_.2.2.2.1 mq3_ kq3_ (by decide) (by decide) hG_40
        have hG_48 := jS.frame hM_45 go_.2.2.2.1 mq3_ kq3_ (by decide) (by decide) hG_41
        have hG_49 := eOK.frame hM_45 go_.2.2.2.1 mq2_ kq2_ (by decide) (by decide) hG_42
        refine lv_aload_n hx hb dX2_readLet_120 rfl (lv_at hl 3 rfl) ?_
        refine g_getk (C := RX2) (T := TX2) (N := 16) hx hb hts (mc_ inX2) hown hK g rfl 0 (by decide) rfl (hts _ (List.mem_cons_of_mem _ t_416)) (fun _ h9 => h9) 3 rfl dX2_readLet_121 ?_
        have go_ := g
        refine g_callv (va_runV (As := []) (rest := []) ⟨hx, hb, hml, hown, hts⟩ (r_X8_next l dC dI L kd tys f H.size g.2.2.2.1 q0_ mq0_ kq0_) (cwV 0 hts (gV_ t_1131 t_1103 t_1104 t_184 t_1105) rfl rfl rfl (by decide +kernel) ⟨(Nat.le_of_ble_eq_true rfl), (Nat.le_of_ble_eq_true rfl)⟩) (pre3V g hK mq0_ kq0_ (by decide) (q := (RX8, TX8, 10)) rfl) rfl rfl hl.1 rfl (lv_room (Nat.le_of_ble_eq_true rfl)) dX2_readLet_124 ⟨(Nat.le_of_ble_eq_true rfl), (Nat.le_of_ble_eq_true rfl)⟩) g hK (by decide) (by decide) (fx' := [(5, 6, q1_, .int y_43), (5, 5, q1_, .ref a_37), (2, 0, a0_, .ref q0_), (2, 1, a0_, .ref q1_), (2, 2, a0_, .ref q2_), (2, 3, a0_, .ref q3_), (0, 0, q2_, .ref q0_), (0, 1, q2_, .ref q1_), (5, 0, q1_, .ref q3_), (5, 1, q1_, .ref q7_), (8, 8, q0_, .int y0_)]) rfl (fun fr_50 H locs hp hMr_50 g => ?_)
        obtain ⟨x_51, h_52, hF_53⟩ := hp
        have hG_54 := dOK.frame hMr_50 go_.2.2.2.1 mq3_ kq3_ (by decide) (by decide) hG_46
        have hG_55 := cOK.frame hMr_50 go_.2.2.2.1 mq3_ kq3_ (by decide) (by decide) hG_47
        have hG_56 := jS.frame hMr_50 go_.2.2.2.1 mq3_ kq3_ (by decide) (by decide) hG_48
        have hG_57 := eOK.frame hMr_50 go_.2.2.2.1 mq2_ kq2_ (by decide) (by decide) hG_49
        have g := g.more hF_53
        refine lv_aload_n hx hb dX2_readLet_127 rfl (lv_at hl 3 rfl) ?_
        refine g_getk (C := RX2) (T := TX2) (N := 16) hx hb hts (mc_ inX2) hown hK g rfl 0 (by decide) rfl (hts _ (List.mem_cons_of_mem _ t_416)) (fun _ h9 => h9) 3 rfl dX2_readLet_128 ?_
        refine lv_bipush (v := 61) hx hb dX2_readLet_131 (by decide) ?_
        have go_ := g
        refine g_callv (va_runV (As := [.int 61]) (rest := []) ⟨hx, hb, hml, hown, hts⟩ (r_X8_take l dC dI L kd tys fr_50 H.size g.2.2.2.1 q0_ mq0_ kq0_ 61 y0_ by0_ (g.fcts [11] rfl)) (cwV 1 hts (gV_ t_1098 t_1099 t_1100 t_184 t_1101) rfl rfl rfl (by decide +kernel) ⟨(Nat.le_of_ble_eq_true rfl), (Nat.le_of_ble_eq_true rfl)⟩) (pre3V g hK mq0_ kq0_ (by decide) (q := (RX8, TX8, 10)) rfl) rfl rfl hl.1 rfl (lv_room (Nat.le_of_ble_eq_true rfl)) dX2_readLet_133 ⟨(Nat.le_of_ble_eq_true rfl), (Nat.le_of_ble_eq_true rfl)⟩) g hK (by decide) (by decide) (fx' := [(5, 6, q1_, .int y_43), (5, 5, q1_, .ref a_37), (2, 0, a0_, .ref q0_), (2, 1, a0_, .ref q1_), (2, 2, a0_, .ref q2_), (2, 3, a0_, .ref q3_), (0, 0, q2_, .ref q0_), (0, 1, q2_, .ref q1_), (5, 0, q1_, .ref q3_), (5, 1, q1_, .ref q7_)]) rfl (fun fr_58 H locs hp hMr_58 g => ?_)
        rcases hp with ⟨x_59, h_60, hF_61⟩ | ⟨x_62, h_63, hF_64⟩
        · have hG_65 := dOK.frame hMr_58 go_.2.2.2.1 mq3_ kq3_ (by decide) (by decide) hG_54
          have hG_66 := cOK.frame hMr_58 go_.2.2.2.1 mq3_ kq3_ (by decide) (by decide) hG_55
          have hG_67 := jS.frame hMr_58 go_.2.2.2.1 mq3_ kq3_ (by decide) (by decide) hG_56
          have hG_68 := eOK.frame hMr_58 go_.2.2.2.1 mq2_ kq2_ (by decide) (by decide) hG_57
          have g := g.more hF_61
          refine lv_aload_n hx hb dX2_readLet_136 rfl (lv_at hl 3 rfl) ?_
          refine g_getk (C := RX2) (T := TX2) (N := 16) hx hb hts (mc_ inX2) hown hK g rfl 3 (by decide) rfl (hts _ (List.mem_cons_of_mem _ t_419)) (fun _ h9 => h9) 7 rfl dX2_readLet_137 ?_
          refine lv_bipush (v := 14) hx hb dX2_readLet_140 (by decide) ?_
          refine lv_iconst (v := 3) hx hb dX2_readLet_142 (by decide) ?_
          refine lv_iload hx hb dX2_readLet_143 (lv_at hl 0 rfl) ?_
          refine lv_iadd hx hb dX2_readLet_145 ?_
          refine lv_topi (fun y_69 ey_69 => ?_)
          have ty_69 := add_bd ey_69 kb_3 b_36 (by decide)
          have b_70 : bd 3 10 y_69 := add_rg ty_69 kb_3 b_36 (by decide)
          obtain ⟨a_71, ma_71, ka_71, g⟩ := g_factr g mq3_ kq3_ (by decide) 4 rfl
          obtain ⟨a_72, ma_72, ka_72, g⟩ := g_factr g mq3_ kq3_ (by decide) 5 rfl
          obtain ⟨x_73, bx_73, g⟩ := g_facti g mq3_ kq3_ (by decide) 6 rfl
          have kb_14 : bd 14 14 (14 : Int32) := ⟨by decide, by decide⟩
          have go_ := g
          refine g_callv (va_runV (As := [.int 14, .int y_69]) (rest := []) ⟨hx, hb, hml, hown, hts⟩ (r_X7_emitN l dC dI L kd tys fr_58 H.size g.2.2.2.1 q3_ mq3_ kq3_ a_71 ma_71 ka_71 a_72 ma_72 ka_72 x_73 bx_73 T_ hG_65 (14 : Int32) y_69 (fun j9 => jOK fr_58 q3_ j9) hG_66 (fun _ h9 => h9) ⟨(fun h9 => ⟨(by have h9_0 := b_26; unfold bd at h9_0; have h9_1 := b_34; unfold bd at h9_1; have h9_2 := b_36; unfold bd at h9_2; have h9_3 := h_3; unfold bd at h9_3; have h9_4 := h_52; unfold bd at h9_4; have h9_5 := h_60; unfold bd at h9_5; have h9_6 := bx_73; unfold bd at h9_6; have h9_7 := by0_; unfold bd at h9_7; have h9_8 := b_44; unfold bd at h9_8; have h9_9 := b_70; unfold bd at h9_9; have h8_0 := kb_1; unfold bd at h8_0; have h8_1 := kb_14; unfold bd at h8_1; have h8_2 := kb_3; unfold bd at h8_2; have h8_3 := kb_8; unfold bd at h8_3; have h8_4 := kb_m1; unfold bd at h8_4; omega), (by have h9_0 := b_26; unfold bd at h9_0; have h9_1 := b_34; unfold bd at h9_1; have h9_2 := b_36; unfold bd at h9_2; have h9_3 := h_3; unfold bd at h9_3; have h9_4 := h_52; unfold bd at h9_4; have h9_5 := h_60; unfold bd at h9_5; have h9_6 := bx_73; unfold bd at h9_6; have h9_7 := by0_; unfold bd at h9_7; have h9_8 := b_44; unfold bd at h9_8; have h9_9 := b_70; unfold bd at h9_9; have h8_0 := kb_1; unfold bd at h8_0; have h8_1 := kb_14; unfold bd at h8_1; have h8_2 := kb_3; unfold bd at h8_2; have h8_3 := kb_8; unfold bd at h8_3; have h8_4 := kb_m1; unfold bd at h8_4; omega)⟩), (fun h9 => ⟨(by have h9_0 := b_26; unfold bd at h9_0; have h9_1 := b_34; unfold bd at h9_1; have h9_2 := b_36; unfold bd at h9_2; have h9_3 := h_3; unfold bd at h9_3; have h9_4 := h_52; unfold bd at h9_4; have h9_5 := h_60; unfold bd at h9_5; have h9_6 := bx_73; unfold bd at h9_6; have h9_7 := by0_; unfold bd at h9_7; have h9_8 := b_44; unfold bd at h9_8; have h9_9 := b_70; unfold bd at h9_9; have h8_0 := kb_1; unfold bd at h8_0; have h8_1 := kb_14; unfold bd at h8_1; have h8_2 := kb_3; unfold bd at h8_2; have h8_3 := kb_8; unfold bd at h8_3; have h8_4 := kb_m1; unfold bd at h8_4; omega), (by have h9_0 := b_26; unfold bd at h9_0; have h9_1 := b_34; unfold bd at h9_1; have h9_2 := b_36; unfold bd at h9_2; have h9_3 := h_3; unfold bd at h9_3; have h9_4 := h_52; unfold bd at h9_4; have h9_5 := h_60; unfold bd at h9_5; have h9_6 := bx_73; unfold bd at h9_6; have h9_7 := by0_; unfold bd at h9_7; have h9_8 := b_44; unfold bd at h9_8; have h9_9 := b_70; unfold bd at h9_9; have h8_0 := kb_1; unfold bd at h8_0; have h8_1 := kb_14; unfold bd at h8_1; have h8_2 := kb_3; unfold bd at h8_2; have h8_3 := kb_8; unfold bd at h8_3; have h8_4 := kb_m1; unfold bd at h8_4; omega)⟩), (fun h9 => ⟨(by have h9_0 := b_26; unfold bd at h9_0; have h9_1 := b_34; unfold bd at h9_1; have h9_2 := b_36; unfold bd at h9_2; have h9_3 := h_3; unfold bd at h9_3; have h9_4 := h_52; unfold bd at h9_4; have h9_5 := h_60; unfold bd at h9_5; have h9_6 := bx_73; unfold bd at h9_6; have h9_7 := by0_; unfold bd at h9_7; have h9_8 := b_44; unfold bd at h9_8; have h9_9 := b_70; unfold bd at h9_9; have h8_0 := kb_1; unfold bd at h8_0; have h8_1 := kb_14; unfold bd at h8_1; have h8_2 := kb_3; unfold bd at h8_2; have h8_3 := kb_8; unfold bd at h8_3; have h8_4 := kb_m1; unfold bd at h8_4; omega), (by have h9_0 := b_26; unfold bd at h9_0; have h9_1 := b_34; unfold bd at h9_1; have h9_2 := b_36; unfold bd at h9_2; have h9_3 := h_3; unfold bd at h9_3; have h9_4 := h_52; unfold bd at h9_4; have h9_5 := h_60; unfold bd at h9_5; have h9_6 := bx_73; unfold bd at h9_6; have h9_7 := by0_; unfold bd at h9_7; have h9_8 := b_44; unfold bd at h9_8; have h9_9 := b_70; unfold bd at h9_9; have h8_0 := kb_1; unfold bd at h8_0; have h8_1 := kb_14; unfold bd at h8_1; have h8_2 := kb_3; unfold bd at h8_2; have h8_3 := kb_8; unfold bd at h8_3; have h8_4 := kb_m1; unfold bd at h8_4; omega)⟩)⟩ (g.fcts [2, 1, 0] rfl)) (cwV 2 hts (gV_ t_1301 t_1204 t_1205 t_191 t_1206) rfl rfl rfl (by decide +kernel) ⟨(Nat.le_of_ble_eq_true rfl), (Nat.le_of_ble_eq_true rfl)⟩) (pre3V g hK mq3_ kq3_ (by decide) (q := (RX7, TX7, 19)) rfl) rfl rfl hl.1 rfl (lv_room (Nat.le_of_ble_eq_true rfl)) dX2_readLet_146 ⟨(Nat.le_of_ble_eq_true rfl), (Nat.le_of_ble_eq_true rfl)⟩) g hK (by decide) (by decide) (fx' := [(7, 5, q3_, .ref a_72), (7, 4, q3_, .ref a_71), (8, 6, q0_, .int x_59), (8, 8, q0_, .int y0_), (5, 6, q1_, .int y_43), (5, 5, q1_, .ref a_37), (2, 0, a0_, .ref q0_), (2, 1, a0_, .ref q1_), (2, 2, a0_, .ref q2_), (2, 3, a0_, .ref q3_), (0, 0, q2_, .ref q0_), (0, 1, q2_, .ref q1_), (5, 0, q1_, .ref q3_), (5, 1, q1_, .ref q7_)]) rfl (fun fr_74 H locs hp hMr_74 g => ?_)
          obtain ⟨hG_75, hG_76, hG_77, hx_78, x_79, h_80, hF_81⟩ := hp
          have hG_82 := eOK.frame hMr_74 go_.2.2.2.1 mq2_ kq2_ (by decide) (by decide) hG_68
          have g := g.more hF_81
          have hs_83 := jS.mv hG_67 hG_77
          refine lv_aload_n hx hb dX2_readLet_149 rfl (lv_at hl 3 rfl) ?_
          refine g_getk (C := RX2) (T := TX2) (N := 16) hx hb hts (mc_ inX2) hown hK g rfl 2 (by decide) rfl (hts _ (List.mem_cons_of_mem _ t_418)) (fun _ h9 => h9) 9 rfl dX2_readLet_150 ?_
          have go_ := g
          refine g_callv (va_runV (As := []) (rest := []) ⟨hx, hb, hml, hown, hts⟩ (r_X0_read l dC dI L kd tys fr_74 H.size g.2.2.2.1 q2_ mq2_ kq2_ q0_ mq0_ kq0_ q1_ mq1_ kq1_ q3_ mq3_ kq3_ q7_ mq7_ kq7_ y0_ by0_ T_ (fun j9 => jOK fr_74 q3_ j9) hG_82 hG_76 hG_75 (fun _ h9 => h9) (g.fcts [11, 12, 13, 14, 4] rfl)) (cwV 0 hts (gV_ t_1182 t_1183 t_1184 t_190 t_1185) rfl rfl rfl (by decide +kernel) ⟨(Nat.le_of_ble_eq_true rfl), (Nat.le_of_ble_eq_true rfl)⟩) (pre3V g hK mq2_ kq2_ (by decide) (q := (RX0, TX0, 14)) rfl) rfl rfl hl.1 rfl (lv_room (Nat.le_of_ble_eq_true rfl)) dX2_readLet_153 ⟨(Nat.le_of_ble_eq_true rfl), (Nat.le_of_ble_eq_true rfl)⟩) g hK (by decide) (by decide) (fx' := [(7, 5, q3_, .ref a_72), (7, 4, q3_, .ref a_71), (5, 6, q1_, .int y_43), (5, 5, q1_, .ref a_37), (2, 0, a0_, .ref q0_), (2, 1, a0_, .ref q1_), (2, 2, a0_, .ref q2_), (2, 3, a0_, .ref q3_), (0, 0, q2_, .ref q0_), (0, 1, q2_, .ref q1_), (5, 0, q1_, .ref q3_), (5, 1, q1_, .ref q7_)]) rfl (fun fr_84 H locs hp hMr_84 g => ?_)
          rcases hp with ⟨hG_85, hG_86, hG_87, hG_88, hF_89⟩ | ⟨hG_90, hG_91, x_92, h_93, x_94, h_95, hF_96⟩
          · have g := g.more hF_89
            have hs_97 := jS.mv hs_83 hG_88
            refine lv_aload_n hx hb dX2_readLet_156 rfl (lv_at hl 3 rfl) ?_
            refine g_getk (C := RX2) (T := TX2) (N := 16) hx hb hts (mc_ inX2) hown hK g rfl 3 (by decide) rfl (hts _ (List.mem_cons_of_mem _ t_419)) (fun _ h9 => h9) 9 rfl dX2_readLet_157 ?_
            refine lv_bipush (v := 20) hx hb dX2_readLet_160 (by decide) ?_
            refine lv_iconst (v := 3) hx hb dX2_readLet_162 (by decide) ?_
            refine lv_iload hx hb dX2_readLet_163 (lv_at hl 0 rfl) ?_
            refine lv_iadd hx hb dX2_readLet_165 ?_
            refine lv_topi (fun y_98 ey_98 => ?_)
            obtain rfl : y_69 = y_98 := ey_69.trans ey_98.symm
            obtain ⟨x_99, bx_99, g⟩ := g_facti g mq3_ kq3_ (by decide) 6 rfl
            have kb_20 : bd 20 20 (20 : Int32) := ⟨by decide, by decide⟩
            have go_ := g
            refine g_callv (va_runV (As := [.int 20, .int y_69]) (rest := []) ⟨hx, hb, hml, hown, hts⟩ (r_X7_emitN l dC dI L kd tys fr_84 H.size g.2.2.2.1 q3_ mq3_ kq3_ a_71 ma_71 ka_71 a_72 ma_72 ka_72 x_99 bx_99 T_ hG_87 (20 : Int32) y_69 (fun j9 => jOK fr_84 q3_ j9) hG_86 (fun _ h9 => h9) ⟨(fun h9 => ⟨(by have h9_0 := b_26; unfold bd at h9_0; have h9_1 := b_34; unfold bd at h9_1; have h9_2 := b_36; unfold bd at h9_2; have h9_3 := h_3; unfold bd at h9_3; have h9_4 := h_52; unfold bd at h9_4; have h9_5 := h_60; unfold bd at h9_5; have h9_6 := bx_73; unfold bd at h9_6; have h9_7 := h_80; unfold bd at h9_7; have h9_8 := bx_99; unfold bd at h9_8; have h9_9 := by0_; unfold bd at h9_9; have h9_10 := b_44; unfold bd at h9_10; have h9_11 := b_70; unfold bd at h9_11; have h8_0 := kb_1; unfold bd at h8_0; have h8_1 := kb_14; unfold bd at h8_1; have h8_2 := kb_20; unfold bd at h8_2; have h8_3 := kb_3; unfold bd at h8_3; have h8_4 := kb_8; unfold bd at h8_4; have h8_5 := kb_m1; unfold bd at h8_5; omega), (by have h9_0 := b_26; unfold bd at h9_0; have h9_1 := b_34; unfold bd at h9_1; have h9_2 := b_36; unfold bd at h9_2; have h9_3 := h_3; unfold bd at h9_3; have h9_4 := h_52; unfold bd at h9_4; have h9_5 := h_60; unfold bd at h9_5; have h9_6 := bx_73; unfold bd at h9_6; have h9_7 := h_80; unfold bd at h9_7; have h9_8 := bx_99; unfold bd at h9_8; have h9_9 := by0_; unfold bd at h9_9; have h9_10 := b_44; unfold bd at h9_10; have h9_11 := b_70; unfold bd at h9_11; have h8_0 := kb_1; unfold bd at h8_0; have h8_1 := kb_14; unfold bd at h8_1; have h8_2 := kb_20; unfold bd at h8_2; have h8_3 := kb_3; unfold bd at h8_3; have h8_4 := kb_8; unfold bd at h8_4; have h8_5 := kb_m1; unfold bd at h8_5; omega)⟩), (fun h9 => ⟨(by have h9_0 := b_26; unfold bd at h9_0; have h9_1 := b_34; unfold bd at h9_1; have h9_2 := b_36; unfold bd at h9_2; have h9_3 := h_3; unfold bd at h9_3; have h9_4 := h_52; unfold bd at h9_4; have h9_5 := h_60; unfold bd at h9_5; have h9_6 := bx_73; unfold bd at h9_6; have h9_7 := h_80; unfold bd at h9_7; have h9_8 := bx_99; unfold bd at h9_8; have h9_9 := by0_; unfold bd at h9_9; have h9_10 := b_44; unfold bd at h9_10; have h9_11 := b_70; unfold bd at h9_11; have h8_0 := kb_1; unfold bd at h8_0; have h8_1 := kb_14; unfold bd at h8_1; have h8_2 := kb_20; unfold bd at h8_2; have h8_3 := kb_3; unfold bd at h8_3; have h8_4 := kb_8; unfold bd at h8_4; have h8_5 := kb_m1; unfold bd at h8_5; omega), (by have h9_0 := b_26; unfold bd at h9_0; have h9_1 := b_34; unfold bd at h9_1; have h9_2 := b_36; unfold bd at h9_2; have h9_3 := h_3; unfold bd at h9_3; have h9_4 := h_52; unfold bd at h9_4; have h9_5 := h_60; unfold bd at h9_5; have h9_6 := bx_73; unfold bd at h9_6; have h9_7 := h_80; unfold bd at h9_7; have h9_8 := bx_99; unfold bd at h9_8; have h9_9 := by0_; unfold bd at h9_9; have h9_10 := b_44; unfold bd at h9_10; have h9_11 := b_70; unfold bd at h9_11; have h8_0 := kb_1; unfold bd at h8_0; have h8_1 := kb_14; unfold bd at h8_1; have h8_2 := kb_20; unfold bd at h8_2; have h8_3 := kb_3; unfold bd at h8_3; have h8_4 := kb_8; unfold bd at h8_4; have h8_5 := kb_m1; unfold bd at h8_5; omega)⟩), (fun h9 => ⟨(by have h9_0 := b_26; unfold bd at h9_0; have h9_1 := b_34; unfold bd at h9_1; have h9_2 := b_36; unfold bd at h9_2; have h9_3 := h_3; unfold bd at h9_3; have h9_4 := h_52; unfold bd at h9_4; have h9_5 := h_60; unfold bd at h9_5; have h9_6 := bx_73; unfold bd at h9_6; have h9_7 := h_80; unfold bd at h9_7; have h9_8 := bx_99; unfold bd at h9_8; have h9_9 := by0_; unfold bd at h9_9; have h9_10 := b_44; unfold bd at h9_10; have h9_11 := b_70; unfold bd at h9_11; have h8_0 := kb_1; unfold bd at h8_0; have h8_1 := kb_14; unfold bd at h8_1; have h8_2 := kb_20; unfold bd at h8_2; have h8_3 := kb_3; unfold bd at h8_3; have h8_4 := kb_8; unfold bd at h8_4; have h8_5 := kb_m1; unfold bd at h8_5; omega), (by have h9_0 := b_26; unfold bd at h9_0; have h9_1 := b_34; unfold bd at h9_1; have h9_2 := b_36; unfold bd at h9_2; have h9_3 := h_3; unfold bd at h9_3; have h9_4 := h_52; unfold bd at h9_4; have h9_5 := h_60; unfold bd at h9_5; have h9_6 := bx_73; unfold bd at h9_6; have h9_7 := h_80; unfold bd at h9_7; have h9_8 := bx_99; unfold bd at h9_8; have h9_9 := by0_; unfold bd at h9_9; have h9_10 := b_44; unfold bd at h9_10; have h9_11 := b_70; unfold bd at h9_11; have h8_0 := kb_1; unfold bd at h8_0; have h8_1 := kb_14; unfold bd at h8_1; have h8_2 := kb_20; unfold bd at h8_2; have h8_3 := kb_3; unfold bd at h8_3; have h8_4 := kb_8; unfold bd at h8_4; have h8_5 := kb_m1; unfold bd at h8_5; omega)⟩)⟩ (g.fcts [4, 3, 0] rfl)) (cwV 2 hts (gV_ t_1301 t_1204 t_1205 t_191 t_1206) rfl rfl rfl (by decide +kernel) ⟨(Nat.le_of_ble_eq_true rfl), (Nat.le_of_ble_eq_true rfl)⟩) (pre3V g hK mq3_ kq3_ (by decide) (q := (RX7, TX7, 19)) rfl) rfl rfl hl.1 rfl (lv_room (Nat.le_of_ble_eq_true rfl)) dX2_readLet_166 ⟨(Nat.le_of_ble_eq_true rfl), (Nat.le_of_ble_eq_true rfl)⟩) g hK (by decide) (by decide) (fx' := [(0, 2, q2_, .ref q3_), (8, 8, q0_, .int y0_), (7, 5, q3_, .ref a_72), (7, 4, q3_, .ref a_71), (5, 6, q1_, .int y_43), (5, 5, q1_, .ref a_37), (2, 0, a0_, .ref q0_), (2, 1, a0_, .ref q1_), (2, 2, a0_, .ref q2_), (2, 3, a0_, .ref q3_), (0, 0, q2_, .ref q0_), (0, 1, q2_, .ref q1_), (5, 0, q1_, .ref q3_), (5, 1, q1_, .ref q7_)]) rfl (fun fr_100 H locs hp hMr_100 g => ?_)
            obtain ⟨hG_101, hG_102, hG_103, hx_104, x_105, h_106, hF_107⟩ := hp
            have hG_108 := eOK.frame hMr_100 go_.2.2.2.1 mq2_ kq2_ (by decide) (by decide) hG_85
            have g := g.more hF_107
            have hs_109 := jS.mv hs_97 hG_103
            refine lv_aload_n hx hb dX2_readLet_169 rfl (lv_at hl 3 rfl) ?_
            refine g_getk (C := RX2) (T := TX2) (N := 16) hx hb hts (mc_ inX2) hown hK g rfl 0 (by decide) rfl (hts _ (List.mem_cons_of_mem _ t_416)) (fun _ h9 => h9) 7 rfl dX2_readLet_170 ?_
            refine lv_bipush (v := 59) hx hb dX2_readLet_173 (by decide) ?_
            have go_ := g
            refine g_callv (va_runV (As := [.int 59]) (rest := []) ⟨hx, hb, hml, hown, hts⟩ (r_X8_take l dC dI L kd tys fr_100 H.size g.2.2.2.1 q0_ mq0_ kq0_ 59 y0_ by0_ (g.fcts [2] rfl)) (cwV 1 hts (gV_ t_1098 t_1099 t_1100 t_184 t_1101) rfl rfl rfl (by decide +kernel) ⟨(Nat.le_of_ble_eq_true rfl), (Nat.le_of_ble_eq_true rfl)⟩) (pre3V g hK mq0_ kq0_ (by decide) (q := (RX8, TX8, 10)) rfl) rfl rfl hl.1 rfl (lv_room (Nat.le_of_ble_eq_true rfl)) dX2_readLet_175 ⟨(Nat.le_of_ble_eq_true rfl), (Nat.le_of_ble_eq_true rfl)⟩) g hK (by decide) (by decide) (fx' := [(7, 6, q3_, .int x_105), (0, 2, q2_, .ref q3_), (7, 5, q3_, .ref a_72), (7, 4, q3_, .ref a_71), (5, 6, q1_, .int y_43), (5, 5, q1_, .ref a_37), (2, 0, a0_, .ref q0_), (2, 1, a0_, .ref q1_), (2, 2, a0_, .ref q2_), (2, 3, a0_, .ref q3_), (0, 0, q2_, .ref q0_), (0, 1, q2_, .ref q1_), (5, 0, q1_, .ref q3_), (5, 1, q1_, .ref q7_)]) rfl (fun fr_110 H locs hp hMr_110 g => ?_)
            rcases hp with ⟨x_111, h_112, hF_113⟩ | ⟨x_114, h_115, hF_116⟩
            · have hG_117 := dOK.frame hMr_110 go_.2.2.2.1 mq3_ kq3_ (by decide) (by decide) hG_101
              have hG_118 := cOK.frame hMr_110 go_.2.2.2.1 mq3_ kq3_ (by decide) (by decide) hG_102
              have hG_119 := jS.frame hMr_110 go_.2.2.2.1 mq3_ kq3_ (by decide) (by decide) hs_109
              have hG_120 := eOK.frame hMr_110 go_.2.2.2.1 mq2_ kq2_ (by decide) (by decide) hG_108
              have g := g.more hF_113
              subst hQ
              exact W.vret hx hb hr (fun t ht hW => ⟨⟨_, rfl, Or.inl ⟨hG_117, hG_118, hG_119, hG_120, x_111, h_112, y_43, b_44, (g.fcts [0, 1, 3, 6] rfl)⟩, q3_of g hK ht hW⟩, g.2.2.1.F ht⟩) g.2.2.1.2.2 dX2_readLet_178
            · have hG_121 := dOK.frame hMr_110 go_.2.2.2.1 mq3_ kq3_ (by decide) (by decide) hG_101
              have hG_122 := cOK.frame hMr_110 go_.2.2.2.1 mq3_ kq3_ (by decide) (by decide) hG_102
              have hG_123 := jS.frame hMr_110 go_.2.2.2.1 mq3_ kq3_ (by decide) (by decide) hs_109
              have hG_124 := eOK.frame hMr_110 go_.2.2.2.1 mq2_ kq2_ (by decide) (by decide) hG_108
              have g := g.more hF_116
              have kb_1201 : bd 1201 1201 (1201 : Int32) := ⟨by decide, by decide⟩
              subst hQ
              exact W.vret hx hb hr (fun t ht hW => ⟨⟨_, rfl, Or.inr (⟨hG_121, hG_124, 1201, kb_1201, x_114, h_115, (g.fcts [0, 1, 3] rfl)⟩), q3_of g hK ht hW⟩, g.2.2.1.F ht⟩) g.2.2.1.2.2 dX2_readLet_178
          · have g := g.more hF_96
            refine lv_aload_n hx hb dX2_readLet_156 rfl (lv_at hl 3 rfl) ?_
            refine g_getk (C := RX2) (T := TX2) (N := 16) hx hb hts (mc_ inX2) hown hK g rfl 3 (by decide) rfl (hts _ (List.mem_cons_of_mem _ t_419)) (fun _ h9 => h9) 10 rfl dX2_readLet_157 ?_
            refine lv_bipush (v := 20) hx hb dX2_readLet_160 (by decide) ?_
            refine lv_iconst (v := 3) hx hb dX2_readLet_162 (by decide) ?_
            refine lv_iload hx hb dX2_readLet_163 (lv_at hl 0 rfl) ?_
            refine lv_iadd hx hb dX2_readLet_165 ?_
            refine lv_topi (fun y_125 ey_125 => ?_)
            obtain rfl : y_69 = y_125 := ey_69.trans ey_125.symm
            obtain ⟨x_126, bx_126, g⟩ := g_facti g mq3_ kq3_ (by decide) 6 rfl
            have go_ := g
            refine g_callv (va_runV (As := [.int 20, .int y_69]) (rest := []) ⟨hx, hb, hml, hown, hts⟩ (r_X7_emitF l dC dI L kd tys fr_84 H.size g.2.2.2.1 q3_ mq3_ kq3_ a_71 ma_71 ka_71 a_72 ma_72 ka_72 x_126 bx_126 T_ hG_91 (20 : Int32) y_69 (g.fcts [5, 4, 0] rfl)) (cwV 2 hts (gV_ t_1301 t_1204 t_1205 t_191 t_1206) rfl rfl rfl (by decide +kernel) ⟨(Nat.le_of_ble_eq_true rfl), (Nat.le_of_ble_eq_true rfl)⟩) (pre3V g hK mq3_ kq3_ (by decide) (q := (RX7, TX7, 19)) rfl) rfl rfl hl.1 rfl (lv_room (Nat.le_of_ble_eq_true rfl)) dX2_readLet_166 ⟨(Nat.le_of_ble_eq_true rfl), (Nat.le_of_ble_eq_true rfl)⟩) g hK (by decide) (by decide) (fx' := [(8, 6, q0_, .int x_92), (8, 8, q0_, .int x_94), (0, 2, q2_, .ref q3_), (7, 5, q3_, .ref a_72), (7, 4, q3_, .ref a_71), (5, 6, q1_, .int y_43), (5, 5, q1_, .ref a_37), (2, 0, a0_, .ref q0_), (2, 1, a0_, .ref q1_), (2, 2, a0_, .ref q2_), (2, 3, a0_, .ref q3_), (0, 0, q2_, .ref q0_), (0, 1, q2_, .ref q1_), (5, 0, q1_, .ref q3_), (5, 1, q1_, .ref q7_)]) rfl (fun fr_127 H locs hp hMr_127 g => ?_)
            obtain ⟨hG_128, x_129, h_130, hF_131⟩ := hp
            have hG_132 := eOK.frame hMr_127 go_.2.2.2.1 mq2_ kq2_ (by decide) (by decide) hG_90
            have g := g.more hF_131
            refine lv_aload_n hx hb dX2_readLet_169 rfl (lv_at hl 3 rfl) ?_
            refine g_getk (C := RX2) (T := TX2) (N := 16) hx hb hts (mc_ inX2) hown hK g rfl 0 (by decide) rfl (hts _ (List.mem_cons_of_mem _ t_416)) (fun _ h9 => h9) 8 rfl dX2_readLet_170 ?_
            refine lv_bipush (v := 59) hx hb dX2_readLet_173 (by decide) ?_
            have go_ := g
            refine g_callv (va_runV (As := [.int 59]) (rest := []) ⟨hx, hb, hml, hown, hts⟩ (r_X8_take_2 l dC dI L kd tys fr_127 H.size g.2.2.2.1 q0_ mq0_ kq0_ 59 x_92 h_93 x_94 h_95 (g.fcts [1, 2] rfl)) (cwV 1 hts (gV_ t_1098 t_1099 t_1100 t_184 t_1101) rfl rfl rfl (by decide +kernel) ⟨(Nat.le_of_ble_eq_true rfl), (Nat.le_of_ble_eq_true rfl)⟩) (pre3V g hK mq0_ kq0_ (by decide) (q := (RX8, TX8, 10)) rfl) rfl rfl hl.1 rfl (lv_room (Nat.le_of_ble_eq_true rfl)) dX2_readLet_175 ⟨(Nat.le_of_ble_eq_true rfl), (Nat.le_of_ble_eq_true rfl)⟩) g hK (by decide) (by decide) (fx' := [(7, 6, q3_, .int x_129), (8, 8, q0_, .int x_94), (0, 2, q2_, .ref q3_), (7, 5, q3_, .ref a_72), (7, 4, q3_, .ref a_71), (5, 6, q1_, .int y_43), (5, 5, q1_, .ref a_37), (2, 0, a0_, .ref q0_), (2, 1, a0_, .ref q1_), (2, 2, a0_, .ref q2_), (2, 3, a0_, .ref q3_), (0, 0, q2_, .ref q0_), (0, 1, q2_, .ref q1_), (5, 0, q1_, .ref q3_), (5, 1, q1_, .ref q7_)]) rfl (fun fr_133 H locs hp hMr_133 g => ?_)
            obtain ⟨x_134, h_135, hF_136⟩ := hp
            have hG_137 := dOK.frame hMr_133 go_.2.2.2.1 mq3_ kq3_ (by decide) (by decide) hG_128
            have hG_138 := eOK.frame hMr_133 go_.2.2.2.1 mq2_ kq2_ (by decide) (by decide) hG_132
            have g := g.more hF_136
            subst hQ
            exact W.vret hx hb hr (fun t ht hW => ⟨⟨_, rfl, Or.inr (⟨hG_137, hG_138, x_134, h_135, x_94, h_95, (g.fcts [0, 2, 3] rfl)⟩), q3_of g hK ht hW⟩, g.2.2.1.F ht⟩) g.2.2.1.2.2 dX2_readLet_178
        · have hG_139 := dOK.frame hMr_58 go_.2.2.2.1 mq3_ kq3_ (by decide) (by decide) hG_54
          have hG_140 := cOK.frame hMr_58 go_.2.2.2.1 mq3_ kq3_ (by decide) (by decide) hG_55
          have hG_141 := jS.frame hMr_58 go_.2.2.2.1 mq3_ kq3_ (by decide) (by decide) hG_56
          have hG_142 := eOK.frame hMr_58 go_.2.2.2.1 mq2_ kq2_ (by decide) (by decide) hG_57
          have g := g.more hF_64
          refine lv_aload_n hx hb dX2_readLet_136 rfl (lv_at hl 3 rfl) ?_
          refine g_getk (C := RX2) (T := TX2) (N := 16) hx hb hts (mc_ inX2) hown hK g rfl 3 (by decide) rfl (hts _ (List.mem_cons_of_mem _ t_419)) (fun _ h9 => h9) 7 rfl dX2_readLet_137 ?_
          refine lv_bipush (v := 14) hx hb dX2_readLet_140 (by decide) ?_
          refine lv_iconst (v := 3) hx hb dX2_readLet_142 (by decide) ?_
          refine lv_iload hx hb dX2_readLet_143 (lv_at hl 0 rfl) ?_
          refine lv_iadd hx hb dX2_readLet_145 ?_
          refine lv_topi (fun y_143 ey_143 => ?_)
          have ty_143 := add_bd ey_143 kb_3 b_36 (by decide)
          have b_144 : bd 3 10 y_143 := add_rg ty_143 kb_3 b_36 (by decide)
          obtain ⟨a_145, ma_145, ka_145, g⟩ := g_factr g mq3_ kq3_ (by decide) 4 rfl
          obtain ⟨a_146, ma_146, ka_146, g⟩ := g_factr g mq3_ kq3_ (by decide) 5 rfl
          obtain ⟨x_147, bx_147, g⟩ := g_facti g mq3_ kq3_ (by decide) 6 rfl
          have go_ := g
          refine g_callv (va_runV (As := [.int 14, .int y_143]) (rest := []) ⟨hx, hb, hml, hown, hts⟩ (r_X7_emitF l dC dI L kd tys fr_58 H.size g.2.2.2.1 q3_ mq3_ kq3_ a_145 ma_145 ka_145 a_146 ma_146 ka_146 x_147 bx_147 T_ hG_139 (14 : Int32) y_143 (g.fcts [2, 1, 0] rfl)) (cwV 2 hts (gV_ t_1301 t_1204 t_1205 t_191 t_1206) rfl rfl rfl (by decide +kernel) ⟨(Nat.le_of_ble_eq_true rfl), (Nat.le_of_ble_eq_true rfl)⟩) (pre3V g hK mq3_ kq3_ (by decide) (q := (RX7, TX7, 19)) rfl) rfl rfl hl.1 rfl (lv_room (Nat.le_of_ble_eq_true rfl)) dX2_readLet_146 ⟨(Nat.le_of_ble_eq_true rfl), (Nat.le_of_ble_eq_true rfl)⟩) g hK (by decide) (by decide) (fx' := [(7, 5, q3_, .ref a_146), (7, 4, q3_, .ref a_145), (8, 6, q0_, .int 1201), (8, 8, q0_, .int x_62), (5, 6, q1_, .int y_43), (5, 5, q1_, .ref a_37), (2, 0, a0_, .ref q0_), (2, 1, a0_, .ref q1_), (2, 2, a0_, .ref q2_), (2, 3, a0_, .ref q3_), (0, 0, q2_, .ref q0_), (0, 1, q2_, .ref q1_), (5, 0, q1_, .ref q3_), (5, 1, q1_, .ref q7_)]) rfl (fun fr_148 H locs hp hMr_148 g => ?_)
          obtain ⟨hG_149, x_150, h_151, hF_152⟩ := hp
          have hG_153 := eOK.frame hMr_148 go_.2.2.2.1 mq2_ kq2_ (by decide) (by decide) hG_142
          have g := g.more hF_152
          refine lv_aload_n hx hb dX2_readLet_149 rfl (lv_at hl 3 rfl) ?_
          refine g_getk (C := RX2) (T := TX2) (N := 16) hx hb hts (mc_ inX2) hown hK g rfl 2 (by decide) rfl (hts _ (List.mem_cons_of_mem _ t_418)) (fun _ h9 => h9) 9 rfl dX2_readLet_150 ?_
          have kb_1201 : bd 1201 1201 (1201 : Int32) := ⟨by decide, by decide⟩
          have go_ := g
          refine g_callv (va_runV (As := []) (rest := []) ⟨hx, hb, hml, hown, hts⟩ (r_X0_read_2 l dC dI L kd tys fr_148 H.size g.2.2.2.1 q2_ mq2_ kq2_ q0_ mq0_ kq0_ q1_ mq1_ kq1_ q3_ mq3_ kq3_ q7_ mq7_ kq7_ 1201 kb_1201 x_62 h_63 T_ hG_153 hG_149 (g.fcts [11, 12, 13, 14, 3, 4] rfl)) (cwV 0 hts (gV_ t_1182 t_1183 t_1184 t_190 t_1185) rfl rfl rfl (by decide +kernel) ⟨(Nat.le_of_ble_eq_true rfl), (Nat.le_of_ble_eq_true rfl)⟩) (pre3V g hK mq2_ kq2_ (by decide) (q := (RX0, TX0, 14)) rfl) rfl rfl hl.1 rfl (lv_room (Nat.le_of_ble_eq_true rfl)) dX2_readLet_153 ⟨(Nat.le_of_ble_eq_true rfl), (Nat.le_of_ble_eq_true rfl)⟩) g hK (by decide) (by decide) (fx' := [(7, 6, q3_, .int x_150), (7, 5, q3_, .ref a_146), (7, 4, q3_, .ref a_145), (8, 6, q0_, .int 1201), (8, 8, q0_, .int x_62), (5, 6, q1_, .int y_43), (5, 5, q1_, .ref a_37), (2, 0, a0_, .ref q0_), (2, 1, a0_, .ref q1_), (2, 2, a0_, .ref q2_), (2, 3, a0_, .ref q3_), (0, 0, q2_, .ref q0_), (0, 1, q2_, .ref q1_), (5, 0, q1_, .ref q3_), (5, 1, q1_, .ref q7_)]) rfl (fun fr_154 H locs hp hMr_154 g => ?_)
          have hF_155 := hp
          have hG_156 := dOK.frame hMr_154 go_.2.2.2.1 mq3_ kq3_ (by decide) (by decide) hG_149
          have hG_157 := eOK.frame hMr_154 go_.2.2.2.1 mq2_ kq2_ (by decide) (by decide) hG_153
          have g := g.more hF_155
          refine lv_aload_n hx hb dX2_readLet_156 rfl (lv_at hl 3 rfl) ?_
          refine g_getk (C := RX2) (T := TX2) (N := 16) hx hb hts (mc_ inX2) hown hK g rfl 3 (by decide) rfl (hts _ (List.mem_cons_of_mem _ t_419)) (fun _ h9 => h9) 16 rfl dX2_readLet_157 ?_
          refine lv_bipush (v := 20) hx hb dX2_readLet_160 (by decide) ?_
          refine lv_iconst (v := 3) hx hb dX2_readLet_162 (by decide) ?_
          refine lv_iload hx hb dX2_readLet_163 (lv_at hl 0 rfl) ?_
          refine lv_iadd hx hb dX2_readLet_165 ?_
          refine lv_topi (fun y_158 ey_158 => ?_)
          obtain rfl : y_143 = y_158 := ey_143.trans ey_158.symm
          have go_ := g
          refine g_callv (va_runV (As := [.int 20, .int y_143]) (rest := []) ⟨hx, hb, hml, hown, hts⟩ (r_X7_emitF l dC dI L kd tys fr_154 H.size g.2.2.2.1 q3_ mq3_ kq3_ a_145 ma_145 ka_145 a_146 ma_146 ka_146 x_150 h_151 T_ hG_156 (20 : Int32) y_143 (g.fcts [8, 7, 6] rfl)) (cwV 2 hts (gV_ t_1301 t_1204 t_1205 t_191 t_1206) rfl rfl rfl (by decide +kernel) ⟨(Nat.le_of_ble_eq_true rfl), (Nat.le_of_ble_eq_true rfl)⟩) (pre3V g hK mq3_ kq3_ (by decide) (q := (RX7, TX7, 19)) rfl) rfl rfl hl.1 rfl (lv_room (Nat.le_of_ble_eq_true rfl)) dX2_readLet_166 ⟨(Nat.le_of_ble_eq_true rfl), (Nat.le_of_ble_eq_true rfl)⟩) g hK (by decide) (by decide) (fx' := [(0, 13, q2_, .int 0), (0, 12, q2_, .int 1), (0, 11, q2_, .int 0), (0, 10, q2_, .int 0), (0, 8, q2_, .int 0), (0, 2, q2_, .ref q3_), (7, 5, q3_, .ref a_146), (7, 4, q3_, .ref a_145), (8, 6, q0_, .int 1201), (8, 8, q0_, .int x_62), (5, 6, q1_, .int y_43), (5, 5, q1_, .ref a_37), (2, 0, a0_, .ref q0_), (2, 1, a0_, .ref q1_), (2, 2, a0_, .ref q2_), (2, 3, a0_, .ref q3_), (0, 0, q2_, .ref q0_), (0, 1, q2_, .ref q1_), (5, 0, q1_, .ref q3_), (5, 1, q1_, .ref q7_)]) rfl (fun fr_159 H locs hp hMr_159 g => ?_)
          obtain ⟨hG_160, x_161, h_162, hF_163⟩ := hp
          have hG_164 := eOK.frame hMr_159 go_.2.2.2.1 mq2_ kq2_ (by decide) (by decide) hG_157
          have g := g.more hF_163
          refine lv_aload_n hx hb dX2_readLet_169 rfl (lv_at hl 3 rfl) ?_
          refine g_getk (C := RX2) (T := TX2) (N := 16) hx hb hts (mc_ inX2) hown hK g rfl 0 (by decide) rfl (hts _ (List.mem_cons_of_mem _ t_416)) (fun _ h9 => h9) 13 rfl dX2_readLet_170 ?_
          refine lv_bipush (v := 59) hx hb dX2_readLet_173 (by decide) ?_
          have go_ := g
          refine g_callv (va_runV (As := [.int 59]) (rest := []) ⟨hx, hb, hml, hown, hts⟩ (r_X8_take_2 l dC dI L kd tys fr_159 H.size g.2.2.2.1 q0_ mq0_ kq0_ 59 1201 kb_1201 x_62 h_63 (g.fcts [9, 10] rfl)) (cwV 1 hts (gV_ t_1098 t_1099 t_1100 t_184 t_1101) rfl rfl rfl (by decide +kernel) ⟨(Nat.le_of_ble_eq_true rfl), (Nat.le_of_ble_eq_true rfl)⟩) (pre3V g hK mq0_ kq0_ (by decide) (q := (RX8, TX8, 10)) rfl) rfl rfl hl.1 rfl (lv_room (Nat.le_of_ble_eq_true rfl)) dX2_readLet_175 ⟨(Nat.le_of_ble_eq_true rfl), (Nat.le_of_ble_eq_true rfl)⟩) g hK (by decide) (by decide) (fx' := [(7, 6, q3_, .int x_161), (0, 13, q2_, .int 0), (0, 12, q2_, .int 1), (0, 11, q2_, .int 0), (0, 10, q2_, .int 0), (0, 8, q2_, .int 0), (0, 2, q2_, .ref q3_), (7, 5, q3_, .ref a_146), (7, 4, q3_, .ref a_145), (8, 8, q0_, .int x_62), (5, 6, q1_, .int y_43), (5, 5, q1_, .ref a_37), (2, 0, a0_, .ref q0_), (2, 1, a0_, .ref q1_), (2, 2, a0_, .ref q2_), (2, 3, a0_, .ref q3_), (0, 0, q2_, .ref q0_), (0, 1, q2_, .ref q1_), (5, 0, q1_, .ref q3_), (5, 1, q1_, .ref q7_)]) rfl (fun fr_165 H locs hp hMr_165 g => ?_)
          obtain ⟨x_166, h_167, hF_168⟩ := hp
          have hG_169 := dOK.frame hMr_165 go_.2.2.2.1 mq3_ kq3_ (by decide) (by decide) hG_160
          have hG_170 := eOK.frame hMr_165 go_.2.2.2.1 mq2_ kq2_ (by decide) (by decide) hG_164
          have g := g.more hF_168
          subst hQ
          exact W.vret hx hb hr (fun t ht hW => ⟨⟨_, rfl, Or.inr (⟨hG_169, hG_170, x_166, h_167, x_62, h_63, (g.fcts [0, 10, 7] rfl)⟩), q3_of g hK ht hW⟩, g.2.2.1.F ht⟩) g.2.2.1.2.2 dX2_readLet_178
      · have fc_35 := nlt_f c_35
        have b_171 : bd 8 8 x_19 := leR fc_35 kb_8 bx_19 (by decide)
        refine lv_aload_n hx hb dX2_readLet_86 rfl (lv_at hl 3 rfl) ?_
        refine g_getk (C := RX2) (T := TX2) (N := 16) hx hb hts (mc_ inX2) hown hK g rfl 0 (by decide) rfl (hts _ (List.mem_cons_of_mem _ t_416)) (fun _ h9 => h9) 2 rfl dX2_readLet_87 ?_
        refine lv_iconst (v := 4) hx hb dX2_readLet_90 (by decide) ?_
        refine lv_iload_n hx hb dX2_readLet_91 rfl (lv_at hl 2 rfl) ?_
        have kb_4 : bd 4 4 (4 : Int32) := ⟨by decide, by decide⟩
        have go_ := g
        refine g_callv (va_runV (As := [.int 4, .int r_9]) (rest := []) ⟨hx, hb, hml, hown, hts⟩ (r_X8_fail l dC dI L kd tys fr_27 H.size g.2.2.2.1 q0_ mq0_ kq0_ 4 (bd_sub kb_4 (by decide)) r_9 y0_ by0_ (g.fcts [10] rfl)) (cwV 2 hts (gV_ t_1122 t_1107 t_1108 t_184 t_1109) rfl rfl rfl (by decide +kernel) ⟨(Nat.le_of_ble_eq_true rfl), (Nat.le_of_ble_eq_true rfl)⟩) (pre3V g hK mq0_ kq0_ (by decide) (q := (RX8, TX8, 10)) rfl) rfl rfl hl.1 rfl (lv_room (Nat.le_of_ble_eq_true rfl)) dX2_readLet_92 ⟨(Nat.le_of_ble_eq_true rfl), (Nat.le_of_ble_eq_true rfl)⟩) g hK (by decide) (by decide) (fx' := [(5, 6, q1_, .int x_19), (2, 0, a0_, .ref q0_), (2, 1, a0_, .ref q1_), (2, 2, a0_, .ref q2_), (2, 3, a0_, .ref q3_), (0, 0, q2_, .ref q0_), (0, 1, q2_, .ref q1_), (5, 0, q1_, .ref q3_), (5, 1, q1_, .ref q7_)]) rfl (fun fr_172 H locs hp hMr_172 g => ?_)
        obtain ⟨x_173, h_174, hF_175⟩ := hp
        have hG_176 := dOK.frame hMr_172 go_.2.2.2.1 mq3_ kq3_ (by decide) (by decide) hG_29
        have hG_177 := cOK.frame hMr_172 go_.2.2.2.1 mq3_ kq3_ (by decide) (by decide) hG_30
        have hG_178 := jS.frame hMr_172 go_.2.2.2.1 mq3_ kq3_ (by decide) (by decide) hG_31
        have hG_179 := eOK.frame hMr_172 go_.2.2.2.1 mq2_ kq2_ (by decide) (by decide) hG_32
        have g := g.more hF_175
        refine lv_goto (tgt := 120) hx hb dX2_readLet_95 (by decide) ?_
        refine lv_aload_n hx hb dX2_readLet_120 rfl (lv_at hl 3 rfl) ?_
        refine g_getk (C := RX2) (T := TX2) (N := 16) hx hb hts (mc_ inX2) hown hK g rfl 0 (by decide) rfl (hts _ (List.mem_cons_of_mem _ t_416)) (fun _ h9 => h9) 3 rfl dX2_readLet_121 ?_
        have kb_1201 : bd 1201 1201 (1201 : Int32) := ⟨by decide, by decide⟩
        have go_ := g
        refine g_callv (va_runV (As := []) (rest := []) ⟨hx, hb, hml, hown, hts⟩ (r_X8_next_2 l dC dI L kd tys fr_172 H.size g.2.2.2.1 q0_ mq0_ kq0_ 1201 kb_1201 (g.fcts [0] rfl)) (cwV 0 hts (gV_ t_1131 t_1103 t_1104 t_184 t_1105) rfl rfl rfl (by decide +kernel) ⟨(Nat.le_of_ble_eq_true rfl), (Nat.le_of_ble_eq_true rfl)⟩) (pre3V g hK mq0_ kq0_ (by decide) (q := (RX8, TX8, 10)) rfl) rfl rfl hl.1 rfl (lv_room (Nat.le_of_ble_eq_true rfl)) dX2_readLet_124 ⟨(Nat.le_of_ble_eq_true rfl), (Nat.le_of_ble_eq_true rfl)⟩) g hK (by decide) (by decide) (fx' := [(8, 6, q0_, .int 1201), (8, 8, q0_, .int x_173), (5, 6, q1_, .int x_19), (2, 0, a0_, .ref q0_), (2, 1, a0_, .ref q1_), (2, 2, a0_, .ref q2_), (2, 3, a0_, .ref q3_), (0, 0, q2_, .ref q0_), (0, 1, q2_, .ref q1_), (5, 0, q1_, .ref q3_), (5, 1, q1_, .ref q7_)]) rfl (fun fr_180 H locs hp hMr_180 g => ?_)
        have hG_181 := dOK.frame hMr_180 go_.2.2.2.1 mq3_ kq3_ (by decide) (by decide) hG_176
        have hG_182 := cOK.frame hMr_180 go_.2.2.2.1 mq3_ kq3_ (by decide) (by decide) hG_177
        have hG_183 := jS.frame hMr_180 go_.2.2.2.1 mq3_ kq3_ (by decide) (by decide) hG_178
        have hG_184 := eOK.frame hMr_180 go_.2.2.2.1 mq2_ kq2_ (by decide) (by decide) hG_179
        refine lv_aload_n hx hb dX2_readLet_127 rfl (lv_at hl 3 rfl) ?_
        refine g_getk (C := RX2) (T := TX2) (N := 16) hx hb hts (mc_ inX2) hown hK g rfl 0 (by decide) rfl (hts _ (List.mem_cons_of_mem _ t_416)) (fun _ h9 => h9) 3 rfl dX2_readLet_128 ?_
        refine lv_bipush (v := 61) hx hb dX2_readLet_131 (by decide) ?_
        have go_ := g
        refine g_callv (va_runV (As := [.int 61]) (rest := []) ⟨hx, hb, hml, hown, hts⟩ (r_X8_take_2 l dC dI L kd tys fr_180 H.size g.2.2.2.1 q0_ mq0_ kq0_ 61 1201 kb_1201 x_173 h_174 (g.fcts [0, 1] rfl)) (cwV 1 hts (gV_ t_1098 t_1099 t_1100 t_184 t_1101) rfl rfl rfl (by decide +kernel) ⟨(Nat.le_of_ble_eq_true rfl), (Nat.le_of_ble_eq_true rfl)⟩) (pre3V g hK mq0_ kq0_ (by decide) (q := (RX8, TX8, 10)) rfl) rfl rfl hl.1 rfl (lv_room (Nat.le_of_ble_eq_true rfl)) dX2_readLet_133 ⟨(Nat.le_of_ble_eq_true rfl), (Nat.le_of_ble_eq_true rfl)⟩) g hK (by decide) (by decide) (fx' := [(8, 8, q0_, .int x_173), (5, 6, q1_, .int x_19), (2, 0, a0_, .ref q0_), (2, 1, a0_, .ref q1_), (2, 2, a0_, .ref q2_), (2, 3, a0_, .ref q3_), (0, 0, q2_, .ref q0_), (0, 1, q2_, .ref q1_), (5, 0, q1_, .ref q3_), (5, 1, q1_, .ref q7_)]) rfl (fun fr_185 H locs hp hMr_185 g => ?_)
        obtain ⟨x_186, h_187, hF_188⟩ := hp
        have hG_189 := dOK.frame hMr_185 go_.2.2.2.1 mq3_ kq3_ (by decide) (by decide) hG_181
        have hG_190 := cOK.frame hMr_185 go_.2.2.2.1 mq3_ kq3_ (by decide) (by decide) hG_182
        have hG_191 := jS.frame hMr_185 go_.2.2.2.1 mq3_ kq3_ (by decide) (by decide) hG_183
        have hG_192 := eOK.frame hMr_185 go_.2.2.2.1 mq2_ kq2_ (by decide) (by decide) hG_184
        have g := g.more hF_188
        refine lv_aload_n hx hb dX2_readLet_136 rfl (lv_at hl 3 rfl) ?_
        refine g_getk (C := RX2) (T := TX2) (N := 16) hx hb hts (mc_ inX2) hown hK g rfl 3 (by decide) rfl (hts _ (List.mem_cons_of_mem _ t_419)) (fun _ h9 => h9) 6 rfl dX2_readLet_137 ?_
        refine lv_bipush (v := 14) hx hb dX2_readLet_140 (by decide) ?_
        refine lv_iconst (v := 3) hx hb dX2_readLet_142 (by decide) ?_
        refine lv_iload hx hb dX2_readLet_143 (lv_at hl 0 rfl) ?_
        refine lv_iadd hx hb dX2_readLet_145 ?_
        refine lv_topi (fun y_193 ey_193 => ?_)
        have ty_193 := add_bd ey_193 kb_3 b_171 (by decide)
        have b_194 : bd 11 11 y_193 := add_rg ty_193 kb_3 b_171 (by decide)
        obtain ⟨a_195, ma_195, ka_195, g⟩ := g_factr g mq3_ kq3_ (by decide) 4 rfl
        obtain ⟨a_196, ma_196, ka_196, g⟩ := g_factr g mq3_ kq3_ (by decide) 5 rfl
        obtain ⟨x_197, bx_197, g⟩ := g_facti g mq3_ kq3_ (by decide) 6 rfl
        have go_ := g
        refine g_callv (va_runV (As := [.int 14, .int y_193]) (rest := []) ⟨hx, hb, hml, hown, hts⟩ (r_X7_emitF l dC dI L kd tys fr_185 H.size g.2.2.2.1 q3_ mq3_ kq3_ a_195 ma_195 ka_195 a_196 ma_196 ka_196 x_197 bx_197 T_ hG_189 (14 : Int32) y_193 (g.fcts [2, 1, 0] rfl)) (cwV 2 hts (gV_ t_1301 t_1204 t_1205 t_191 t_1206) rfl rfl rfl (by decide +kernel) ⟨(Nat.le_of_ble_eq_true rfl), (Nat.le_of_ble_eq_true rfl)⟩) (pre3V g hK mq3_ kq3_ (by decide) (q := (RX7, TX7, 19)) rfl) rfl rfl hl.1 rfl (lv_room (Nat.le_of_ble_eq_true rfl)) dX2_readLet_146 ⟨(Nat.le_of_ble_eq_true rfl), (Nat.le_of_ble_eq_true rfl)⟩) g hK (by decide) (by decide) (fx' := [(7, 5, q3_, .ref a_196), (7, 4, q3_, .ref a_195), (8, 6, q0_, .int x_186), (8, 8, q0_, .int x_173), (5, 6, q1_, .int x_19), (2, 0, a0_, .ref q0_), (2, 1, a0_, .ref q1_), (2, 2, a0_, .ref q2_), (2, 3, a0_, .ref q3_), (0, 0, q2_, .ref q0_), (0, 1, q2_, .ref q1_), (5, 0, q1_, .ref q3_), (5, 1, q1_, .ref q7_)]) rfl (fun fr_198 H locs hp hMr_198 g => ?_)
        obtain ⟨hG_199, x_200, h_201, hF_202⟩ := hp
        have hG_203 := eOK.frame hMr_198 go_.2.2.2.1 mq2_ kq2_ (by decide) (by decide) hG_192
        have g := g.more hF_202
        refine lv_aload_n hx hb dX2_readLet_149 rfl (lv_at hl 3 rfl) ?_
        refine g_getk (C := RX2) (T := TX2) (N := 16) hx hb hts (mc_ inX2) hown hK g rfl 2 (by decide) rfl (hts _ (List.mem_cons_of_mem _ t_418)) (fun _ h9 => h9) 8 rfl dX2_readLet_150 ?_
        have go_ := g
        refine g_callv (va_runV (As := []) (rest := []) ⟨hx, hb, hml, hown, hts⟩ (r_X0_read_2 l dC dI L kd tys fr_198 H.size g.2.2.2.1 q2_ mq2_ kq2_ q0_ mq0_ kq0_ q1_ mq1_ kq1_ q3_ mq3_ kq3_ q7_ mq7_ kq7_ x_186 h_187 x_173 h_174 T_ hG_203 hG_199 (g.fcts [10, 11, 12, 13, 3, 4] rfl)) (cwV 0 hts (gV_ t_1182 t_1183 t_1184 t_190 t_1185) rfl rfl rfl (by decide +kernel) ⟨(Nat.le_of_ble_eq_true rfl), (Nat.le_of_ble_eq_true rfl)⟩) (pre3V g hK mq2_ kq2_ (by decide) (q := (RX0, TX0, 14)) rfl) rfl rfl hl.1 rfl (lv_room (Nat.le_of_ble_eq_true rfl)) dX2_readLet_153 ⟨(Nat.le_of_ble_eq_true rfl), (Nat.le_of_ble_eq_true rfl)⟩) g hK (by decide) (by decide) (fx' := [(7, 6, q3_, .int x_200), (7, 5, q3_, .ref a_196), (7, 4, q3_, .ref a_195), (8, 6, q0_, .int x_186), (8, 8, q0_, .int x_173), (5, 6, q1_, .int x_19), (2, 0, a0_, .ref q0_), (2, 1, a0_, .ref q1_), (2, 2, a0_, .ref q2_), (2, 3, a0_, .ref q3_), (0, 0, q2_, .ref q0_), (0, 1, q2_, .ref q1_), (5, 0, q1_, .ref q3_), (5, 1, q1_, .ref q7_)]) rfl (fun fr_204 H locs hp hMr_204 g => ?_)
        have hF_205 := hp
        have hG_206 := dOK.frame hMr_204 go_.2.2.2.1 mq3_ kq3_ (by decide) (by decide) hG_199
        have hG_207 := eOK.frame hMr_204 go_.2.2.2.1 mq2_ kq2_ (by decide) (by decide) hG_203
        have g := g.more hF_205
        refine lv_aload_n hx hb dX2_readLet_156 rfl (lv_at hl 3 rfl) ?_
        refine g_getk (C := RX2) (T := TX2) (N := 16) hx hb hts (mc_ inX2) hown hK g rfl 3 (by decide) rfl (hts _ (List.mem_cons_of_mem _ t_419)) (fun _ h9 => h9) 15 rfl dX2_readLet_157 ?_
        refine lv_bipush (v := 20) hx hb dX2_readLet_160 (by decide) ?_
        refine lv_iconst (v := 3) hx hb dX2_readLet_162 (by decide) ?_
        refine lv_iload hx hb dX2_readLet_163 (lv_at hl 0 rfl) ?_
        refine lv_iadd hx hb dX2_readLet_165 ?_
        refine lv_topi (fun y_208 ey_208 => ?_)
        obtain rfl : y_193 = y_208 := ey_193.trans ey_208.symm
        have go_ := g
        refine g_callv (va_runV (As := [.int 20, .int y_193]) (rest := []) ⟨hx, hb, hml, hown, hts⟩ (r_X7_emitF l dC dI L kd tys fr_204 H.size g.2.2.2.1 q3_ mq3_ kq3_ a_195 ma_195 ka_195 a_196 ma_196 ka_196 x_200 h_201 T_ hG_206 (20 : Int32) y_193 (g.fcts [8, 7, 6] rfl)) (cwV 2 hts (gV_ t_1301 t_1204 t_1205 t_191 t_1206) rfl rfl rfl (by decide +kernel) ⟨(Nat.le_of_ble_eq_true rfl), (Nat.le_of_ble_eq_true rfl)⟩) (pre3V g hK mq3_ kq3_ (by decide) (q := (RX7, TX7, 19)) rfl) rfl rfl hl.1 rfl (lv_room (Nat.le_of_ble_eq_true rfl)) dX2_readLet_166 ⟨(Nat.le_of_ble_eq_true rfl), (Nat.le_of_ble_eq_true rfl)⟩) g hK (by decide) (by decide) (fx' := [(0, 13, q2_, .int 0), (0, 12, q2_, .int 1), (0, 11, q2_, .int 0), (0, 10, q2_, .int 0), (0, 8, q2_, .int 0), (0, 2, q2_, .ref q3_), (7, 5, q3_, .ref a_196), (7, 4, q3_, .ref a_195), (8, 6, q0_, .int x_186), (8, 8, q0_, .int x_173), (5, 6, q1_, .int x_19), (2, 0, a0_, .ref q0_), (2, 1, a0_, .ref q1_), (2, 2, a0_, .ref q2_), (2, 3, a0_, .ref q3_), (0, 0, q2_, .ref q0_), (0, 1, q2_, .ref q1_), (5, 0, q1_, .ref q3_), (5, 1, q1_, .ref q7_)]) rfl (fun fr_209 H locs hp hMr_209 g => ?_)
        obtain ⟨hG_210, x_211, h_212, hF_213⟩ := hp
        have hG_214 := eOK.frame hMr_209 go_.2.2.2.1 mq2_ kq2_ (by decide) (by decide) hG_207
        have g := g.more hF_213
        refine lv_aload_n hx hb dX2_readLet_169 rfl (lv_at hl 3 rfl) ?_
        refine g_getk (C := RX2) (T := TX2) (N := 16) hx hb hts (mc_ inX2) hown hK g rfl 0 (by decide) rfl (hts _ (List.mem_cons_of_mem _ t_416)) (fun _ h9 => h9) 12 rfl dX2_readLet_170 ?_
        refine lv_bipush (v := 59) hx hb dX2_readLet_173 (by decide) ?_
        have go_ := g
        refine g_callv (va_runV (As := [.int 59]) (rest := []) ⟨hx, hb, hml, hown, hts⟩ (r_X8_take_2 l dC dI L kd tys fr_209 H.size g.2.2.2.1 q0_ mq0_ kq0_ 59 x_186 h_187 x_173 h_174 (g.fcts [9, 10] rfl)) (cwV 1 hts (gV_ t_1098 t_1099 t_1100 t_184 t_1101) rfl rfl rfl (by decide +kernel) ⟨(Nat.le_of_ble_eq_true rfl), (Nat.le_of_ble_eq_true rfl)⟩) (pre3V g hK mq0_ kq0_ (by decide) (q := (RX8, TX8, 10)) rfl) rfl rfl hl.1 rfl (lv_room (Nat.le_of_ble_eq_true rfl)) dX2_readLet_175 ⟨(Nat.le_of_ble_eq_true rfl), (Nat.le_of_ble_eq_true rfl)⟩) g hK (by decide) (by decide) (fx' := [(7, 6, q3_, .int x_211), (0, 13, q2_, .int 0), (0, 12, q2_, .int 1), (0, 11, q2_, .int 0), (0, 10, q2_, .int 0), (0, 8, q2_, .int 0), (0, 2, q2_, .ref q3_), (7, 5, q3_, .ref a_196), (7, 4, q3_, .ref a_195), (8, 8, q0_, .int x_173), (5, 6, q1_, .int x_19), (2, 0, a0_, .ref q0_), (2, 1, a0_, .ref q1_), (2, 2, a0_, .ref q2_), (2, 3, a0_, .ref q3_), (0, 0, q2_, .ref q0_), (0, 1, q2_, .ref q1_), (5, 0, q1_, .ref q3_), (5, 1, q1_, .ref q7_)]) rfl (fun fr_215 H locs hp hMr_215 g => ?_)
        obtain ⟨x_216, h_217, hF_218⟩ := hp
        have hG_219 := dOK.frame hMr_215 go_.2.2.2.1 mq3_ kq3_ (by decide) (by decide) hG_210
        have hG_220 := eOK.frame hMr_215 go_.2.2.2.1 mq2_ kq2_ (by decide) (by decide) hG_214
        have g := g.more hF_218
        subst hQ
        exact W.vret hx hb hr (fun t ht hW => ⟨⟨_, rfl, Or.inr (⟨hG_219, hG_220, x_216, h_217, x_173, h_174, (g.fcts [0, 10, 7] rfl)⟩), q3_of g hK ht hW⟩, g.2.2.1.F ht⟩) g.2.2.1.2.2 dX2_readLet_178
    · have fc_33 := neq_f c_33
      have b_221 : bd 0 26 r_27 := neX fc_33 h_28 kb_m1 (by decide)
      refine lv_aload_n hx hb dX2_readLet_67 rfl (lv_at hl 3 rfl) ?_
      refine g_getk (C := RX2) (T := TX2) (N := 16) hx hb hts (mc_ inX2) hown hK g rfl 0 (by decide) rfl (hts _ (List.mem_cons_of_mem _ t_416)) (fun _ h9 => h9) 2 rfl dX2_readLet_68 ?_
      refine lv_iconst (v := 2) hx hb dX2_readLet_71 (by decide) ?_
      refine lv_iload_n hx hb dX2_readLet_72 rfl (lv_at hl 2 rfl) ?_
      have kb_2 : bd 2 2 (2 : Int32) := ⟨by decide, by decide⟩
      have go_ := g
      refine g_callv (va_runV (As := [.int 2, .int r_9]) (rest := []) ⟨hx, hb, hml, hown, hts⟩ (r_X8_fail l dC dI L kd tys fr_27 H.size g.2.2.2.1 q0_ mq0_ kq0_ 2 (bd_sub kb_2 (by decide)) r_9 y0_ by0_ (g.fcts [10] rfl)) (cwV 2 hts (gV_ t_1122 t_1107 t_1108 t_184 t_1109) rfl rfl rfl (by decide +kernel) ⟨(Nat.le_of_ble_eq_true rfl), (Nat.le_of_ble_eq_true rfl)⟩) (pre3V g hK mq0_ kq0_ (by decide) (q := (RX8, TX8, 10)) rfl) rfl rfl hl.1 rfl (lv_room (Nat.le_of_ble_eq_true rfl)) dX2_readLet_73 ⟨(Nat.le_of_ble_eq_true rfl), (Nat.le_of_ble_eq_true rfl)⟩) g hK (by decide) (by decide) (fx' := [(5, 6, q1_, .int x_19), (2, 0, a0_, .ref q0_), (2, 1, a0_, .ref q1_), (2, 2, a0_, .ref q2_), (2, 3, a0_, .ref q3_), (0, 0, q2_, .ref q0_), (0, 1, q2_, .ref q1_), (5, 0, q1_, .ref q3_), (5, 1, q1_, .ref q7_)]) rfl (fun fr_222 H locs hp hMr_222 g => ?_)
      obtain ⟨x_223, h_224, hF_225⟩ := hp
      have hG_226 := dOK.frame hMr_222 go_.2.2.2.1 mq3_ kq3_ (by decide) (by decide) hG_29
      have hG_227 := cOK.frame hMr_222 go_.2.2.2.1 mq3_ kq3_ (by decide) (by decide) hG_30
      have hG_228 := jS.frame hMr_222 go_.2.2.2.1 mq3_ kq3_ (by decide) (by decide) hG_31
      have hG_229 := eOK.frame hMr_222 go_.2.2.2.1 mq2_ kq2_ (by decide) (by decide) hG_32
      have g := g.more hF_225
      refine lv_goto (tgt := 120) hx hb dX2_readLet_76 (by decide) ?_
      refine lv_aload_n hx hb dX2_readLet_120 rfl (lv_at hl 3 rfl) ?_
      refine g_getk (C := RX2) (T := TX2) (N := 16) hx hb hts (mc_ inX2) hown hK g rfl 0 (by decide) rfl (hts _ (List.mem_cons_of_mem _ t_416)) (fun _ h9 => h9) 3 rfl dX2_readLet_121 ?_
      have kb_1201 : bd 1201 1201 (1201 : Int32) := ⟨by decide, by decide⟩
      have go_ := g
      refine g_callv (va_runV (As := []) (rest := []) ⟨hx, hb, hml, hown, hts⟩ (r_X8_next_2 l dC dI L kd tys fr_222 H.size g.2.2.2.1 q0_ mq0_ kq0_ 1201 kb_1201 (g.fcts [0] rfl)) (cwV 0 hts (gV_ t_1131 t_1103 t_1104 t_184 t_1105) rfl rfl rfl (by decide +kernel) ⟨(Nat.le_of_ble_eq_true rfl), (Nat.le_of_ble_eq_true rfl)⟩) (pre3V g hK mq0_ kq0_ (by decide) (q := (RX8, TX8, 10)) rfl) rfl rfl hl.1 rfl (lv_room (Nat.le_of_ble_eq_true rfl)) dX2_readLet_124 ⟨(Nat.le_of_ble_eq_true rfl), (Nat.le_of_ble_eq_true rfl)⟩) g hK (by decide) (by decide) (fx' := [(8, 6, q0_, .int 1201), (8, 8, q0_, .int x_223), (5, 6, q1_, .int x_19), (2, 0, a0_, .ref q0_), (2, 1, a0_, .ref q1_), (2, 2, a0_, .ref q2_), (2, 3, a0_, .ref q3_), (0, 0, q2_, .ref q0_), (0, 1, q2_, .ref q1_), (5, 0, q1_, .ref q3_), (5, 1, q1_, .ref q7_)]) rfl (fun fr_230 H locs hp hMr_230 g => ?_)
      have hG_231 := dOK.frame hMr_230 go_.2.2.2.1 mq3_ kq3_ (by decide) (by decide) hG_226
      have hG_232 := cOK.frame hMr_230 go_.2.2.2.1 mq3_ kq3_ (by decide) (by decide) hG_227
      have hG_233 := jS.frame hMr_230 go_.2.2.2.1 mq3_ kq3_ (by decide) (by decide) hG_228
      have hG_234 := eOK.frame hMr_230 go_.2.2.2.1 mq2_ kq2_ (by decide) (by decide) hG_229
      refine lv_aload_n hx hb dX2_readLet_127 rfl (lv_at hl 3 rfl) ?_
      refine g_getk (C := RX2) (T := TX2) (N := 16) hx hb hts (mc_ inX2) hown hK g rfl 0 (by decide) rfl (hts _ (List.mem_cons_of_mem _ t_416)) (fun _ h9 => h9) 3 rfl dX2_readLet_128 ?_
      refine lv_bipush (v := 61) hx hb dX2_readLet_131 (by decide) ?_
      have go_ := g
      refine g_callv (va_runV (As := [.int 61]) (rest := []) ⟨hx, hb, hml, hown, hts⟩ (r_X8_take_2 l dC dI L kd tys fr_230 H.size g.2.2.2.1 q0_ mq0_ kq0_ 61 1201 kb_1201 x_223 h_224 (g.fcts [0, 1] rfl)) (cwV 1 hts (gV_ t_1098 t_1099 t_1100 t_184 t_1101) rfl rfl rfl (by decide +kernel) ⟨(Nat.le_of_ble_eq_true rfl), (Nat.le_of_ble_eq_true rfl)⟩) (pre3V g hK mq0_ kq0_ (by decide) (q := (RX8, TX8, 10)) rfl) rfl rfl hl.1 rfl (lv_room (Nat.le_of_ble_eq_true rfl)) dX2_readLet_133 ⟨(Nat.le_of_ble_eq_true rfl), (Nat.le_of_ble_eq_true rfl)⟩) g hK (by decide) (by decide) (fx' := [(8, 8, q0_, .int x_223), (5, 6, q1_, .int x_19), (2, 0, a0_, .ref q0_), (2, 1, a0_, .ref q1_), (2, 2, a0_, .ref q2_), (2, 3, a0_, .ref q3_), (0, 0, q2_, .ref q0_), (0, 1, q2_, .ref q1_), (5, 0, q1_, .ref q3_), (5, 1, q1_, .ref q7_)]) rfl (fun fr_235 H locs hp hMr_235 g => ?_)
      obtain ⟨x_236, h_237, hF_238⟩ := hp
      have hG_239 := dOK.frame hMr_235 go_.2.2.2.1 mq3_ kq3_ (by decide) (by decide) hG_231
      have hG_240 := cOK.frame hMr_235 go_.2.2.2.1 mq3_ kq3_ (by decide) (by decide) hG_232
      have hG_241 := jS.frame hMr_235 go_.2.2.2.1 mq3_ kq3_ (by decide) (by decide) hG_233
      have hG_242 := eOK.frame hMr_235 go_.2.2.2.1 mq2_ kq2_ (by decide) (by decide) hG_234
      have g := g.more hF_238
      refine lv_aload_n hx hb dX2_readLet_136 rfl (lv_at hl 3 rfl) ?_
      refine g_getk (C := RX2) (T := TX2) (N := 16) hx hb hts (mc_ inX2) hown hK g rfl 3 (by decide) rfl (hts _ (List.mem_cons_of_mem _ t_419)) (fun _ h9 => h9) 6 rfl dX2_readLet_137 ?_
      refine lv_bipush (v := 14) hx hb dX2_readLet_140 (by decide) ?_
      refine lv_iconst (v := 3) hx hb dX2_readLet_142 (by decide) ?_
      refine lv_iload hx hb dX2_readLet_143 (lv_at hl 0 rfl) ?_
      refine lv_iadd hx hb dX2_readLet_145 ?_
      refine lv_topi (fun y_243 ey_243 => ?_)
      have ty_243 := add_bd ey_243 kb_3 bx_19 (by decide)
      have b_244 : bd 3 11 y_243 := add_rg ty_243 kb_3 bx_19 (by decide)
      obtain ⟨a_245, ma_245, ka_245, g⟩ := g_factr g mq3_ kq3_ (by decide) 4 rfl
      obtain ⟨a_246, ma_246, ka_246, g⟩ := g_factr g mq3_ kq3_ (by decide) 5 rfl
      obtain ⟨x_247, bx_247, g⟩ := g_facti g mq3_ kq3_ (by decide) 6 rfl
      have go_ := g
      refine g_callv (va_runV (As := [.int 14, .int y_243]) (rest := []) ⟨hx, hb, hml, hown, hts⟩ (r_X7_emitF l dC dI L kd tys fr_235 H.size g.2.2.2.1 q3_ mq3_ kq3_ a_245 ma_245 ka_245 a_246 ma_246 ka_246 x_247 bx_247 T_ hG_239 (14 : Int32) y_243 (g.fcts [2, 1, 0] rfl)) (cwV 2 hts (gV_ t_1301 t_1204 t_1205 t_191 t_1206) rfl rfl rfl (by decide +kernel) ⟨(Nat.le_of_ble_eq_true rfl), (Nat.le_of_ble_eq_true rfl)⟩) (pre3V g hK mq3_ kq3_ (by decide) (q := (RX7, TX7, 19)) rfl) rfl rfl hl.1 rfl (lv_room (Nat.le_of_ble_eq_true rfl)) dX2_readLet_146 ⟨(Nat.le_of_ble_eq_true rfl), (Nat.le_of_ble_eq_true rfl)⟩) g hK (by decide) (by decide) (fx' := [(7, 5, q3_, .ref a_246), (7, 4, q3_, .ref a_245), (8, 6, q0_, .int x_236), (8, 8, q0_, .int x_223), (5, 6, q1_, .int x_19), (2, 0, a0_, .ref q0_), (2, 1, a0_, .ref q1_), (2, 2, a0_, .ref q2_), (2, 3, a0_, .ref q3_), (0, 0, q2_, .ref q0_), (0, 1, q2_, .ref q1_), (5, 0, q1_, .ref q3_), (5, 1, q1_, .ref q7_)]) rfl (fun fr_248 H locs hp hMr_248 g => ?_)
      obtain ⟨hG_249, x_250, h_251, hF_252⟩ := hp
      have hG_253 := eOK.frame hMr_248 go_.2.2.2.1 mq2_ kq2_ (by decide) (by decide) hG_242
      have g := g.more hF_252
      refine lv_aload_n hx hb dX2_readLet_149 rfl (lv_at hl 3 rfl) ?_
      refine g_getk (C := RX2) (T := TX2) (N := 16) hx hb hts (mc_ inX2) hown hK g rfl 2 (by decide) rfl (hts _ (List.mem_cons_of_mem _ t_418)) (fun _ h9 => h9) 8 rfl dX2_readLet_150 ?_
      have go_ := g
      refine g_callv (va_runV (As := []) (rest := []) ⟨hx, hb, hml, hown, hts⟩ (r_X0_read_2 l dC dI L kd tys fr_248 H.size g.2.2.2.1 q2_ mq2_ kq2_ q0_ mq0_ kq0_ q1_ mq1_ kq1_ q3_ mq3_ kq3_ q7_ mq7_ kq7_ x_236 h_237 x_223 h_224 T_ hG_253 hG_249 (g.fcts [10, 11, 12, 13, 3, 4] rfl)) (cwV 0 hts (gV_ t_1182 t_1183 t_1184 t_190 t_1185) rfl rfl rfl (by decide +kernel) ⟨(Nat.le_of_ble_eq_true rfl), (Nat.le_of_ble_eq_true rfl)⟩) (pre3V g hK mq2_ kq2_ (by decide) (q := (RX0, TX0, 14)) rfl) rfl rfl hl.1 rfl (lv_room (Nat.le_of_ble_eq_true rfl)) dX2_readLet_153 ⟨(Nat.le_of_ble_eq_true rfl), (Nat.le_of_ble_eq_true rfl)⟩) g hK (by decide) (by decide) (fx' := [(7, 6, q3_, .int x_250), (7, 5, q3_, .ref a_246), (7, 4, q3_, .ref a_245), (8, 6, q0_, .int x_236), (8, 8, q0_, .int x_223), (5, 6, q1_, .int x_19), (2, 0, a0_, .ref q0_), (2, 1, a0_, .ref q1_), (2, 2, a0_, .ref q2_), (2, 3, a0_, .ref q3_), (0, 0, q2_, .ref q0_), (0, 1, q2_, .ref q1_), (5, 0, q1_, .ref q3_), (5, 1, q1_, .ref q7_)]) rfl (fun fr_254 H locs hp hMr_254 g => ?_)
      have hF_255 := hp
      have hG_256 := dOK.frame hMr_254 go_.2.2.2.1 mq3_ kq3_ (by decide) (by decide) hG_249
      have hG_257 := eOK.frame hMr_254 go_.2.2.2.1 mq2_ kq2_ (by decide) (by decide) hG_253
      have g := g.more hF_255
      refine lv_aload_n hx hb dX2_readLet_156 rfl (lv_at hl 3 rfl) ?_
      refine g_getk (C := RX2) (T := TX2) (N := 16) hx hb hts (mc_ inX2) hown hK g rfl 3 (by decide) rfl (hts _ (List.mem_cons_of_mem _ t_419)) (fun _ h9 => h9) 15 rfl dX2_readLet_157 ?_
      refine lv_bipush (v := 20) hx hb dX2_readLet_160 (by decide) ?_
      refine lv_iconst (v := 3) hx hb dX2_readLet_162 (by decide) ?_
      refine lv_iload hx hb dX2_readLet_163 (lv_at hl 0 rfl) ?_
      refine lv_iadd hx hb dX2_readLet_165 ?_
      refine lv_topi (fun y_258 ey_258 => ?_)
      obtain rfl : y_243 = y_258 := ey_243.trans ey_258.symm
      have go_ := g
      refine g_callv (va_runV (As := [.int 20, .int y_243]) (rest := []) ⟨hx, hb, hml, hown, hts⟩ (r_X7_emitF l dC dI L kd tys fr_254 H.size g.2.2.2.1 q3_ mq3_ kq3_ a_245 ma_245 ka_245 a_246 ma_246 ka_246 x_250 h_251 T_ hG_256 (20 : Int32) y_243 (g.fcts [8, 7, 6] rfl)) (cwV 2 hts (gV_ t_1301 t_1204 t_1205 t_191 t_1206) rfl rfl rfl (by decide +kernel) ⟨(Nat.le_of_ble_eq_true rfl), (Nat.le_of_ble_eq_true rfl)⟩) (pre3V g hK mq3_ kq3_ (by decide) (q := (RX7, TX7, 19)) rfl) rfl rfl hl.1 rfl (lv_room (Nat.le_of_ble_eq_true rfl)) dX2_readLet_166 ⟨(Nat.le_of_ble_eq_true rfl), (Nat.le_of_ble_eq_true rfl)⟩) g hK (by decide) (by decide) (fx' := [(0, 13, q2_, .int 0), (0, 12, q2_, .int 1), (0, 11, q2_, .int 0), (0, 10, q2_, .int 0), (0, 8, q2_, .int 0), (0, 2, q2_, .ref q3_), (7, 5, q3_, .ref a_246), (7, 4, q3_, .ref a_245), (8, 6, q0_, .int x_236), (8, 8, q0_, .int x_223), (5, 6, q1_, .int x_19), (2, 0, a0_, .ref q0_), (2, 1, a0_, .ref q1_), (2, 2, a0_, .ref q2_), (2, 3, a0_, .ref q3_), (0, 0, q2_, .ref q0_), (0, 1, q2_, .ref q1_), (5, 0, q1_, .ref q3_), (5, 1, q1_, .ref q7_)]) rfl (fun fr_259 H locs hp hMr_259 g => ?_)
      obtain ⟨hG_260, x_261, h_262, hF_263⟩ := hp
      have hG_264 := eOK.frame hMr_259 go_.2.2.2.1 mq2_ kq2_ (by decide) (by decide) hG_257
      have g := g.more hF_263
      refine lv_aload_n hx hb dX2_readLet_169 rfl (lv_at hl 3 rfl) ?_
      refine g_getk (C := RX2) (T := TX2) (N := 16) hx hb hts (mc_ inX2) hown hK g rfl 0 (by decide) rfl (hts _ (List.mem_cons_of_mem _ t_416)) (fun _ h9 => h9) 12 rfl dX2_readLet_170 ?_
      refine lv_bipush (v := 59) hx hb dX2_readLet_173 (by decide) ?_
      have go_ := g
      refine g_callv (va_runV (As := [.int 59]) (rest := []) ⟨hx, hb, hml, hown, hts⟩ (r_X8_take_2 l dC dI L kd tys fr_259 H.size g.2.2.2.1 q0_ mq0_ kq0_ 59 x_236 h_237 x_223 h_224 (g.fcts [9, 10] rfl)) (cwV 1 hts (gV_ t_1098 t_1099 t_1100 t_184 t_1101) rfl rfl rfl (by decide +kernel) ⟨(Nat.le_of_ble_eq_true rfl), (Nat.le_of_ble_eq_true rfl)⟩) (pre3V g hK mq0_ kq0_ (by decide) (q := (RX8, TX8, 10)) rfl) rfl rfl hl.1 rfl (lv_room (Nat.le_of_ble_eq_true rfl)) dX2_readLet_175 ⟨(Nat.le_of_ble_eq_true rfl), (Nat.le_of_ble_eq_true rfl)⟩) g hK (by decide) (by decide) (fx' := [(7, 6, q3_, .int x_261), (0, 13, q2_, .int 0), (0, 12, q2_, .int 1), (0, 11, q2_, .int 0), (0, 10, q2_, .int 0), (0, 8, q2_, .int 0), (0, 2, q2_, .ref q3_), (7, 5, q3_, .ref a_246), (7, 4, q3_, .ref a_245), (8, 8, q0_, .int x_223), (5, 6, q1_, .int x_19), (2, 0, a0_, .ref q0_), (2, 1, a0_, .ref q1_), (2, 2, a0_, .ref q2_), (2, 3, a0_, .ref q3_), (0, 0, q2_, .ref q0_), (0, 1, q2_, .ref q1_), (5, 0, q1_, .ref q3_), (5, 1, q1_, .ref q7_)]) rfl (fun fr_265 H locs hp hMr_265 g => ?_)
      obtain ⟨x_266, h_267, hF_268⟩ := hp
      have hG_269 := dOK.frame hMr_265 go_.2.2.2.1 mq3_ kq3_ (by decide) (by decide) hG_260
      have hG_270 := eOK.frame hMr_265 go_.2.2.2.1 mq2_ kq2_ (by decide) (by decide) hG_264
      have g := g.more hF_268
      subst hQ
      exact W.vret hx hb hr (fun t ht hW => ⟨⟨_, rfl, Or.inr (⟨hG_269, hG_270, x_266, h_267, x_223, h_224, (g.fcts [0, 10, 7] rfl)⟩), q3_of g hK ht hW⟩, g.2.2.1.F ht⟩) g.2.2.1.2.2 dX2_readLet_178
  · have fc_25 := neq_f c_25
    refine lv_aload_n hx hb dX2_readLet_43 rfl (lv_at hl 3 rfl) ?_
    refine g_getk (C := RX2) (T := TX2) (N := 16) hx hb hts (mc_ inX2) hown hK g rfl 0 (by decide) rfl (hts _ (List.mem_cons_of_mem _ t_416)) (fun _ h9 => h9) 2 rfl dX2_readLet_44 ?_
    refine lv_iconst (v := 1) hx hb dX2_readLet_47 (by decide) ?_
    refine lv_iload_n hx hb dX2_readLet_48 rfl (lv_at hl 2 rfl) ?_
    have kb_1 : bd 1 1 (1 : Int32) := ⟨by decide, by decide⟩
    have go_ := g
    refine g_callv (va_runV (As := [.int 1, .int r_9]) (rest := []) ⟨hx, hb, hml, hown, hts⟩ (r_X8_fail l dC dI L kd tys fr_20 H.size g.2.2.2.1 q0_ mq0_ kq0_ 1 (bd_sub kb_1 (by decide)) r_9 y0_ by0_ (g.fcts [10] rfl)) (cwV 2 hts (gV_ t_1122 t_1107 t_1108 t_184 t_1109) rfl rfl rfl (by decide +kernel) ⟨(Nat.le_of_ble_eq_true rfl), (Nat.le_of_ble_eq_true rfl)⟩) (pre3V g hK mq0_ kq0_ (by decide) (q := (RX8, TX8, 10)) rfl) rfl rfl hl.1 rfl (lv_room (Nat.le_of_ble_eq_true rfl)) dX2_readLet_49 ⟨(Nat.le_of_ble_eq_true rfl), (Nat.le_of_ble_eq_true rfl)⟩) g hK (by decide) (by decide) (fx' := [(5, 6, q1_, .int x_19), (2, 0, a0_, .ref q0_), (2, 1, a0_, .ref q1_), (2, 2, a0_, .ref q2_), (2, 3, a0_, .ref q3_), (0, 0, q2_, .ref q0_), (0, 1, q2_, .ref q1_), (5, 0, q1_, .ref q3_), (5, 1, q1_, .ref q7_)]) rfl (fun fr_271 H locs hp hMr_271 g => ?_)
    obtain ⟨x_272, h_273, hF_274⟩ := hp
    have hG_275 := dOK.frame hMr_271 go_.2.2.2.1 mq3_ kq3_ (by decide) (by decide) hG_21
    have hG_276 := cOK.frame hMr_271 go_.2.2.2.1 mq3_ kq3_ (by decide) (by decide) hG_22
    have hG_277 := jS.frame hMr_271 go_.2.2.2.1 mq3_ kq3_ (by decide) (by decide) hG_23
    have hG_278 := eOK.frame hMr_271 go_.2.2.2.1 mq2_ kq2_ (by decide) (by decide) hG_24
    have g := g.more hF_274
    refine lv_goto (tgt := 120) hx hb dX2_readLet_52 (by decide) ?_
    refine lv_aload_n hx hb dX2_readLet_120 rfl (lv_at hl 3 rfl) ?_
    refine g_getk (C := RX2) (T := TX2) (N := 16) hx hb hts (mc_ inX2) hown hK g rfl 0 (by decide) rfl (hts _ (List.mem_cons_of_mem _ t_416)) (fun _ h9 => h9) 3 rfl dX2_readLet_121 ?_
    have kb_1201 : bd 1201 1201 (1201 : Int32) := ⟨by decide, by decide⟩
    have go_ := g
    refine g_callv (va_runV (As := []) (rest := []) ⟨hx, hb, hml, hown, hts⟩ (r_X8_next_2 l dC dI L kd tys fr_271 H.size g.2.2.2.1 q0_ mq0_ kq0_ 1201 kb_1201 (g.fcts [0] rfl)) (cwV 0 hts (gV_ t_1131 t_1103 t_1104 t_184 t_1105) rfl rfl rfl (by decide +kernel) ⟨(Nat.le_of_ble_eq_true rfl), (Nat.le_of_ble_eq_true rfl)⟩) (pre3V g hK mq0_ kq0_ (by decide) (q := (RX8, TX8, 10)) rfl) rfl rfl hl.1 rfl (lv_room (Nat.le_of_ble_eq_true rfl)) dX2_readLet_124 ⟨(Nat.le_of_ble_eq_true rfl), (Nat.le_of_ble_eq_true rfl)⟩) g hK (by decide) (by decide) (fx' := [(8, 6, q0_, .int 1201), (8, 8, q0_, .int x_272), (5, 6, q1_, .int x_19), (2, 0, a0_, .ref q0_), (2, 1, a0_, .ref q1_), (2, 2, a0_, .ref q2_), (2, 3, a0_, .ref q3_), (0, 0, q2_, .ref q0_), (0, 1, q2_, .ref q1_), (5, 0, q1_, .ref q3_), (5, 1, q1_, .ref q7_)]) rfl (fun fr_279 H locs hp hMr_279 g => ?_)
    have hG_280 := dOK.frame hMr_279 go_.2.2.2.1 mq3_ kq3_ (by decide) (by decide) hG_275
    have hG_281 := cOK.frame hMr_279 go_.2.2.2.1 mq3_ kq3_ (by decide) (by decide) hG_276
    have hG_282 := jS.frame hMr_279 go_.2.2.2.1 mq3_ kq3_ (by decide) (by decide) hG_277
    have hG_283 := eOK.frame hMr_279 go_.2.2.2.1 mq2_ kq2_ (by decide) (by decide) hG_278
    refine lv_aload_n hx hb dX2_readLet_127 rfl (lv_at hl 3 rfl) ?_
    refine g_getk (C := RX2) (T := TX2) (N := 16) hx hb hts (mc_ inX2) hown hK g rfl 0 (by decide) rfl (hts _ (List.mem_cons_of_mem _ t_416)) (fun _ h9 => h9) 3 rfl dX2_readLet_128 ?_
    refine lv_bipush (v := 61) hx hb dX2_readLet_131 (by decide) ?_
    have go_ := g
    refine g_callv (va_runV (As := [.int 61]) (rest := []) ⟨hx, hb, hml, hown, hts⟩ (r_X8_take_2 l dC dI L kd tys fr_279 H.size g.2.2.2.1 q0_ mq0_ kq0_ 61 1201 kb_1201 x_272 h_273 (g.fcts [0, 1] rfl)) (cwV 1 hts (gV_ t_1098 t_1099 t_1100 t_184 t_1101) rfl rfl rfl (by decide +kernel) ⟨(Nat.le_of_ble_eq_true rfl), (Nat.le_of_ble_eq_true rfl)⟩) (pre3V g hK mq0_ kq0_ (by decide) (q := (RX8, TX8, 10)) rfl) rfl rfl hl.1 rfl (lv_room (Nat.le_of_ble_eq_true rfl)) dX2_readLet_133 ⟨(Nat.le_of_ble_eq_true rfl), (Nat.le_of_ble_eq_true rfl)⟩) g hK (by decide) (by decide) (fx' := [(8, 8, q0_, .int x_272), (5, 6, q1_, .int x_19), (2, 0, a0_, .ref q0_), (2, 1, a0_, .ref q1_), (2, 2, a0_, .ref q2_), (2, 3, a0_, .ref q3_), (0, 0, q2_, .ref q0_), (0, 1, q2_, .ref q1_), (5, 0, q1_, .ref q3_), (5, 1, q1_, .ref q7_)]) rfl (fun fr_284 H locs hp hMr_284 g => ?_)
    obtain ⟨x_285, h_286, hF_287⟩ := hp
    have hG_288 := dOK.frame hMr_284 go_.2.2.2.1 mq3_ kq3_ (by decide) (by decide) hG_280
    have hG_289 := cOK.frame hMr_284 go_.2.2.2.1 mq3_ kq3_ (by decide) (by decide) hG_281
    have hG_290 := jS.frame hMr_284 go_.2.2.2.1 mq3_ kq3_ (by decide) (by decide) hG_282
    have hG_291 := eOK.frame hMr_284 go_.2.2.2.1 mq2_ kq2_ (by decide) (by decide) hG_283
    have g := g.more hF_287
    refine lv_aload_n hx hb dX2_readLet_136 rfl (lv_at hl 3 rfl) ?_
    refine g_getk (C := RX2) (T := TX2) (N := 16) hx hb hts (mc_ inX2) hown hK g rfl 3 (by decide) rfl (hts _ (List.mem_cons_of_mem _ t_419)) (fun _ h9 => h9) 6 rfl dX2_readLet_137 ?_
    refine lv_bipush (v := 14) hx hb dX2_readLet_140 (by decide) ?_
    refine lv_iconst (v := 3) hx hb dX2_readLet_142 (by decide) ?_
    refine lv_iload hx hb dX2_readLet_143 (lv_at hl 0 rfl) ?_
    refine lv_iadd hx hb dX2_readLet_145 ?_
    refine lv_topi (fun y_292 ey_292 => ?_)
    have ty_292 := add_bd ey_292 kb_3 bx_19 (by decide)
    have b_293 : bd 3 11 y_292 := add_rg ty_292 kb_3 bx_19 (by decide)
    obtain ⟨a_294, ma_294, ka_294, g⟩ := g_factr g mq3_ kq3_ (by decide) 4 rfl
    obtain ⟨a_295, ma_295, ka_295, g⟩ := g_factr g mq3_ kq3_ (by decide) 5 rfl
    obtain ⟨x_296, bx_296, g⟩ := g_facti g mq3_ kq3_ (by decide) 6 rfl
    have go_ := g
    refine g_callv (va_runV (As := [.int 14, .int y_292]) (rest := []) ⟨hx, hb, hml, hown, hts⟩ (r_X7_emitF l dC dI L kd tys fr_284 H.size g.2.2.2.1 q3_ mq3_ kq3_ a_294 ma_294 ka_294 a_295 ma_295 ka_295 x_296 bx_296 T_ hG_288 (14 : Int32) y_292 (g.fcts [2, 1, 0] rfl)) (cwV 2 hts (gV_ t_1301 t_1204 t_1205 t_191 t_1206) rfl rfl rfl (by decide +kernel) ⟨(Nat.le_of_ble_eq_true rfl), (Nat.le_of_ble_eq_true rfl)⟩) (pre3V g hK mq3_ kq3_ (by decide) (q := (RX7, TX7, 19)) rfl) rfl rfl hl.1 rfl (lv_room (Nat.le_of_ble_eq_true rfl)) dX2_readLet_146 ⟨(Nat.le_of_ble_eq_true rfl), (Nat.le_of_ble_eq_true rfl)⟩) g hK (by decide) (by decide) (fx' := [(7, 5, q3_, .ref a_295), (7, 4, q3_, .ref a_294), (8, 6, q0_, .int x_285), (8, 8, q0_, .int x_272), (5, 6, q1_, .int x_19), (2, 0, a0_, .ref q0_), (2, 1, a0_, .ref q1_), (2, 2, a0_, .ref q2_), (2, 3, a0_, .ref q3_), (0, 0, q2_, .ref q0_), (0, 1, q2_, .ref q1_), (5, 0, q1_, .ref q3_), (5, 1, q1_, .ref q7_)]) rfl (fun fr_297 H locs hp hMr_297 g => ?_)
    obtain ⟨hG_298, x_299, h_300, hF_301⟩ := hp
    have hG_302 := eOK.frame hMr_297 go_.2.2.2.1 mq2_ kq2_ (by decide) (by decide) hG_291
    have g := g.more hF_301
    refine lv_aload_n hx hb dX2_readLet_149 rfl (lv_at hl 3 rfl) ?_
    refine g_getk (C := RX2) (T := TX2) (N := 16) hx hb hts (mc_ inX2) hown hK g rfl 2 (by decide) rfl (hts _ (List.mem_cons_of_mem _ t_418)) (fun _ h9 => h9) 8 rfl dX2_readLet_150 ?_
    have go_ := g
    refine g_callv (va_runV (As := []) (rest := []) ⟨hx, hb, hml, hown, hts⟩ (r_X0_read_2 l dC dI L kd tys fr_297 H.size g.2.2.2.1 q2_ mq2_ kq2_ q0_ mq0_ kq0_ q1_ mq1_ kq1_ q3_ mq3_ kq3_ q7_ mq7_ kq7_ x_285 h_286 x_272 h_273 T_ hG_302 hG_298 (g.fcts [10, 11, 12, 13, 3, 4] rfl)) (cwV 0 hts (gV_ t_1182 t_1183 t_1184 t_190 t_1185) rfl rfl rfl (by decide +kernel) ⟨(Nat.le_of_ble_eq_true rfl), (Nat.le_of_ble_eq_true rfl)⟩) (pre3V g hK mq2_ kq2_ (by decide) (q := (RX0, TX0, 14)) rfl) rfl rfl hl.1 rfl (lv_room (Nat.le_of_ble_eq_true rfl)) dX2_readLet_153 ⟨(Nat.le_of_ble_eq_true rfl), (Nat.le_of_ble_eq_true rfl)⟩) g hK (by decide) (by decide) (fx' := [(7, 6, q3_, .int x_299), (7, 5, q3_, .ref a_295), (7, 4, q3_, .ref a_294), (8, 6, q0_, .int x_285), (8, 8, q0_, .int x_272), (5, 6, q1_, .int x_19), (2, 0, a0_, .ref q0_), (2, 1, a0_, .ref q1_), (2, 2, a0_, .ref q2_), (2, 3, a0_, .ref q3_), (0, 0, q2_, .ref q0_), (0, 1, q2_, .ref q1_), (5, 0, q1_, .ref q3_), (5, 1, q1_, .ref q7_)]) rfl (fun fr_303 H locs hp hMr_303 g => ?_)
    have hF_304 := hp
    have hG_305 := dOK.frame hMr_303 go_.2.2.2.1 mq3_ kq3_ (by decide) (by decide) hG_298
    have hG_306 := eOK.frame hMr_303 go_.2.2.2.1 mq2_ kq2_ (by decide) (by decide) hG_302
    have g := g.more hF_304
    refine lv_aload_n hx hb dX2_readLet_156 rfl (lv_at hl 3 rfl) ?_
    refine g_getk (C := RX2) (T := TX2) (N := 16) hx hb hts (mc_ inX2) hown hK g rfl 3 (by decide) rfl (hts _ (List.mem_cons_of_mem _ t_419)) (fun _ h9 => h9) 15 rfl dX2_readLet_157 ?_
    refine lv_bipush (v := 20) hx hb dX2_readLet_160 (by decide) ?_
    refine lv_iconst (v := 3) hx hb dX2_readLet_162 (by decide) ?_
    refine lv_iload hx hb dX2_readLet_163 (lv_at hl 0 rfl) ?_
    refine lv_iadd hx hb dX2_readLet_165 ?_
    refine lv_topi (fun y_307 ey_307 => ?_)
    obtain rfl : y_292 = y_307 := ey_292.trans ey_307.symm
    have go_ := g
    refine g_callv (va_runV (As := [.int 20, .int y_292]) (rest := []) ⟨hx, hb, hml, hown, hts⟩ (r_X7_emitF l dC dI L kd tys fr_303 H.size g.2.2.2.1 q3_ mq3_ kq3_ a_294 ma_294 ka_294 a_295 ma_295 ka_295 x_299 h_300 T_ hG_305 (20 : Int32) y_292 (g.fcts [8, 7, 6] rfl)) (cwV 2 hts (gV_ t_1301 t_1204 t_1205 t_191 t_1206) rfl rfl rfl (by decide +kernel) ⟨(Nat.le_of_ble_eq_true rfl), (Nat.le_of_ble_eq_true rfl)⟩) (pre3V g hK mq3_ kq3_ (by decide) (q := (RX7, TX7, 19)) rfl) rfl rfl hl.1 rfl (lv_room (Nat.le_of_ble_eq_true rfl)) dX2_readLet_166 ⟨(Nat.le_of_ble_eq_true rfl), (Nat.le_of_ble_eq_true rfl)⟩) g hK (by decide) (by decide) (fx' := [(0, 13, q2_, .int 0), (0, 12, q2_, .int 1), (0, 11, q2_, .int 0), (0, 10, q2_, .int 0), (0, 8, q2_, .int 0), (0, 2, q2_, .ref q3_), (7, 5, q3_, .ref a_295), (7, 4, q3_, .ref a_294), (8, 6, q0_, .int x_285), (8, 8, q0_, .int x_272), (5, 6, q1_, .int x_19), (2, 0, a0_, .ref q0_), (2, 1, a0_, .ref q1_), (2, 2, a0_, .ref q2_), (2, 3, a0_, .ref q3_), (0, 0, q2_, .ref q0_), (0, 1, q2_, .ref q1_), (5, 0, q1_, .ref q3_), (5, 1, q1_, .ref q7_)]) rfl (fun fr_308 H locs hp hMr_308 g => ?_)
    obtain ⟨hG_309, x_310, h_311, hF_312⟩ := hp
    have hG_313 := eOK.frame hMr_308 go_.2.2.2.1 mq2_ kq2_ (by decide) (by decide) hG_306
    have g := g.more hF_312
    refine lv_aload_n hx hb dX2_readLet_169 rfl (lv_at hl 3 rfl) ?_
    refine g_getk (C := RX2) (T := TX2) (N := 16) hx hb hts (mc_ inX2) hown hK g rfl 0 (by decide) rfl (hts _ (List.mem_cons_of_mem _ t_416)) (fun _ h9 => h9) 12 rfl dX2_readLet_170 ?_
    refine lv_bipush (v := 59) hx hb dX2_readLet_173 (by decide) ?_
    have go_ := g
    refine g_callv (va_runV (As := [.int 59]) (rest := []) ⟨hx, hb, hml, hown, hts⟩ (r_X8_take_2 l dC dI L kd tys fr_308 H.size g.2.2.2.1 q0_ mq0_ kq0_ 59 x_285 h_286 x_272 h_273 (g.fcts [9, 10] rfl)) (cwV 1 hts (gV_ t_1098 t_1099 t_1100 t_184 t_1101) rfl rfl rfl (by decide +kernel) ⟨(Nat.le_of_ble_eq_true rfl), (Nat.le_of_ble_eq_true rfl)⟩) (pre3V g hK mq0_ kq0_ (by decide) (q := (RX8, TX8, 10)) rfl) rfl rfl hl.1 rfl (lv_room (Nat.le_of_ble_eq_true rfl)) dX2_readLet_175 ⟨(Nat.le_of_ble_eq_true rfl), (Nat.le_of_ble_eq_true rfl)⟩) g hK (by decide) (by decide) (fx' := [(7, 6, q3_, .int x_310), (0, 13, q2_, .int 0), (0, 12, q2_, .int 1), (0, 11, q2_, .int 0), (0, 10, q2_, .int 0), (0, 8, q2_, .int 0), (0, 2, q2_, .ref q3_), (7, 5, q3_, .ref a_295), (7, 4, q3_, .ref a_294), (8, 8, q0_, .int x_272), (5, 6, q1_, .int x_19), (2, 0, a0_, .ref q0_), (2, 1, a0_, .ref q1_), (2, 2, a0_, .ref q2_), (2, 3, a0_, .ref q3_), (0, 0, q2_, .ref q0_), (0, 1, q2_, .ref q1_), (5, 0, q1_, .ref q3_), (5, 1, q1_, .ref q7_)]) rfl (fun fr_314 H locs hp hMr_314 g => ?_)
    obtain ⟨x_315, h_316, hF_317⟩ := hp
    have hG_318 := dOK.frame hMr_314 go_.2.2.2.1 mq3_ kq3_ (by decide) (by decide) hG_309
    have hG_319 := eOK.frame hMr_314 go_.2.2.2.1 mq2_ kq2_ (by decide) (by decide) hG_313
    have g := g.more hF_317
    subst hQ
    exact W.vret hx hb hr (fun t ht hW => ⟨⟨_, rfl, Or.inr (⟨hG_318, hG_319, x_315, h_316, x_272, h_273, (g.fcts [0, 10, 7] rfl)⟩), q3_of g hK ht hW⟩, g.2.2.1.F ht⟩) g.2.2.1.2.2 dX2_readLet_178
