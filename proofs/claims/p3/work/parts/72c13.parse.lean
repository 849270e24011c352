set_option maxHeartbeats 4000000 in
set_option maxRecDepth 100000 in
theorem r_X0_openCall_4 (l : Launch) (dC : Nat → ClassId) (dI : Nat → Nat → Nat) (L : List Nat) (kd : Nat → Nat) (tys : List (ClassId × FieldType)) (f0 : Nat → va_E) (sz : Nat) (hWT : WT L kd tys f0) (a0_ : Nat) (ma0_ : a0_ ∈ L) (ka0_ : kd a0_ = 0) (x1_ : Int32) (bx1_ : bd 3 3 x1_) (x2_ : Int32) (x3_ : Int32) (bx3_ : bd 0 95 x3_) (x4_ : Int32) (q0_ : Nat) (mq0_ : q0_ ∈ L) (kq0_ : kd q0_ = 8) (q1_ : Nat) (mq1_ : q1_ ∈ L) (kq1_ : kd q1_ = 7) (y0_ : Int32) (by0_ : bd 0 0 y0_) (T_ : Nat) (J_ : Int32 → Prop) (hGia0_ : eJx f0 a0_) (hGcq1_ : cOK f0 q1_) (hGdq1_ : dOK L kd f0 q1_ T_) (hGsq1_ : jS f0 q1_ J_) (hGea0_ : eOK f0 a0_) (hfx : Fs L kd f0 [(0, 0, a0_, .ref q0_), (0, 2, a0_, .ref q1_), (8, 8, q0_, .int y0_)]) : Met l yX0_openCall (.code yX0_openCall cX0_openCall 8 none :: lw_g) ({ frames := 1, cells := 0, slots := 0, locals := 23 }) (va_Pc [.ref a0_, .int x1_, .int x2_, .int x3_, .int x4_] (P3 (dC, dI) L tys f0 sz)) (va_Qv (fun (f : Nat → va_E) => (eJx f a0_ ∧ cOK f q1_ ∧ dOK L kd f q1_ T_ ∧ jS f q1_ J_ ∧ eOK f a0_ ∧ ∃ z0_ : Int32, bd (-2147483648) 40 z0_ ∧ ∃ z1_ : Int32, bd 1 1201 z1_ ∧ Fs L kd f [(0, 11, a0_, .int z0_), (8, 6, q0_, .int z1_), (8, 8, q0_, .int y0_)]) ∨ (dOK L kd f q1_ T_ ∧ eOK f a0_ ∧ ∃ z1_ : Int32, bd 1 7 z1_ ∧ Fs L kd f [(8, 6, q0_, .int 1201), (8, 8, q0_, .int z1_)])) (Q3 (dC, dI) L kd tys [(0, 8), (0, 10), (0, 11), (0, 12), (7, 6), (7, 18), (8, 6), (8, 8), (8, 9)] [110, 111, 112, 113, 114, 115, 138, 139] f0 sz) (pA L sz)) 0 0 (pA L sz) := by
  refine Met.ofW (cc := cX0_openCall) (maxL := 8) (ret := none) (by decide) rfl ?_
  intro p e s m args below meth c s₁ B hml hv
  obtain ⟨rfl, hsz, hP, hK, hD0⟩ := hv
  have hx := B.exec
  have hb := B.bytes
  have hr := B.returns
  have hts := atoms_spec (ws := (.code yX0_openCall cX0_openCall 8 none :: lw_g)) B.pre
  have hown : s.vm.findClass RX0 = some m.cls := findClass_of_methodNamed B.named
  have hlocks := B.notSynchronized
  subst hsz
  have g : G3 (dC, dI) L kd tys s f0 [(0, 8), (0, 10), (0, 11), (0, 12), (7, 6), (7, 18), (8, 6), (8, 8), (8, 9)] [110, 111, 112, 113, 114, 115, 138, 139] f0 s.heap [] [(0, 0, a0_, .ref q0_), (0, 2, a0_, .ref q1_), (8, 8, q0_, .int y0_)] := G3.start hP hD0 hWT hfx
  have hl := lv_entry ([.ref a0_, .int x1_, .int x2_, .int x3_, .int x4_]) (n := 8) (Nat.le_of_ble_eq_true rfl)
  rw [lg_entry_eq]
  generalize (lg_sl ([.ref a0_, .int x1_, .int x2_, .int x3_, .int x4_]) ++ List.replicate (8 - (lg_sl ([.ref a0_, .int x1_, .int x2_, .int x3_, .int x4_])).length) Slot.unset).toArray = ls at hl ⊢
  have hl : lv_has ls 8 [(0, .ref a0_), (1, .int x1_), (2, .int x2_), (3, .int x3_), (4, .int x4_)] := hl
  refine W_q (fun Q hQ => ?_)
  refine lv_aload_n hx hb dX0_openCall_0 rfl (lv_at hl 0 rfl) ?_
  refine g_getk (C := RX0) (T := TX0) (N := 14) hx hb hts (mc_ inX0) hown hK g rfl 0 (by decide) rfl (hts _ (List.mem_cons_of_mem _ t_373)) (fun _ h9 => h9) 0 rfl dX0_openCall_1 ?_
  have go_ := g
  refine g_calli (va_runV (As := []) (rest := []) ⟨hx, hb, hml, hown, hts⟩ (r_X8_place l dC dI L kd tys f0 s.heap.size g.2.2.2.1 q0_ mq0_ kq0_) (cwV 0 hts (gV_ t_1220 t_1111 t_1112 t_184 t_1113) rfl rfl rfl (by decide +kernel) ⟨(Nat.le_of_ble_eq_true rfl), (Nat.le_of_ble_eq_true rfl)⟩) (pre3V g hK mq0_ kq0_ (by decide) (q := (RX8, TX8, 10)) rfl) rfl rfl hl.1 rfl (lv_room (Nat.le_of_ble_eq_true rfl)) dX0_openCall_4 ⟨(Nat.le_of_ble_eq_true rfl), (Nat.le_of_ble_eq_true rfl)⟩) g hK (by decide) (by decide) (fx' := [(0, 0, a0_, .ref q0_), (0, 2, a0_, .ref q1_), (8, 8, q0_, .int y0_)]) rfl (fun r_1 fr_1 H locs hp hMr_1 g => ?_)
  have hG_2 := eJx.frame hMr_1 go_.2.2.2.1 ma0_ ka0_ (by decide) (by decide) hGia0_
  have hG_3 := cOK.frame hMr_1 go_.2.2.2.1 mq1_ kq1_ (by decide) (by decide) hGcq1_
  have hG_4 := dOK.frame hMr_1 go_.2.2.2.1 mq1_ kq1_ (by decide) (by decide) hGdq1_
  have hG_5 := jS.frame hMr_1 go_.2.2.2.1 mq1_ kq1_ (by decide) (by decide) hGsq1_
  have hG_6 := eOK.frame hMr_1 go_.2.2.2.1 ma0_ ka0_ (by decide) (by decide) hGea0_
  refine lv_istore (lv' := [(5, .int r_1), (0, .ref a0_), (1, .int x1_), (2, .int x2_), (3, .int x3_), (4, .int x4_)]) hx hb dX0_openCall_7 hl (by decide) rfl (fun ls hl => ?_)
  refine lv_aload_n hx hb dX0_openCall_9 rfl (lv_at hl 1 rfl) ?_
  refine g_geti (C := RX0) (T := TX0) (N := 14) hx hb hts (mc_ inX0) hown hK g ma0_ ka0_ (by decide) rfl 11 (by decide) rfl (hts _ (List.mem_cons_of_mem _ t_384)) (fun _ h9 => h9) rfl dX0_openCall_10 (fun x_7 bx_7 g => ?_)
  refine lv_bipush (v := 40) hx hb dX0_openCall_13 (by decide) ?_
  have kb_40 : bd 40 40 (40 : Int32) := ⟨by decide, by decide⟩
  refine lv_icmp_lt (tgt := 28) hx hb dX0_openCall_15 (by decide) (fun c_8 => ?_) (fun c_8 => ?_)
  · have fc_8 := lt_f c_8
    have b_9 : bd (-2147483648) 39 x_7 := ltL fc_8 (bdT x_7) kb_40 (by decide)
    refine lv_aload_n hx hb dX0_openCall_28 rfl (lv_at hl 1 rfl) ?_
    refine g_getk (C := RX0) (T := TX0) (N := 14) hx hb hts (mc_ inX0) hown hK g rfl 2 (by decide) rfl (hts _ (List.mem_cons_of_mem _ t_375)) (fun _ h9 => h9) 2 rfl dX0_openCall_29 ?_
    refine lv_dup hx hb dX0_openCall_32 rfl ?_
    refine g_geti (C := RX7) (T := TX7) (N := 19) hx hb hts (mc_ inX7) hown hK g mq1_ kq1_ (by decide) rfl 18 (by decide) rfl (hts _ (List.mem_cons_of_mem _ t_681)) (fun _ h9 => h9) rfl dX0_openCall_33 (fun x_10 bx_10 g => ?_)
    refine lv_iconst (v := 1) hx hb dX0_openCall_36 (by decide) ?_
    have kb_1 : bd 1 1 (1 : Int32) := ⟨by decide, by decide⟩
    refine lv_iadd hx hb dX0_openCall_37 ?_
    refine lv_topi (fun y_11 ey_11 => ?_)
    have go_ := g
    refine g_put (C := RX7) (T := TX7) (N := 19) hx hb hts (mc_ inX7) tyX7 tyX7_ok nmX7 hown hK g mq1_ kq1_ (by decide) rfl 18 (by decide) (hts _ (List.mem_cons_of_mem _ t_681)) (fun _ h9 => h9) rfl rfl (okV_i (bdT y_11)) rfl rfl (by decide) (Or.inr (Or.inl (by decide))) (fx' := [(0, 11, a0_, .int x_7), (0, 0, a0_, .ref q0_), (0, 2, a0_, .ref q1_), (8, 8, q0_, .int y0_)]) rfl dX0_openCall_38 (fun f H locs hM_12 g => ?_)
    have hG_13 := eJx.frame hM_12 go_.2.2.2.1 ma0_ ka0_ (by decide) (by decide) hG_2
    have hG_14 := cOK.frame hM_12 go_.2.2.2.1 mq1_ kq1_ (by decide) (by decide) hG_3
    have hG_15 := dOK.frame hM_12 go_.2.2.2.1 mq1_ kq1_ (by decide) (by decide) hG_4
    have hG_16 := jS.frame hM_12 go_.2.2.2.1 mq1_ kq1_ (by decide) (by decide) hG_5
    have hG_17 := eOK.frame hM_12 go_.2.2.2.1 ma0_ ka0_ (by decide) (by decide) hG_6
    refine lv_aload_n hx hb dX0_openCall_41 rfl (lv_at hl 1 rfl) ?_
    refine g_getk (C := RX0) (T := TX0) (N := 14) hx hb hts (mc_ inX0) hown hK g rfl 0 (by decide) rfl (hts _ (List.mem_cons_of_mem _ t_373)) (fun _ h9 => h9) 2 rfl dX0_openCall_42 ?_
    have go_ := g
    refine g_callv (va_runV (As := []) (rest := []) ⟨hx, hb, hml, hown, hts⟩ (r_X8_next l dC dI L kd tys f H.size g.2.2.2.1 q0_ mq0_ kq0_) (cwV 0 hts (gV_ t_1225 t_1103 t_1104 t_184 t_1105) rfl rfl rfl (by decide +kernel) ⟨(Nat.le_of_ble_eq_true rfl), (Nat.le_of_ble_eq_true rfl)⟩) (pre3V g hK mq0_ kq0_ (by decide) (q := (RX8, TX8, 10)) rfl) rfl rfl hl.1 rfl (lv_room (Nat.le_of_ble_eq_true rfl)) dX0_openCall_45 ⟨(Nat.le_of_ble_eq_true rfl), (Nat.le_of_ble_eq_true rfl)⟩) g hK (by decide) (by decide) (fx' := [(7, 18, q1_, .int y_11), (0, 11, a0_, .int x_7), (0, 0, a0_, .ref q0_), (0, 2, a0_, .ref q1_), (8, 8, q0_, .int y0_)]) rfl (fun fr_18 H locs hp hMr_18 g => ?_)
    obtain ⟨x_19, h_20, hF_21⟩ := hp
    have hG_22 := eJx.frame hMr_18 go_.2.2.2.1 ma0_ ka0_ (by decide) (by decide) hG_13
    have hG_23 := cOK.frame hMr_18 go_.2.2.2.1 mq1_ kq1_ (by decide) (by decide) hG_14
    have hG_24 := dOK.frame hMr_18 go_.2.2.2.1 mq1_ kq1_ (by decide) (by decide) hG_15
    have hG_25 := jS.frame hMr_18 go_.2.2.2.1 mq1_ kq1_ (by decide) (by decide) hG_16
    have hG_26 := eOK.frame hMr_18 go_.2.2.2.1 ma0_ ka0_ (by decide) (by decide) hG_17
    have g := g.more hF_21
    refine lv_aload_n hx hb dX0_openCall_48 rfl (lv_at hl 1 rfl) ?_
    refine g_getk (C := RX0) (T := TX0) (N := 14) hx hb hts (mc_ inX0) hown hK g rfl 0 (by decide) rfl (hts _ (List.mem_cons_of_mem _ t_373)) (fun _ h9 => h9) 3 rfl dX0_openCall_49 ?_
    have go_ := g
    refine g_calli (va_runV (As := []) (rest := []) ⟨hx, hb, hml, hown, hts⟩ (r_X8_place l dC dI L kd tys fr_18 H.size g.2.2.2.1 q0_ mq0_ kq0_) (cwV 0 hts (gV_ t_1220 t_1111 t_1112 t_184 t_1113) rfl rfl rfl (by decide +kernel) ⟨(Nat.le_of_ble_eq_true rfl), (Nat.le_of_ble_eq_true rfl)⟩) (pre3V g hK mq0_ kq0_ (by decide) (q := (RX8, TX8, 10)) rfl) rfl rfl hl.1 rfl (lv_room (Nat.le_of_ble_eq_true rfl)) dX0_openCall_52 ⟨(Nat.le_of_ble_eq_true rfl), (Nat.le_of_ble_eq_true rfl)⟩) g hK (by decide) (by decide) (fx' := [(8, 6, q0_, .int x_19), (7, 18, q1_, .int y_11), (0, 11, a0_, .int x_7), (0, 0, a0_, .ref q0_), (0, 2, a0_, .ref q1_), (8, 8, q0_, .int y0_)]) rfl (fun r_27 fr_27 H locs hp hMr_27 g => ?_)
    have hG_28 := eJx.frame hMr_27 go_.2.2.2.1 ma0_ ka0_ (by decide) (by decide) hG_22
    have hG_29 := cOK.frame hMr_27 go_.2.2.2.1 mq1_ kq1_ (by decide) (by decide) hG_23
    have hG_30 := dOK.frame hMr_27 go_.2.2.2.1 mq1_ kq1_ (by decide) (by decide) hG_24
    have hG_31 := jS.frame hMr_27 go_.2.2.2.1 mq1_ kq1_ (by decide) (by decide) hG_25
    have hG_32 := eOK.frame hMr_27 go_.2.2.2.1 ma0_ ka0_ (by decide) (by decide) hG_26
    refine lv_istore (lv' := [(6, .int r_27), (5, .int r_1), (0, .ref a0_), (1, .int x1_), (2, .int x2_), (3, .int x3_), (4, .int x4_)]) hx hb dX0_openCall_55 hl (by decide) rfl (fun ls hl => ?_)
    refine lv_aload_n hx hb dX0_openCall_57 rfl (lv_at hl 2 rfl) ?_
    refine g_getk (C := RX0) (T := TX0) (N := 14) hx hb hts (mc_ inX0) hown hK g rfl 0 (by decide) rfl (hts _ (List.mem_cons_of_mem _ t_373)) (fun _ h9 => h9) 3 rfl dX0_openCall_58 ?_
    have go_ := g
    refine g_calli (va_runV (As := []) (rest := []) ⟨hx, hb, hml, hown, hts⟩ (r_X8_kind l dC dI L kd tys fr_27 H.size g.2.2.2.1 q0_ mq0_ kq0_) (cwV 0 hts (gV_ t_1186 t_1119 t_1120 t_184 t_1121) rfl rfl rfl (by decide +kernel) ⟨(Nat.le_of_ble_eq_true rfl), (Nat.le_of_ble_eq_true rfl)⟩) (pre3V g hK mq0_ kq0_ (by decide) (q := (RX8, TX8, 10)) rfl) rfl rfl hl.1 rfl (lv_room (Nat.le_of_ble_eq_true rfl)) dX0_openCall_61 ⟨(Nat.le_of_ble_eq_true rfl), (Nat.le_of_ble_eq_true rfl)⟩) g hK (by decide) (by decide) (fx' := [(8, 6, q0_, .int x_19), (7, 18, q1_, .int y_11), (0, 11, a0_, .int x_7), (0, 0, a0_, .ref q0_), (0, 2, a0_, .ref q1_), (8, 8, q0_, .int y0_)]) rfl (fun r_33 fr_33 H locs hp hMr_33 g => ?_)
    have hG_34 := eJx.frame hMr_33 go_.2.2.2.1 ma0_ ka0_ (by decide) (by decide) hG_28
    have hG_35 := cOK.frame hMr_33 go_.2.2.2.1 mq1_ kq1_ (by decide) (by decide) hG_29
    have hG_36 := dOK.frame hMr_33 go_.2.2.2.1 mq1_ kq1_ (by decide) (by decide) hG_30
    have hG_37 := jS.frame hMr_33 go_.2.2.2.1 mq1_ kq1_ (by decide) (by decide) hG_31
    have hG_38 := eOK.frame hMr_33 go_.2.2.2.1 ma0_ ka0_ (by decide) (by decide) hG_32
    refine lv_bipush (v := 41) hx hb dX0_openCall_64 (by decide) ?_
    have kb_41 : bd 41 41 (41 : Int32) := ⟨by decide, by decide⟩
    refine lv_icmp_ne (tgt := 73) hx hb dX0_openCall_66 (by decide) (fun c_39 => ?_) (fun c_39 => ?_)
    · have fc_39 := neq_f c_39
      refine lv_iconst (v := 0) hx hb dX0_openCall_73 (by decide) ?_
      refine lv_istore (lv' := [(7, .int 0), (6, .int r_27), (5, .int r_1), (0, .ref a0_), (1, .int x1_), (2, .int x2_), (3, .int x3_), (4, .int x4_)]) hx hb dX0_openCall_74 hl (by decide) rfl (fun ls hl => ?_)
      refine lv_iload hx hb dX0_openCall_76 (lv_at hl 7 rfl) ?_
      have kb_0 : bd 0 0 (0 : Int32) := ⟨by decide, by decide⟩
      refine lv_if_ne (tgt := 97) hx hb dX0_openCall_78 (by decide) (fun c_40 => ?_) (fun c_40 => ?_)
      · have fc_40 := neq_f c_40
        refine lv_iload hx hb dX0_openCall_97 (lv_at hl 0 rfl) ?_
        refine lv_if_ne (tgt := 120) hx hb dX0_openCall_99 (by decide) (fun c_ => absurd c_ (by decide)) (fun c_ => ?_)
        refine lv_aload_n hx hb dX0_openCall_102 rfl (lv_at hl 3 rfl) ?_
        refine lv_iload_n hx hb dX0_openCall_103 rfl (lv_at hl 4 rfl) ?_
        refine lv_iload_n hx hb dX0_openCall_104 rfl (lv_at hl 5 rfl) ?_
        refine lv_iload_n hx hb dX0_openCall_105 rfl (lv_at hl 6 rfl) ?_
        obtain ⟨a_41, ma_41, ka_41, g⟩ := g_factr (K := 110) g ma0_ ka0_ (by decide) 3 rfl
        obtain ⟨a_42, ma_42, ka_42, g⟩ := g_factr (K := 112) g ma0_ ka0_ (by decide) 5 rfl
        have go_ := g
        refine g_callv (va_runV (As := [.int x1_, .int x2_, .int x3_]) (rest := []) ⟨hx, hb, hml, hown, hts⟩ (r_X0_push_3 l dC dI L kd tys fr_33 H.size g.2.2.2.1 a0_ ma0_ ka0_ x1_ x2_ x3_ q1_ mq1_ kq1_ a_41 ma_41 ka_41 a_42 ma_42 ka_42 hG_34 hG_38 (erel_bd bx1_ bx3_ (by decide)) ⟨(fun h9 => (by exfalso; have h9_0 := bx1_; unfold bd at h9_0; have h9_1 := bx3_; unfold bd at h9_1; have h9_2 := h_20; unfold bd at h9_2; have h9_3 := b_9; unfold bd at h9_3; have h9_4 := by0_; unfold bd at h9_4; have h8_0 := kb_0; unfold bd at h8_0; have h8_1 := kb_1; unfold bd at h8_1; have h8_2 := kb_40; unfold bd at h8_2; have h8_3 := kb_41; unfold bd at h8_3; omega)), (fun h9 => ⟨(by have h9_0 := bx1_; unfold bd at h9_0; have h9_1 := bx3_; unfold bd at h9_1; have h9_2 := h_20; unfold bd at h9_2; have h9_3 := b_9; unfold bd at h9_3; have h9_4 := by0_; unfold bd at h9_4; have h8_0 := kb_0; unfold bd at h8_0; have h8_1 := kb_1; unfold bd at h8_1; have h8_2 := kb_40; unfold bd at h8_2; have h8_3 := kb_41; unfold bd at h8_3; omega), (by have h9_0 := bx1_; unfold bd at h9_0; have h9_1 := bx3_; unfold bd at h9_1; have h9_2 := h_20; unfold bd at h9_2; have h9_3 := b_9; unfold bd at h9_3; have h9_4 := by0_; unfold bd at h9_4; have h8_0 := kb_0; unfold bd at h8_0; have h8_1 := kb_1; unfold bd at h8_1; have h8_2 := kb_40; unfold bd at h8_2; have h8_3 := kb_41; unfold bd at h8_3; omega)⟩)⟩ (g.fcts [6, 1, 0] rfl)) (cwV 3 hts (gV_ t_1221 t_1223 t_19 t_190 t_1224) rfl rfl rfl (by decide +kernel) ⟨(Nat.le_of_ble_eq_true rfl), (Nat.le_of_ble_eq_true rfl)⟩) (pre3V g hK ma0_ ka0_ (by decide) (q := (RX0, TX0, 14)) rfl) rfl rfl hl.1 rfl (lv_room (Nat.le_of_ble_eq_true rfl)) dX0_openCall_106 ⟨(Nat.le_of_ble_eq_true rfl), (Nat.le_of_ble_eq_true rfl)⟩) g hK (by decide) (by decide) (fx' := [(0, 5, a0_, .ref a_42), (0, 3, a0_, .ref a_41), (8, 6, q0_, .int x_19), (7, 18, q1_, .int y_11), (0, 11, a0_, .int x_7), (0, 0, a0_, .ref q0_), (0, 2, a0_, .ref q1_), (8, 8, q0_, .int y0_)]) rfl (fun fr_43 H locs hp hMr_43 g => ?_)
        obtain ⟨hG_44, hG_45, x_46, h_47, hF_48⟩ := hp
        have hG_49 := cOK.frame hMr_43 go_.2.2.2.1 mq1_ kq1_ (by decide) (by decide) hG_35
        have hG_50 := dOK.frame hMr_43 go_.2.2.2.1 mq1_ kq1_ (by decide) (by decide) hG_36
        have hG_51 := jS.frame hMr_43 go_.2.2.2.1 mq1_ kq1_ (by decide) (by decide) hG_37
        have g := g.more hF_48
        refine lv_aload_n hx hb dX0_openCall_109 rfl (lv_at hl 3 rfl) ?_
        refine lv_dup hx hb dX0_openCall_110 rfl ?_
        refine g_getk (C := RX0) (T := TX0) (N := 14) hx hb hts (mc_ inX0) hown hK g rfl 11 (by decide) rfl (hts _ (List.mem_cons_of_mem _ t_384)) (fun _ h9 => h9) 5 rfl dX0_openCall_111 ?_
        refine lv_iconst (v := 1) hx hb dX0_openCall_114 (by decide) ?_
        refine lv_iadd hx hb dX0_openCall_115 ?_
        refine lv_topi (fun y_52 ey_52 => ?_)
        have ty_52 := add_bd ey_52 b_9 kb_1 (by decide)
        have b_53 : bd (-2147483647) 40 y_52 := add_rg ty_52 b_9 kb_1 (by decide)
        have go_ := g
        refine g_put (C := RX0) (T := TX0) (N := 14) hx hb hts (mc_ inX0) tyX0 tyX0_ok nmX0 hown hK g ma0_ ka0_ (by decide) rfl 11 (by decide) (hts _ (List.mem_cons_of_mem _ t_384)) (fun _ h9 => h9) rfl rfl (okV_i (bd_sub b_53 (by decide))) rfl rfl (by decide) (Or.inr (Or.inl (by decide))) (fx' := [(0, 8, a0_, .int x_46), (0, 5, a0_, .ref a_42), (0, 3, a0_, .ref a_41), (8, 6, q0_, .int x_19), (7, 18, q1_, .int y_11), (0, 0, a0_, .ref q0_), (0, 2, a0_, .ref q1_), (8, 8, q0_, .int y0_)]) rfl dX0_openCall_116 (fun f H locs hM_54 g => ?_)
        have hG_55 := eJx.frame hM_54 go_.2.2.2.1 ma0_ ka0_ (by decide) (by decide) hG_44
        have hG_56 := cOK.frame hM_54 go_.2.2.2.1 mq1_ kq1_ (by decide) (by decide) hG_49
        have hG_57 := dOK.frame hM_54 go_.2.2.2.1 mq1_ kq1_ (by decide) (by decide) hG_50
        have hG_58 := jS.frame hM_54 go_.2.2.2.1 mq1_ kq1_ (by decide) (by decide) hG_51
        have hG_59 := eOK.frame hM_54 go_.2.2.2.1 ma0_ ka0_ (by decide) (by decide) hG_45
        subst hQ
        exact W.vret hx hb hr (fun t ht hW => ⟨⟨_, rfl, Or.inl ⟨hG_55, hG_56, hG_57, hG_58, hG_59, y_52, (bd_sub b_53 (by decide)), x_19, h_20, (g.fcts [0, 4, 8] rfl)⟩, q3_of g hK ht hW⟩, g.2.2.1.F ht⟩) g.2.2.1.2.2 dX0_openCall_119
      · have fc_40 := eq_f c_40
        have b_60 : bd 0 0 x4_ := eqX fc_40 (bdT x4_) kb_0 (by decide)
        refine lv_iload hx hb dX0_openCall_81 (lv_at hl 0 rfl) ?_
        refine lv_if_ne (tgt := 97) hx hb dX0_openCall_83 (by decide) (fun c_ => absurd c_ (by decide)) (fun c_ => ?_)
        refine lv_aload_n hx hb dX0_openCall_86 rfl (lv_at hl 3 rfl) ?_
        refine g_getk (C := RX0) (T := TX0) (N := 14) hx hb hts (mc_ inX0) hown hK g rfl 0 (by decide) rfl (hts _ (List.mem_cons_of_mem _ t_373)) (fun _ h9 => h9) 3 rfl dX0_openCall_87 ?_
        refine lv_bipush (v := 6) hx hb dX0_openCall_90 (by decide) ?_
        refine lv_iload hx hb dX0_openCall_92 (lv_at hl 2 rfl) ?_
        have kb_6 : bd 6 6 (6 : Int32) := ⟨by decide, by decide⟩
        have go_ := g
        refine g_callv (va_runV (As := [.int 6, .int r_1]) (rest := []) ⟨hx, hb, hml, hown, hts⟩ (r_X8_fail l dC dI L kd tys fr_33 H.size g.2.2.2.1 q0_ mq0_ kq0_ 6 (bd_sub kb_6 (by decide)) r_1 y0_ by0_ (g.fcts [5] rfl)) (cwV 2 hts (gV_ t_1215 t_1107 t_1108 t_184 t_1109) rfl rfl rfl (by decide +kernel) ⟨(Nat.le_of_ble_eq_true rfl), (Nat.le_of_ble_eq_true rfl)⟩) (pre3V g hK mq0_ kq0_ (by decide) (q := (RX8, TX8, 10)) rfl) rfl rfl hl.1 rfl (lv_room (Nat.le_of_ble_eq_true rfl)) dX0_openCall_94 ⟨(Nat.le_of_ble_eq_true rfl), (Nat.le_of_ble_eq_true rfl)⟩) g hK (by decide) (by decide) (fx' := [(7, 18, q1_, .int y_11), (0, 11, a0_, .int x_7), (0, 0, a0_, .ref q0_), (0, 2, a0_, .ref q1_)]) rfl (fun fr_61 H locs hp hMr_61 g => ?_)
        obtain ⟨x_62, h_63, hF_64⟩ := hp
        have hG_65 := eJx.frame hMr_61 go_.2.2.2.1 ma0_ ka0_ (by decide) (by decide) hG_34
        have hG_66 := cOK.frame hMr_61 go_.2.2.2.1 mq1_ kq1_ (by decide) (by decide) hG_35
        have hG_67 := dOK.frame hMr_61 go_.2.2.2.1 mq1_ kq1_ (by decide) (by decide) hG_36
        have hG_68 := jS.frame hMr_61 go_.2.2.2.1 mq1_ kq1_ (by decide) (by decide) hG_37
        have hG_69 := eOK.frame hMr_61 go_.2.2.2.1 ma0_ ka0_ (by decide) (by decide) hG_38
        have g := g.more hF_64
        refine lv_iload hx hb dX0_openCall_97 (lv_at hl 0 rfl) ?_
        refine lv_if_ne (tgt := 120) hx hb dX0_openCall_99 (by decide) (fun c_ => absurd c_ (by decide)) (fun c_ => ?_)
        refine lv_aload_n hx hb dX0_openCall_102 rfl (lv_at hl 3 rfl) ?_
        refine lv_iload_n hx hb dX0_openCall_103 rfl (lv_at hl 4 rfl) ?_
        refine lv_iload_n hx hb dX0_openCall_104 rfl (lv_at hl 5 rfl) ?_
        refine lv_iload_n hx hb dX0_openCall_105 rfl (lv_at hl 6 rfl) ?_
        obtain ⟨a_70, ma_70, ka_70, g⟩ := g_factr (K := 110) g ma0_ ka0_ (by decide) 3 rfl
        obtain ⟨a_71, ma_71, ka_71, g⟩ := g_factr (K := 112) g ma0_ ka0_ (by decide) 5 rfl
        have go_ := g
        refine g_callv (va_runV (As := [.int x1_, .int x2_, .int x3_]) (rest := []) ⟨hx, hb, hml, hown, hts⟩ (r_X0_push_4 l dC dI L kd tys fr_61 H.size g.2.2.2.1 a0_ ma0_ ka0_ x1_ x2_ x3_ q1_ mq1_ kq1_ a_70 ma_70 ka_70 a_71 ma_71 ka_71 hG_69 (erel_bd bx1_ bx3_ (by decide)) (g.fcts [7, 1, 0] rfl)) (cwV 3 hts (gV_ t_1221 t_1223 t_19 t_190 t_1224) rfl rfl rfl (by decide +kernel) ⟨(Nat.le_of_ble_eq_true rfl), (Nat.le_of_ble_eq_true rfl)⟩) (pre3V g hK ma0_ ka0_ (by decide) (q := (RX0, TX0, 14)) rfl) rfl rfl hl.1 rfl (lv_room (Nat.le_of_ble_eq_true rfl)) dX0_openCall_106 ⟨(Nat.le_of_ble_eq_true rfl), (Nat.le_of_ble_eq_true rfl)⟩) g hK (by decide) (by decide) (fx' := [(0, 5, a0_, .ref a_71), (0, 3, a0_, .ref a_70), (8, 6, q0_, .int 1201), (8, 8, q0_, .int x_62), (7, 18, q1_, .int y_11), (0, 11, a0_, .int x_7), (0, 0, a0_, .ref q0_), (0, 2, a0_, .ref q1_)]) rfl (fun fr_72 H locs hp hMr_72 g => ?_)
        obtain ⟨hG_73, x_74, h_75, hF_76⟩ := hp
        have hG_77 := cOK.frame hMr_72 go_.2.2.2.1 mq1_ kq1_ (by decide) (by decide) hG_66
        have hG_78 := dOK.frame hMr_72 go_.2.2.2.1 mq1_ kq1_ (by decide) (by decide) hG_67
        have hG_79 := jS.frame hMr_72 go_.2.2.2.1 mq1_ kq1_ (by decide) (by decide) hG_68
        have g := g.more hF_76
        refine lv_aload_n hx hb dX0_openCall_109 rfl (lv_at hl 3 rfl) ?_
        refine lv_dup hx hb dX0_openCall_110 rfl ?_
        refine g_getk (C := RX0) (T := TX0) (N := 14) hx hb hts (mc_ inX0) hown hK g rfl 11 (by decide) rfl (hts _ (List.mem_cons_of_mem _ t_384)) (fun _ h9 => h9) 6 rfl dX0_openCall_111 ?_
        refine lv_iconst (v := 1) hx hb dX0_openCall_114 (by decide) ?_
        refine lv_iadd hx hb dX0_openCall_115 ?_
        refine lv_topi (fun y_80 ey_80 => ?_)
        have ty_80 := add_bd ey_80 b_9 kb_1 (by decide)
        have b_81 : bd (-2147483647) 40 y_80 := add_rg ty_80 b_9 kb_1 (by decide)
        have go_ := g
        refine g_put (C := RX0) (T := TX0) (N := 14) hx hb hts (mc_ inX0) tyX0 tyX0_ok nmX0 hown hK g ma0_ ka0_ (by decide) rfl 11 (by decide) (hts _ (List.mem_cons_of_mem _ t_384)) (fun _ h9 => h9) rfl rfl (okV_i (bd_sub b_81 (by decide))) rfl rfl (by decide) (Or.inr (Or.inl (by decide))) (fx' := [(0, 8, a0_, .int x_74), (0, 5, a0_, .ref a_71), (0, 3, a0_, .ref a_70), (8, 6, q0_, .int 1201), (8, 8, q0_, .int x_62), (7, 18, q1_, .int y_11), (0, 0, a0_, .ref q0_), (0, 2, a0_, .ref q1_)]) rfl dX0_openCall_116 (fun f H locs hM_82 g => ?_)
        have hG_83 := cOK.frame hM_82 go_.2.2.2.1 mq1_ kq1_ (by decide) (by decide) hG_77
        have hG_84 := dOK.frame hM_82 go_.2.2.2.1 mq1_ kq1_ (by decide) (by decide) hG_78
        have hG_85 := jS.frame hM_82 go_.2.2.2.1 mq1_ kq1_ (by decide) (by decide) hG_79
        have hG_86 := eOK.frame hM_82 go_.2.2.2.1 ma0_ ka0_ (by decide) (by decide) hG_73
        subst hQ
        exact W.vret hx hb hr (fun t ht hW => ⟨⟨_, rfl, Or.inr (⟨hG_84, hG_86, x_62, h_63, (g.fcts [4, 5] rfl)⟩), q3_of g hK ht hW⟩, g.2.2.1.F ht⟩) g.2.2.1.2.2 dX0_openCall_119
    · have fc_39 := eq_f c_39
      have b_87 : bd 41 41 r_33 := eqX fc_39 (bdT r_33) kb_41 (by decide)
      refine lv_iconst (v := 1) hx hb dX0_openCall_69 (by decide) ?_
      refine lv_goto (tgt := 74) hx hb dX0_openCall_70 (by decide) ?_
      refine lv_istore (lv' := [(7, .int 1), (6, .int r_27), (5, .int r_1), (0, .ref a0_), (1, .int x1_), (2, .int x2_), (3, .int x3_), (4, .int x4_)]) hx hb dX0_openCall_74 hl (by decide) rfl (fun ls hl => ?_)
      refine lv_iload hx hb dX0_openCall_76 (lv_at hl 7 rfl) ?_
      have kb_0 : bd 0 0 (0 : Int32) := ⟨by decide, by decide⟩
      refine lv_if_ne (tgt := 97) hx hb dX0_openCall_78 (by decide) (fun c_88 => ?_) (fun c_88 => ?_)
      · have fc_88 := neq_f c_88
        refine lv_iload hx hb dX0_openCall_97 (lv_at hl 0 rfl) ?_
        refine lv_if_ne (tgt := 120) hx hb dX0_openCall_99 (by decide) (fun c_ => ?_) (fun c_ => absurd c_ (by decide))
        refine lv_aload_n hx hb dX0_openCall_120 rfl (lv_at hl 3 rfl) ?_
        refine g_getk (C := RX0) (T := TX0) (N := 14) hx hb hts (mc_ inX0) hown hK g rfl 0 (by decide) rfl (hts _ (List.mem_cons_of_mem _ t_373)) (fun _ h9 => h9) 3 rfl dX0_openCall_121 ?_
        have go_ := g
        refine g_callv (va_runV (As := []) (rest := []) ⟨hx, hb, hml, hown, hts⟩ (r_X8_next l dC dI L kd tys fr_33 H.size g.2.2.2.1 q0_ mq0_ kq0_) (cwV 0 hts (gV_ t_1225 t_1103 t_1104 t_184 t_1105) rfl rfl rfl (by decide +kernel) ⟨(Nat.le_of_ble_eq_true rfl), (Nat.le_of_ble_eq_true rfl)⟩) (pre3V g hK mq0_ kq0_ (by decide) (q := (RX8, TX8, 10)) rfl) rfl rfl hl.1 rfl (lv_room (Nat.le_of_ble_eq_true rfl)) dX0_openCall_124 ⟨(Nat.le_of_ble_eq_true rfl), (Nat.le_of_ble_eq_true rfl)⟩) g hK (by decide) (by decide) (fx' := [(7, 18, q1_, .int y_11), (0, 11, a0_, .int x_7), (0, 0, a0_, .ref q0_), (0, 2, a0_, .ref q1_), (8, 8, q0_, .int y0_)]) rfl (fun fr_89 H locs hp hMr_89 g => ?_)
        obtain ⟨x_90, h_91, hF_92⟩ := hp
        have hG_93 := eJx.frame hMr_89 go_.2.2.2.1 ma0_ ka0_ (by decide) (by decide) hG_34
        have hG_94 := cOK.frame hMr_89 go_.2.2.2.1 mq1_ kq1_ (by decide) (by decide) hG_35
        have hG_95 := dOK.frame hMr_89 go_.2.2.2.1 mq1_ kq1_ (by decide) (by decide) hG_36
        have hG_96 := jS.frame hMr_89 go_.2.2.2.1 mq1_ kq1_ (by decide) (by decide) hG_37
        have hG_97 := eOK.frame hMr_89 go_.2.2.2.1 ma0_ ka0_ (by decide) (by decide) hG_38
        have g := g.more hF_92
        refine lv_iload hx hb dX0_openCall_127 (lv_at hl 7 rfl) ?_
        refine lv_if_le (tgt := 143) hx hb dX0_openCall_129 (by decide) (fun c_98 => ?_) (fun c_98 => ?_)
        · have fc_98 := le_f c_98
          have b_99 : bd (-2147483648) 0 x4_ := leL fc_98 (bdT x4_) kb_0 (by decide)
          refine lv_aload_n hx hb dX0_openCall_143 rfl (lv_at hl 3 rfl) ?_
          refine g_getk (C := RX0) (T := TX0) (N := 14) hx hb hts (mc_ inX0) hown hK g rfl 2 (by decide) rfl (hts _ (List.mem_cons_of_mem _ t_375)) (fun _ h9 => h9) 4 rfl dX0_openCall_144 ?_
          refine lv_bipush (v := 13) hx hb dX0_openCall_147 (by decide) ?_
          refine lv_iconst (v := 0) hx hb dX0_openCall_149 (by decide) ?_
          obtain ⟨a_100, ma_100, ka_100, g⟩ := g_factr g mq1_ kq1_ (by decide) 4 rfl
          obtain ⟨a_101, ma_101, ka_101, g⟩ := g_factr g mq1_ kq1_ (by decide) 5 rfl
          obtain ⟨x_102, bx_102, g⟩ := g_facti g mq1_ kq1_ (by decide) 6 rfl
          have kb_13 : bd 13 13 (13 : Int32) := ⟨by decide, by decide⟩
          have go_ := g
          refine g_callv (va_runV (As := [.int 13, .int 0]) (rest := []) ⟨hx, hb, hml, hown, hts⟩ (r_X7_emitN l dC dI L kd tys fr_89 H.size g.2.2.2.1 q1_ mq1_ kq1_ a_100 ma_100 ka_100 a_101 ma_101 ka_101 x_102 bx_102 T_ hG_95 (13 : Int32) (0 : Int32) (fun j9 => jOK fr_89 q1_ j9) hG_94 (fun _ h9 => h9) ⟨(fun h9 => ⟨(by have h9_0 := b_87; unfold bd at h9_0; have h9_1 := bx1_; unfold bd at h9_1; have h9_2 := bx3_; unfold bd at h9_2; have h9_3 := b_99; unfold bd at h9_3; have h9_4 := bx_102; unfold bd at h9_4; have h9_5 := h_20; unfold bd at h9_5; have h9_6 := b_9; unfold bd at h9_6; have h9_7 := h_91; unfold bd at h9_7; have h9_8 := by0_; unfold bd at h9_8; have h8_0 := kb_0; unfold bd at h8_0; have h8_1 := kb_1; unfold bd at h8_1; have h8_2 := kb_13; unfold bd at h8_2; have h8_3 := kb_40; unfold bd at h8_3; have h8_4 := kb_41; unfold bd at h8_4; omega), (by have h9_0 := b_87; unfold bd at h9_0; have h9_1 := bx1_; unfold bd at h9_1; have h9_2 := bx3_; unfold bd at h9_2; have h9_3 := b_99; unfold bd at h9_3; have h9_4 := bx_102; unfold bd at h9_4; have h9_5 := h_20; unfold bd at h9_5; have h9_6 := b_9; unfold bd at h9_6; have h9_7 := h_91; unfold bd at h9_7; have h9_8 := by0_; unfold bd at h9_8; have h8_0 := kb_0; unfold bd at h8_0; have h8_1 := kb_1; unfold bd at h8_1; have h8_2 := kb_13; unfold bd at h8_2; have h8_3 := kb_40; unfold bd at h8_3; have h8_4 := kb_41; unfold bd at h8_4; omega)⟩), (fun h9 => ⟨(by have h9_0 := b_87; unfold bd at h9_0; have h9_1 := bx1_; unfold bd at h9_1; have h9_2 := bx3_; unfold bd at h9_2; have h9_3 := b_99; unfold bd at h9_3; have h9_4 := bx_102; unfold bd at h9_4; have h9_5 := h_20; unfold bd at h9_5; have h9_6 := b_9; unfold bd at h9_6; have h9_7 := h_91; unfold bd at h9_7; have h9_8 := by0_; unfold bd at h9_8; have h8_0 := kb_0; unfold bd at h8_0; have h8_1 := kb_1; unfold bd at h8_1; have h8_2 := kb_13; unfold bd at h8_2; have h8_3 := kb_40; unfold bd at h8_3; have h8_4 := kb_41; unfold bd at h8_4; omega), (by have h9_0 := b_87; unfold bd at h9_0; have h9_1 := bx1_; unfold bd at h9_1; have h9_2 := bx3_; unfold bd at h9_2; have h9_3 := b_99; unfold bd at h9_3; have h9_4 := bx_102; unfold bd at h9_4; have h9_5 := h_20; unfold bd at h9_5; have h9_6 := b_9; unfold bd at h9_6; have h9_7 := h_91; unfold bd at h9_7; have h9_8 := by0_; unfold bd at h9_8; have h8_0 := kb_0; unfold bd at h8_0; have h8_1 := kb_1; unfold bd at h8_1; have h8_2 := kb_13; unfold bd at h8_2; have h8_3 := kb_40; unfold bd at h8_3; have h8_4 := kb_41; unfold bd at h8_4; omega)⟩), (fun h9 => ⟨(by have h9_0 := b_87; unfold bd at h9_0; have h9_1 := bx1_; unfold bd at h9_1; have h9_2 := bx3_; unfold bd at h9_2; have h9_3 := b_99; unfold bd at h9_3; have h9_4 := bx_102; unfold bd at h9_4; have h9_5 := h_20; unfold bd at h9_5; have h9_6 := b_9; unfold bd at h9_6; have h9_7 := h_91; unfold bd at h9_7; have h9_8 := by0_; unfold bd at h9_8; have h8_0 := kb_0; unfold bd at h8_0; have h8_1 := kb_1; unfold bd at h8_1; have h8_2 := kb_13; unfold bd at h8_2; have h8_3 := kb_40; unfold bd at h8_3; have h8_4 := kb_41; unfold bd at h8_4; omega), (by have h9_0 := b_87; unfold bd at h9_0; have h9_1 := bx1_; unfold bd at h9_1; have h9_2 := bx3_; unfold bd at h9_2; have h9_3 := b_99; unfold bd at h9_3; have h9_4 := bx_102; unfold bd at h9_4; have h9_5 := h_20; unfold bd at h9_5; have h9_6 := b_9; unfold bd at h9_6; have h9_7 := h_91; unfold bd at h9_7; have h9_8 := by0_; unfold bd at h9_8; have h8_0 := kb_0; unfold bd at h8_0; have h8_1 := kb_1; unfold bd at h8_1; have h8_2 := kb_13; unfold bd at h8_2; have h8_3 := kb_40; unfold bd at h8_3; have h8_4 := kb_41; unfold bd at h8_4; omega)⟩)⟩ (g.fcts [2, 1, 0] rfl)) (cwV 2 hts (gV_ t_1203 t_1204 t_1205 t_191 t_1206) rfl rfl rfl (by decide +kernel) ⟨(Nat.le_of_ble_eq_true rfl), (Nat.le_of_ble_eq_true rfl)⟩) (pre3V g hK mq1_ kq1_ (by decide) (q := (RX7, TX7, 19)) rfl) rfl rfl hl.1 rfl (lv_room (Nat.le_of_ble_eq_true rfl)) dX0_openCall_150 ⟨(Nat.le_of_ble_eq_true rfl), (Nat.le_of_ble_eq_true rfl)⟩) g hK (by decide) (by decide) (fx' := [(7, 5, q1_, .ref a_101), (7, 4, q1_, .ref a_100), (8, 6, q0_, .int x_90), (7, 18, q1_, .int y_11), (0, 11, a0_, .int x_7), (0, 0, a0_, .ref q0_), (0, 2, a0_, .ref q1_), (8, 8, q0_, .int y0_)]) rfl (fun fr_103 H locs hp hMr_103 g => ?_)
          obtain ⟨hG_104, hG_105, hG_106, hx_107, x_108, h_109, hF_110⟩ := hp
          have hG_111 := eOK.frame hMr_103 go_.2.2.2.1 ma0_ ka0_ (by decide) (by decide) hG_97
          have g := g.more hF_110
          have hs_112 := jS.mv hG_96 hG_106
          have hG_113 := eJx.mv hG_93 hMr_103 go_.2.2.2.1 ma0_ ka0_ (by decide) (by decide) (((hMr_103 a0_ ma0_).1 2 (by rw [ka0_]; decide) (by rw [ka0_]; decide)).symm.trans (fx_at g (i := 7) rfl).2.2.2) hG_106
          refine lv_aload_n hx hb dX0_openCall_153 rfl (lv_at hl 3 rfl) ?_
          refine g_getk (C := RX0) (T := TX0) (N := 14) hx hb hts (mc_ inX0) hown hK g rfl 2 (by decide) rfl (hts _ (List.mem_cons_of_mem _ t_375)) (fun _ h9 => h9) 7 rfl dX0_openCall_154 ?_
          refine lv_iload_n hx hb dX0_openCall_157 rfl (lv_at hl 4 rfl) ?_
          refine lv_iconst (v := 2) hx hb dX0_openCall_158 (by decide) ?_
          have kb_2 : bd 2 2 (2 : Int32) := ⟨by decide, by decide⟩
          refine lv_icmp_ne (tgt := 167) hx hb dX0_openCall_159 (by decide) (fun c_114 => ?_) (fun c_114 => ?_)
          · have fc_114 := neq_f c_114
            refine lv_bipush (v := 18) hx hb dX0_openCall_167 (by decide) ?_
            refine lv_iload_n hx hb dX0_openCall_169 rfl (lv_at hl 6 rfl) ?_
            have kb_18 : bd 18 18 (18 : Int32) := ⟨by decide, by decide⟩
            have go_ := g
            refine g_callv (va_runV (As := [.int 18, .int x3_]) (rest := []) ⟨hx, hb, hml, hown, hts⟩ (r_X7_emitN l dC dI L kd tys fr_103 H.size g.2.2.2.1 q1_ mq1_ kq1_ a_100 ma_100 ka_100 a_101 ma_101 ka_101 x_108 h_109 T_ hG_104 (18 : Int32) x3_ (fun j9 => jOK fr_103 q1_ j9) hG_105 (fun _ h9 => h9) ⟨(fun h9 => ⟨(by have h9_0 := b_87; unfold bd at h9_0; have h9_1 := bx1_; unfold bd at h9_1; have h9_2 := bx3_; unfold bd at h9_2; have h9_3 := b_99; unfold bd at h9_3; have h9_4 := bx_102; unfold bd at h9_4; have h9_5 := h_109; unfold bd at h9_5; have h9_6 := h_20; unfold bd at h9_6; have h9_7 := b_9; unfold bd at h9_7; have h9_8 := h_91; unfold bd at h9_8; have h9_9 := by0_; unfold bd at h9_9; have h8_0 := kb_0; unfold bd at h8_0; have h8_1 := kb_1; unfold bd at h8_1; have h8_2 := kb_13; unfold bd at h8_2; have h8_3 := kb_18; unfold bd at h8_3; have h8_4 := kb_2; unfold bd at h8_4; have h8_5 := kb_40; unfold bd at h8_5; have h8_6 := kb_41; unfold bd at h8_6; omega), (by have h9_0 := b_87; unfold bd at h9_0; have h9_1 := bx1_; unfold bd at h9_1; have h9_2 := bx3_; unfold bd at h9_2; have h9_3 := b_99; unfold bd at h9_3; have h9_4 := bx_102; unfold bd at h9_4; have h9_5 := h_109; unfold bd at h9_5; have h9_6 := h_20; unfold bd at h9_6; have h9_7 := b_9; unfold bd at h9_7; have h9_8 := h_91; unfold bd at h9_8; have h9_9 := by0_; unfold bd at h9_9; have h8_0 := kb_0; unfold bd at h8_0; have h8_1 := kb_1; unfold bd at h8_1; have h8_2 := kb_13; unfold bd at h8_2; have h8_3 := kb_18; unfold bd at h8_3; have h8_4 := kb_2; unfold bd at h8_4; have h8_5 := kb_40; unfold bd at h8_5; have h8_6 := kb_41; unfold bd at h8_6; omega)⟩), (fun h9 => ⟨(by have h9_0 := b_87; unfold bd at h9_0; have h9_1 := bx1_; unfold bd at h9_1; have h9_2 := bx3_; unfold bd at h9_2; have h9_3 := b_99; unfold bd at h9_3; have h9_4 := bx_102; unfold bd at h9_4; have h9_5 := h_109; unfold bd at h9_5; have h9_6 := h_20; unfold bd at h9_6; have h9_7 := b_9; unfold bd at h9_7; have h9_8 := h_91; unfold bd at h9_8; have h9_9 := by0_; unfold bd at h9_9; have h8_0 := kb_0; unfold bd at h8_0; have h8_1 := kb_1; unfold bd at h8_1; have h8_2 := kb_13; unfold bd at h8_2; have h8_3 := kb_18; unfold bd at h8_3; have h8_4 := kb_2; unfold bd at h8_4; have h8_5 := kb_40; unfold bd at h8_5; have h8_6 := kb_41; unfold bd at h8_6; omega), (by have h9_0 := b_87; unfold bd at h9_0; have h9_1 := bx1_; unfold bd at h9_1; have h9_2 := bx3_; unfold bd at h9_2; have h9_3 := b_99; unfold bd at h9_3; have h9_4 := bx_102; unfold bd at h9_4; have h9_5 := h_109; unfold bd at h9_5; have h9_6 := h_20; unfold bd at h9_6; have h9_7 := b_9; unfold bd at h9_7; have h9_8 := h_91; unfold bd at h9_8; have h9_9 := by0_; unfold bd at h9_9; have h8_0 := kb_0; unfold bd at h8_0; have h8_1 := kb_1; unfold bd at h8_1; have h8_2 := kb_13; unfold bd at h8_2; have h8_3 := kb_18; unfold bd at h8_3; have h8_4 := kb_2; unfold bd at h8_4; have h8_5 := kb_40; unfold bd at h8_5; have h8_6 := kb_41; unfold bd at h8_6; omega)⟩), (fun h9 => ⟨(by have h9_0 := b_87; unfold bd at h9_0; have h9_1 := bx1_; unfold bd at h9_1; have h9_2 := bx3_; unfold bd at h9_2; have h9_3 := b_99; unfold bd at h9_3; have h9_4 := bx_102; unfold bd at h9_4; have h9_5 := h_109; unfold bd at h9_5; have h9_6 := h_20; unfold bd at h9_6; have h9_7 := b_9; unfold bd at h9_7; have h9_8 := h_91; unfold bd at h9_8; have h9_9 := by0_; unfold bd at h9_9; have h8_0 := kb_0; unfold bd at h8_0; have h8_1 := kb_1; unfold bd at h8_1; have h8_2 := kb_13; unfold bd at h8_2; have h8_3 := kb_18; unfold bd at h8_3; have h8_4 := kb_2; unfold bd at h8_4; have h8_5 := kb_40; unfold bd at h8_5; have h8_6 := kb_41; unfold bd at h8_6; omega), (by have h9_0 := b_87; unfold bd at h9_0; have h9_1 := bx1_; unfold bd at h9_1; have h9_2 := bx3_; unfold bd at h9_2; have h9_3 := b_99; unfold bd at h9_3; have h9_4 := bx_102; unfold bd at h9_4; have h9_5 := h_109; unfold bd at h9_5; have h9_6 := h_20; unfold bd at h9_6; have h9_7 := b_9; unfold bd at h9_7; have h9_8 := h_91; unfold bd at h9_8; have h9_9 := by0_; unfold bd at h9_9; have h8_0 := kb_0; unfold bd at h8_0; have h8_1 := kb_1; unfold bd at h8_1; have h8_2 := kb_13; unfold bd at h8_2; have h8_3 := kb_18; unfold bd at h8_3; have h8_4 := kb_2; unfold bd at h8_4; have h8_5 := kb_40; unfold bd at h8_5; have h8_6 := kb_41; unfold bd at h8_6; omega)⟩)⟩ (g.fcts [2, 1, 0] rfl)) (cwV 2 hts (gV_ t_1203 t_1204 t_1205 t_191 t_1206) rfl rfl rfl (by decide +kernel) ⟨(Nat.le_of_ble_eq_true rfl), (Nat.le_of_ble_eq_true rfl)⟩) (pre3V g hK mq1_ kq1_ (by decide) (q := (RX7, TX7, 19)) rfl) rfl rfl hl.1 rfl (lv_room (Nat.le_of_ble_eq_true rfl)) dX0_openCall_170 ⟨(Nat.le_of_ble_eq_true rfl), (Nat.le_of_ble_eq_true rfl)⟩) g hK (by decide) (by decide) (fx' := [(7, 5, q1_, .ref a_101), (7, 4, q1_, .ref a_100), (8, 6, q0_, .int x_90), (7, 18, q1_, .int y_11), (0, 11, a0_, .int x_7), (0, 0, a0_, .ref q0_), (0, 2, a0_, .ref q1_), (8, 8, q0_, .int y0_)]) rfl (fun fr_115 H locs hp hMr_115 g => ?_)
            obtain ⟨hG_116, hG_117, hG_118, hx_119, x_120, h_121, hF_122⟩ := hp
            have hG_123 := eOK.frame hMr_115 go_.2.2.2.1 ma0_ ka0_ (by decide) (by decide) hG_111
            have g := g.more hF_122
            have hs_124 := jS.mv hs_112 hG_118
            have hG_125 := eJx.mv hG_113 hMr_115 go_.2.2.2.1 ma0_ ka0_ (by decide) (by decide) (((hMr_115 a0_ ma0_).1 2 (by rw [ka0_]; decide) (by rw [ka0_]; decide)).symm.trans (fx_at g (i := 7) rfl).2.2.2) hG_118
            refine lv_aload_n hx hb dX0_openCall_173 rfl (lv_at hl 3 rfl) ?_
            refine lv_iconst (v := 1) hx hb dX0_openCall_174 (by decide) ?_
            have go_ := g
            refine g_callv (va_runV (As := [.int 1]) (rest := []) ⟨hx, hb, hml, hown, hts⟩ (r_X0_addWhole l dC dI L kd tys fr_115 H.size g.2.2.2.1 a0_ ma0_ ka0_ 1) (cwV 1 hts (gV_ t_1211 t_1213 t_17 t_190 t_1214) rfl rfl rfl (by decide +kernel) ⟨(Nat.le_of_ble_eq_true rfl), (Nat.le_of_ble_eq_true rfl)⟩) (pre3V g hK ma0_ ka0_ (by decide) (q := (RX0, TX0, 14)) rfl) rfl rfl hl.1 rfl (lv_room (Nat.le_of_ble_eq_true rfl)) dX0_openCall_175 ⟨(Nat.le_of_ble_eq_true rfl), (Nat.le_of_ble_eq_true rfl)⟩) g hK (by decide) (by decide) (fx' := [(7, 6, q1_, .int x_120), (7, 5, q1_, .ref a_101), (7, 4, q1_, .ref a_100), (8, 6, q0_, .int x_90), (7, 18, q1_, .int y_11), (0, 11, a0_, .int x_7), (0, 0, a0_, .ref q0_), (0, 2, a0_, .ref q1_), (8, 8, q0_, .int y0_)]) rfl (fun fr_126 H locs hp hMr_126 g => ?_)
            obtain ⟨x_127, h_128, hF_129⟩ := hp
            have hG_130 := cOK.frame hMr_126 go_.2.2.2.1 mq1_ kq1_ (by decide) (by decide) hG_117
            have hG_131 := dOK.frame hMr_126 go_.2.2.2.1 mq1_ kq1_ (by decide) (by decide) hG_116
            have hG_132 := jS.frame hMr_126 go_.2.2.2.1 mq1_ kq1_ (by decide) (by decide) hs_124
            have hG_133 := eOK.frame hMr_126 go_.2.2.2.1 ma0_ ka0_ (by decide) (by decide) hG_123
            have hG_134 := eJx.frame hMr_126 go_.2.2.2.1 ma0_ ka0_ (by decide) (by decide) hG_125
            have g := g.more hF_129
            subst hQ
            exact W.vret hx hb hr (fun t ht hW => ⟨⟨_, rfl, Or.inl ⟨hG_134, hG_130, hG_131, hG_132, hG_133, x_7, (bd_sub b_9 (by decide)), x_90, h_91, (g.fcts [7, 5, 10] rfl)⟩, q3_of g hK ht hW⟩, g.2.2.1.F ht⟩) g.2.2.1.2.2 dX0_openCall_178
          · have fc_114 := eq_f c_114
            have b_135 : bd 3 2 x1_ := eqX fc_114 bx1_ kb_2 (by decide)
            exact bd_no b_135 (by decide)
        · have fc_98 := nle_f c_98
          have b_136 : bd 1 2147483647 x4_ := ltR fc_98 kb_0 (bdT x4_) (by decide)
          refine lv_aload_n hx hb dX0_openCall_132 rfl (lv_at hl 3 rfl) ?_
          refine g_getk (C := RX0) (T := TX0) (N := 14) hx hb hts (mc_ inX0) hown hK g rfl 0 (by decide) rfl (hts _ (List.mem_cons_of_mem _ t_373)) (fun _ h9 => h9) 3 rfl dX0_openCall_133 ?_
          refine lv_bipush (v := 6) hx hb dX0_openCall_136 (by decide) ?_
          refine lv_iload hx hb dX0_openCall_138 (lv_at hl 1 rfl) ?_
          have kb_6 : bd 6 6 (6 : Int32) := ⟨by decide, by decide⟩
          have go_ := g
          refine g_callv (va_runV (As := [.int 6, .int r_27]) (rest := []) ⟨hx, hb, hml, hown, hts⟩ (r_X8_fail l dC dI L kd tys fr_89 H.size g.2.2.2.1 q0_ mq0_ kq0_ 6 (bd_sub kb_6 (by decide)) r_27 y0_ by0_ (g.fcts [5] rfl)) (cwV 2 hts (gV_ t_1215 t_1107 t_1108 t_184 t_1109) rfl rfl rfl (by decide +kernel) ⟨(Nat.le_of_ble_eq_true rfl), (Nat.le_of_ble_eq_true rfl)⟩) (pre3V g hK mq0_ kq0_ (by decide) (q := (RX8, TX8, 10)) rfl) rfl rfl hl.1 rfl (lv_room (Nat.le_of_ble_eq_true rfl)) dX0_openCall_140 ⟨(Nat.le_of_ble_eq_true rfl), (Nat.le_of_ble_eq_true rfl)⟩) g hK (by decide) (by decide) (fx' := [(7, 18, q1_, .int y_11), (0, 11, a0_, .int x_7), (0, 0, a0_, .ref q0_), (0, 2, a0_, .ref q1_)]) rfl (fun fr_137 H locs hp hMr_137 g => ?_)
          obtain ⟨x_138, h_139, hF_140⟩ := hp
          have hG_141 := eJx.frame hMr_137 go_.2.2.2.1 ma0_ ka0_ (by decide) (by decide) hG_93
          have hG_142 := cOK.frame hMr_137 go_.2.2.2.1 mq1_ kq1_ (by decide) (by decide) hG_94
          have hG_143 := dOK.frame hMr_137 go_.2.2.2.1 mq1_ kq1_ (by decide) (by decide) hG_95
          have hG_144 := jS.frame hMr_137 go_.2.2.2.1 mq1_ kq1_ (by decide) (by decide) hG_96
          have hG_145 := eOK.frame hMr_137 go_.2.2.2.1 ma0_ ka0_ (by decide) (by decide) hG_97
          have g := g.more hF_140
          refine lv_aload_n hx hb dX0_openCall_143 rfl (lv_at hl 3 rfl) ?_
          refine g_getk (C := RX0) (T := TX0) (N := 14) hx hb hts (mc_ inX0) hown hK g rfl 2 (by decide) rfl (hts _ (List.mem_cons_of_mem _ t_375)) (fun _ h9 => h9) 5 rfl dX0_openCall_144 ?_
          refine lv_bipush (v := 13) hx hb dX0_openCall_147 (by decide) ?_
          refine lv_iconst (v := 0) hx hb dX0_openCall_149 (by decide) ?_
          obtain ⟨a_146, ma_146, ka_146, g⟩ := g_factr g mq1_ kq1_ (by decide) 4 rfl
          obtain ⟨a_147, ma_147, ka_147, g⟩ := g_factr g mq1_ kq1_ (by decide) 5 rfl
          obtain ⟨x_148, bx_148, g⟩ := g_facti g mq1_ kq1_ (by decide) 6 rfl
          have go_ := g
          refine g_callv (va_runV (As := [.int 13, .int 0]) (rest := []) ⟨hx, hb, hml, hown, hts⟩ (r_X7_emitF l dC dI L kd tys fr_137 H.size g.2.2.2.1 q1_ mq1_ kq1_ a_146 ma_146 ka_146 a_147 ma_147 ka_147 x_148 bx_148 T_ hG_143 (13 : Int32) (0 : Int32) (g.fcts [2, 1, 0] rfl)) (cwV 2 hts (gV_ t_1203 t_1204 t_1205 t_191 t_1206) rfl rfl rfl (by decide +kernel) ⟨(Nat.le_of_ble_eq_true rfl), (Nat.le_of_ble_eq_true rfl)⟩) (pre3V g hK mq1_ kq1_ (by decide) (q := (RX7, TX7, 19)) rfl) rfl rfl hl.1 rfl (lv_room (Nat.le_of_ble_eq_true rfl)) dX0_openCall_150 ⟨(Nat.le_of_ble_eq_true rfl), (Nat.le_of_ble_eq_true rfl)⟩) g hK (by decide) (by decide) (fx' := [(7, 5, q1_, .ref a_147), (7, 4, q1_, .ref a_146), (8, 6, q0_, .int 1201), (8, 8, q0_, .int x_138), (7, 18, q1_, .int y_11), (0, 11, a0_, .int x_7), (0, 0, a0_, .ref q0_), (0, 2, a0_, .ref q1_)]) rfl (fun fr_149 H locs hp hMr_149 g => ?_)
          obtain ⟨hG_150, x_151, h_152, hF_153⟩ := hp
          have hG_154 := eOK.frame hMr_149 go_.2.2.2.1 ma0_ ka0_ (by decide) (by decide) hG_145
          have g := g.more hF_153
          refine lv_aload_n hx hb dX0_openCall_153 rfl (lv_at hl 3 rfl) ?_
          refine g_getk (C := RX0) (T := TX0) (N := 14) hx hb hts (mc_ inX0) hown hK g rfl 2 (by decide) rfl (hts _ (List.mem_cons_of_mem _ t_375)) (fun _ h9 => h9) 8 rfl dX0_openCall_154 ?_
          refine lv_iload_n hx hb dX0_openCall_157 rfl (lv_at hl 4 rfl) ?_
          refine lv_iconst (v := 2) hx hb dX0_openCall_158 (by decide) ?_
          have kb_2 : bd 2 2 (2 : Int32) := ⟨by decide, by decide⟩
          refine lv_icmp_ne (tgt := 167) hx hb dX0_openCall_159 (by decide) (fun c_155 => ?_) (fun c_155 => ?_)
          · have fc_155 := neq_f c_155
            refine lv_bipush (v := 18) hx hb dX0_openCall_167 (by decide) ?_
            refine lv_iload_n hx hb dX0_openCall_169 rfl (lv_at hl 6 rfl) ?_
            have go_ := g
            refine g_callv (va_runV (As := [.int 18, .int x3_]) (rest := []) ⟨hx, hb, hml, hown, hts⟩ (r_X7_emitF l dC dI L kd tys fr_149 H.size g.2.2.2.1 q1_ mq1_ kq1_ a_146 ma_146 ka_146 a_147 ma_147 ka_147 x_151 h_152 T_ hG_150 (18 : Int32) x3_ (g.fcts [2, 1, 0] rfl)) (cwV 2 hts (gV_ t_1203 t_1204 t_1205 t_191 t_1206) rfl rfl rfl (by decide +kernel) ⟨(Nat.le_of_ble_eq_true rfl), (Nat.le_of_ble_eq_true rfl)⟩) (pre3V g hK mq1_ kq1_ (by decide) (q := (RX7, TX7, 19)) rfl) rfl rfl hl.1 rfl (lv_room (Nat.le_of_ble_eq_true rfl)) dX0_openCall_170 ⟨(Nat.le_of_ble_eq_true rfl), (Nat.le_of_ble_eq_true rfl)⟩) g hK (by decide) (by decide) (fx' := [(7, 5, q1_, .ref a_147), (7, 4, q1_, .ref a_146), (8, 6, q0_, .int 1201), (8, 8, q0_, .int x_138), (7, 18, q1_, .int y_11), (0, 11, a0_, .int x_7), (0, 0, a0_, .ref q0_), (0, 2, a0_, .ref q1_)]) rfl (fun fr_156 H locs hp hMr_156 g => ?_)
            obtain ⟨hG_157, x_158, h_159, hF_160⟩ := hp
            have hG_161 := eOK.frame hMr_156 go_.2.2.2.1 ma0_ ka0_ (by decide) (by decide) hG_154
            have g := g.more hF_160
            refine lv_aload_n hx hb dX0_openCall_173 rfl (lv_at hl 3 rfl) ?_
            refine lv_iconst (v := 1) hx hb dX0_openCall_174 (by decide) ?_
            have go_ := g
            refine g_callv (va_runV (As := [.int 1]) (rest := []) ⟨hx, hb, hml, hown, hts⟩ (r_X0_addWhole l dC dI L kd tys fr_156 H.size g.2.2.2.1 a0_ ma0_ ka0_ 1) (cwV 1 hts (gV_ t_1211 t_1213 t_17 t_190 t_1214) rfl rfl rfl (by decide +kernel) ⟨(Nat.le_of_ble_eq_true rfl), (Nat.le_of_ble_eq_true rfl)⟩) (pre3V g hK ma0_ ka0_ (by decide) (q := (RX0, TX0, 14)) rfl) rfl rfl hl.1 rfl (lv_room (Nat.le_of_ble_eq_true rfl)) dX0_openCall_175 ⟨(Nat.le_of_ble_eq_true rfl), (Nat.le_of_ble_eq_true rfl)⟩) g hK (by decide) (by decide) (fx' := [(7, 6, q1_, .int x_158), (7, 5, q1_, .ref a_147), (7, 4, q1_, .ref a_146), (8, 6, q0_, .int 1201), (8, 8, q0_, .int x_138), (7, 18, q1_, .int y_11), (0, 11, a0_, .int x_7), (0, 0, a0_, .ref q0_), (0, 2, a0_, .ref q1_)]) rfl (fun fr_162 H locs hp hMr_162 g => ?_)
            obtain ⟨x_163, h_164, hF_165⟩ := hp
            have hG_166 := dOK.frame hMr_162 go_.2.2.2.1 mq1_ kq1_ (by decide) (by decide) hG_157
            have hG_167 := eOK.frame hMr_162 go_.2.2.2.1 ma0_ ka0_ (by decide) (by decide) hG_161
            have g := g.more hF_165
            subst hQ
            exact W.vret hx hb hr (fun t ht hW => ⟨⟨_, rfl, Or.inr (⟨hG_166, hG_167, x_138, h_139, (g.fcts [5, 6] rfl)⟩), q3_of g hK ht hW⟩, g.2.2.1.F ht⟩) g.2.2.1.2.2 dX0_openCall_178
          · have fc_155 := eq_f c_155
            have b_168 : bd 3 2 x1_ := eqX fc_155 bx1_ kb_2 (by decide)
            exact bd_no b_168 (by decide)
      · have fc_88 := eq_f c_88
        have b_169 : bd 0 0 x4_ := eqX fc_88 (bdT x4_) kb_0 (by decide)
        refine lv_iload hx hb dX0_openCall_81 (lv_at hl 0 rfl) ?_
        refine lv_if_ne (tgt := 97) hx hb dX0_openCall_83 (by decide) (fun c_ => ?_) (fun c_ => absurd c_ (by decide))
        refine lv_iload hx hb dX0_openCall_97 (lv_at hl 0 rfl) ?_
        refine lv_if_ne (tgt := 120) hx hb dX0_openCall_99 (by decide) (fun c_ => ?_) (fun c_ => absurd c_ (by decide))
        refine lv_aload_n hx hb dX0_openCall_120 rfl (lv_at hl 3 rfl) ?_
        refine g_getk (C := RX0) (T := TX0) (N := 14) hx hb hts (mc_ inX0) hown hK g rfl 0 (by decide) rfl (hts _ (List.mem_cons_of_mem _ t_373)) (fun _ h9 => h9) 3 rfl dX0_openCall_121 ?_
        have go_ := g
        refine g_callv (va_runV (As := []) (rest := []) ⟨hx, hb, hml, hown, hts⟩ (r_X8_next l dC dI L kd tys fr_33 H.size g.2.2.2.1 q0_ mq0_ kq0_) (cwV 0 hts (gV_ t_1225 t_1103 t_1104 t_184 t_1105) rfl rfl rfl (by decide +kernel) ⟨(Nat.le_of_ble_eq_true rfl), (Nat.le_of_ble_eq_true rfl)⟩) (pre3V g hK mq0_ kq0_ (by decide) (q := (RX8, TX8, 10)) rfl) rfl rfl hl.1 rfl (lv_room (Nat.le_of_ble_eq_true rfl)) dX0_openCall_124 ⟨(Nat.le_of_ble_eq_true rfl), (Nat.le_of_ble_eq_true rfl)⟩) g hK (by decide) (by decide) (fx' := [(7, 18, q1_, .int y_11), (0, 11, a0_, .int x_7), (0, 0, a0_, .ref q0_), (0, 2, a0_, .ref q1_), (8, 8, q0_, .int y0_)]) rfl (fun fr_170 H locs hp hMr_170 g => ?_)
        obtain ⟨x_171, h_172, hF_173⟩ := hp
        have hG_174 := eJx.frame hMr_170 go_.2.2.2.1 ma0_ ka0_ (by decide) (by decide) hG_34
        have hG_175 := cOK.frame hMr_170 go_.2.2.2.1 mq1_ kq1_ (by decide) (by decide) hG_35
        have hG_176 := dOK.frame hMr_170 go_.2.2.2.1 mq1_ kq1_ (by decide) (by decide) hG_36
        have hG_177 := jS.frame hMr_170 go_.2.2.2.1 mq1_ kq1_ (by decide) (by decide) hG_37
        have hG_178 := eOK.frame hMr_170 go_.2.2.2.1 ma0_ ka0_ (by decide) (by decide) hG_38
        have g := g.more hF_173
        refine lv_iload hx hb dX0_openCall_127 (lv_at hl 7 rfl) ?_
        refine lv_if_le (tgt := 143) hx hb dX0_openCall_129 (by decide) (fun c_179 => ?_) (fun c_179 => ?_)
        · have fc_179 := le_f c_179
          refine lv_aload_n hx hb dX0_openCall_143 rfl (lv_at hl 3 rfl) ?_
          refine g_getk (C := RX0) (T := TX0) (N := 14) hx hb hts (mc_ inX0) hown hK g rfl 2 (by decide) rfl (hts _ (List.mem_cons_of_mem _ t_375)) (fun _ h9 => h9) 4 rfl dX0_openCall_144 ?_
          refine lv_bipush (v := 13) hx hb dX0_openCall_147 (by decide) ?_
          refine lv_iconst (v := 0) hx hb dX0_openCall_149 (by decide) ?_
          obtain ⟨a_180, ma_180, ka_180, g⟩ := g_factr g mq1_ kq1_ (by decide) 4 rfl
          obtain ⟨a_181, ma_181, ka_181, g⟩ := g_factr g mq1_ kq1_ (by decide) 5 rfl
          obtain ⟨x_182, bx_182, g⟩ := g_facti g mq1_ kq1_ (by decide) 6 rfl
          have kb_13 : bd 13 13 (13 : Int32) := ⟨by decide, by decide⟩
          have go_ := g
          refine g_callv (va_runV (As := [.int 13, .int 0]) (rest := []) ⟨hx, hb, hml, hown, hts⟩ (r_X7_emitN l dC dI L kd tys fr_170 H.size g.2.2.2.1 q1_ mq1_ kq1_ a_180 ma_180 ka_180 a_181 ma_181 ka_181 x_182 bx_182 T_ hG_176 (13 : Int32) (0 : Int32) (fun j9 => jOK fr_170 q1_ j9) hG_175 (fun _ h9 => h9) ⟨(fun h9 => ⟨(by have h9_0 := b_87; unfold bd at h9_0; have h9_1 := bx1_; unfold bd at h9_1; have h9_2 := bx3_; unfold bd at h9_2; have h9_3 := b_169; unfold bd at h9_3; have h9_4 := h_172; unfold bd at h9_4; have h9_5 := bx_182; unfold bd at h9_5; have h9_6 := h_20; unfold bd at h9_6; have h9_7 := b_9; unfold bd at h9_7; have h9_8 := by0_; unfold bd at h9_8; have h8_0 := kb_0; unfold bd at h8_0; have h8_1 := kb_1; unfold bd at h8_1; have h8_2 := kb_13; unfold bd at h8_2; have h8_3 := kb_40; unfold bd at h8_3; have h8_4 := kb_41; unfold bd at h8_4; omega), (by have h9_0 := b_87; unfold bd at h9_0; have h9_1 := bx1_; unfold bd at h9_1; have h9_2 := bx3_; unfold bd at h9_2; have h9_3 := b_169; unfold bd at h9_3; have h9_4 := h_172; unfold bd at h9_4; have h9_5 := bx_182; unfold bd at h9_5; have h9_6 := h_20; unfold bd at h9_6; have h9_7 := b_9; unfold bd at h9_7; have h9_8 := by0_; unfold bd at h9_8; have h8_0 := kb_0; unfold bd at h8_0; have h8_1 := kb_1; unfold bd at h8_1; have h8_2 := kb_13; unfold bd at h8_2; have h8_3 := kb_40; unfold bd at h8_3; have h8_4 := kb_41; unfold bd at h8_4; omega)⟩), (fun h9 => ⟨(by have h9_0 := b_87; unfold bd at h9_0; have h9_1 := bx1_; unfold bd at h9_1; have h9_2 := bx3_; unfold bd at h9_2; have h9_3 := b_169; unfold bd at h9_3; have h9_4 := h_172; unfold bd at h9_4; have h9_5 := bx_182; unfold bd at h9_5; have h9_6 := h_20; unfold bd at h9_6; have h9_7 := b_9; unfold bd at h9_7; have h9_8 := by0_; unfold bd at h9_8; have h8_0 := kb_0; unfold bd at h8_0; have h8_1 := kb_1; unfold bd at h8_1; have h8_2 := kb_13; unfold bd at h8_2; have h8_3 := kb_40; unfold bd at h8_3; have h8_4 := kb_41; unfold bd at h8_4; omega), (by have h9_0 := b_87; unfold bd at h9_0; have h9_1 := bx1_; unfold bd at h9_1; have h9_2 := bx3_; unfold bd at h9_2; have h9_3 := b_169; unfold bd at h9_3; have h9_4 := h_172; unfold bd at h9_4; have h9_5 := bx_182; unfold bd at h9_5; have h9_6 := h_20; unfold bd at h9_6; have h9_7 := b_9; unfold bd at h9_7; have h9_8 := by0_; unfold bd at h9_8; have h8_0 := kb_0; unfold bd at h8_0; have h8_1 := kb_1; unfold bd at h8_1; have h8_2 := kb_13; unfold bd at h8_2; have h8_3 := kb_40; unfold bd at h8_3; have h8_4 := kb_41; unfold bd at h8_4; omega)⟩), (fun h9 => ⟨(by have h9_0 := b_87; unfold bd at h9_0; have h9_1 := bx1_; unfold bd at h9_1; have h9_2 := bx3_; unfold bd at h9_2; have h9_3 := b_169; unfold bd at h9_3; have h9_4 := h_172; unfold bd at h9_4; have h9_5 := bx_182; unfold bd at h9_5; have h9_6 := h_20; unfold bd at h9_6; have h9_7 := b_9; unfold bd at h9_7; have h9_8 := by0_; unfold bd at h9_8; have h8_0 := kb_0; unfold bd at h8_0; have h8_1 := kb_1; unfold bd at h8_1; have h8_2 := kb_13; unfold bd at h8_2; have h8_3 := kb_40; unfold bd at h8_3; have h8_4 := kb_41; unfold bd at h8_4; omega), (by have h9_0 := b_87; unfold bd at h9_0; have h9_1 := bx1_; unfold bd at h9_1; have h9_2 := bx3_; unfold bd at h9_2; have h9_3 := b_169; unfold bd at h9_3; have h9_4 := h_172; unfold bd at h9_4; have h9_5 := bx_182; unfold bd at h9_5; have h9_6 := h_20; unfold bd at h9_6; have h9_7 := b_9; unfold bd at h9_7; have h9_8 := by0_; unfold bd at h9_8; have h8_0 := kb_0; unfold bd at h8_0; have h8_1 := kb_1; unfold bd at h8_1; have h8_2 := kb_13; unfold bd at h8_2; have h8_3 := kb_40; unfold bd at h8_3; have h8_4 := kb_41; unfold bd at h8_4; omega)⟩)⟩ (g.fcts [2, 1, 0] rfl)) (cwV 2 hts (gV_ t_1203 t_1204 t_1205 t_191 t_1206) rfl rfl rfl (by decide +kernel) ⟨(Nat.le_of_ble_eq_true rfl), (Nat.le_of_ble_eq_true rfl)⟩) (pre3V g hK mq1_ kq1_ (by decide) (q := (RX7, TX7, 19)) rfl) rfl rfl hl.1 rfl (lv_room (Nat.le_of_ble_eq_true rfl)) dX0_openCall_150 ⟨(Nat.le_of_ble_eq_true rfl), (Nat.le_of_ble_eq_true rfl)⟩) g hK (by decide) (by decide) (fx' := [(7, 5, q1_, .ref a_181), (7, 4, q1_, .ref a_180), (8, 6, q0_, .int x_171), (7, 18, q1_, .int y_11), (0, 11, a0_, .int x_7), (0, 0, a0_, .ref q0_), (0, 2, a0_, .ref q1_), (8, 8, q0_, .int y0_)]) rfl (fun fr_183 H locs hp hMr_183 g => ?_)
          obtain ⟨hG_184, hG_185, hG_186, hx_187, x_188, h_189, hF_190⟩ := hp
          have hG_191 := eOK.frame hMr_183 go_.2.2.2.1 ma0_ ka0_ (by decide) (by decide) hG_178
          have g := g.more hF_190
          have hs_192 := jS.mv hG_177 hG_186
          have hG_193 := eJx.mv hG_174 hMr_183 go_.2.2.2.1 ma0_ ka0_ (by decide) (by decide) (((hMr_183 a0_ ma0_).1 2 (by rw [ka0_]; decide) (by rw [ka0_]; decide)).symm.trans (fx_at g (i := 7) rfl).2.2.2) hG_186
          refine lv_aload_n hx hb dX0_openCall_153 rfl (lv_at hl 3 rfl) ?_
          refine g_getk (C := RX0) (T := TX0) (N := 14) hx hb hts (mc_ inX0) hown hK g rfl 2 (by decide) rfl (hts _ (List.mem_cons_of_mem _ t_375)) (fun _ h9 => h9) 7 rfl dX0_openCall_154 ?_
          refine lv_iload_n hx hb dX0_openCall_157 rfl (lv_at hl 4 rfl) ?_
          refine lv_iconst (v := 2) hx hb dX0_openCall_158 (by decide) ?_
          have kb_2 : bd 2 2 (2 : Int32) := ⟨by decide, by decide⟩
          refine lv_icmp_ne (tgt := 167) hx hb dX0_openCall_159 (by decide) (fun c_194 => ?_) (fun c_194 => ?_)
          · have fc_194 := neq_f c_194
            refine lv_bipush (v := 18) hx hb dX0_openCall_167 (by decide) ?_
            refine lv_iload_n hx hb dX0_openCall_169 rfl (lv_at hl 6 rfl) ?_
            have kb_18 : bd 18 18 (18 : Int32) := ⟨by decide, by decide⟩
            have go_ := g
            refine g_callv (va_runV (As := [.int 18, .int x3_]) (rest := []) ⟨hx, hb, hml, hown, hts⟩ (r_X7_emitN l dC dI L kd tys fr_183 H.size g.2.2.2.1 q1_ mq1_ kq1_ a_180 ma_180 ka_180 a_181 ma_181 ka_181 x_188 h_189 T_ hG_184 (18 : Int32) x3_ (fun j9 => jOK fr_183 q1_ j9) hG_185 (fun _ h9 => h9) ⟨(fun h9 => ⟨(by have h9_0 := b_87; unfold bd at h9_0; have h9_1 := bx1_; unfold bd at h9_1; have h9_2 := bx3_; unfold bd at h9_2; have h9_3 := b_169; unfold bd at h9_3; have h9_4 := h_172; unfold bd at h9_4; have h9_5 := bx_182; unfold bd at h9_5; have h9_6 := h_189; unfold bd at h9_6; have h9_7 := h_20; unfold bd at h9_7; have h9_8 := b_9; unfold bd at h9_8; have h9_9 := by0_; unfold bd at h9_9; have h8_0 := kb_0; unfold bd at h8_0; have h8_1 := kb_1; unfold bd at h8_1; have h8_2 := kb_13; unfold bd at h8_2; have h8_3 := kb_18; unfold bd at h8_3; have h8_4 := kb_2; unfold bd at h8_4; have h8_5 := kb_40; unfold bd at h8_5; have h8_6 := kb_41; unfold bd at h8_6; omega), (by have h9_0 := b_87; unfold bd at h9_0; have h9_1 := bx1_; unfold bd at h9_1; have h9_2 := bx3_; unfold bd at h9_2; have h9_3 := b_169; unfold bd at h9_3; have h9_4 := h_172; unfold bd at h9_4; have h9_5 := bx_182; unfold bd at h9_5; have h9_6 := h_189; unfold bd at h9_6; have h9_7 := h_20; unfold bd at h9_7; have h9_8 := b_9; unfold bd at h9_8; have h9_9 := by0_; unfold bd at h9_9; have h8_0 := kb_0; unfold bd at h8_0; have h8_1 := kb_1; unfold bd at h8_1; have h8_2 := kb_13; unfold bd at h8_2; have h8_3 := kb_18; unfold bd at h8_3; have h8_4 := kb_2; unfold bd at h8_4; have h8_5 := kb_40; unfold bd at h8_5; have h8_6 := kb_41; unfold bd at h8_6; omega)⟩), (fun h9 => ⟨(by have h9_0 := b_87; unfold bd at h9_0; have h9_1 := bx1_; unfold bd at h9_1; have h9_2 := bx3_; unfold bd at h9_2; have h9_3 := b_169; unfold bd at h9_3; have h9_4 := h_172; unfold bd at h9_4; have h9_5 := bx_182; unfold bd at h9_5; have h9_6 := h_189; unfold bd at h9_6; have h9_7 := h_20; unfold bd at h9_7; have h9_8 := b_9; unfold bd at h9_8; have h9_9 := by0_; unfold bd at h9_9; have h8_0 := kb_0; unfold bd at h8_0; have h8_1 := kb_1; unfold bd at h8_1; have h8_2 := kb_13; unfold bd at h8_2; have h8_3 := kb_18; unfold bd at h8_3; have h8_4 := kb_2; unfold bd at h8_4; have h8_5 := kb_40; unfold bd at h8_5; have h8_6 := kb_41; unfold bd at h8_6; omega), (by have h9_0 := b_87; unfold bd at h9_0; have h9_1 := bx1_; unfold bd at h9_1; have h9_2 := bx3_; unfold bd at h9_2; have h9_3 := b_169; unfold bd at h9_3; have h9_4 := h_172; unfold bd at h9_4; have h9_5 := bx_182; unfold bd at h9_5; have h9_6 := h_189; unfold bd at h9_6; have h9_7 := h_20; unfold bd at h9_7; have h9_8 := b_9; unfold bd at h9_8; have h9_9 := by0_; unfold bd at h9_9; have h8_0 := kb_0; unfold bd at h8_0; have h8_1 := kb_1; unfold bd at h8_1; have h8_2 := kb_13; unfold bd at h8_2; have h8_3 := kb_18; unfold bd at h8_3; have h8_4 := kb_2; unfold bd at h8_4; have h8_5 := kb_40; unfold bd at h8_5; have h8_6 := kb_41; unfold bd at h8_6; omega)⟩), (fun h9 => ⟨(by have h9_0 := b_87; unfold bd at h9_0; have h9_1 := bx1_; unfold bd at h9_1; have h9_2 := bx3_; unfold bd at h9_2; have h9_3 := b_169; unfold bd at h9_3; have h9_4 := h_172; unfold bd at h9_4; have h9_5 := bx_182; unfold bd at h9_5; have h9_6 := h_189; unfold bd at h9_6; have h9_7 := h_20; unfold bd at h9_7; have h9_8 := b_9; unfold bd at h9_8; have h9_9 := by0_; unfold bd at h9_9; have h8_0 := kb_0; unfold bd at h8_0; have h8_1 := kb_1; unfold bd at h8_1; have h8_2 := kb_13; unfold bd at h8_2; have h8_3 := kb_18; unfold bd at h8_3; have h8_4 := kb_2; unfold bd at h8_4; have h8_5 := kb_40; unfold bd at h8_5; have h8_6 := kb_41; unfold bd at h8_6; omega), (by have h9_0 := b_87; unfold bd at h9_0; have h9_1 := bx1_; unfold bd at h9_1; have h9_2 := bx3_; unfold bd at h9_2; have h9_3 := b_169; unfold bd at h9_3; have h9_4 := h_172; unfold bd at h9_4; have h9_5 := bx_182; unfold bd at h9_5; have h9_6 := h_189; unfold bd at h9_6; have h9_7 := h_20; unfold bd at h9_7; have h9_8 := b_9; unfold bd at h9_8; have h9_9 := by0_; unfold bd at h9_9; have h8_0 := kb_0; unfold bd at h8_0; have h8_1 := kb_1; unfold bd at h8_1; have h8_2 := kb_13; unfold bd at h8_2; have h8_3 := kb_18; unfold bd at h8_3; have h8_4 := kb_2; unfold bd at h8_4; have h8_5 := kb_40; unfold bd at h8_5; have h8_6 := kb_41; unfold bd at h8_6; omega)⟩)⟩ (g.fcts [2, 1, 0] rfl)) (cwV 2 hts (gV_ t_1203 t_1204 t_1205 t_191 t_1206) rfl rfl rfl (by decide +kernel) ⟨(Nat.le_of_ble_eq_true rfl), (Nat.le_of_ble_eq_true rfl)⟩) (pre3V g hK mq1_ kq1_ (by decide) (q := (RX7, TX7, 19)) rfl) rfl rfl hl.1 rfl (lv_room (Nat.le_of_ble_eq_true rfl)) dX0_openCall_170 ⟨(Nat.le_of_ble_eq_true rfl), (Nat.le_of_ble_eq_true rfl)⟩) g hK (by decide) (by decide) (fx' := [(7, 5, q1_, .ref a_181), (7, 4, q1_, .ref a_180), (8, 6, q0_, .int x_171), (7, 18, q1_, .int y_11), (0, 11, a0_, .int x_7), (0, 0, a0_, .ref q0_), (0, 2, a0_, .ref q1_), (8, 8, q0_, .int y0_)]) rfl (fun fr_195 H locs hp hMr_195 g => ?_)
            obtain ⟨hG_196, hG_197, hG_198, hx_199, x_200, h_201, hF_202⟩ := hp
            have hG_203 := eOK.frame hMr_195 go_.2.2.2.1 ma0_ ka0_ (by decide) (by decide) hG_191
            have g := g.more hF_202
            have hs_204 := jS.mv hs_192 hG_198
            have hG_205 := eJx.mv hG_193 hMr_195 go_.2.2.2.1 ma0_ ka0_ (by decide) (by decide) (((hMr_195 a0_ ma0_).1 2 (by rw [ka0_]; decide) (by rw [ka0_]; decide)).symm.trans (fx_at g (i := 7) rfl).2.2.2) hG_198
            refine lv_aload_n hx hb dX0_openCall_173 rfl (lv_at hl 3 rfl) ?_
            refine lv_iconst (v := 1) hx hb dX0_openCall_174 (by decide) ?_
            have go_ := g
            refine g_callv (va_runV (As := [.int 1]) (rest := []) ⟨hx, hb, hml, hown, hts⟩ (r_X0_addWhole l dC dI L kd tys fr_195 H.size g.2.2.2.1 a0_ ma0_ ka0_ 1) (cwV 1 hts (gV_ t_1211 t_1213 t_17 t_190 t_1214) rfl rfl rfl (by decide +kernel) ⟨(Nat.le_of_ble_eq_true rfl), (Nat.le_of_ble_eq_true rfl)⟩) (pre3V g hK ma0_ ka0_ (by decide) (q := (RX0, TX0, 14)) rfl) rfl rfl hl.1 rfl (lv_room (Nat.le_of_ble_eq_true rfl)) dX0_openCall_175 ⟨(Nat.le_of_ble_eq_true rfl), (Nat.le_of_ble_eq_true rfl)⟩) g hK (by decide) (by decide) (fx' := [(7, 6, q1_, .int x_200), (7, 5, q1_, .ref a_181), (7, 4, q1_, .ref a_180), (8, 6, q0_, .int x_171), (7, 18, q1_, .int y_11), (0, 11, a0_, .int x_7), (0, 0, a0_, .ref q0_), (0, 2, a0_, .ref q1_), (8, 8, q0_, .int y0_)]) rfl (fun fr_206 H locs hp hMr_206 g => ?_)
            obtain ⟨x_207, h_208, hF_209⟩ := hp
            have hG_210 := cOK.frame hMr_206 go_.2.2.2.1 mq1_ kq1_ (by decide) (by decide) hG_197
            have hG_211 := dOK.frame hMr_206 go_.2.2.2.1 mq1_ kq1_ (by decide) (by decide) hG_196
            have hG_212 := jS.frame hMr_206 go_.2.2.2.1 mq1_ kq1_ (by decide) (by decide) hs_204
            have hG_213 := eOK.frame hMr_206 go_.2.2.2.1 ma0_ ka0_ (by decide) (by decide) hG_203
            have hG_214 := eJx.frame hMr_206 go_.2.2.2.1 ma0_ ka0_ (by decide) (by decide) hG_205
            have g := g.more hF_209
            subst hQ
            exact W.vret hx hb hr (fun t ht hW => ⟨⟨_, rfl, Or.inl ⟨hG_214, hG_210, hG_211, hG_212, hG_213, x_7, (bd_sub b_9 (by decide)), x_171, h_172, (g.fcts [7, 5, 10] rfl)⟩, q3_of g hK ht hW⟩, g.2.2.1.F ht⟩) g.2.2.1.2.2 dX0_openCall_178
          · have fc_194 := eq_f c_194
            have b_215 : bd 3 2 x1_ := eqX fc_194 bx1_ kb_2 (by decide)
            exact bd_no b_215 (by decide)
        · have fc_179 := nle_f c_179
          have b_216 : bd 0 (-1) (0 : Int32) := ltL fc_179 kb_0 b_169 (by decide)
          exact bd_no (eqX rfl b_216 kb_0 (lo := 0) (hi := (-1)) (by decide)) (by decide)
  · have fc_8 := nlt_f c_8
    have b_217 : bd 40 2147483647 x_7 := leR fc_8 kb_40 (bdT x_7) (by decide)
    refine lv_aload_n hx hb dX0_openCall_18 rfl (lv_at hl 1 rfl) ?_
    refine g_getk (C := RX0) (T := TX0) (N := 14) hx hb hts (mc_ inX0) hown hK g rfl 0 (by decide) rfl (hts _ (List.mem_cons_of_mem _ t_373)) (fun _ h9 => h9) 1 rfl dX0_openCall_19 ?_
    refine lv_iconst (v := 4) hx hb dX0_openCall_22 (by decide) ?_
    refine lv_iload hx hb dX0_openCall_23 (lv_at hl 0 rfl) ?_
    have kb_4 : bd 4 4 (4 : Int32) := ⟨by decide, by decide⟩
    have go_ := g
    refine g_callv (va_runV (As := [.int 4, .int r_1]) (rest := []) ⟨hx, hb, hml, hown, hts⟩ (r_X8_fail l dC dI L kd tys fr_1 H.size g.2.2.2.1 q0_ mq0_ kq0_ 4 (bd_sub kb_4 (by decide)) r_1 y0_ by0_ (g.fcts [3] rfl)) (cwV 2 hts (gV_ t_1215 t_1107 t_1108 t_184 t_1109) rfl rfl rfl (by decide +kernel) ⟨(Nat.le_of_ble_eq_true rfl), (Nat.le_of_ble_eq_true rfl)⟩) (pre3V g hK mq0_ kq0_ (by decide) (q := (RX8, TX8, 10)) rfl) rfl rfl hl.1 rfl (lv_room (Nat.le_of_ble_eq_true rfl)) dX0_openCall_25 ⟨(Nat.le_of_ble_eq_true rfl), (Nat.le_of_ble_eq_true rfl)⟩) g hK (by decide) (by decide) (fx' := [(0, 11, a0_, .int x_7), (0, 0, a0_, .ref q0_), (0, 2, a0_, .ref q1_)]) rfl (fun fr_218 H locs hp hMr_218 g => ?_)
    obtain ⟨x_219, h_220, hF_221⟩ := hp
    have hG_222 := eJx.frame hMr_218 go_.2.2.2.1 ma0_ ka0_ (by decide) (by decide) hG_2
    have hG_223 := cOK.frame hMr_218 go_.2.2.2.1 mq1_ kq1_ (by decide) (by decide) hG_3
    have hG_224 := dOK.frame hMr_218 go_.2.2.2.1 mq1_ kq1_ (by decide) (by decide) hG_4
    have hG_225 := jS.frame hMr_218 go_.2.2.2.1 mq1_ kq1_ (by decide) (by decide) hG_5
    have hG_226 := eOK.frame hMr_218 go_.2.2.2.1 ma0_ ka0_ (by decide) (by decide) hG_6
    have g := g.more hF_221
    refine lv_aload_n hx hb dX0_openCall_28 rfl (lv_at hl 1 rfl) ?_
    refine g_getk (C := RX0) (T := TX0) (N := 14) hx hb hts (mc_ inX0) hown hK g rfl 2 (by decide) rfl (hts _ (List.mem_cons_of_mem _ t_375)) (fun _ h9 => h9) 4 rfl dX0_openCall_29 ?_
    refine lv_dup hx hb dX0_openCall_32 rfl ?_
    refine g_geti (C := RX7) (T := TX7) (N := 19) hx hb hts (mc_ inX7) hown hK g mq1_ kq1_ (by decide) rfl 18 (by decide) rfl (hts _ (List.mem_cons_of_mem _ t_681)) (fun _ h9 => h9) rfl dX0_openCall_33 (fun x_227 bx_227 g => ?_)
    refine lv_iconst (v := 1) hx hb dX0_openCall_36 (by decide) ?_
    have kb_1 : bd 1 1 (1 : Int32) := ⟨by decide, by decide⟩
    refine lv_iadd hx hb dX0_openCall_37 ?_
    refine lv_topi (fun y_228 ey_228 => ?_)
    have go_ := g
    refine g_put (C := RX7) (T := TX7) (N := 19) hx hb hts (mc_ inX7) tyX7 tyX7_ok nmX7 hown hK g mq1_ kq1_ (by decide) rfl 18 (by decide) (hts _ (List.mem_cons_of_mem _ t_681)) (fun _ h9 => h9) rfl rfl (okV_i (bdT y_228)) rfl rfl (by decide) (Or.inr (Or.inl (by decide))) (fx' := [(8, 6, q0_, .int 1201), (8, 8, q0_, .int x_219), (0, 11, a0_, .int x_7), (0, 0, a0_, .ref q0_), (0, 2, a0_, .ref q1_)]) rfl dX0_openCall_38 (fun f H locs hM_229 g => ?_)
    have hG_230 := eJx.frame hM_229 go_.2.2.2.1 ma0_ ka0_ (by decide) (by decide) hG_222
    have hG_231 := cOK.frame hM_229 go_.2.2.2.1 mq1_ kq1_ (by decide) (by decide) hG_223
    have hG_232 := dOK.frame hM_229 go_.2.2.2.1 mq1_ kq1_ (by decide) (by decide) hG_224
    have hG_233 := jS.frame hM_229 go_.2.2.2.1 mq1_ kq1_ (by decide) (by decide) hG_225
    have hG_234 := eOK.frame hM_229 go_.2.2.2.1 ma0_ ka0_ (by decide) (by decide) hG_226
    refine lv_aload_n hx hb dX0_openCall_41 rfl (lv_at hl 1 rfl) ?_
    refine g_getk (C := RX0) (T := TX0) (N := 14) hx hb hts (mc_ inX0) hown hK g rfl 0 (by decide) rfl (hts _ (List.mem_cons_of_mem _ t_373)) (fun _ h9 => h9) 4 rfl dX0_openCall_42 ?_
    have kb_1201 : bd 1201 1201 (1201 : Int32) := ⟨by decide, by decide⟩
    have go_ := g
    refine g_callv (va_runV (As := []) (rest := []) ⟨hx, hb, hml, hown, hts⟩ (r_X8_next_2 l dC dI L kd tys f H.size g.2.2.2.1 q0_ mq0_ kq0_ 1201 kb_1201 (g.fcts [1] rfl)) (cwV 0 hts (gV_ t_1225 t_1103 t_1104 t_184 t_1105) rfl rfl rfl (by decide +kernel) ⟨(Nat.le_of_ble_eq_true rfl), (Nat.le_of_ble_eq_true rfl)⟩) (pre3V g hK mq0_ kq0_ (by decide) (q := (RX8, TX8, 10)) rfl) rfl rfl hl.1 rfl (lv_room (Nat.le_of_ble_eq_true rfl)) dX0_openCall_45 ⟨(Nat.le_of_ble_eq_true rfl), (Nat.le_of_ble_eq_true rfl)⟩) g hK (by decide) (by decide) (fx' := [(7, 18, q1_, .int y_228), (8, 6, q0_, .int 1201), (8, 8, q0_, .int x_219), (0, 11, a0_, .int x_7), (0, 0, a0_, .ref q0_), (0, 2, a0_, .ref q1_)]) rfl (fun fr_235 H locs hp hMr_235 g => ?_)
    have hG_236 := eJx.frame hMr_235 go_.2.2.2.1 ma0_ ka0_ (by decide) (by decide) hG_230
    have hG_237 := cOK.frame hMr_235 go_.2.2.2.1 mq1_ kq1_ (by decide) (by decide) hG_231
    have hG_238 := dOK.frame hMr_235 go_.2.2.2.1 mq1_ kq1_ (by decide) (by decide) hG_232
    have hG_239 := jS.frame hMr_235 go_.2.2.2.1 mq1_ kq1_ (by decide) (by decide) hG_233
    have hG_240 := eOK.frame hMr_235 go_.2.2.2.1 ma0_ ka0_ (by decide) (by decide) hG_234
    refine lv_aload_n hx hb dX0_openCall_48 rfl (lv_at hl 1 rfl) ?_
    refine g_getk (C := RX0) (T := TX0) (N := 14) hx hb hts (mc_ inX0) hown hK g rfl 0 (by decide) rfl (hts _ (List.mem_cons_of_mem _ t_373)) (fun _ h9 => h9) 4 rfl dX0_openCall_49 ?_
    have go_ := g
    refine g_calli (va_runV (As := []) (rest := []) ⟨hx, hb, hml, hown, hts⟩ (r_X8_place l dC dI L kd tys fr_235 H.size g.2.2.2.1 q0_ mq0_ kq0_) (cwV 0 hts (gV_ t_1220 t_1111 t_1112 t_184 t_1113) rfl rfl rfl (by decide +kernel) ⟨(Nat.le_of_ble_eq_true rfl), (Nat.le_of_ble_eq_true rfl)⟩) (pre3V g hK mq0_ kq0_ (by decide) (q := (RX8, TX8, 10)) rfl) rfl rfl hl.1 rfl (lv_room (Nat.le_of_ble_eq_true rfl)) dX0_openCall_52 ⟨(Nat.le_of_ble_eq_true rfl), (Nat.le_of_ble_eq_true rfl)⟩) g hK (by decide) (by decide) (fx' := [(7, 18, q1_, .int y_228), (8, 6, q0_, .int 1201), (8, 8, q0_, .int x_219), (0, 11, a0_, .int x_7), (0, 0, a0_, .ref q0_), (0, 2, a0_, .ref q1_)]) rfl (fun r_241 fr_241 H locs hp hMr_241 g => ?_)
    have hG_242 := eJx.frame hMr_241 go_.2.2.2.1 ma0_ ka0_ (by decide) (by decide) hG_236
    have hG_243 := cOK.frame hMr_241 go_.2.2.2.1 mq1_ kq1_ (by decide) (by decide) hG_237
    have hG_244 := dOK.frame hMr_241 go_.2.2.2.1 mq1_ kq1_ (by decide) (by decide) hG_238
    have hG_245 := jS.frame hMr_241 go_.2.2.2.1 mq1_ kq1_ (by decide) (by decide) hG_239
    have hG_246 := eOK.frame hMr_241 go_.2.2.2.1 ma0_ ka0_ (by decide) (by decide) hG_240
    refine lv_istore (lv' := [(6, .int r_241), (5, .int r_1), (0, .ref a0_), (1, .int x1_), (2, .int x2_), (3, .int x3_), (4, .int x4_)]) hx hb dX0_openCall_55 hl (by decide) rfl (fun ls hl => ?_)
    refine lv_aload_n hx hb dX0_openCall_57 rfl (lv_at hl 2 rfl) ?_
    refine g_getk (C := RX0) (T := TX0) (N := 14) hx hb hts (mc_ inX0) hown hK g rfl 0 (by decide) rfl (hts _ (List.mem_cons_of_mem _ t_373)) (fun _ h9 => h9) 4 rfl dX0_openCall_58 ?_
    have go_ := g
    refine g_calli (va_runV (As := []) (rest := []) ⟨hx, hb, hml, hown, hts⟩ (r_X8_kind_2 l dC dI L kd tys fr_241 H.size g.2.2.2.1 q0_ mq0_ kq0_ 1201 kb_1201 (g.fcts [1] rfl)) (cwV 0 hts (gV_ t_1186 t_1119 t_1120 t_184 t_1121) rfl rfl rfl (by decide +kernel) ⟨(Nat.le_of_ble_eq_true rfl), (Nat.le_of_ble_eq_true rfl)⟩) (pre3V g hK mq0_ kq0_ (by decide) (q := (RX8, TX8, 10)) rfl) rfl rfl hl.1 rfl (lv_room (Nat.le_of_ble_eq_true rfl)) dX0_openCall_61 ⟨(Nat.le_of_ble_eq_true rfl), (Nat.le_of_ble_eq_true rfl)⟩) g hK (by decide) (by decide) (fx' := [(7, 18, q1_, .int y_228), (8, 6, q0_, .int 1201), (8, 8, q0_, .int x_219), (0, 11, a0_, .int x_7), (0, 0, a0_, .ref q0_), (0, 2, a0_, .ref q1_)]) rfl (fun r_247 fr_247 H locs hp hMr_247 g => ?_)
    obtain ⟨h_248, -⟩ := hp
    have hG_249 := eJx.frame hMr_247 go_.2.2.2.1 ma0_ ka0_ (by decide) (by decide) hG_242
    have hG_250 := cOK.frame hMr_247 go_.2.2.2.1 mq1_ kq1_ (by decide) (by decide) hG_243
    have hG_251 := dOK.frame hMr_247 go_.2.2.2.1 mq1_ kq1_ (by decide) (by decide) hG_244
    have hG_252 := jS.frame hMr_247 go_.2.2.2.1 mq1_ kq1_ (by decide) (by decide) hG_245
    have hG_253 := eOK.frame hMr_247 go_.2.2.2.1 ma0_ ka0_ (by decide) (by decide) hG_246
    obtain rfl : r_247 = 0 := h_248
    refine lv_bipush (v := 41) hx hb dX0_openCall_64 (by decide) ?_
    refine lv_icmp_ne (tgt := 73) hx hb dX0_openCall_66 (by decide) (fun c_ => ?_) (fun c_ => absurd c_ (by decide))
    refine lv_iconst (v := 0) hx hb dX0_openCall_73 (by decide) ?_
    refine lv_istore (lv' := [(7, .int 0), (6, .int r_241), (5, .int r_1), (0, .ref a0_), (1, .int x1_), (2, .int x2_), (3, .int x3_), (4, .int x4_)]) hx hb dX0_openCall_74 hl (by decide) rfl (fun ls hl => ?_)
    refine lv_iload hx hb dX0_openCall_76 (lv_at hl 7 rfl) ?_
    have kb_0 : bd 0 0 (0 : Int32) := ⟨by decide, by decide⟩
    refine lv_if_ne (tgt := 97) hx hb dX0_openCall_78 (by decide) (fun c_254 => ?_) (fun c_254 => ?_)
    · have fc_254 := neq_f c_254
      refine lv_iload hx hb dX0_openCall_97 (lv_at hl 0 rfl) ?_
      refine lv_if_ne (tgt := 120) hx hb dX0_openCall_99 (by decide) (fun c_ => absurd c_ (by decide)) (fun c_ => ?_)
      refine lv_aload_n hx hb dX0_openCall_102 rfl (lv_at hl 3 rfl) ?_
      refine lv_iload_n hx hb dX0_openCall_103 rfl (lv_at hl 4 rfl) ?_
      refine lv_iload_n hx hb dX0_openCall_104 rfl (lv_at hl 5 rfl) ?_
      refine lv_iload_n hx hb dX0_openCall_105 rfl (lv_at hl 6 rfl) ?_
      obtain ⟨a_255, ma_255, ka_255, g⟩ := g_factr (K := 110) g ma0_ ka0_ (by decide) 3 rfl
      obtain ⟨a_256, ma_256, ka_256, g⟩ := g_factr (K := 112) g ma0_ ka0_ (by decide) 5 rfl
      have go_ := g
      refine g_callv (va_runV (As := [.int x1_, .int x2_, .int x3_]) (rest := []) ⟨hx, hb, hml, hown, hts⟩ (r_X0_push_4 l dC dI L kd tys fr_247 H.size g.2.2.2.1 a0_ ma0_ ka0_ x1_ x2_ x3_ q1_ mq1_ kq1_ a_255 ma_255 ka_255 a_256 ma_256 ka_256 hG_253 (erel_bd bx1_ bx3_ (by decide)) (g.fcts [7, 1, 0] rfl)) (cwV 3 hts (gV_ t_1221 t_1223 t_19 t_190 t_1224) rfl rfl rfl (by decide +kernel) ⟨(Nat.le_of_ble_eq_true rfl), (Nat.le_of_ble_eq_true rfl)⟩) (pre3V g hK ma0_ ka0_ (by decide) (q := (RX0, TX0, 14)) rfl) rfl rfl hl.1 rfl (lv_room (Nat.le_of_ble_eq_true rfl)) dX0_openCall_106 ⟨(Nat.le_of_ble_eq_true rfl), (Nat.le_of_ble_eq_true rfl)⟩) g hK (by decide) (by decide) (fx' := [(0, 5, a0_, .ref a_256), (0, 3, a0_, .ref a_255), (7, 18, q1_, .int y_228), (8, 6, q0_, .int 1201), (8, 8, q0_, .int x_219), (0, 11, a0_, .int x_7), (0, 0, a0_, .ref q0_), (0, 2, a0_, .ref q1_)]) rfl (fun fr_257 H locs hp hMr_257 g => ?_)
      obtain ⟨hG_258, x_259, h_260, hF_261⟩ := hp
      have hG_262 := cOK.frame hMr_257 go_.2.2.2.1 mq1_ kq1_ (by decide) (by decide) hG_250
      have hG_263 := dOK.frame hMr_257 go_.2.2.2.1 mq1_ kq1_ (by decide) (by decide) hG_251
      have hG_264 := jS.frame hMr_257 go_.2.2.2.1 mq1_ kq1_ (by decide) (by decide) hG_252
      have g := g.more hF_261
      refine lv_aload_n hx hb dX0_openCall_109 rfl (lv_at hl 3 rfl) ?_
      refine lv_dup hx hb dX0_openCall_110 rfl ?_
      refine g_getk (C := RX0) (T := TX0) (N := 14) hx hb hts (mc_ inX0) hown hK g rfl 11 (by decide) rfl (hts _ (List.mem_cons_of_mem _ t_384)) (fun _ h9 => h9) 6 rfl dX0_openCall_111 ?_
      refine lv_iconst (v := 1) hx hb dX0_openCall_114 (by decide) ?_
      refine lv_iadd hx hb dX0_openCall_115 ?_
      refine lv_topi (fun y_265 ey_265 => ?_)
      have go_ := g
      refine g_put (C := RX0) (T := TX0) (N := 14) hx hb hts (mc_ inX0) tyX0 tyX0_ok nmX0 hown hK g ma0_ ka0_ (by decide) rfl 11 (by decide) (hts _ (List.mem_cons_of_mem _ t_384)) (fun _ h9 => h9) rfl rfl (okV_i (bdT y_265)) rfl rfl (by decide) (Or.inr (Or.inl (by decide))) (fx' := [(0, 8, a0_, .int x_259), (0, 5, a0_, .ref a_256), (0, 3, a0_, .ref a_255), (7, 18, q1_, .int y_228), (8, 6, q0_, .int 1201), (8, 8, q0_, .int x_219), (0, 0, a0_, .ref q0_), (0, 2, a0_, .ref q1_)]) rfl dX0_openCall_116 (fun f H locs hM_266 g => ?_)
      have hG_267 := cOK.frame hM_266 go_.2.2.2.1 mq1_ kq1_ (by decide) (by decide) hG_262
      have hG_268 := dOK.frame hM_266 go_.2.2.2.1 mq1_ kq1_ (by decide) (by decide) hG_263
      have hG_269 := jS.frame hM_266 go_.2.2.2.1 mq1_ kq1_ (by decide) (by decide) hG_264
      have hG_270 := eOK.frame hM_266 go_.2.2.2.1 ma0_ ka0_ (by decide) (by decide) hG_258
      subst hQ
      exact W.vret hx hb hr (fun t ht hW => ⟨⟨_, rfl, Or.inr (⟨hG_268, hG_270, x_219, h_220, (g.fcts [5, 6] rfl)⟩), q3_of g hK ht hW⟩, g.2.2.1.F ht⟩) g.2.2.1.2.2 dX0_openCall_119
    · have fc_254 := eq_f c_254
      have b_271 : bd 0 0 x4_ := eqX fc_254 (bdT x4_) kb_0 (by decide)
      refine lv_iload hx hb dX0_openCall_81 (lv_at hl 0 rfl) ?_
      refine lv_if_ne (tgt := 97) hx hb dX0_openCall_83 (by decide) (fun c_ => absurd c_ (by decide)) (fun c_ => ?_)
      refine lv_aload_n hx hb dX0_openCall_86 rfl (lv_at hl 3 rfl) ?_
      refine g_getk (C := RX0) (T := TX0) (N := 14) hx hb hts (mc_ inX0) hown hK g rfl 0 (by decide) rfl (hts _ (List.mem_cons_of_mem _ t_373)) (fun _ h9 => h9) 4 rfl dX0_openCall_87 ?_
      refine lv_bipush (v := 6) hx hb dX0_openCall_90 (by decide) ?_
      refine lv_iload hx hb dX0_openCall_92 (lv_at hl 2 rfl) ?_
      have kb_6 : bd 6 6 (6 : Int32) := ⟨by decide, by decide⟩
      have go_ := g
      refine g_callv (va_runV (As := [.int 6, .int r_1]) (rest := []) ⟨hx, hb, hml, hown, hts⟩ (r_X8_fail_2 l dC dI L kd tys fr_247 H.size g.2.2.2.1 q0_ mq0_ kq0_ 6 (bd_sub kb_6 (by decide)) r_1 x_219 h_220 (g.fcts [2] rfl)) (cwV 2 hts (gV_ t_1215 t_1107 t_1108 t_184 t_1109) rfl rfl rfl (by decide +kernel) ⟨(Nat.le_of_ble_eq_true rfl), (Nat.le_of_ble_eq_true rfl)⟩) (pre3V g hK mq0_ kq0_ (by decide) (q := (RX8, TX8, 10)) rfl) rfl rfl hl.1 rfl (lv_room (Nat.le_of_ble_eq_true rfl)) dX0_openCall_94 ⟨(Nat.le_of_ble_eq_true rfl), (Nat.le_of_ble_eq_true rfl)⟩) g hK (by decide) (by decide) (fx' := [(7, 18, q1_, .int y_228), (8, 8, q0_, .int x_219), (0, 11, a0_, .int x_7), (0, 0, a0_, .ref q0_), (0, 2, a0_, .ref q1_)]) rfl (fun fr_272 H locs hp hMr_272 g => ?_)
      have hF_273 := hp
      have hG_274 := eJx.frame hMr_272 go_.2.2.2.1 ma0_ ka0_ (by decide) (by decide) hG_249
      have hG_275 := cOK.frame hMr_272 go_.2.2.2.1 mq1_ kq1_ (by decide) (by decide) hG_250
      have hG_276 := dOK.frame hMr_272 go_.2.2.2.1 mq1_ kq1_ (by decide) (by decide) hG_251
      have hG_277 := jS.frame hMr_272 go_.2.2.2.1 mq1_ kq1_ (by decide) (by decide) hG_252
      have hG_278 := eOK.frame hMr_272 go_.2.2.2.1 ma0_ ka0_ (by decide) (by decide) hG_253
      have g := g.more hF_273
      refine lv_iload hx hb dX0_openCall_97 (lv_at hl 0 rfl) ?_
      refine lv_if_ne (tgt := 120) hx hb dX0_openCall_99 (by decide) (fun c_ => absurd c_ (by decide)) (fun c_ => ?_)
      refine lv_aload_n hx hb dX0_openCall_102 rfl (lv_at hl 3 rfl) ?_
      refine lv_iload_n hx hb dX0_openCall_103 rfl (lv_at hl 4 rfl) ?_
      refine lv_iload_n hx hb dX0_openCall_104 rfl (lv_at hl 5 rfl) ?_
      refine lv_iload_n hx hb dX0_openCall_105 rfl (lv_at hl 6 rfl) ?_
      obtain ⟨a_279, ma_279, ka_279, g⟩ := g_factr (K := 110) g ma0_ ka0_ (by decide) 3 rfl
      obtain ⟨a_280, ma_280, ka_280, g⟩ := g_factr (K := 112) g ma0_ ka0_ (by decide) 5 rfl
      have go_ := g
      refine g_callv (va_runV (As := [.int x1_, .int x2_, .int x3_]) (rest := []) ⟨hx, hb, hml, hown, hts⟩ (r_X0_push_4 l dC dI L kd tys fr_272 H.size g.2.2.2.1 a0_ ma0_ ka0_ x1_ x2_ x3_ q1_ mq1_ kq1_ a_279 ma_279 ka_279 a_280 ma_280 ka_280 hG_278 (erel_bd bx1_ bx3_ (by decide)) (g.fcts [7, 1, 0] rfl)) (cwV 3 hts (gV_ t_1221 t_1223 t_19 t_190 t_1224) rfl rfl rfl (by decide +kernel) ⟨(Nat.le_of_ble_eq_true rfl), (Nat.le_of_ble_eq_true rfl)⟩) (pre3V g hK ma0_ ka0_ (by decide) (q := (RX0, TX0, 14)) rfl) rfl rfl hl.1 rfl (lv_room (Nat.le_of_ble_eq_true rfl)) dX0_openCall_106 ⟨(Nat.le_of_ble_eq_true rfl), (Nat.le_of_ble_eq_true rfl)⟩) g hK (by decide) (by decide) (fx' := [(0, 5, a0_, .ref a_280), (0, 3, a0_, .ref a_279), (8, 6, q0_, .int 1201), (7, 18, q1_, .int y_228), (8, 8, q0_, .int x_219), (0, 11, a0_, .int x_7), (0, 0, a0_, .ref q0_), (0, 2, a0_, .ref q1_)]) rfl (fun fr_281 H locs hp hMr_281 g => ?_)
      obtain ⟨hG_282, x_283, h_284, hF_285⟩ := hp
      have hG_286 := cOK.frame hMr_281 go_.2.2.2.1 mq1_ kq1_ (by decide) (by decide) hG_275
      have hG_287 := dOK.frame hMr_281 go_.2.2.2.1 mq1_ kq1_ (by decide) (by decide) hG_276
      have hG_288 := jS.frame hMr_281 go_.2.2.2.1 mq1_ kq1_ (by decide) (by decide) hG_277
      have g := g.more hF_285
      refine lv_aload_n hx hb dX0_openCall_109 rfl (lv_at hl 3 rfl) ?_
      refine lv_dup hx hb dX0_openCall_110 rfl ?_
      refine g_getk (C := RX0) (T := TX0) (N := 14) hx hb hts (mc_ inX0) hown hK g rfl 11 (by decide) rfl (hts _ (List.mem_cons_of_mem _ t_384)) (fun _ h9 => h9) 6 rfl dX0_openCall_111 ?_
      refine lv_iconst (v := 1) hx hb dX0_openCall_114 (by decide) ?_
      refine lv_iadd hx hb dX0_openCall_115 ?_
      refine lv_topi (fun y_289 ey_289 => ?_)
      have go_ := g
      refine g_put (C := RX0) (T := TX0) (N := 14) hx hb hts (mc_ inX0) tyX0 tyX0_ok nmX0 hown hK g ma0_ ka0_ (by decide) rfl 11 (by decide) (hts _ (List.mem_cons_of_mem _ t_384)) (fun _ h9 => h9) rfl rfl (okV_i (bdT y_289)) rfl rfl (by decide) (Or.inr (Or.inl (by decide))) (fx' := [(0, 8, a0_, .int x_283), (0, 5, a0_, .ref a_280), (0, 3, a0_, .ref a_279), (8, 6, q0_, .int 1201), (7, 18, q1_, .int y_228), (8, 8, q0_, .int x_219), (0, 0, a0_, .ref q0_), (0, 2, a0_, .ref q1_)]) rfl dX0_openCall_116 (fun f H locs hM_290 g => ?_)
      have hG_291 := cOK.frame hM_290 go_.2.2.2.1 mq1_ kq1_ (by decide) (by decide) hG_286
      have hG_292 := dOK.frame hM_290 go_.2.2.2.1 mq1_ kq1_ (by decide) (by decide) hG_287
      have hG_293 := jS.frame hM_290 go_.2.2.2.1 mq1_ kq1_ (by decide) (by decide) hG_288
      have hG_294 := eOK.frame hM_290 go_.2.2.2.1 ma0_ ka0_ (by decide) (by decide) hG_282
      subst hQ
      exact W.vret hx hb hr (fun t ht hW => ⟨⟨_, rfl, Or.inr (⟨hG_292, hG_294, x_219, h_220, (g.fcts [4, 6] rfl)⟩), q3_of g hK ht hW⟩, g.2.2.1.F ht⟩) g.2.2.1.2.2 dX0_openCall_119
