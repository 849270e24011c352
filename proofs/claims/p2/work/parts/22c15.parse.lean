set_option maxHeartbeats 4000000 in
set_option maxRecDepth 100000 in
theorem r_X0_openOperator (l : Launch) (dC : Nat → ClassId) (dI : Nat → Nat → Nat) (L : List Nat) (kd : Nat → Nat) (tys : List (ClassId × FieldType)) (f0 : Nat → va_E) (sz : Nat) (hWT : WT L kd tys f0) (a0_ : Nat) (ma0_ : a0_ ∈ L) (ka0_ : kd a0_ = 0) (x1_ : Int32) (bx1_ : bd 37 206 x1_) (q0_ : Nat) (mq0_ : q0_ ∈ L) (kq0_ : kd q0_ = 8) (q1_ : Nat) (mq1_ : q1_ ∈ L) (kq1_ : kd q1_ = 7) (y0_ : Int32) (by0_ : bd 0 0 y0_) (hGea0_ : eOK f0 a0_) (hfx : Fs L kd f0 [(0, 0, a0_, .ref q0_), (0, 2, a0_, .ref q1_), (8, 8, q0_, .int y0_)]) : Met l yX0_openOperator (.code yX0_openOperator cX0_openOperator 3 none :: lw_g) ({ frames := 1, cells := 0, slots := 0, locals := 23 }) (va_Pc [.ref a0_, .int x1_] (P3 (dC, dI) L tys f0 sz)) (va_Qv (fun (f : Nat → va_E) => (eOK f a0_ ∧ ∃ z1_ : Int32, bd 1 1201 z1_ ∧ ∃ z2_ : Int32, bd 1 300 z2_ ∧ Fs L kd f [(0, 12, a0_, .int 1), (8, 6, q0_, .int z1_), (0, 8, a0_, .int z2_)])) (Q3 (dC, dI) L kd tys [(0, 8), (0, 12), (7, 6), (7, 18), (8, 6)] [110, 111, 112, 113, 114, 138, 139] f0 sz) (pA L sz)) 0 0 (pA L sz) := by
  refine Met.ofW (cc := cX0_openOperator) (maxL := 3) (ret := none) (by decide) rfl ?_
  intro p e s m args below meth c s₁ B hml hv
  obtain ⟨rfl, hsz, hP, hK, hD0⟩ := hv
  have hx := B.exec
  have hb := B.bytes
  have hr := B.returns
  have hts := atoms_spec (ws := (.code yX0_openOperator cX0_openOperator 3 none :: lw_g)) B.pre
  have hown : s.vm.findClass RX0 = some m.cls := findClass_of_methodNamed B.named
  have hlocks := B.notSynchronized
  subst hsz
  have g : G3 (dC, dI) L kd tys s f0 [(0, 8), (0, 12), (7, 6), (7, 18), (8, 6)] [110, 111, 112, 113, 114, 138, 139] f0 s.heap [] [(0, 0, a0_, .ref q0_), (0, 2, a0_, .ref q1_), (8, 8, q0_, .int y0_)] := G3.start hP hD0 hWT hfx
  have hl := lv_entry ([.ref a0_, .int x1_]) (n := 3) (Nat.le_of_ble_eq_true rfl)
  rw [lg_entry_eq]
  generalize (lg_sl ([.ref a0_, .int x1_]) ++ List.replicate (3 - (lg_sl ([.ref a0_, .int x1_])).length) Slot.unset).toArray = ls at hl ⊢
  have hl : lv_has ls 3 [(0, .ref a0_), (1, .int x1_)] := hl
  refine W_q (fun Q hQ => ?_)
  refine lv_aload_n hx hb dX0_openOperator_0 rfl (lv_at hl 0 rfl) ?_
  refine g_getk (C := RX0) (T := TX0) (N := 14) hx hb hts (mc_ inX0) hown hK g rfl 2 (by decide) rfl (hts _ (List.mem_cons_of_mem _ t_375)) (fun _ h9 => h9) 1 rfl dX0_openOperator_1 ?_
  refine g_geti (C := RX7) (T := TX7) (N := 19) hx hb hts (mc_ inX7) hown hK g mq1_ kq1_ (by decide) rfl 6 (by decide) rfl (hts _ (List.mem_cons_of_mem _ t_646)) (fun _ h9 => h9) rfl dX0_openOperator_4 (fun x_1 bx_1 g => ?_)
  refine lv_istore_n (lv' := [(2, .int x_1), (0, .ref a0_), (1, .int x1_)]) hx hb dX0_openOperator_7 rfl hl (by decide) rfl (fun ls hl => ?_)
  refine lv_iload_n hx hb dX0_openOperator_8 rfl (lv_at hl 2 rfl) ?_
  refine lv_sipush (v := 205) hx hb dX0_openOperator_9 (by decide) ?_
  have kb_205 : bd 205 205 (205 : Int32) := ⟨by decide, by decide⟩
  refine lv_icmp_ne (tgt := 28) hx hb dX0_openOperator_12 (by decide) (fun c_2 => ?_) (fun c_2 => ?_)
  · have fc_2 := neq_f c_2
    refine lv_iload_n hx hb dX0_openOperator_28 rfl (lv_at hl 2 rfl) ?_
    refine lv_sipush (v := 206) hx hb dX0_openOperator_29 (by decide) ?_
    have kb_206 : bd 206 206 (206 : Int32) := ⟨by decide, by decide⟩
    refine lv_icmp_ne (tgt := 45) hx hb dX0_openOperator_32 (by decide) (fun c_3 => ?_) (fun c_3 => ?_)
    · have fc_3 := neq_f c_3
      have b_4 : bd 37 205 x1_ := neX fc_3 bx1_ kb_206 (by decide)
      refine lv_aload_n hx hb dX0_openOperator_45 rfl (lv_at hl 1 rfl) ?_
      refine lv_iload_n hx hb dX0_openOperator_46 rfl (lv_at hl 2 rfl) ?_
      refine lv_aload_n hx hb dX0_openOperator_47 rfl (lv_at hl 1 rfl) ?_
      refine g_getk (C := RX0) (T := TX0) (N := 14) hx hb hts (mc_ inX0) hown hK g rfl 0 (by decide) rfl (hts _ (List.mem_cons_of_mem _ t_373)) (fun _ h9 => h9) 1 rfl dX0_openOperator_48 ?_
      have go_ := g
      refine g_calli (va_runV (As := []) (rest := [.int x1_, .ref a0_]) ⟨hx, hb, hml, hown, hts⟩ (r_X8_place l dC dI L kd tys f0 s.heap.size g.2.2.2.1 q0_ mq0_ kq0_) (cwV 0 hts (gV_ t_1220 t_1111 t_1112 t_184 t_1113) rfl rfl rfl (by decide +kernel) ⟨(Nat.le_of_ble_eq_true rfl), (Nat.le_of_ble_eq_true rfl)⟩) (pre3V g hK mq0_ kq0_ (by decide) (q := (RX8, TX8, 10)) rfl) rfl rfl hl.1 rfl (lv_room (Nat.le_of_ble_eq_true rfl)) dX0_openOperator_51 ⟨(Nat.le_of_ble_eq_true rfl), (Nat.le_of_ble_eq_true rfl)⟩) g hK (by decide) (by decide) (fx' := [(7, 6, q1_, .int x_1), (0, 0, a0_, .ref q0_), (0, 2, a0_, .ref q1_), (8, 8, q0_, .int y0_)]) rfl (fun r_5 fr_5 H locs hp hMr_5 g => ?_)
      have hG_6 := eOK.frame hMr_5 go_.2.2.2.1 ma0_ ka0_ (by decide) (by decide) hGea0_
      refine lv_iload_n hx hb dX0_openOperator_54 rfl (lv_at hl 0 rfl) ?_
      obtain ⟨a_7, ma_7, ka_7, g⟩ := g_factr (K := 110) g ma0_ ka0_ (by decide) 3 rfl
      obtain ⟨a_8, ma_8, ka_8, g⟩ := g_factr (K := 112) g ma0_ ka0_ (by decide) 5 rfl
      have go_ := g
      refine g_callv (va_runV (As := [.int x1_, .int r_5, .int x_1]) (rest := []) ⟨hx, hb, hml, hown, hts⟩ (r_X0_push_2 l dC dI L kd tys fr_5 H.size g.2.2.2.1 a0_ ma0_ ka0_ x1_ r_5 x_1 a_7 ma_7 ka_7 a_8 ma_8 ka_8 hG_6 (erel_bd b_4 bx_1 (by decide)) (g.fcts [1, 0] rfl)) (cwV 3 hts (gV_ t_1221 t_1223 t_19 t_190 t_1224) rfl rfl rfl (by decide +kernel) ⟨(Nat.le_of_ble_eq_true rfl), (Nat.le_of_ble_eq_true rfl)⟩) (pre3V g hK ma0_ ka0_ (by decide) (q := (RX0, TX0, 14)) rfl) rfl rfl hl.1 rfl (lv_room (Nat.le_of_ble_eq_true rfl)) dX0_openOperator_55 ⟨(Nat.le_of_ble_eq_true rfl), (Nat.le_of_ble_eq_true rfl)⟩) g hK (by decide) (by decide) (fx' := [(0, 5, a0_, .ref a_8), (0, 3, a0_, .ref a_7), (7, 6, q1_, .int x_1), (0, 0, a0_, .ref q0_), (0, 2, a0_, .ref q1_), (8, 8, q0_, .int y0_)]) rfl (fun fr_9 H locs hp hMr_9 g => ?_)
      obtain ⟨hG_10, x_11, h_12, hF_13⟩ := hp
      have g := g.more hF_13
      refine lv_aload_n hx hb dX0_openOperator_58 rfl (lv_at hl 1 rfl) ?_
      refine g_getk (C := RX0) (T := TX0) (N := 14) hx hb hts (mc_ inX0) hown hK g rfl 2 (by decide) rfl (hts _ (List.mem_cons_of_mem _ t_375)) (fun _ h9 => h9) 5 rfl dX0_openOperator_59 ?_
      refine lv_dup hx hb dX0_openOperator_62 rfl ?_
      refine g_geti (C := RX7) (T := TX7) (N := 19) hx hb hts (mc_ inX7) hown hK g mq1_ kq1_ (by decide) rfl 18 (by decide) rfl (hts _ (List.mem_cons_of_mem _ t_681)) (fun _ h9 => h9) rfl dX0_openOperator_63 (fun x_14 bx_14 g => ?_)
      refine lv_iconst (v := 1) hx hb dX0_openOperator_66 (by decide) ?_
      have kb_1 : bd 1 1 (1 : Int32) := ⟨by decide, by decide⟩
      refine lv_iadd hx hb dX0_openOperator_67 ?_
      refine lv_topi (fun y_15 ey_15 => ?_)
      have go_ := g
      refine g_put (C := RX7) (T := TX7) (N := 19) hx hb hts (mc_ inX7) tyX7 tyX7_ok nmX7 hown hK g mq1_ kq1_ (by decide) rfl 18 (by decide) (hts _ (List.mem_cons_of_mem _ t_681)) (fun _ h9 => h9) rfl rfl (okV_i (bdT y_15)) rfl rfl (by decide) (Or.inr (Or.inl (by decide))) (fx' := [(0, 8, a0_, .int x_11), (0, 5, a0_, .ref a_8), (0, 3, a0_, .ref a_7), (7, 6, q1_, .int x_1), (0, 0, a0_, .ref q0_), (0, 2, a0_, .ref q1_), (8, 8, q0_, .int y0_)]) rfl dX0_openOperator_68 (fun f H locs hM_16 g => ?_)
      have hG_17 := eOK.frame hM_16 go_.2.2.2.1 ma0_ ka0_ (by decide) (by decide) hG_10
      refine lv_aload_n hx hb dX0_openOperator_71 rfl (lv_at hl 1 rfl) ?_
      refine g_getk (C := RX0) (T := TX0) (N := 14) hx hb hts (mc_ inX0) hown hK g rfl 0 (by decide) rfl (hts _ (List.mem_cons_of_mem _ t_373)) (fun _ h9 => h9) 5 rfl dX0_openOperator_72 ?_
      have go_ := g
      refine g_callv (va_runV (As := []) (rest := []) ⟨hx, hb, hml, hown, hts⟩ (r_X8_next l dC dI L kd tys f H.size g.2.2.2.1 q0_ mq0_ kq0_) (cwV 0 hts (gV_ t_1225 t_1103 t_1104 t_184 t_1105) rfl rfl rfl (by decide +kernel) ⟨(Nat.le_of_ble_eq_true rfl), (Nat.le_of_ble_eq_true rfl)⟩) (pre3V g hK mq0_ kq0_ (by decide) (q := (RX8, TX8, 10)) rfl) rfl rfl hl.1 rfl (lv_room (Nat.le_of_ble_eq_true rfl)) dX0_openOperator_75 ⟨(Nat.le_of_ble_eq_true rfl), (Nat.le_of_ble_eq_true rfl)⟩) g hK (by decide) (by decide) (fx' := [(7, 18, q1_, .int y_15), (0, 8, a0_, .int x_11), (0, 5, a0_, .ref a_8), (0, 3, a0_, .ref a_7), (7, 6, q1_, .int x_1), (0, 0, a0_, .ref q0_), (0, 2, a0_, .ref q1_), (8, 8, q0_, .int y0_)]) rfl (fun fr_18 H locs hp hMr_18 g => ?_)
      obtain ⟨x_19, h_20, hF_21⟩ := hp
      have hG_22 := eOK.frame hMr_18 go_.2.2.2.1 ma0_ ka0_ (by decide) (by decide) hG_17
      have g := g.more hF_21
      refine lv_aload_n hx hb dX0_openOperator_78 rfl (lv_at hl 1 rfl) ?_
      refine lv_iconst (v := 1) hx hb dX0_openOperator_79 (by decide) ?_
      have go_ := g
      refine g_put (C := RX0) (T := TX0) (N := 14) hx hb hts (mc_ inX0) tyX0 tyX0_ok nmX0 hown hK g ma0_ ka0_ (by decide) rfl 12 (by decide) (hts _ (List.mem_cons_of_mem _ t_385)) (fun _ h9 => h9) rfl rfl (okV_i (bd_sub kb_1 (by decide))) rfl rfl (by decide) (Or.inr (Or.inl (by decide))) (fx' := [(8, 6, q0_, .int x_19), (7, 18, q1_, .int y_15), (0, 8, a0_, .int x_11), (0, 5, a0_, .ref a_8), (0, 3, a0_, .ref a_7), (7, 6, q1_, .int x_1), (0, 0, a0_, .ref q0_), (0, 2, a0_, .ref q1_), (8, 8, q0_, .int y0_)]) rfl dX0_openOperator_80 (fun f H locs hM_23 g => ?_)
      have hG_24 := eOK.frame hM_23 go_.2.2.2.1 ma0_ ka0_ (by decide) (by decide) hG_22
      subst hQ
      exact W.vret hx hb hr (fun t ht hW => ⟨⟨_, rfl, ⟨hG_24, x_19, h_20, x_11, h_12, (g.fcts [0, 1, 3] rfl)⟩, q3_of g hK ht hW⟩, g.2.2.1.F ht⟩) g.2.2.1.2.2 dX0_openOperator_83
    · have fc_3 := eq_f c_3
      have b_25 : bd 206 206 x1_ := eqX fc_3 bx1_ kb_206 (by decide)
      refine lv_aload_n hx hb dX0_openOperator_35 rfl (lv_at hl 1 rfl) ?_
      refine g_getk (C := RX0) (T := TX0) (N := 14) hx hb hts (mc_ inX0) hown hK g rfl 2 (by decide) rfl (hts _ (List.mem_cons_of_mem _ t_375)) (fun _ h9 => h9) 2 rfl dX0_openOperator_36 ?_
      refine lv_bipush (v := 25) hx hb dX0_openOperator_39 (by decide) ?_
      refine lv_iconst (v := 0) hx hb dX0_openOperator_41 (by decide) ?_
      have go_ := g
      refine g_callv (va_runV (As := [.int 25, .int 0]) (rest := []) ⟨hx, hb, hml, hown, hts⟩ (r_X7_emit l dC dI L kd tys f0 s.heap.size g.2.2.2.1 q1_ mq1_ kq1_ 25 0) (cwV 2 hts (gV_ t_1203 t_1204 t_1205 t_191 t_1206) rfl rfl rfl (by decide +kernel) ⟨(Nat.le_of_ble_eq_true rfl), (Nat.le_of_ble_eq_true rfl)⟩) (pre3V g hK mq1_ kq1_ (by decide) (q := (RX7, TX7, 19)) rfl) rfl rfl hl.1 rfl (lv_room (Nat.le_of_ble_eq_true rfl)) dX0_openOperator_42 ⟨(Nat.le_of_ble_eq_true rfl), (Nat.le_of_ble_eq_true rfl)⟩) g hK (by decide) (by decide) (fx' := [(0, 0, a0_, .ref q0_), (0, 2, a0_, .ref q1_), (8, 8, q0_, .int y0_)]) rfl (fun fr_26 H locs hp hMr_26 g => ?_)
      obtain ⟨x_27, h_28, hF_29⟩ := hp
      have hG_30 := eOK.frame hMr_26 go_.2.2.2.1 ma0_ ka0_ (by decide) (by decide) hGea0_
      have g := g.more hF_29
      refine lv_aload_n hx hb dX0_openOperator_45 rfl (lv_at hl 1 rfl) ?_
      refine lv_iload_n hx hb dX0_openOperator_46 rfl (lv_at hl 2 rfl) ?_
      refine lv_aload_n hx hb dX0_openOperator_47 rfl (lv_at hl 1 rfl) ?_
      refine g_getk (C := RX0) (T := TX0) (N := 14) hx hb hts (mc_ inX0) hown hK g rfl 0 (by decide) rfl (hts _ (List.mem_cons_of_mem _ t_373)) (fun _ h9 => h9) 1 rfl dX0_openOperator_48 ?_
      have go_ := g
      refine g_calli (va_runV (As := []) (rest := [.int x1_, .ref a0_]) ⟨hx, hb, hml, hown, hts⟩ (r_X8_place l dC dI L kd tys fr_26 H.size g.2.2.2.1 q0_ mq0_ kq0_) (cwV 0 hts (gV_ t_1220 t_1111 t_1112 t_184 t_1113) rfl rfl rfl (by decide +kernel) ⟨(Nat.le_of_ble_eq_true rfl), (Nat.le_of_ble_eq_true rfl)⟩) (pre3V g hK mq0_ kq0_ (by decide) (q := (RX8, TX8, 10)) rfl) rfl rfl hl.1 rfl (lv_room (Nat.le_of_ble_eq_true rfl)) dX0_openOperator_51 ⟨(Nat.le_of_ble_eq_true rfl), (Nat.le_of_ble_eq_true rfl)⟩) g hK (by decide) (by decide) (fx' := [(7, 6, q1_, .int x_27), (0, 0, a0_, .ref q0_), (0, 2, a0_, .ref q1_), (8, 8, q0_, .int y0_)]) rfl (fun r_31 fr_31 H locs hp hMr_31 g => ?_)
      have hG_32 := eOK.frame hMr_31 go_.2.2.2.1 ma0_ ka0_ (by decide) (by decide) hG_30
      refine lv_iload_n hx hb dX0_openOperator_54 rfl (lv_at hl 0 rfl) ?_
      obtain ⟨a_33, ma_33, ka_33, g⟩ := g_factr (K := 110) g ma0_ ka0_ (by decide) 3 rfl
      obtain ⟨a_34, ma_34, ka_34, g⟩ := g_factr (K := 112) g ma0_ ka0_ (by decide) 5 rfl
      have go_ := g
      refine g_callv (va_runV (As := [.int x1_, .int r_31, .int x_1]) (rest := []) ⟨hx, hb, hml, hown, hts⟩ (r_X0_push_2 l dC dI L kd tys fr_31 H.size g.2.2.2.1 a0_ ma0_ ka0_ x1_ r_31 x_1 a_33 ma_33 ka_33 a_34 ma_34 ka_34 hG_32 (erel_bd b_25 bx_1 (by decide)) (g.fcts [1, 0] rfl)) (cwV 3 hts (gV_ t_1221 t_1223 t_19 t_190 t_1224) rfl rfl rfl (by decide +kernel) ⟨(Nat.le_of_ble_eq_true rfl), (Nat.le_of_ble_eq_true rfl)⟩) (pre3V g hK ma0_ ka0_ (by decide) (q := (RX0, TX0, 14)) rfl) rfl rfl hl.1 rfl (lv_room (Nat.le_of_ble_eq_true rfl)) dX0_openOperator_55 ⟨(Nat.le_of_ble_eq_true rfl), (Nat.le_of_ble_eq_true rfl)⟩) g hK (by decide) (by decide) (fx' := [(0, 5, a0_, .ref a_34), (0, 3, a0_, .ref a_33), (7, 6, q1_, .int x_27), (0, 0, a0_, .ref q0_), (0, 2, a0_, .ref q1_), (8, 8, q0_, .int y0_)]) rfl (fun fr_35 H locs hp hMr_35 g => ?_)
      obtain ⟨hG_36, x_37, h_38, hF_39⟩ := hp
      have g := g.more hF_39
      refine lv_aload_n hx hb dX0_openOperator_58 rfl (lv_at hl 1 rfl) ?_
      refine g_getk (C := RX0) (T := TX0) (N := 14) hx hb hts (mc_ inX0) hown hK g rfl 2 (by decide) rfl (hts _ (List.mem_cons_of_mem _ t_375)) (fun _ h9 => h9) 5 rfl dX0_openOperator_59 ?_
      refine lv_dup hx hb dX0_openOperator_62 rfl ?_
      refine g_geti (C := RX7) (T := TX7) (N := 19) hx hb hts (mc_ inX7) hown hK g mq1_ kq1_ (by decide) rfl 18 (by decide) rfl (hts _ (List.mem_cons_of_mem _ t_681)) (fun _ h9 => h9) rfl dX0_openOperator_63 (fun x_40 bx_40 g => ?_)
      refine lv_iconst (v := 1) hx hb dX0_openOperator_66 (by decide) ?_
      have kb_1 : bd 1 1 (1 : Int32) := ⟨by decide, by decide⟩
      refine lv_iadd hx hb dX0_openOperator_67 ?_
      refine lv_topi (fun y_41 ey_41 => ?_)
      have go_ := g
      refine g_put (C := RX7) (T := TX7) (N := 19) hx hb hts (mc_ inX7) tyX7 tyX7_ok nmX7 hown hK g mq1_ kq1_ (by decide) rfl 18 (by decide) (hts _ (List.mem_cons_of_mem _ t_681)) (fun _ h9 => h9) rfl rfl (okV_i (bdT y_41)) rfl rfl (by decide) (Or.inr (Or.inl (by decide))) (fx' := [(0, 8, a0_, .int x_37), (0, 5, a0_, .ref a_34), (0, 3, a0_, .ref a_33), (7, 6, q1_, .int x_27), (0, 0, a0_, .ref q0_), (0, 2, a0_, .ref q1_), (8, 8, q0_, .int y0_)]) rfl dX0_openOperator_68 (fun f H locs hM_42 g => ?_)
      have hG_43 := eOK.frame hM_42 go_.2.2.2.1 ma0_ ka0_ (by decide) (by decide) hG_36
      refine lv_aload_n hx hb dX0_openOperator_71 rfl (lv_at hl 1 rfl) ?_
      refine g_getk (C := RX0) (T := TX0) (N := 14) hx hb hts (mc_ inX0) hown hK g rfl 0 (by decide) rfl (hts _ (List.mem_cons_of_mem _ t_373)) (fun _ h9 => h9) 5 rfl dX0_openOperator_72 ?_
      have go_ := g
      refine g_callv (va_runV (As := []) (rest := []) ⟨hx, hb, hml, hown, hts⟩ (r_X8_next l dC dI L kd tys f H.size g.2.2.2.1 q0_ mq0_ kq0_) (cwV 0 hts (gV_ t_1225 t_1103 t_1104 t_184 t_1105) rfl rfl rfl (by decide +kernel) ⟨(Nat.le_of_ble_eq_true rfl), (Nat.le_of_ble_eq_true rfl)⟩) (pre3V g hK mq0_ kq0_ (by decide) (q := (RX8, TX8, 10)) rfl) rfl rfl hl.1 rfl (lv_room (Nat.le_of_ble_eq_true rfl)) dX0_openOperator_75 ⟨(Nat.le_of_ble_eq_true rfl), (Nat.le_of_ble_eq_true rfl)⟩) g hK (by decide) (by decide) (fx' := [(7, 18, q1_, .int y_41), (0, 8, a0_, .int x_37), (0, 5, a0_, .ref a_34), (0, 3, a0_, .ref a_33), (7, 6, q1_, .int x_27), (0, 0, a0_, .ref q0_), (0, 2, a0_, .ref q1_), (8, 8, q0_, .int y0_)]) rfl (fun fr_44 H locs hp hMr_44 g => ?_)
      obtain ⟨x_45, h_46, hF_47⟩ := hp
      have hG_48 := eOK.frame hMr_44 go_.2.2.2.1 ma0_ ka0_ (by decide) (by decide) hG_43
      have g := g.more hF_47
      refine lv_aload_n hx hb dX0_openOperator_78 rfl (lv_at hl 1 rfl) ?_
      refine lv_iconst (v := 1) hx hb dX0_openOperator_79 (by decide) ?_
      have go_ := g
      refine g_put (C := RX0) (T := TX0) (N := 14) hx hb hts (mc_ inX0) tyX0 tyX0_ok nmX0 hown hK g ma0_ ka0_ (by decide) rfl 12 (by decide) (hts _ (List.mem_cons_of_mem _ t_385)) (fun _ h9 => h9) rfl rfl (okV_i (bd_sub kb_1 (by decide))) rfl rfl (by decide) (Or.inr (Or.inl (by decide))) (fx' := [(8, 6, q0_, .int x_45), (7, 18, q1_, .int y_41), (0, 8, a0_, .int x_37), (0, 5, a0_, .ref a_34), (0, 3, a0_, .ref a_33), (7, 6, q1_, .int x_27), (0, 0, a0_, .ref q0_), (0, 2, a0_, .ref q1_), (8, 8, q0_, .int y0_)]) rfl dX0_openOperator_80 (fun f H locs hM_49 g => ?_)
      have hG_50 := eOK.frame hM_49 go_.2.2.2.1 ma0_ ka0_ (by decide) (by decide) hG_48
      subst hQ
      exact W.vret hx hb hr (fun t ht hW => ⟨⟨_, rfl, ⟨hG_50, x_45, h_46, x_37, h_38, (g.fcts [0, 1, 3] rfl)⟩, q3_of g hK ht hW⟩, g.2.2.1.F ht⟩) g.2.2.1.2.2 dX0_openOperator_83
  · have fc_2 := eq_f c_2
    have b_51 : bd 205 205 x1_ := eqX fc_2 bx1_ kb_205 (by decide)
    refine lv_aload_n hx hb dX0_openOperator_15 rfl (lv_at hl 1 rfl) ?_
    refine g_getk (C := RX0) (T := TX0) (N := 14) hx hb hts (mc_ inX0) hown hK g rfl 2 (by decide) rfl (hts _ (List.mem_cons_of_mem _ t_375)) (fun _ h9 => h9) 2 rfl dX0_openOperator_16 ?_
    refine lv_bipush (v := 24) hx hb dX0_openOperator_19 (by decide) ?_
    refine lv_iconst (v := 0) hx hb dX0_openOperator_21 (by decide) ?_
    have go_ := g
    refine g_callv (va_runV (As := [.int 24, .int 0]) (rest := []) ⟨hx, hb, hml, hown, hts⟩ (r_X7_emit l dC dI L kd tys f0 s.heap.size g.2.2.2.1 q1_ mq1_ kq1_ 24 0) (cwV 2 hts (gV_ t_1203 t_1204 t_1205 t_191 t_1206) rfl rfl rfl (by decide +kernel) ⟨(Nat.le_of_ble_eq_true rfl), (Nat.le_of_ble_eq_true rfl)⟩) (pre3V g hK mq1_ kq1_ (by decide) (q := (RX7, TX7, 19)) rfl) rfl rfl hl.1 rfl (lv_room (Nat.le_of_ble_eq_true rfl)) dX0_openOperator_22 ⟨(Nat.le_of_ble_eq_true rfl), (Nat.le_of_ble_eq_true rfl)⟩) g hK (by decide) (by decide) (fx' := [(0, 0, a0_, .ref q0_), (0, 2, a0_, .ref q1_), (8, 8, q0_, .int y0_)]) rfl (fun fr_52 H locs hp hMr_52 g => ?_)
    obtain ⟨x_53, h_54, hF_55⟩ := hp
    have hG_56 := eOK.frame hMr_52 go_.2.2.2.1 ma0_ ka0_ (by decide) (by decide) hGea0_
    have g := g.more hF_55
    refine lv_goto (tgt := 45) hx hb dX0_openOperator_25 (by decide) ?_
    refine lv_aload_n hx hb dX0_openOperator_45 rfl (lv_at hl 1 rfl) ?_
    refine lv_iload_n hx hb dX0_openOperator_46 rfl (lv_at hl 2 rfl) ?_
    refine lv_aload_n hx hb dX0_openOperator_47 rfl (lv_at hl 1 rfl) ?_
    refine g_getk (C := RX0) (T := TX0) (N := 14) hx hb hts (mc_ inX0) hown hK g rfl 0 (by decide) rfl (hts _ (List.mem_cons_of_mem _ t_373)) (fun _ h9 => h9) 1 rfl dX0_openOperator_48 ?_
    have go_ := g
    refine g_calli (va_runV (As := []) (rest := [.int x1_, .ref a0_]) ⟨hx, hb, hml, hown, hts⟩ (r_X8_place l dC dI L kd tys fr_52 H.size g.2.2.2.1 q0_ mq0_ kq0_) (cwV 0 hts (gV_ t_1220 t_1111 t_1112 t_184 t_1113) rfl rfl rfl (by decide +kernel) ⟨(Nat.le_of_ble_eq_true rfl), (Nat.le_of_ble_eq_true rfl)⟩) (pre3V g hK mq0_ kq0_ (by decide) (q := (RX8, TX8, 10)) rfl) rfl rfl hl.1 rfl (lv_room (Nat.le_of_ble_eq_true rfl)) dX0_openOperator_51 ⟨(Nat.le_of_ble_eq_true rfl), (Nat.le_of_ble_eq_true rfl)⟩) g hK (by decide) (by decide) (fx' := [(7, 6, q1_, .int x_53), (0, 0, a0_, .ref q0_), (0, 2, a0_, .ref q1_), (8, 8, q0_, .int y0_)]) rfl (fun r_57 fr_57 H locs hp hMr_57 g => ?_)
    have hG_58 := eOK.frame hMr_57 go_.2.2.2.1 ma0_ ka0_ (by decide) (by decide) hG_56
    refine lv_iload_n hx hb dX0_openOperator_54 rfl (lv_at hl 0 rfl) ?_
    obtain ⟨a_59, ma_59, ka_59, g⟩ := g_factr (K := 110) g ma0_ ka0_ (by decide) 3 rfl
    obtain ⟨a_60, ma_60, ka_60, g⟩ := g_factr (K := 112) g ma0_ ka0_ (by decide) 5 rfl
    have go_ := g
    refine g_callv (va_runV (As := [.int x1_, .int r_57, .int x_1]) (rest := []) ⟨hx, hb, hml, hown, hts⟩ (r_X0_push_2 l dC dI L kd tys fr_57 H.size g.2.2.2.1 a0_ ma0_ ka0_ x1_ r_57 x_1 a_59 ma_59 ka_59 a_60 ma_60 ka_60 hG_58 (erel_bd b_51 bx_1 (by decide)) (g.fcts [1, 0] rfl)) (cwV 3 hts (gV_ t_1221 t_1223 t_19 t_190 t_1224) rfl rfl rfl (by decide +kernel) ⟨(Nat.le_of_ble_eq_true rfl), (Nat.le_of_ble_eq_true rfl)⟩) (pre3V g hK ma0_ ka0_ (by decide) (q := (RX0, TX0, 14)) rfl) rfl rfl hl.1 rfl (lv_room (Nat.le_of_ble_eq_true rfl)) dX0_openOperator_55 ⟨(Nat.le_of_ble_eq_true rfl), (Nat.le_of_ble_eq_true rfl)⟩) g hK (by decide) (by decide) (fx' := [(0, 5, a0_, .ref a_60), (0, 3, a0_, .ref a_59), (7, 6, q1_, .int x_53), (0, 0, a0_, .ref q0_), (0, 2, a0_, .ref q1_), (8, 8, q0_, .int y0_)]) rfl (fun fr_61 H locs hp hMr_61 g => ?_)
    obtain ⟨hG_62, x_63, h_64, hF_65⟩ := hp
    have g := g.more hF_65
    refine lv_aload_n hx hb dX0_openOperator_58 rfl (lv_at hl 1 rfl) ?_
    refine g_getk (C := RX0) (T := TX0) (N := 14) hx hb hts (mc_ inX0) hown hK g rfl 2 (by decide) rfl (hts _ (List.mem_cons_of_mem _ t_375)) (fun _ h9 => h9) 5 rfl dX0_openOperator_59 ?_
    refine lv_dup hx hb dX0_openOperator_62 rfl ?_
    refine g_geti (C := RX7) (T := TX7) (N := 19) hx hb hts (mc_ inX7) hown hK g mq1_ kq1_ (by decide) rfl 18 (by decide) rfl (hts _ (List.mem_cons_of_mem _ t_681)) (fun _ h9 => h9) rfl dX0_openOperator_63 (fun x_66 bx_66 g => ?_)
    refine lv_iconst (v := 1) hx hb dX0_openOperator_66 (by decide) ?_
    have kb_1 : bd 1 1 (1 : Int32) := ⟨by decide, by decide⟩
    refine lv_iadd hx hb dX0_openOperator_67 ?_
    refine lv_topi (fun y_67 ey_67 => ?_)
    have go_ := g
    refine g_put (C := RX7) (T := TX7) (N := 19) hx hb hts (mc_ inX7) tyX7 tyX7_ok nmX7 hown hK g mq1_ kq1_ (by decide) rfl 18 (by decide) (hts _ (List.mem_cons_of_mem _ t_681)) (fun _ h9 => h9) rfl rfl (okV_i (bdT y_67)) rfl rfl (by decide) (Or.inr (Or.inl (by decide))) (fx' := [(0, 8, a0_, .int x_63), (0, 5, a0_, .ref a_60), (0, 3, a0_, .ref a_59), (7, 6, q1_, .int x_53), (0, 0, a0_, .ref q0_), (0, 2, a0_, .ref q1_), (8, 8, q0_, .int y0_)]) rfl dX0_openOperator_68 (fun f H locs hM_68 g => ?_)
    have hG_69 := eOK.frame hM_68 go_.2.2.2.1 ma0_ ka0_ (by decide) (by decide) hG_62
    refine lv_aload_n hx hb dX0_openOperator_71 rfl (lv_at hl 1 rfl) ?_
    refine g_getk (C := RX0) (T := TX0) (N := 14) hx hb hts (mc_ inX0) hown hK g rfl 0 (by decide) rfl (hts _ (List.mem_cons_of_mem _ t_373)) (fun _ h9 => h9) 5 rfl dX0_openOperator_72 ?_
    have go_ := g
    refine g_callv (va_runV (As := []) (rest := []) ⟨hx, hb, hml, hown, hts⟩ (r_X8_next l dC dI L kd tys f H.size g.2.2.2.1 q0_ mq0_ kq0_) (cwV 0 hts (gV_ t_1225 t_1103 t_1104 t_184 t_1105) rfl rfl rfl (by decide +kernel) ⟨(Nat.le_of_ble_eq_true rfl), (Nat.le_of_ble_eq_true rfl)⟩) (pre3V g hK mq0_ kq0_ (by decide) (q := (RX8, TX8, 10)) rfl) rfl rfl hl.1 rfl (lv_room (Nat.le_of_ble_eq_true rfl)) dX0_openOperator_75 ⟨(Nat.le_of_ble_eq_true rfl), (Nat.le_of_ble_eq_true rfl)⟩) g hK (by decide) (by decide) (fx' := [(7, 18, q1_, .int y_67), (0, 8, a0_, .int x_63), (0, 5, a0_, .ref a_60), (0, 3, a0_, .ref a_59), (7, 6, q1_, .int x_53), (0, 0, a0_, .ref q0_), (0, 2, a0_, .ref q1_), (8, 8, q0_, .int y0_)]) rfl (fun fr_70 H locs hp hMr_70 g => ?_)
    obtain ⟨x_71, h_72, hF_73⟩ := hp
    have hG_74 := eOK.frame hMr_70 go_.2.2.2.1 ma0_ ka0_ (by decide) (by decide) hG_69
    have g := g.more hF_73
    refine lv_aload_n hx hb dX0_openOperator_78 rfl (lv_at hl 1 rfl) ?_
    refine lv_iconst (v := 1) hx hb dX0_openOperator_79 (by decide) ?_
    have go_ := g
    refine g_put (C := RX0) (T := TX0) (N := 14) hx hb hts (mc_ inX0) tyX0 tyX0_ok nmX0 hown hK g ma0_ ka0_ (by decide) rfl 12 (by decide) (hts _ (List.mem_cons_of_mem _ t_385)) (fun _ h9 => h9) rfl rfl (okV_i (bd_sub kb_1 (by decide))) rfl rfl (by decide) (Or.inr (Or.inl (by decide))) (fx' := [(8, 6, q0_, .int x_71), (7, 18, q1_, .int y_67), (0, 8, a0_, .int x_63), (0, 5, a0_, .ref a_60), (0, 3, a0_, .ref a_59), (7, 6, q1_, .int x_53), (0, 0, a0_, .ref q0_), (0, 2, a0_, .ref q1_), (8, 8, q0_, .int y0_)]) rfl dX0_openOperator_80 (fun f H locs hM_75 g => ?_)
    have hG_76 := eOK.frame hM_75 go_.2.2.2.1 ma0_ ka0_ (by decide) (by decide) hG_74
    subst hQ
    exact W.vret hx hb hr (fun t ht hW => ⟨⟨_, rfl, ⟨hG_76, x_71, h_72, x_63, h_64, (g.fcts [0, 1, 3] rfl)⟩, q3_of g hK ht hW⟩, g.2.2.1.F ht⟩) g.2.2.1.2.2 dX0_openOperator_83
set_option maxHeartbeats 4000000 in
set_option maxRecDepth 100000 in
theorem r_X0_readBehind (l : Launch) (dC : Nat → ClassId) (dI : Nat → Nat → Nat) (L : List Nat) (kd : Nat → Nat) (tys : List (ClassId × FieldType)) (f0 : Nat → va_E) (sz : Nat) (hWT : WT L kd tys f0) (a0_ : Nat) (ma0_ : a0_ ∈ L) (ka0_ : kd a0_ = 0) (x1_ : Int32) (q0_ : Nat) (mq0_ : q0_ ∈ L) (kq0_ : kd q0_ = 8) (q1_ : Nat) (mq1_ : q1_ ∈ L) (kq1_ : kd q1_ = 5) (q2_ : Nat) (mq2_ : q2_ ∈ L) (kq2_ : kd q2_ = 7) (q3_ : Nat) (mq3_ : q3_ ∈ L) (kq3_ : kd q3_ = 9) (y0_ : Int32) (by0_ : bd 0 0 y0_) (hGea0_ : eOK f0 a0_) (hfx : Fs L kd f0 [(0, 0, a0_, .ref q0_), (0, 1, a0_, .ref q1_), (0, 2, a0_, .ref q2_), (5, 1, q1_, .ref q3_), (8, 8, q0_, .int y0_)]) : Met l yX0_readBehind (.code yX0_readBehind cX0_readBehind 3 none :: lw_g) ({ frames := 2, cells := 0, slots := 0, locals := 49 }) (va_Pc [.ref a0_, .int x1_] (P3 (dC, dI) L tys f0 sz)) (va_Qv (fun (f : Nat → va_E) => (eOK f a0_ ∧ ∃ z0_ : Int32, bd 0 0 z0_ ∧ Fs L kd f [(8, 8, q0_, .int z0_)]) ∨ (eOK f a0_ ∧ ∃ z1_ : Int32, bd 1 7 z1_ ∧ Fs L kd f [(8, 6, q0_, .int 1201), (8, 8, q0_, .int z1_)])) (Q3 (dC, dI) L kd tys [(0, 8), (0, 10), (0, 11), (0, 12), (0, 13), (7, 6), (7, 18), (8, 6), (8, 8), (8, 9)] [110, 111, 112, 113, 114, 115, 138, 139] f0 sz) (pA L sz)) 0 0 (pA L sz) := by
  refine Met.ofW (cc := cX0_readBehind) (maxL := 3) (ret := none) (by decide) rfl ?_
  intro p e s m args below meth c s₁ B hml hv
  obtain ⟨rfl, hsz, hP, hK, hD0⟩ := hv
  have hx := B.exec
  have hb := B.bytes
  have hr := B.returns
  have hts := atoms_spec (ws := (.code yX0_readBehind cX0_readBehind 3 none :: lw_g)) B.pre
  have hown : s.vm.findClass RX0 = some m.cls := findClass_of_methodNamed B.named
  have hlocks := B.notSynchronized
  subst hsz
  have g : G3 (dC, dI) L kd tys s f0 [(0, 8), (0, 10), (0, 11), (0, 12), (0, 13), (7, 6), (7, 18), (8, 6), (8, 8), (8, 9)] [110, 111, 112, 113, 114, 115, 138, 139] f0 s.heap [] [(0, 0, a0_, .ref q0_), (0, 1, a0_, .ref q1_), (0, 2, a0_, .ref q2_), (5, 1, q1_, .ref q3_), (8, 8, q0_, .int y0_)] := G3.start hP hD0 hWT hfx
  have hl := lv_entry ([.ref a0_, .int x1_]) (n := 3) (Nat.le_of_ble_eq_true rfl)
  rw [lg_entry_eq]
  generalize (lg_sl ([.ref a0_, .int x1_]) ++ List.replicate (3 - (lg_sl ([.ref a0_, .int x1_])).length) Slot.unset).toArray = ls at hl ⊢
  have hl : lv_has ls 3 [(0, .ref a0_), (1, .int x1_)] := hl
  refine W_q (fun Q hQ => ?_)
  refine lv_iload_n hx hb dX0_readBehind_0 rfl (lv_at hl 1 rfl) ?_
  have go_ := g
  refine g_calli (va_runS (As := [.int x1_]) (rest := []) ⟨hx, hb, hml, hown, hts⟩ (r_X0_levelOf l dC dI L kd tys f0 s.heap.size g.2.2.2.1 x1_) (va_cwS 1 hts (gS_ t_1191 t_1192 t_190 t_1193) rfl rfl rfl (by decide +kernel) ⟨(Nat.le_of_ble_eq_true rfl), (Nat.le_of_ble_eq_true rfl)⟩) (pre3S g hK) rfl rfl hl.1 rfl (lv_room (Nat.le_of_ble_eq_true rfl)) dX0_readBehind_1 ⟨(Nat.le_of_ble_eq_true rfl), (Nat.le_of_ble_eq_true rfl)⟩) g hK (by decide) (by decide) (fx' := [(0, 0, a0_, .ref q0_), (0, 1, a0_, .ref q1_), (0, 2, a0_, .ref q2_), (5, 1, q1_, .ref q3_), (8, 8, q0_, .int y0_)]) rfl (fun r_1 fr_1 H locs hp hMr_1 g => ?_)
  rcases hp with ⟨h_2, -⟩ | ⟨h_3, h_4, -⟩
  · have hG_5 := eOK.frame hMr_1 go_.2.2.2.1 ma0_ ka0_ (by decide) (by decide) hGea0_
    obtain rfl : r_1 = 0 := h_2
    refine lv_istore_n (lv' := [(2, .int 0), (0, .ref a0_), (1, .int x1_)]) hx hb dX0_readBehind_4 rfl hl (by decide) rfl (fun ls hl => ?_)
    refine lv_aload_n hx hb dX0_readBehind_5 rfl (lv_at hl 1 rfl) ?_
    refine lv_iload_n hx hb dX0_readBehind_6 rfl (lv_at hl 0 rfl) ?_
    refine lv_iconst (v := 1) hx hb dX0_readBehind_7 (by decide) ?_
    have kb_0 : bd 0 0 (0 : Int32) := ⟨by decide, by decide⟩
    have kb_1 : bd 1 1 (1 : Int32) := ⟨by decide, by decide⟩
    refine va_mmax hx hb (hml.trans hl.1.symm) hown (hts _ (List.mem_cons_of_mem _ t_1194)) (hts _ (List.mem_cons_of_mem _ t_1041)) (hts _ (List.mem_cons_of_mem _ t_204)) (hts _ (List.mem_cons_of_mem _ t_1042)) (Nat.le_of_ble_eq_true rfl) (Nat.le_of_ble_eq_true rfl) (Nat.le_of_ble_eq_true rfl) (Nat.le_of_ble_eq_true rfl) dX0_readBehind_8 ?_
    refine lv_topi (fun y_6 ey_6 => ?_)
    obtain rfl : y_6 = 1 := ey_6.trans (by decide)
    have go_ := g
    refine g_callv (va_runV (As := [.int 1]) (rest := []) ⟨hx, hb, hml, hown, hts⟩ (r_X0_closeParts l dC dI L kd tys fr_1 H.size g.2.2.2.1 a0_ ma0_ ka0_ 1 q0_ mq0_ kq0_ q2_ mq2_ kq2_ y0_ by0_ (g.fcts [0, 2, 4] rfl)) (cwV 1 hts (gV_ t_1195 t_1197 t_15 t_190 t_1198) rfl rfl rfl (by decide +kernel) ⟨(Nat.le_of_ble_eq_true rfl), (Nat.le_of_ble_eq_true rfl)⟩) (pre3V g hK ma0_ ka0_ (by decide) (q := (RX0, TX0, 14)) rfl) rfl rfl hl.1 rfl (lv_room (Nat.le_of_ble_eq_true rfl)) dX0_readBehind_11 ⟨(Nat.le_of_ble_eq_true rfl), (Nat.le_of_ble_eq_true rfl)⟩) g hK (by decide) (by decide) (fx' := [(0, 0, a0_, .ref q0_), (0, 1, a0_, .ref q1_), (0, 2, a0_, .ref q2_), (5, 1, q1_, .ref q3_)]) rfl (fun fr_7 H locs hp hMr_7 g => ?_)
    rcases hp with ⟨x_8, h_9, hF_10⟩ | ⟨x_11, h_12, x_13, h_14, x_15, h_16, x_17, h_18, hF_19⟩
    · have hG_20 := eOK.frame hMr_7 go_.2.2.2.1 ma0_ ka0_ (by decide) (by decide) hG_5
      have g := g.more hF_10
      refine lv_aload_n hx hb dX0_readBehind_14 rfl (lv_at hl 1 rfl) ?_
      refine g_getk (C := RX0) (T := TX0) (N := 14) hx hb hts (mc_ inX0) hown hK g rfl 0 (by decide) rfl (hts _ (List.mem_cons_of_mem _ t_373)) (fun _ h9 => h9) 1 rfl dX0_readBehind_15 ?_
      refine g_getk (C := RX8) (T := TX8) (N := 10) hx hb hts (mc_ inX8) hown hK g rfl 8 (by decide) rfl (hts _ (List.mem_cons_of_mem _ t_293)) (fun _ h9 => h9) 0 rfl dX0_readBehind_18 ?_
      refine lv_if_eq (tgt := 25) hx hb dX0_readBehind_21 (by decide) (fun c_21 => ?_) (fun c_21 => ?_)
      · have fc_21 := eq_f c_21
        refine lv_iload_n hx hb dX0_readBehind_25 rfl (lv_at hl 0 rfl) ?_
        refine lv_if_le (tgt := 37) hx hb dX0_readBehind_26 (by decide) (fun c_ => ?_) (fun c_ => absurd (by decide) c_)
        refine lv_aload_n hx hb dX0_readBehind_37 rfl (lv_at hl 1 rfl) ?_
        refine g_geti (C := RX0) (T := TX0) (N := 14) hx hb hts (mc_ inX0) hown hK g ma0_ ka0_ (by decide) rfl 8 (by decide) rfl (hts _ (List.mem_cons_of_mem _ t_381)) (fun _ h9 => h9) rfl dX0_readBehind_38 (fun x_22 bx_22 g => ?_)
        refine lv_if_ne (tgt := 52) hx hb dX0_readBehind_41 (by decide) (fun c_23 => ?_) (fun c_23 => ?_)
        · have fc_23 := neq_f c_23
          have b_24 : bd 1 300 x_22 := neX fc_23 bx_22 kb_0 (by decide)
          refine lv_aload_n hx hb dX0_readBehind_52 rfl (lv_at hl 1 rfl) ?_
          refine g_getr (K := 110) (C := RX0) (T := TX0) (N := 14) hx hb hts (mc_ inX0) hown hK g ma0_ ka0_ (by decide) rfl 3 (by decide) rfl (hts _ (List.mem_cons_of_mem _ t_376)) (fun _ h9 => h9) rfl dX0_readBehind_53 (fun a_25 ma_25 ka_25 g => ?_)
          refine lv_aload_n hx hb dX0_readBehind_56 rfl (lv_at hl 1 rfl) ?_
          refine g_getk (C := RX0) (T := TX0) (N := 14) hx hb hts (mc_ inX0) hown hK g rfl 8 (by decide) rfl (hts _ (List.mem_cons_of_mem _ t_381)) (fun _ h9 => h9) 1 rfl dX0_readBehind_57 ?_
          refine lv_iconst (v := 1) hx hb dX0_readBehind_60 (by decide) ?_
          refine lv_isub hx hb dX0_readBehind_61 ?_
          refine lv_topi (fun y_26 ey_26 => ?_)
          have ty_26 := sub_bd ey_26 b_24 kb_1 (by decide)
          have b_27 : bd 0 299 y_26 := sub_rg ty_26 b_24 kb_1 (by decide)
          refine g_iald hx hb hK g ma_25 ka_25 (by decide) rfl (in_bd b_27 (by decide)) dX0_readBehind_62 (fun x_28 bx_28 cx_28 => ?_)
          refine lv_iconst (v := 1) hx hb dX0_readBehind_63 (by decide) ?_
          refine lv_icmp_ne (tgt := 103) hx hb dX0_readBehind_64 (by decide) (fun c_29 => ?_) (fun c_29 => ?_)
          · have fc_29 := neq_f c_29
            refine lv_aload_n hx hb dX0_readBehind_103 rfl (lv_at hl 1 rfl) ?_
            refine g_getk (C := RX0) (T := TX0) (N := 14) hx hb hts (mc_ inX0) hown hK g rfl 3 (by decide) rfl (hts _ (List.mem_cons_of_mem _ t_376)) (fun _ h9 => h9) 0 rfl dX0_readBehind_104 ?_
            refine lv_aload_n hx hb dX0_readBehind_107 rfl (lv_at hl 1 rfl) ?_
            refine g_getk (C := RX0) (T := TX0) (N := 14) hx hb hts (mc_ inX0) hown hK g rfl 8 (by decide) rfl (hts _ (List.mem_cons_of_mem _ t_381)) (fun _ h9 => h9) 1 rfl dX0_readBehind_108 ?_
            refine lv_iconst (v := 1) hx hb dX0_readBehind_111 (by decide) ?_
            refine lv_isub hx hb dX0_readBehind_112 ?_
            refine lv_topi (fun y_30 ey_30 => ?_)
            obtain rfl : y_26 = y_30 := ey_26.trans ey_30.symm
            refine g_iald hx hb hK g ma_25 ka_25 (by decide) rfl (in_bd b_27 (by decide)) dX0_readBehind_113 (fun x_31 bx_31 cx_31 => ?_)
            obtain rfl : x_28 = x_31 := el_same cx_28 cx_31 rfl
            refine lv_iconst (v := 4) hx hb dX0_readBehind_114 (by decide) ?_
            have kb_4 : bd 4 4 (4 : Int32) := ⟨by decide, by decide⟩
            refine lv_icmp_eq (tgt := 133) hx hb dX0_readBehind_115 (by decide) (fun c_32 => ?_) (fun c_32 => ?_)
            · have fc_32 := eq_f c_32
              have b_33 : bd 4 4 x_28 := eqX fc_32 (bdT x_28) kb_4 (by decide)
              refine lv_iload_n hx hb dX0_readBehind_133 rfl (lv_at hl 2 rfl) ?_
              refine lv_bipush (v := 93) hx hb dX0_readBehind_134 (by decide) ?_
              have kb_93 : bd 93 93 (93 : Int32) := ⟨by decide, by decide⟩
              refine lv_icmp_ne (tgt := 146) hx hb dX0_readBehind_136 (by decide) (fun c_34 => ?_) (fun c_34 => ?_)
              · have fc_34 := neq_f c_34
                refine lv_aload_n hx hb dX0_readBehind_146 rfl (lv_at hl 1 rfl) ?_
                refine g_getk (C := RX0) (T := TX0) (N := 14) hx hb hts (mc_ inX0) hown hK g rfl 3 (by decide) rfl (hts _ (List.mem_cons_of_mem _ t_376)) (fun _ h9 => h9) 0 rfl dX0_readBehind_147 ?_
                refine lv_aload_n hx hb dX0_readBehind_150 rfl (lv_at hl 1 rfl) ?_
                refine g_getk (C := RX0) (T := TX0) (N := 14) hx hb hts (mc_ inX0) hown hK g rfl 8 (by decide) rfl (hts _ (List.mem_cons_of_mem _ t_381)) (fun _ h9 => h9) 1 rfl dX0_readBehind_151 ?_
                refine lv_iconst (v := 1) hx hb dX0_readBehind_154 (by decide) ?_
                refine lv_isub hx hb dX0_readBehind_155 ?_
                refine lv_topi (fun y_35 ey_35 => ?_)
                obtain rfl : y_26 = y_35 := ey_26.trans ey_35.symm
                refine g_iald hx hb hK g ma_25 ka_25 (by decide) rfl (in_bd b_27 (by decide)) dX0_readBehind_156 (fun x_36 bx_36 cx_36 => ?_)
                obtain rfl : x_28 = x_36 := el_same cx_28 cx_36 rfl
                refine lv_iconst (v := 2) hx hb dX0_readBehind_157 (by decide) ?_
                have kb_2 : bd 2 2 (2 : Int32) := ⟨by decide, by decide⟩
                refine lv_icmp_eq (tgt := 176) hx hb dX0_readBehind_158 (by decide) (fun c_37 => ?_) (fun c_37 => ?_)
                · have fc_37 := eq_f c_37
                  have b_38 : bd 4 2 x_28 := eqX fc_37 b_33 kb_2 (by decide)
                  exact bd_no b_38 (by decide)
                · have fc_37 := neq_f c_37
                  refine lv_aload_n hx hb dX0_readBehind_161 rfl (lv_at hl 1 rfl) ?_
                  refine g_getk (C := RX0) (T := TX0) (N := 14) hx hb hts (mc_ inX0) hown hK g rfl 3 (by decide) rfl (hts _ (List.mem_cons_of_mem _ t_376)) (fun _ h9 => h9) 0 rfl dX0_readBehind_162 ?_
                  refine lv_aload_n hx hb dX0_readBehind_165 rfl (lv_at hl 1 rfl) ?_
                  refine g_getk (C := RX0) (T := TX0) (N := 14) hx hb hts (mc_ inX0) hown hK g rfl 8 (by decide) rfl (hts _ (List.mem_cons_of_mem _ t_381)) (fun _ h9 => h9) 1 rfl dX0_readBehind_166 ?_
                  refine lv_iconst (v := 1) hx hb dX0_readBehind_169 (by decide) ?_
                  refine lv_isub hx hb dX0_readBehind_170 ?_
                  refine lv_topi (fun y_39 ey_39 => ?_)
                  obtain rfl : y_26 = y_39 := ey_26.trans ey_39.symm
                  refine g_iald hx hb hK g ma_25 ka_25 (by decide) rfl (in_bd b_27 (by decide)) dX0_readBehind_171 (fun x_40 bx_40 cx_40 => ?_)
                  obtain rfl : x_28 = x_40 := el_same cx_28 cx_40 rfl
                  refine lv_iconst (v := 3) hx hb dX0_readBehind_172 (by decide) ?_
                  have kb_3 : bd 3 3 (3 : Int32) := ⟨by decide, by decide⟩
                  refine lv_icmp_ne (tgt := 184) hx hb dX0_readBehind_173 (by decide) (fun c_41 => ?_) (fun c_41 => ?_)
                  · have fc_41 := neq_f c_41
                    refine lv_aload_n hx hb dX0_readBehind_184 rfl (lv_at hl 1 rfl) ?_
                    refine g_getk (C := RX0) (T := TX0) (N := 14) hx hb hts (mc_ inX0) hown hK g rfl 0 (by decide) rfl (hts _ (List.mem_cons_of_mem _ t_373)) (fun _ h9 => h9) 3 rfl dX0_readBehind_185 ?_
                    refine lv_iconst (v := 1) hx hb dX0_readBehind_188 (by decide) ?_
                    refine lv_aload_n hx hb dX0_readBehind_189 rfl (lv_at hl 1 rfl) ?_
                    refine g_getk (C := RX0) (T := TX0) (N := 14) hx hb hts (mc_ inX0) hown hK g rfl 0 (by decide) rfl (hts _ (List.mem_cons_of_mem _ t_373)) (fun _ h9 => h9) 3 rfl dX0_readBehind_190 ?_
                    have go_ := g
                    refine g_calli (va_runV (As := []) (rest := [.int 1, .ref q0_]) ⟨hx, hb, hml, hown, hts⟩ (r_X8_place l dC dI L kd tys fr_7 H.size g.2.2.2.1 q0_ mq0_ kq0_) (cwV 0 hts (gV_ t_1220 t_1111 t_1112 t_184 t_1113) rfl rfl rfl (by decide +kernel) ⟨(Nat.le_of_ble_eq_true rfl), (Nat.le_of_ble_eq_true rfl)⟩) (pre3V g hK mq0_ kq0_ (by decide) (q := (RX8, TX8, 10)) rfl) rfl rfl hl.1 rfl (lv_room (Nat.le_of_ble_eq_true rfl)) dX0_readBehind_193 ⟨(Nat.le_of_ble_eq_true rfl), (Nat.le_of_ble_eq_true rfl)⟩) g hK (by decide) (by decide) (fx' := [(0, 3, a0_, .ref a_25), (0, 8, a0_, .int x_22), (8, 8, q0_, .int x_8), (0, 0, a0_, .ref q0_), (0, 1, a0_, .ref q1_), (0, 2, a0_, .ref q2_), (5, 1, q1_, .ref q3_)]) rfl (fun r_42 fr_42 H locs hp hMr_42 g => ?_)
                    have hG_43 := eOK.frame hMr_42 go_.2.2.2.1 ma0_ ka0_ (by decide) (by decide) hG_20
                    have go_ := g
                    refine g_callv (va_runV (As := [.int 1, .int r_42]) (rest := []) ⟨hx, hb, hml, hown, hts⟩ (r_X8_fail l dC dI L kd tys fr_42 H.size g.2.2.2.1 q0_ mq0_ kq0_ 1 (bd_sub kb_1 (by decide)) r_42 x_8 h_9 (g.fcts [2] rfl)) (cwV 2 hts (gV_ t_1215 t_1107 t_1108 t_184 t_1109) rfl rfl rfl (by decide +kernel) ⟨(Nat.le_of_ble_eq_true rfl), (Nat.le_of_ble_eq_true rfl)⟩) (pre3V g hK mq0_ kq0_ (by decide) (q := (RX8, TX8, 10)) rfl) rfl rfl hl.1 rfl (lv_room (Nat.le_of_ble_eq_true rfl)) dX0_readBehind_196 ⟨(Nat.le_of_ble_eq_true rfl), (Nat.le_of_ble_eq_true rfl)⟩) g hK (by decide) (by decide) (fx' := [(0, 3, a0_, .ref a_25), (0, 8, a0_, .int x_22), (0, 0, a0_, .ref q0_), (0, 1, a0_, .ref q1_), (0, 2, a0_, .ref q2_), (5, 1, q1_, .ref q3_)]) rfl (fun fr_44 H locs hp hMr_44 g => ?_)
                    obtain ⟨x_45, h_46, hF_47⟩ := hp
                    have hG_48 := eOK.frame hMr_44 go_.2.2.2.1 ma0_ ka0_ (by decide) (by decide) hG_43
                    have g := g.more hF_47
                    subst hQ
                    exact W.vret hx hb hr (fun t ht hW => ⟨⟨_, rfl, Or.inr (⟨hG_48, x_45, h_46, (g.fcts [0, 1] rfl)⟩), q3_of g hK ht hW⟩, g.2.2.1.F ht⟩) g.2.2.1.2.2 dX0_readBehind_199
                  · have fc_41 := eq_f c_41
                    have b_49 : bd 4 3 x_28 := eqX fc_41 b_33 kb_3 (by decide)
                    exact bd_no b_49 (by decide)
              · have fc_34 := eq_f c_34
                have b_50 : bd 93 93 x1_ := eqX fc_34 (bdT x1_) kb_93 (by decide)
                refine lv_aload_n hx hb dX0_readBehind_139 rfl (lv_at hl 1 rfl) ?_
                have go_ := g
                refine g_callv (va_runV (As := []) (rest := []) ⟨hx, hb, hml, hown, hts⟩ (r_X0_closeIndex l dC dI L kd tys fr_7 H.size g.2.2.2.1 a0_ ma0_ ka0_ q0_ mq0_ kq0_ q2_ mq2_ kq2_ x_22 b_24 x_8 h_9 (g.fcts [3, 5, 1, 2] rfl)) (cwV 0 hts (gV_ t_1226 t_1228 t_20 t_190 t_1229) rfl rfl rfl (by decide +kernel) ⟨(Nat.le_of_ble_eq_true rfl), (Nat.le_of_ble_eq_true rfl)⟩) (pre3V g hK ma0_ ka0_ (by decide) (q := (RX0, TX0, 14)) rfl) rfl rfl hl.1 rfl (lv_room (Nat.le_of_ble_eq_true rfl)) dX0_readBehind_140 ⟨(Nat.le_of_ble_eq_true rfl), (Nat.le_of_ble_eq_true rfl)⟩) g hK (by decide) (by decide) (fx' := [(0, 3, a0_, .ref a_25), (0, 0, a0_, .ref q0_), (0, 1, a0_, .ref q1_), (0, 2, a0_, .ref q2_), (5, 1, q1_, .ref q3_)]) rfl (fun fr_51 H locs hp hMr_51 g => ?_)
                rcases hp with ⟨x_52, h_53, x_54, h_55, x_56, h_57, x_58, h_59, x_60, h_61, hF_62⟩ | ⟨x_63, h_64, x_65, h_66, x_67, h_68, x_69, h_70, hF_71⟩
                · have hG_72 := eOK.frame hMr_51 go_.2.2.2.1 ma0_ ka0_ (by decide) (by decide) hG_20
                  have g := g.more hF_62
                  refine lv_goto (tgt := 199) hx hb dX0_readBehind_143 (by decide) ?_
                  subst hQ
                  exact W.vret hx hb hr (fun t ht hW => ⟨⟨_, rfl, Or.inl ⟨hG_72, x_60, h_61, (g.fcts [5] rfl)⟩, q3_of g hK ht hW⟩, g.2.2.1.F ht⟩) g.2.2.1.2.2 dX0_readBehind_199
                · have hG_73 := eOK.frame hMr_51 go_.2.2.2.1 ma0_ ka0_ (by decide) (by decide) hG_20
                  have g := g.more hF_71
                  refine lv_goto (tgt := 199) hx hb dX0_readBehind_143 (by decide) ?_
                  subst hQ
                  exact W.vret hx hb hr (fun t ht hW => ⟨⟨_, rfl, Or.inr (⟨hG_73, x_67, h_68, (g.fcts [2, 4] rfl)⟩), q3_of g hK ht hW⟩, g.2.2.1.F ht⟩) g.2.2.1.2.2 dX0_readBehind_199
            · have fc_32 := neq_f c_32
              refine lv_aload_n hx hb dX0_readBehind_118 rfl (lv_at hl 1 rfl) ?_
              refine g_getk (C := RX0) (T := TX0) (N := 14) hx hb hts (mc_ inX0) hown hK g rfl 3 (by decide) rfl (hts _ (List.mem_cons_of_mem _ t_376)) (fun _ h9 => h9) 0 rfl dX0_readBehind_119 ?_
              refine lv_aload_n hx hb dX0_readBehind_122 rfl (lv_at hl 1 rfl) ?_
              refine g_getk (C := RX0) (T := TX0) (N := 14) hx hb hts (mc_ inX0) hown hK g rfl 8 (by decide) rfl (hts _ (List.mem_cons_of_mem _ t_381)) (fun _ h9 => h9) 1 rfl dX0_readBehind_123 ?_
              refine lv_iconst (v := 1) hx hb dX0_readBehind_126 (by decide) ?_
              refine lv_isub hx hb dX0_readBehind_127 ?_
              refine lv_topi (fun y_74 ey_74 => ?_)
              obtain rfl : y_26 = y_74 := ey_26.trans ey_74.symm
              refine g_iald hx hb hK g ma_25 ka_25 (by decide) rfl (in_bd b_27 (by decide)) dX0_readBehind_128 (fun x_75 bx_75 cx_75 => ?_)
              obtain rfl : x_28 = x_75 := el_same cx_28 cx_75 rfl
              refine lv_iconst (v := 5) hx hb dX0_readBehind_129 (by decide) ?_
              have kb_5 : bd 5 5 (5 : Int32) := ⟨by decide, by decide⟩
              refine lv_icmp_ne (tgt := 146) hx hb dX0_readBehind_130 (by decide) (fun c_76 => ?_) (fun c_76 => ?_)
              · have fc_76 := neq_f c_76
                refine lv_aload_n hx hb dX0_readBehind_146 rfl (lv_at hl 1 rfl) ?_
                refine g_getk (C := RX0) (T := TX0) (N := 14) hx hb hts (mc_ inX0) hown hK g rfl 3 (by decide) rfl (hts _ (List.mem_cons_of_mem _ t_376)) (fun _ h9 => h9) 0 rfl dX0_readBehind_147 ?_
                refine lv_aload_n hx hb dX0_readBehind_150 rfl (lv_at hl 1 rfl) ?_
                refine g_getk (C := RX0) (T := TX0) (N := 14) hx hb hts (mc_ inX0) hown hK g rfl 8 (by decide) rfl (hts _ (List.mem_cons_of_mem _ t_381)) (fun _ h9 => h9) 1 rfl dX0_readBehind_151 ?_
                refine lv_iconst (v := 1) hx hb dX0_readBehind_154 (by decide) ?_
                refine lv_isub hx hb dX0_readBehind_155 ?_
                refine lv_topi (fun y_77 ey_77 => ?_)
                obtain rfl : y_26 = y_77 := ey_26.trans ey_77.symm
                refine g_iald hx hb hK g ma_25 ka_25 (by decide) rfl (in_bd b_27 (by decide)) dX0_readBehind_156 (fun x_78 bx_78 cx_78 => ?_)
                obtain rfl : x_28 = x_78 := el_same cx_28 cx_78 rfl
                refine lv_iconst (v := 2) hx hb dX0_readBehind_157 (by decide) ?_
                have kb_2 : bd 2 2 (2 : Int32) := ⟨by decide, by decide⟩
                refine lv_icmp_eq (tgt := 176) hx hb dX0_readBehind_158 (by decide) (fun c_79 => ?_) (fun c_79 => ?_)
                · have fc_79 := eq_f c_79
                  have b_80 : bd 2 2 x_28 := eqX fc_79 (bdT x_28) kb_2 (by decide)
                  refine lv_aload_n hx hb dX0_readBehind_176 rfl (lv_at hl 1 rfl) ?_
                  refine lv_iload_n hx hb dX0_readBehind_177 rfl (lv_at hl 2 rfl) ?_
                  have go_ := g
                  refine g_callv (va_runV (As := [.int x1_]) (rest := []) ⟨hx, hb, hml, hown, hts⟩ (r_X0_closeArgument l dC dI L kd tys fr_7 H.size g.2.2.2.1 a0_ ma0_ ka0_ x1_ q0_ mq0_ kq0_ q1_ mq1_ kq1_ q2_ mq2_ kq2_ a_25 ma_25 ka_25 q3_ mq3_ kq3_ x_22 b_24 x_8 h_9 hG_20 (fun z hz => t2_ cx_28 hz (t1_ ty_26) (bd_sub b_80 (by decide))) (g.fcts [3, 4, 5, 0, 6, 1, 2] rfl)) (cwV 1 hts (gV_ t_1230 t_1232 t_21 t_190 t_1233) rfl rfl rfl (by decide +kernel) ⟨(Nat.le_of_ble_eq_true rfl), (Nat.le_of_ble_eq_true rfl)⟩) (pre3V g hK ma0_ ka0_ (by decide) (q := (RX0, TX0, 14)) rfl) rfl rfl hl.1 rfl (lv_room (Nat.le_of_ble_eq_true rfl)) dX0_readBehind_178 ⟨(Nat.le_of_ble_eq_true rfl), (Nat.le_of_ble_eq_true rfl)⟩) g hK (by decide) (by decide) (fx' := [(0, 3, a0_, .ref a_25), (0, 0, a0_, .ref q0_), (0, 1, a0_, .ref q1_), (0, 2, a0_, .ref q2_), (5, 1, q1_, .ref q3_)]) rfl (fun fr_81 H locs hp hMr_81 g => ?_)
                  rcases hp with ⟨h_82, x_83, h_84, x_85, h_86, hF_87⟩ | ⟨x_88, h_89, hF_90⟩
                  · have hG_91 := eOK.frame hMr_81 go_.2.2.2.1 ma0_ ka0_ (by decide) (by decide) hG_20
                    have b_92 : bd 41 44 x1_ := eqX rfl (bdT x1_) h_82 (by decide)
                    have g := g.more hF_87
                    refine lv_goto (tgt := 199) hx hb dX0_readBehind_181 (by decide) ?_
                    subst hQ
                    exact W.vret hx hb hr (fun t ht hW => ⟨⟨_, rfl, Or.inl ⟨hG_91, x_85, h_86, (g.fcts [1] rfl)⟩, q3_of g hK ht hW⟩, g.2.2.1.F ht⟩) g.2.2.1.2.2 dX0_readBehind_199
                  · have hG_93 := eOK.frame hMr_81 go_.2.2.2.1 ma0_ ka0_ (by decide) (by decide) hG_20
                    have g := g.more hF_90
                    refine lv_goto (tgt := 199) hx hb dX0_readBehind_181 (by decide) ?_
                    subst hQ
                    exact W.vret hx hb hr (fun t ht hW => ⟨⟨_, rfl, Or.inr (⟨hG_93, x_88, h_89, (g.fcts [0, 1] rfl)⟩), q3_of g hK ht hW⟩, g.2.2.1.F ht⟩) g.2.2.1.2.2 dX0_readBehind_199
                · have fc_79 := neq_f c_79
                  refine lv_aload_n hx hb dX0_readBehind_161 rfl (lv_at hl 1 rfl) ?_
                  refine g_getk (C := RX0) (T := TX0) (N := 14) hx hb hts (mc_ inX0) hown hK g rfl 3 (by decide) rfl (hts _ (List.mem_cons_of_mem _ t_376)) (fun _ h9 => h9) 0 rfl dX0_readBehind_162 ?_
                  refine lv_aload_n hx hb dX0_readBehind_165 rfl (lv_at hl 1 rfl) ?_
                  refine g_getk (C := RX0) (T := TX0) (N := 14) hx hb hts (mc_ inX0) hown hK g rfl 8 (by decide) rfl (hts _ (List.mem_cons_of_mem _ t_381)) (fun _ h9 => h9) 1 rfl dX0_readBehind_166 ?_
                  refine lv_iconst (v := 1) hx hb dX0_readBehind_169 (by decide) ?_
                  refine lv_isub hx hb dX0_readBehind_170 ?_
                  refine lv_topi (fun y_94 ey_94 => ?_)
                  obtain rfl : y_26 = y_94 := ey_26.trans ey_94.symm
                  refine g_iald hx hb hK g ma_25 ka_25 (by decide) rfl (in_bd b_27 (by decide)) dX0_readBehind_171 (fun x_95 bx_95 cx_95 => ?_)
                  obtain rfl : x_28 = x_95 := el_same cx_28 cx_95 rfl
                  refine lv_iconst (v := 3) hx hb dX0_readBehind_172 (by decide) ?_
                  have kb_3 : bd 3 3 (3 : Int32) := ⟨by decide, by decide⟩
                  refine lv_icmp_ne (tgt := 184) hx hb dX0_readBehind_173 (by decide) (fun c_96 => ?_) (fun c_96 => ?_)
                  · have fc_96 := neq_f c_96
                    refine lv_aload_n hx hb dX0_readBehind_184 rfl (lv_at hl 1 rfl) ?_
                    refine g_getk (C := RX0) (T := TX0) (N := 14) hx hb hts (mc_ inX0) hown hK g rfl 0 (by decide) rfl (hts _ (List.mem_cons_of_mem _ t_373)) (fun _ h9 => h9) 3 rfl dX0_readBehind_185 ?_
                    refine lv_iconst (v := 1) hx hb dX0_readBehind_188 (by decide) ?_
                    refine lv_aload_n hx hb dX0_readBehind_189 rfl (lv_at hl 1 rfl) ?_
                    refine g_getk (C := RX0) (T := TX0) (N := 14) hx hb hts (mc_ inX0) hown hK g rfl 0 (by decide) rfl (hts _ (List.mem_cons_of_mem _ t_373)) (fun _ h9 => h9) 3 rfl dX0_readBehind_190 ?_
                    have go_ := g
                    refine g_calli (va_runV (As := []) (rest := [.int 1, .ref q0_]) ⟨hx, hb, hml, hown, hts⟩ (r_X8_place l dC dI L kd tys fr_7 H.size g.2.2.2.1 q0_ mq0_ kq0_) (cwV 0 hts (gV_ t_1220 t_1111 t_1112 t_184 t_1113) rfl rfl rfl (by decide +kernel) ⟨(Nat.le_of_ble_eq_true rfl), (Nat.le_of_ble_eq_true rfl)⟩) (pre3V g hK mq0_ kq0_ (by decide) (q := (RX8, TX8, 10)) rfl) rfl rfl hl.1 rfl (lv_room (Nat.le_of_ble_eq_true rfl)) dX0_readBehind_193 ⟨(Nat.le_of_ble_eq_true rfl), (Nat.le_of_ble_eq_true rfl)⟩) g hK (by decide) (by decide) (fx' := [(0, 3, a0_, .ref a_25), (0, 8, a0_, .int x_22), (8, 8, q0_, .int x_8), (0, 0, a0_, .ref q0_), (0, 1, a0_, .ref q1_), (0, 2, a0_, .ref q2_), (5, 1, q1_, .ref q3_)]) rfl (fun r_97 fr_97 H locs hp hMr_97 g => ?_)
                    have hG_98 := eOK.frame hMr_97 go_.2.2.2.1 ma0_ ka0_ (by decide) (by decide) hG_20
                    have go_ := g
                    refine g_callv (va_runV (As := [.int 1, .int r_97]) (rest := []) ⟨hx, hb, hml, hown, hts⟩ (r_X8_fail l dC dI L kd tys fr_97 H.size g.2.2.2.1 q0_ mq0_ kq0_ 1 (bd_sub kb_1 (by decide)) r_97 x_8 h_9 (g.fcts [2] rfl)) (cwV 2 hts (gV_ t_1215 t_1107 t_1108 t_184 t_1109) rfl rfl rfl (by decide +kernel) ⟨(Nat.le_of_ble_eq_true rfl), (Nat.le_of_ble_eq_true rfl)⟩) (pre3V g hK mq0_ kq0_ (by decide) (q := (RX8, TX8, 10)) rfl) rfl rfl hl.1 rfl (lv_room (Nat.le_of_ble_eq_true rfl)) dX0_readBehind_196 ⟨(Nat.le_of_ble_eq_true rfl), (Nat.le_of_ble_eq_true rfl)⟩) g hK (by decide) (by decide) (fx' := [(0, 3, a0_, .ref a_25), (0, 8, a0_, .int x_22), (0, 0, a0_, .ref q0_), (0, 1, a0_, .ref q1_), (0, 2, a0_, .ref q2_), (5, 1, q1_, .ref q3_)]) rfl (fun fr_99 H locs hp hMr_99 g => ?_)
                    obtain ⟨x_100, h_101, hF_102⟩ := hp
                    have hG_103 := eOK.frame hMr_99 go_.2.2.2.1 ma0_ ka0_ (by decide) (by decide) hG_98
                    have g := g.more hF_102
                    subst hQ
                    exact W.vret hx hb hr (fun t ht hW => ⟨⟨_, rfl, Or.inr (⟨hG_103, x_100, h_101, (g.fcts [0, 1] rfl)⟩), q3_of g hK ht hW⟩, g.2.2.1.F ht⟩) g.2.2.1.2.2 dX0_readBehind_199
                  · have fc_96 := eq_f c_96
                    have b_104 : bd 3 3 x_28 := eqX fc_96 (bdT x_28) kb_3 (by decide)
                    refine lv_aload_n hx hb dX0_readBehind_176 rfl (lv_at hl 1 rfl) ?_
                    refine lv_iload_n hx hb dX0_readBehind_177 rfl (lv_at hl 2 rfl) ?_
                    have go_ := g
                    refine g_callv (va_runV (As := [.int x1_]) (rest := []) ⟨hx, hb, hml, hown, hts⟩ (r_X0_closeArgument l dC dI L kd tys fr_7 H.size g.2.2.2.1 a0_ ma0_ ka0_ x1_ q0_ mq0_ kq0_ q1_ mq1_ kq1_ q2_ mq2_ kq2_ a_25 ma_25 ka_25 q3_ mq3_ kq3_ x_22 b_24 x_8 h_9 hG_20 (fun z hz => t2_ cx_28 hz (t1_ ty_26) (bd_sub b_104 (by decide))) (g.fcts [3, 4, 5, 0, 6, 1, 2] rfl)) (cwV 1 hts (gV_ t_1230 t_1232 t_21 t_190 t_1233) rfl rfl rfl (by decide +kernel) ⟨(Nat.le_of_ble_eq_true rfl), (Nat.le_of_ble_eq_true rfl)⟩) (pre3V g hK ma0_ ka0_ (by decide) (q := (RX0, TX0, 14)) rfl) rfl rfl hl.1 rfl (lv_room (Nat.le_of_ble_eq_true rfl)) dX0_readBehind_178 ⟨(Nat.le_of_ble_eq_true rfl), (Nat.le_of_ble_eq_true rfl)⟩) g hK (by decide) (by decide) (fx' := [(0, 3, a0_, .ref a_25), (0, 0, a0_, .ref q0_), (0, 1, a0_, .ref q1_), (0, 2, a0_, .ref q2_), (5, 1, q1_, .ref q3_)]) rfl (fun fr_105 H locs hp hMr_105 g => ?_)
                    rcases hp with ⟨h_106, x_107, h_108, x_109, h_110, hF_111⟩ | ⟨x_112, h_113, hF_114⟩
                    · have hG_115 := eOK.frame hMr_105 go_.2.2.2.1 ma0_ ka0_ (by decide) (by decide) hG_20
                      have b_116 : bd 41 44 x1_ := eqX rfl (bdT x1_) h_106 (by decide)
                      have g := g.more hF_111
                      refine lv_goto (tgt := 199) hx hb dX0_readBehind_181 (by decide) ?_
                      subst hQ
                      exact W.vret hx hb hr (fun t ht hW => ⟨⟨_, rfl, Or.inl ⟨hG_115, x_109, h_110, (g.fcts [1] rfl)⟩, q3_of g hK ht hW⟩, g.2.2.1.F ht⟩) g.2.2.1.2.2 dX0_readBehind_199
                    · have hG_117 := eOK.frame hMr_105 go_.2.2.2.1 ma0_ ka0_ (by decide) (by decide) hG_20
                      have g := g.more hF_114
                      refine lv_goto (tgt := 199) hx hb dX0_readBehind_181 (by decide) ?_
                      subst hQ
                      exact W.vret hx hb hr (fun t ht hW => ⟨⟨_, rfl, Or.inr (⟨hG_117, x_112, h_113, (g.fcts [0, 1] rfl)⟩), q3_of g hK ht hW⟩, g.2.2.1.F ht⟩) g.2.2.1.2.2 dX0_readBehind_199
              · have fc_76 := eq_f c_76
                have b_118 : bd 5 5 x_28 := eqX fc_76 (bdT x_28) kb_5 (by decide)
                refine lv_iload_n hx hb dX0_readBehind_133 rfl (lv_at hl 2 rfl) ?_
                refine lv_bipush (v := 93) hx hb dX0_readBehind_134 (by decide) ?_
                have kb_93 : bd 93 93 (93 : Int32) := ⟨by decide, by decide⟩
                refine lv_icmp_ne (tgt := 146) hx hb dX0_readBehind_136 (by decide) (fun c_119 => ?_) (fun c_119 => ?_)
                · have fc_119 := neq_f c_119
                  refine lv_aload_n hx hb dX0_readBehind_146 rfl (lv_at hl 1 rfl) ?_
                  refine g_getk (C := RX0) (T := TX0) (N := 14) hx hb hts (mc_ inX0) hown hK g rfl 3 (by decide) rfl (hts _ (List.mem_cons_of_mem _ t_376)) (fun _ h9 => h9) 0 rfl dX0_readBehind_147 ?_
                  refine lv_aload_n hx hb dX0_readBehind_150 rfl (lv_at hl 1 rfl) ?_
                  refine g_getk (C := RX0) (T := TX0) (N := 14) hx hb hts (mc_ inX0) hown hK g rfl 8 (by decide) rfl (hts _ (List.mem_cons_of_mem _ t_381)) (fun _ h9 => h9) 1 rfl dX0_readBehind_151 ?_
                  refine lv_iconst (v := 1) hx hb dX0_readBehind_154 (by decide) ?_
                  refine lv_isub hx hb dX0_readBehind_155 ?_
                  refine lv_topi (fun y_120 ey_120 => ?_)
                  obtain rfl : y_26 = y_120 := ey_26.trans ey_120.symm
                  refine g_iald hx hb hK g ma_25 ka_25 (by decide) rfl (in_bd b_27 (by decide)) dX0_readBehind_156 (fun x_121 bx_121 cx_121 => ?_)
                  obtain rfl : x_28 = x_121 := el_same cx_28 cx_121 rfl
                  refine lv_iconst (v := 2) hx hb dX0_readBehind_157 (by decide) ?_
                  have kb_2 : bd 2 2 (2 : Int32) := ⟨by decide, by decide⟩
                  refine lv_icmp_eq (tgt := 176) hx hb dX0_readBehind_158 (by decide) (fun c_122 => ?_) (fun c_122 => ?_)
                  · have fc_122 := eq_f c_122
                    have b_123 : bd 5 2 x_28 := eqX fc_122 b_118 kb_2 (by decide)
                    exact bd_no b_123 (by decide)
                  · have fc_122 := neq_f c_122
                    refine lv_aload_n hx hb dX0_readBehind_161 rfl (lv_at hl 1 rfl) ?_
                    refine g_getk (C := RX0) (T := TX0) (N := 14) hx hb hts (mc_ inX0) hown hK g rfl 3 (by decide) rfl (hts _ (List.mem_cons_of_mem _ t_376)) (fun _ h9 => h9) 0 rfl dX0_readBehind_162 ?_
                    refine lv_aload_n hx hb dX0_readBehind_165 rfl (lv_at hl 1 rfl) ?_
                    refine g_getk (C := RX0) (T := TX0) (N := 14) hx hb hts (mc_ inX0) hown hK g rfl 8 (by decide) rfl (hts _ (List.mem_cons_of_mem _ t_381)) (fun _ h9 => h9) 1 rfl dX0_readBehind_166 ?_
                    refine lv_iconst (v := 1) hx hb dX0_readBehind_169 (by decide) ?_
                    refine lv_isub hx hb dX0_readBehind_170 ?_
                    refine lv_topi (fun y_124 ey_124 => ?_)
                    obtain rfl : y_26 = y_124 := ey_26.trans ey_124.symm
                    refine g_iald hx hb hK g ma_25 ka_25 (by decide) rfl (in_bd b_27 (by decide)) dX0_readBehind_171 (fun x_125 bx_125 cx_125 => ?_)
                    obtain rfl : x_28 = x_125 := el_same cx_28 cx_125 rfl
                    refine lv_iconst (v := 3) hx hb dX0_readBehind_172 (by decide) ?_
                    have kb_3 : bd 3 3 (3 : Int32) := ⟨by decide, by decide⟩
                    refine lv_icmp_ne (tgt := 184) hx hb dX0_readBehind_173 (by decide) (fun c_126 => ?_) (fun c_126 => ?_)
                    · have fc_126 := neq_f c_126
                      refine lv_aload_n hx hb dX0_readBehind_184 rfl (lv_at hl 1 rfl) ?_
                      refine g_getk (C := RX0) (T := TX0) (N := 14) hx hb hts (mc_ inX0) hown hK g rfl 0 (by decide) rfl (hts _ (List.mem_cons_of_mem _ t_373)) (fun _ h9 => h9) 3 rfl dX0_readBehind_185 ?_
                      refine lv_iconst (v := 1) hx hb dX0_readBehind_188 (by decide) ?_
                      refine lv_aload_n hx hb dX0_readBehind_189 rfl (lv_at hl 1 rfl) ?_
                      refine g_getk (C := RX0) (T := TX0) (N := 14) hx hb hts (mc_ inX0) hown hK g rfl 0 (by decide) rfl (hts _ (List.mem_cons_of_mem _ t_373)) (fun _ h9 => h9) 3 rfl dX0_readBehind_190 ?_
                      have go_ := g
                      refine g_calli (va_runV (As := []) (rest := [.int 1, .ref q0_]) ⟨hx, hb, hml, hown, hts⟩ (r_X8_place l dC dI L kd tys fr_7 H.size g.2.2.2.1 q0_ mq0_ kq0_) (cwV 0 hts (gV_ t_1220 t_1111 t_1112 t_184 t_1113) rfl rfl rfl (by decide +kernel) ⟨(Nat.le_of_ble_eq_true rfl), (Nat.le_of_ble_eq_true rfl)⟩) (pre3V g hK mq0_ kq0_ (by decide) (q := (RX8, TX8, 10)) rfl) rfl rfl hl.1 rfl (lv_room (Nat.le_of_ble_eq_true rfl)) dX0_readBehind_193 ⟨(Nat.le_of_ble_eq_true rfl), (Nat.le_of_ble_eq_true rfl)⟩) g hK (by decide) (by decide) (fx' := [(0, 3, a0_, .ref a_25), (0, 8, a0_, .int x_22), (8, 8, q0_, .int x_8), (0, 0, a0_, .ref q0_), (0, 1, a0_, .ref q1_), (0, 2, a0_, .ref q2_), (5, 1, q1_, .ref q3_)]) rfl (fun r_127 fr_127 H locs hp hMr_127 g => ?_)
                      have hG_128 := eOK.frame hMr_127 go_.2.2.2.1 ma0_ ka0_ (by decide) (by decide) hG_20
                      have go_ := g
                      refine g_callv (va_runV (As := [.int 1, .int r_127]) (rest := []) ⟨hx, hb, hml, hown, hts⟩ (r_X8_fail l dC dI L kd tys fr_127 H.size g.2.2.2.1 q0_ mq0_ kq0_ 1 (bd_sub kb_1 (by decide)) r_127 x_8 h_9 (g.fcts [2] rfl)) (cwV 2 hts (gV_ t_1215 t_1107 t_1108 t_184 t_1109) rfl rfl rfl (by decide +kernel) ⟨(Nat.le_of_ble_eq_true rfl), (Nat.le_of_ble_eq_true rfl)⟩) (pre3V g hK mq0_ kq0_ (by decide) (q := (RX8, TX8, 10)) rfl) rfl rfl hl.1 rfl (lv_room (Nat.le_of_ble_eq_true rfl)) dX0_readBehind_196 ⟨(Nat.le_of_ble_eq_true rfl), (Nat.le_of_ble_eq_true rfl)⟩) g hK (by decide) (by decide) (fx' := [(0, 3, a0_, .ref a_25), (0, 8, a0_, .int x_22), (0, 0, a0_, .ref q0_), (0, 1, a0_, .ref q1_), (0, 2, a0_, .ref q2_), (5, 1, q1_, .ref q3_)]) rfl (fun fr_129 H locs hp hMr_129 g => ?_)
                      obtain ⟨x_130, h_131, hF_132⟩ := hp
                      have hG_133 := eOK.frame hMr_129 go_.2.2.2.1 ma0_ ka0_ (by decide) (by decide) hG_128
                      have g := g.more hF_132
                      subst hQ
                      exact W.vret hx hb hr (fun t ht hW => ⟨⟨_, rfl, Or.inr (⟨hG_133, x_130, h_131, (g.fcts [0, 1] rfl)⟩), q3_of g hK ht hW⟩, g.2.2.1.F ht⟩) g.2.2.1.2.2 dX0_readBehind_199
                    · have fc_126 := eq_f c_126
                      have b_134 : bd 5 3 x_28 := eqX fc_126 b_118 kb_3 (by decide)
                      exact bd_no b_134 (by decide)
                · have fc_119 := eq_f c_119
                  have b_135 : bd 93 93 x1_ := eqX fc_119 (bdT x1_) kb_93 (by decide)
                  refine lv_aload_n hx hb dX0_readBehind_139 rfl (lv_at hl 1 rfl) ?_
                  have go_ := g
                  refine g_callv (va_runV (As := []) (rest := []) ⟨hx, hb, hml, hown, hts⟩ (r_X0_closeIndex l dC dI L kd tys fr_7 H.size g.2.2.2.1 a0_ ma0_ ka0_ q0_ mq0_ kq0_ q2_ mq2_ kq2_ x_22 b_24 x_8 h_9 (g.fcts [3, 5, 1, 2] rfl)) (cwV 0 hts (gV_ t_1226 t_1228 t_20 t_190 t_1229) rfl rfl rfl (by decide +kernel) ⟨(Nat.le_of_ble_eq_true rfl), (Nat.le_of_ble_eq_true rfl)⟩) (pre3V g hK ma0_ ka0_ (by decide) (q := (RX0, TX0, 14)) rfl) rfl rfl hl.1 rfl (lv_room (Nat.le_of_ble_eq_true rfl)) dX0_readBehind_140 ⟨(Nat.le_of_ble_eq_true rfl), (Nat.le_of_ble_eq_true rfl)⟩) g hK (by decide) (by decide) (fx' := [(0, 3, a0_, .ref a_25), (0, 0, a0_, .ref q0_), (0, 1, a0_, .ref q1_), (0, 2, a0_, .ref q2_), (5, 1, q1_, .ref q3_)]) rfl (fun fr_136 H locs hp hMr_136 g => ?_)
                  rcases hp with ⟨x_137, h_138, x_139, h_140, x_141, h_142, x_143, h_144, x_145, h_146, hF_147⟩ | ⟨x_148, h_149, x_150, h_151, x_152, h_153, x_154, h_155, hF_156⟩
                  · have hG_157 := eOK.frame hMr_136 go_.2.2.2.1 ma0_ ka0_ (by decide) (by decide) hG_20
                    have g := g.more hF_147
                    refine lv_goto (tgt := 199) hx hb dX0_readBehind_143 (by decide) ?_
                    subst hQ
                    exact W.vret hx hb hr (fun t ht hW => ⟨⟨_, rfl, Or.inl ⟨hG_157, x_145, h_146, (g.fcts [5] rfl)⟩, q3_of g hK ht hW⟩, g.2.2.1.F ht⟩) g.2.2.1.2.2 dX0_readBehind_199
                  · have hG_158 := eOK.frame hMr_136 go_.2.2.2.1 ma0_ ka0_ (by decide) (by decide) hG_20
                    have g := g.more hF_156
                    refine lv_goto (tgt := 199) hx hb dX0_readBehind_143 (by decide) ?_
                    subst hQ
                    exact W.vret hx hb hr (fun t ht hW => ⟨⟨_, rfl, Or.inr (⟨hG_158, x_152, h_153, (g.fcts [2, 4] rfl)⟩), q3_of g hK ht hW⟩, g.2.2.1.F ht⟩) g.2.2.1.2.2 dX0_readBehind_199
          · have fc_29 := eq_f c_29
            have b_159 : bd 1 1 x_28 := eqX fc_29 (bdT x_28) kb_1 (by decide)
            refine lv_iload_n hx hb dX0_readBehind_67 rfl (lv_at hl 2 rfl) ?_
            refine lv_bipush (v := 41) hx hb dX0_readBehind_68 (by decide) ?_
            have kb_41 : bd 41 41 (41 : Int32) := ⟨by decide, by decide⟩
            refine lv_icmp_ne (tgt := 103) hx hb dX0_readBehind_70 (by decide) (fun c_160 => ?_) (fun c_160 => ?_)
            · have fc_160 := neq_f c_160
              refine lv_aload_n hx hb dX0_readBehind_103 rfl (lv_at hl 1 rfl) ?_
              refine g_getk (C := RX0) (T := TX0) (N := 14) hx hb hts (mc_ inX0) hown hK g rfl 3 (by decide) rfl (hts _ (List.mem_cons_of_mem _ t_376)) (fun _ h9 => h9) 0 rfl dX0_readBehind_104 ?_
              refine lv_aload_n hx hb dX0_readBehind_107 rfl (lv_at hl 1 rfl) ?_
              refine g_getk (C := RX0) (T := TX0) (N := 14) hx hb hts (mc_ inX0) hown hK g rfl 8 (by decide) rfl (hts _ (List.mem_cons_of_mem _ t_381)) (fun _ h9 => h9) 1 rfl dX0_readBehind_108 ?_
              refine lv_iconst (v := 1) hx hb dX0_readBehind_111 (by decide) ?_
              refine lv_isub hx hb dX0_readBehind_112 ?_
              refine lv_topi (fun y_161 ey_161 => ?_)
              obtain rfl : y_26 = y_161 := ey_26.trans ey_161.symm
              refine g_iald hx hb hK g ma_25 ka_25 (by decide) rfl (in_bd b_27 (by decide)) dX0_readBehind_113 (fun x_162 bx_162 cx_162 => ?_)
              obtain rfl : x_28 = x_162 := el_same cx_28 cx_162 rfl
              refine lv_iconst (v := 4) hx hb dX0_readBehind_114 (by decide) ?_
              have kb_4 : bd 4 4 (4 : Int32) := ⟨by decide, by decide⟩
              refine lv_icmp_eq (tgt := 133) hx hb dX0_readBehind_115 (by decide) (fun c_163 => ?_) (fun c_163 => ?_)
              · have fc_163 := eq_f c_163
                have b_164 : bd 4 1 x_28 := eqX fc_163 b_159 kb_4 (by decide)
                exact bd_no b_164 (by decide)
              · have fc_163 := neq_f c_163
                refine lv_aload_n hx hb dX0_readBehind_118 rfl (lv_at hl 1 rfl) ?_
                refine g_getk (C := RX0) (T := TX0) (N := 14) hx hb hts (mc_ inX0) hown hK g rfl 3 (by decide) rfl (hts _ (List.mem_cons_of_mem _ t_376)) (fun _ h9 => h9) 0 rfl dX0_readBehind_119 ?_
                refine lv_aload_n hx hb dX0_readBehind_122 rfl (lv_at hl 1 rfl) ?_
                refine g_getk (C := RX0) (T := TX0) (N := 14) hx hb hts (mc_ inX0) hown hK g rfl 8 (by decide) rfl (hts _ (List.mem_cons_of_mem _ t_381)) (fun _ h9 => h9) 1 rfl dX0_readBehind_123 ?_
                refine lv_iconst (v := 1) hx hb dX0_readBehind_126 (by decide) ?_
                refine lv_isub hx hb dX0_readBehind_127 ?_
                refine lv_topi (fun y_165 ey_165 => ?_)
                obtain rfl : y_26 = y_165 := ey_26.trans ey_165.symm
                refine g_iald hx hb hK g ma_25 ka_25 (by decide) rfl (in_bd b_27 (by decide)) dX0_readBehind_128 (fun x_166 bx_166 cx_166 => ?_)
                obtain rfl : x_28 = x_166 := el_same cx_28 cx_166 rfl
                refine lv_iconst (v := 5) hx hb dX0_readBehind_129 (by decide) ?_
                have kb_5 : bd 5 5 (5 : Int32) := ⟨by decide, by decide⟩
                refine lv_icmp_ne (tgt := 146) hx hb dX0_readBehind_130 (by decide) (fun c_167 => ?_) (fun c_167 => ?_)
                · have fc_167 := neq_f c_167
                  refine lv_aload_n hx hb dX0_readBehind_146 rfl (lv_at hl 1 rfl) ?_
                  refine g_getk (C := RX0) (T := TX0) (N := 14) hx hb hts (mc_ inX0) hown hK g rfl 3 (by decide) rfl (hts _ (List.mem_cons_of_mem _ t_376)) (fun _ h9 => h9) 0 rfl dX0_readBehind_147 ?_
                  refine lv_aload_n hx hb dX0_readBehind_150 rfl (lv_at hl 1 rfl) ?_
                  refine g_getk (C := RX0) (T := TX0) (N := 14) hx hb hts (mc_ inX0) hown hK g rfl 8 (by decide) rfl (hts _ (List.mem_cons_of_mem _ t_381)) (fun _ h9 => h9) 1 rfl dX0_readBehind_151 ?_
                  refine lv_iconst (v := 1) hx hb dX0_readBehind_154 (by decide) ?_
                  refine lv_isub hx hb dX0_readBehind_155 ?_
                  refine lv_topi (fun y_168 ey_168 => ?_)
                  obtain rfl : y_26 = y_168 := ey_26.trans ey_168.symm
                  refine g_iald hx hb hK g ma_25 ka_25 (by decide) rfl (in_bd b_27 (by decide)) dX0_readBehind_156 (fun x_169 bx_169 cx_169 => ?_)
                  obtain rfl : x_28 = x_169 := el_same cx_28 cx_169 rfl
                  refine lv_iconst (v := 2) hx hb dX0_readBehind_157 (by decide) ?_
                  have kb_2 : bd 2 2 (2 : Int32) := ⟨by decide, by decide⟩
                  refine lv_icmp_eq (tgt := 176) hx hb dX0_readBehind_158 (by decide) (fun c_170 => ?_) (fun c_170 => ?_)
                  · have fc_170 := eq_f c_170
                    have b_171 : bd 2 1 x_28 := eqX fc_170 b_159 kb_2 (by decide)
                    exact bd_no b_171 (by decide)
                  · have fc_170 := neq_f c_170
                    refine lv_aload_n hx hb dX0_readBehind_161 rfl (lv_at hl 1 rfl) ?_
                    refine g_getk (C := RX0) (T := TX0) (N := 14) hx hb hts (mc_ inX0) hown hK g rfl 3 (by decide) rfl (hts _ (List.mem_cons_of_mem _ t_376)) (fun _ h9 => h9) 0 rfl dX0_readBehind_162 ?_
                    refine lv_aload_n hx hb dX0_readBehind_165 rfl (lv_at hl 1 rfl) ?_
                    refine g_getk (C := RX0) (T := TX0) (N := 14) hx hb hts (mc_ inX0) hown hK g rfl 8 (by decide) rfl (hts _ (List.mem_cons_of_mem _ t_381)) (fun _ h9 => h9) 1 rfl dX0_readBehind_166 ?_
                    refine lv_iconst (v := 1) hx hb dX0_readBehind_169 (by decide) ?_
                    refine lv_isub hx hb dX0_readBehind_170 ?_
                    refine lv_topi (fun y_172 ey_172 => ?_)
                    obtain rfl : y_26 = y_172 := ey_26.trans ey_172.symm
                    refine g_iald hx hb hK g ma_25 ka_25 (by decide) rfl (in_bd b_27 (by decide)) dX0_readBehind_171 (fun x_173 bx_173 cx_173 => ?_)
                    obtain rfl : x_28 = x_173 := el_same cx_28 cx_173 rfl
                    refine lv_iconst (v := 3) hx hb dX0_readBehind_172 (by decide) ?_
                    have kb_3 : bd 3 3 (3 : Int32) := ⟨by decide, by decide⟩
                    refine lv_icmp_ne (tgt := 184) hx hb dX0_readBehind_173 (by decide) (fun c_174 => ?_) (fun c_174 => ?_)
                    · have fc_174 := neq_f c_174
                      refine lv_aload_n hx hb dX0_readBehind_184 rfl (lv_at hl 1 rfl) ?_
                      refine g_getk (C := RX0) (T := TX0) (N := 14) hx hb hts (mc_ inX0) hown hK g rfl 0 (by decide) rfl (hts _ (List.mem_cons_of_mem _ t_373)) (fun _ h9 => h9) 3 rfl dX0_readBehind_185 ?_
                      refine lv_iconst (v := 1) hx hb dX0_readBehind_188 (by decide) ?_
                      refine lv_aload_n hx hb dX0_readBehind_189 rfl (lv_at hl 1 rfl) ?_
                      refine g_getk (C := RX0) (T := TX0) (N := 14) hx hb hts (mc_ inX0) hown hK g rfl 0 (by decide) rfl (hts _ (List.mem_cons_of_mem _ t_373)) (fun _ h9 => h9) 3 rfl dX0_readBehind_190 ?_
                      have go_ := g
                      refine g_calli (va_runV (As := []) (rest := [.int 1, .ref q0_]) ⟨hx, hb, hml, hown, hts⟩ (r_X8_place l dC dI L kd tys fr_7 H.size g.2.2.2.1 q0_ mq0_ kq0_) (cwV 0 hts (gV_ t_1220 t_1111 t_1112 t_184 t_1113) rfl rfl rfl (by decide +kernel) ⟨(Nat.le_of_ble_eq_true rfl), (Nat.le_of_ble_eq_true rfl)⟩) (pre3V g hK mq0_ kq0_ (by decide) (q := (RX8, TX8, 10)) rfl) rfl rfl hl.1 rfl (lv_room (Nat.le_of_ble_eq_true rfl)) dX0_readBehind_193 ⟨(Nat.le_of_ble_eq_true rfl), (Nat.le_of_ble_eq_true rfl)⟩) g hK (by decide) (by decide) (fx' := [(0, 3, a0_, .ref a_25), (0, 8, a0_, .int x_22), (8, 8, q0_, .int x_8), (0, 0, a0_, .ref q0_), (0, 1, a0_, .ref q1_), (0, 2, a0_, .ref q2_), (5, 1, q1_, .ref q3_)]) rfl (fun r_175 fr_175 H locs hp hMr_175 g => ?_)
                      have hG_176 := eOK.frame hMr_175 go_.2.2.2.1 ma0_ ka0_ (by decide) (by decide) hG_20
                      have go_ := g
                      refine g_callv (va_runV (As := [.int 1, .int r_175]) (rest := []) ⟨hx, hb, hml, hown, hts⟩ (r_X8_fail l dC dI L kd tys fr_175 H.size g.2.2.2.1 q0_ mq0_ kq0_ 1 (bd_sub kb_1 (by decide)) r_175 x_8 h_9 (g.fcts [2] rfl)) (cwV 2 hts (gV_ t_1215 t_1107 t_1108 t_184 t_1109) rfl rfl rfl (by decide +kernel) ⟨(Nat.le_of_ble_eq_true rfl), (Nat.le_of_ble_eq_true rfl)⟩) (pre3V g hK mq0_ kq0_ (by decide) (q := (RX8, TX8, 10)) rfl) rfl rfl hl.1 rfl (lv_room (Nat.le_of_ble_eq_true rfl)) dX0_readBehind_196 ⟨(Nat.le_of_ble_eq_true rfl), (Nat.le_of_ble_eq_true rfl)⟩) g hK (by decide) (by decide) (fx' := [(0, 3, a0_, .ref a_25), (0, 8, a0_, .int x_22), (0, 0, a0_, .ref q0_), (0, 1, a0_, .ref q1_), (0, 2, a0_, .ref q2_), (5, 1, q1_, .ref q3_)]) rfl (fun fr_177 H locs hp hMr_177 g => ?_)
                      obtain ⟨x_178, h_179, hF_180⟩ := hp
                      have hG_181 := eOK.frame hMr_177 go_.2.2.2.1 ma0_ ka0_ (by decide) (by decide) hG_176
                      have g := g.more hF_180
                      subst hQ
                      exact W.vret hx hb hr (fun t ht hW => ⟨⟨_, rfl, Or.inr (⟨hG_181, x_178, h_179, (g.fcts [0, 1] rfl)⟩), q3_of g hK ht hW⟩, g.2.2.1.F ht⟩) g.2.2.1.2.2 dX0_readBehind_199
                    · have fc_174 := eq_f c_174
                      have b_182 : bd 3 1 x_28 := eqX fc_174 b_159 kb_3 (by decide)
                      exact bd_no b_182 (by decide)
                · have fc_167 := eq_f c_167
                  have b_183 : bd 5 1 x_28 := eqX fc_167 b_159 kb_5 (by decide)
                  exact bd_no b_183 (by decide)
            · have fc_160 := eq_f c_160
              have b_184 : bd 41 41 x1_ := eqX fc_160 (bdT x1_) kb_41 (by decide)
              refine lv_aload_n hx hb dX0_readBehind_73 rfl (lv_at hl 1 rfl) ?_
              refine lv_dup hx hb dX0_readBehind_74 rfl ?_
              refine g_getk (C := RX0) (T := TX0) (N := 14) hx hb hts (mc_ inX0) hown hK g rfl 8 (by decide) rfl (hts _ (List.mem_cons_of_mem _ t_381)) (fun _ h9 => h9) 1 rfl dX0_readBehind_75 ?_
              refine lv_iconst (v := 1) hx hb dX0_readBehind_78 (by decide) ?_
              refine lv_isub hx hb dX0_readBehind_79 ?_
              refine lv_topi (fun y_185 ey_185 => ?_)
              obtain rfl : y_26 = y_185 := ey_26.trans ey_185.symm
              have go_ := g
              refine g_put (C := RX0) (T := TX0) (N := 14) hx hb hts (mc_ inX0) tyX0 tyX0_ok nmX0 hown hK g ma0_ ka0_ (by decide) rfl 8 (by decide) (hts _ (List.mem_cons_of_mem _ t_381)) (fun _ h9 => h9) rfl rfl (okV_i (bd_sub b_27 (by decide))) rfl rfl (by decide) (Or.inr (Or.inl (by decide))) (fx' := [(0, 3, a0_, .ref a_25), (8, 8, q0_, .int x_8), (0, 0, a0_, .ref q0_), (0, 1, a0_, .ref q1_), (0, 2, a0_, .ref q2_), (5, 1, q1_, .ref q3_)]) rfl dX0_readBehind_80 (fun f H locs hM_186 g => ?_)
              have hG_187 := eOK.frame hM_186 go_.2.2.2.1 ma0_ ka0_ (by decide) (by decide) hG_20
              refine lv_aload_n hx hb dX0_readBehind_83 rfl (lv_at hl 1 rfl) ?_
              refine lv_dup hx hb dX0_readBehind_84 rfl ?_
              refine g_geti (C := RX0) (T := TX0) (N := 14) hx hb hts (mc_ inX0) hown hK g ma0_ ka0_ (by decide) rfl 11 (by decide) rfl (hts _ (List.mem_cons_of_mem _ t_384)) (fun _ h9 => h9) rfl dX0_readBehind_85 (fun x_188 bx_188 g => ?_)
              refine lv_iconst (v := 1) hx hb dX0_readBehind_88 (by decide) ?_
              refine lv_isub hx hb dX0_readBehind_89 ?_
              refine lv_topi (fun y_189 ey_189 => ?_)
              have go_ := g
              refine g_put (C := RX0) (T := TX0) (N := 14) hx hb hts (mc_ inX0) tyX0 tyX0_ok nmX0 hown hK g ma0_ ka0_ (by decide) rfl 11 (by decide) (hts _ (List.mem_cons_of_mem _ t_384)) (fun _ h9 => h9) rfl rfl (okV_i (bdT y_189)) rfl rfl (by decide) (Or.inr (Or.inl (by decide))) (fx' := [(0, 8, a0_, .int y_26), (0, 3, a0_, .ref a_25), (8, 8, q0_, .int x_8), (0, 0, a0_, .ref q0_), (0, 1, a0_, .ref q1_), (0, 2, a0_, .ref q2_), (5, 1, q1_, .ref q3_)]) rfl dX0_readBehind_90 (fun f H locs hM_190 g => ?_)
              have hG_191 := eOK.frame hM_190 go_.2.2.2.1 ma0_ ka0_ (by decide) (by decide) hG_187
              refine lv_aload_n hx hb dX0_readBehind_93 rfl (lv_at hl 1 rfl) ?_
              refine g_getk (C := RX0) (T := TX0) (N := 14) hx hb hts (mc_ inX0) hown hK g rfl 0 (by decide) rfl (hts _ (List.mem_cons_of_mem _ t_373)) (fun _ h9 => h9) 4 rfl dX0_readBehind_94 ?_
              have go_ := g
              refine g_callv (va_runV (As := []) (rest := []) ⟨hx, hb, hml, hown, hts⟩ (r_X8_next l dC dI L kd tys f H.size g.2.2.2.1 q0_ mq0_ kq0_) (cwV 0 hts (gV_ t_1225 t_1103 t_1104 t_184 t_1105) rfl rfl rfl (by decide +kernel) ⟨(Nat.le_of_ble_eq_true rfl), (Nat.le_of_ble_eq_true rfl)⟩) (pre3V g hK mq0_ kq0_ (by decide) (q := (RX8, TX8, 10)) rfl) rfl rfl hl.1 rfl (lv_room (Nat.le_of_ble_eq_true rfl)) dX0_readBehind_97 ⟨(Nat.le_of_ble_eq_true rfl), (Nat.le_of_ble_eq_true rfl)⟩) g hK (by decide) (by decide) (fx' := [(0, 11, a0_, .int y_189), (0, 8, a0_, .int y_26), (0, 3, a0_, .ref a_25), (8, 8, q0_, .int x_8), (0, 0, a0_, .ref q0_), (0, 1, a0_, .ref q1_), (0, 2, a0_, .ref q2_), (5, 1, q1_, .ref q3_)]) rfl (fun fr_192 H locs hp hMr_192 g => ?_)
              obtain ⟨x_193, h_194, hF_195⟩ := hp
              have hG_196 := eOK.frame hMr_192 go_.2.2.2.1 ma0_ ka0_ (by decide) (by decide) hG_191
              have g := g.more hF_195
              refine lv_goto (tgt := 199) hx hb dX0_readBehind_100 (by decide) ?_
              subst hQ
              exact W.vret hx hb hr (fun t ht hW => ⟨⟨_, rfl, Or.inl ⟨hG_196, x_8, h_9, (g.fcts [4] rfl)⟩, q3_of g hK ht hW⟩, g.2.2.1.F ht⟩) g.2.2.1.2.2 dX0_readBehind_199
        · have fc_23 := eq_f c_23
          have b_197 : bd 0 0 x_22 := eqX fc_23 bx_22 kb_0 (by decide)
          refine lv_aload_n hx hb dX0_readBehind_44 rfl (lv_at hl 1 rfl) ?_
          refine lv_iconst (v := 1) hx hb dX0_readBehind_45 (by decide) ?_
          have go_ := g
          refine g_put (C := RX0) (T := TX0) (N := 14) hx hb hts (mc_ inX0) tyX0 tyX0_ok nmX0 hown hK g ma0_ ka0_ (by decide) rfl 13 (by decide) (hts _ (List.mem_cons_of_mem _ t_386)) (fun _ h9 => h9) rfl rfl (okV_i (bd_sub kb_1 (by decide))) rfl rfl (by decide) (Or.inr (Or.inl (by decide))) (fx' := [(0, 8, a0_, .int x_22), (8, 8, q0_, .int x_8), (0, 0, a0_, .ref q0_), (0, 1, a0_, .ref q1_), (0, 2, a0_, .ref q2_), (5, 1, q1_, .ref q3_)]) rfl dX0_readBehind_46 (fun f H locs hM_198 g => ?_)
          have hG_199 := eOK.frame hM_198 go_.2.2.2.1 ma0_ ka0_ (by decide) (by decide) hG_20
          refine lv_goto (tgt := 199) hx hb dX0_readBehind_49 (by decide) ?_
          subst hQ
          exact W.vret hx hb hr (fun t ht hW => ⟨⟨_, rfl, Or.inl ⟨hG_199, x_8, h_9, (g.fcts [2] rfl)⟩, q3_of g hK ht hW⟩, g.2.2.1.F ht⟩) g.2.2.1.2.2 dX0_readBehind_199
      · have fc_21 := neq_f c_21
        have b_200 : bd 1 (-1) x_8 := neX fc_21 h_9 kb_0 (by decide)
        exact bd_no b_200 (by decide)
    · have hG_201 := eOK.frame hMr_7 go_.2.2.2.1 ma0_ ka0_ (by decide) (by decide) hG_5
      have g := g.more hF_19
      refine lv_aload_n hx hb dX0_readBehind_14 rfl (lv_at hl 1 rfl) ?_
      refine g_getk (C := RX0) (T := TX0) (N := 14) hx hb hts (mc_ inX0) hown hK g rfl 0 (by decide) rfl (hts _ (List.mem_cons_of_mem _ t_373)) (fun _ h9 => h9) 6 rfl dX0_readBehind_15 ?_
      refine g_getk (C := RX8) (T := TX8) (N := 10) hx hb hts (mc_ inX8) hown hK g rfl 8 (by decide) rfl (hts _ (List.mem_cons_of_mem _ t_293)) (fun _ h9 => h9) 1 rfl dX0_readBehind_18 ?_
      refine lv_if_eq (tgt := 25) hx hb dX0_readBehind_21 (by decide) (fun c_202 => ?_) (fun c_202 => ?_)
      · have fc_202 := eq_f c_202
        have b_203 : bd 1 0 x_11 := eqX fc_202 h_12 kb_0 (by decide)
        exact bd_no b_203 (by decide)
      · have fc_202 := neq_f c_202
        subst hQ
        exact W.vret hx hb hr (fun t ht hW => ⟨⟨_, rfl, Or.inr (⟨hG_201, x_11, h_12, (g.fcts [0, 1] rfl)⟩), q3_of g hK ht hW⟩, g.2.2.1.F ht⟩) g.2.2.1.2.2 dX0_readBehind_24
  · have hG_204 := eOK.frame hMr_1 go_.2.2.2.1 ma0_ ka0_ (by decide) (by decide) hGea0_
    have b_205 : bd 37 206 x1_ := eqX rfl (bdT x1_) h_4 (by decide)
    refine lv_istore_n (lv' := [(2, .int r_1), (0, .ref a0_), (1, .int x1_)]) hx hb dX0_readBehind_4 rfl hl (by decide) rfl (fun ls hl => ?_)
    refine lv_aload_n hx hb dX0_readBehind_5 rfl (lv_at hl 1 rfl) ?_
    refine lv_iload_n hx hb dX0_readBehind_6 rfl (lv_at hl 0 rfl) ?_
    refine lv_iconst (v := 1) hx hb dX0_readBehind_7 (by decide) ?_
    have kb_1 : bd 1 1 (1 : Int32) := ⟨by decide, by decide⟩
    refine va_mmax hx hb (hml.trans hl.1.symm) hown (hts _ (List.mem_cons_of_mem _ t_1194)) (hts _ (List.mem_cons_of_mem _ t_1041)) (hts _ (List.mem_cons_of_mem _ t_204)) (hts _ (List.mem_cons_of_mem _ t_1042)) (Nat.le_of_ble_eq_true rfl) (Nat.le_of_ble_eq_true rfl) (Nat.le_of_ble_eq_true rfl) (Nat.le_of_ble_eq_true rfl) dX0_readBehind_8 ?_
    refine lv_topi (fun y_206 ey_206 => ?_)
    have ty_206 : y_206.toInt = max r_1.toInt (1 : Int32).toInt := by rw [ey_206]; exact mmax_ok _ _
    have b_207 : bd 1 5 y_206 := max_rg ty_206 h_3 kb_1 (by decide)
    have go_ := g
    refine g_callv (va_runV (As := [.int y_206]) (rest := []) ⟨hx, hb, hml, hown, hts⟩ (r_X0_closeParts l dC dI L kd tys fr_1 H.size g.2.2.2.1 a0_ ma0_ ka0_ y_206 q0_ mq0_ kq0_ q2_ mq2_ kq2_ y0_ by0_ (g.fcts [0, 2, 4] rfl)) (cwV 1 hts (gV_ t_1195 t_1197 t_15 t_190 t_1198) rfl rfl rfl (by decide +kernel) ⟨(Nat.le_of_ble_eq_true rfl), (Nat.le_of_ble_eq_true rfl)⟩) (pre3V g hK ma0_ ka0_ (by decide) (q := (RX0, TX0, 14)) rfl) rfl rfl hl.1 rfl (lv_room (Nat.le_of_ble_eq_true rfl)) dX0_readBehind_11 ⟨(Nat.le_of_ble_eq_true rfl), (Nat.le_of_ble_eq_true rfl)⟩) g hK (by decide) (by decide) (fx' := [(0, 0, a0_, .ref q0_), (0, 1, a0_, .ref q1_), (0, 2, a0_, .ref q2_), (5, 1, q1_, .ref q3_)]) rfl (fun fr_208 H locs hp hMr_208 g => ?_)
    rcases hp with ⟨x_209, h_210, hF_211⟩ | ⟨x_212, h_213, x_214, h_215, x_216, h_217, x_218, h_219, hF_220⟩
    · have hG_221 := eOK.frame hMr_208 go_.2.2.2.1 ma0_ ka0_ (by decide) (by decide) hG_204
      have g := g.more hF_211
      refine lv_aload_n hx hb dX0_readBehind_14 rfl (lv_at hl 1 rfl) ?_
      refine g_getk (C := RX0) (T := TX0) (N := 14) hx hb hts (mc_ inX0) hown hK g rfl 0 (by decide) rfl (hts _ (List.mem_cons_of_mem _ t_373)) (fun _ h9 => h9) 1 rfl dX0_readBehind_15 ?_
      refine g_getk (C := RX8) (T := TX8) (N := 10) hx hb hts (mc_ inX8) hown hK g rfl 8 (by decide) rfl (hts _ (List.mem_cons_of_mem _ t_293)) (fun _ h9 => h9) 0 rfl dX0_readBehind_18 ?_
      have kb_0 : bd 0 0 (0 : Int32) := ⟨by decide, by decide⟩
      refine lv_if_eq (tgt := 25) hx hb dX0_readBehind_21 (by decide) (fun c_222 => ?_) (fun c_222 => ?_)
      · have fc_222 := eq_f c_222
        refine lv_iload_n hx hb dX0_readBehind_25 rfl (lv_at hl 0 rfl) ?_
        refine lv_if_le (tgt := 37) hx hb dX0_readBehind_26 (by decide) (fun c_223 => ?_) (fun c_223 => ?_)
        · have fc_223 := le_f c_223
          have b_224 : bd 1 0 r_1 := leL fc_223 h_3 kb_0 (by decide)
          exact bd_no b_224 (by decide)
        · have fc_223 := nle_f c_223
          refine lv_aload_n hx hb dX0_readBehind_29 rfl (lv_at hl 1 rfl) ?_
          refine lv_iload_n hx hb dX0_readBehind_30 rfl (lv_at hl 2 rfl) ?_
          have go_ := g
          refine g_callv (va_runV (As := [.int x1_]) (rest := []) ⟨hx, hb, hml, hown, hts⟩ (r_X0_openOperator l dC dI L kd tys fr_208 H.size g.2.2.2.1 a0_ ma0_ ka0_ x1_ b_205 q0_ mq0_ kq0_ q2_ mq2_ kq2_ x_209 h_210 hG_221 (g.fcts [1, 3, 0] rfl)) (cwV 1 hts (gV_ t_1216 t_1218 t_18 t_190 t_1219) rfl rfl rfl (by decide +kernel) ⟨(Nat.le_of_ble_eq_true rfl), (Nat.le_of_ble_eq_true rfl)⟩) (pre3V g hK ma0_ ka0_ (by decide) (q := (RX0, TX0, 14)) rfl) rfl rfl hl.1 rfl (lv_room (Nat.le_of_ble_eq_true rfl)) dX0_readBehind_31 ⟨(Nat.le_of_ble_eq_true rfl), (Nat.le_of_ble_eq_true rfl)⟩) g hK (by decide) (by decide) (fx' := [(8, 8, q0_, .int x_209), (0, 0, a0_, .ref q0_), (0, 1, a0_, .ref q1_), (0, 2, a0_, .ref q2_), (5, 1, q1_, .ref q3_)]) rfl (fun fr_225 H locs hp hMr_225 g => ?_)
          obtain ⟨hG_226, x_227, h_228, x_229, h_230, hF_231⟩ := hp
          have g := g.more hF_231
          refine lv_goto (tgt := 199) hx hb dX0_readBehind_34 (by decide) ?_
          subst hQ
          exact W.vret hx hb hr (fun t ht hW => ⟨⟨_, rfl, Or.inl ⟨hG_226, x_209, h_210, (g.fcts [3] rfl)⟩, q3_of g hK ht hW⟩, g.2.2.1.F ht⟩) g.2.2.1.2.2 dX0_readBehind_199
      · have fc_222 := neq_f c_222
        have b_232 : bd 1 (-1) x_209 := neX fc_222 h_210 kb_0 (by decide)
        exact bd_no b_232 (by decide)
    · have hG_233 := eOK.frame hMr_208 go_.2.2.2.1 ma0_ ka0_ (by decide) (by decide) hG_204
      have g := g.more hF_220
      refine lv_aload_n hx hb dX0_readBehind_14 rfl (lv_at hl 1 rfl) ?_
      refine g_getk (C := RX0) (T := TX0) (N := 14) hx hb hts (mc_ inX0) hown hK g rfl 0 (by decide) rfl (hts _ (List.mem_cons_of_mem _ t_373)) (fun _ h9 => h9) 6 rfl dX0_readBehind_15 ?_
      refine g_getk (C := RX8) (T := TX8) (N := 10) hx hb hts (mc_ inX8) hown hK g rfl 8 (by decide) rfl (hts _ (List.mem_cons_of_mem _ t_293)) (fun _ h9 => h9) 1 rfl dX0_readBehind_18 ?_
      have kb_0 : bd 0 0 (0 : Int32) := ⟨by decide, by decide⟩
      refine lv_if_eq (tgt := 25) hx hb dX0_readBehind_21 (by decide) (fun c_234 => ?_) (fun c_234 => ?_)
      · have fc_234 := eq_f c_234
        have b_235 : bd 1 0 x_212 := eqX fc_234 h_213 kb_0 (by decide)
        exact bd_no b_235 (by decide)
      · have fc_234 := neq_f c_234
        subst hQ
        exact W.vret hx hb hr (fun t ht hW => ⟨⟨_, rfl, Or.inr (⟨hG_233, x_212, h_213, (g.fcts [0, 1] rfl)⟩), q3_of g hK ht hW⟩, g.2.2.1.F ht⟩) g.2.2.1.2.2 dX0_readBehind_24
