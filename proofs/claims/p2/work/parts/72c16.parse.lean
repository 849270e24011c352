set_option maxHeartbeats 4000000 in
set_option maxRecDepth 100000 in
theorem r_X0_openOperator (l : Launch) (dC : Nat → ClassId) (dI : Nat → Nat → Nat) (L : List Nat) (kd : Nat → Nat) (tys : List (ClassId × FieldType)) (f0 : Nat → va_E) (sz : Nat) (hWT : WT L kd tys f0) (a0_ : Nat) (ma0_ : a0_ ∈ L) (ka0_ : kd a0_ = 0) (x1_ : Int32) (bx1_ : bd 37 206 x1_) (q0_ : Nat) (mq0_ : q0_ ∈ L) (kq0_ : kd q0_ = 8) (q1_ : Nat) (mq1_ : q1_ ∈ L) (kq1_ : kd q1_ = 7) (y0_ : Int32) (by0_ : bd 0 0 y0_) (hGea0_ : eOK f0 a0_) (hfx : Fs L kd f0 [(0, 0, a0_, .ref q0_), (0, 2, a0_, .ref q1_), (8, 8, q0_, .int y0_)]) : Met l yX0_openOperator (.code yX0_openOperator cX0_openOperator 3 none :: lw_g) ({ frames := 1, cells := 0, slots := 0, locals := 23 }) (va_Pc [.ref a0_, .int x1_] (P3 (dC, dI) L tys f0 sz)) (va_Qv (fun (f : Nat → va_E) => (eOK f a0_ ∧ ∃ z1_ : Int32, bd 1 1201 z1_ ∧ ∃ z2_ : Int32, bd 1 300 z2_ ∧ Fs L kd f [(0, 12, a0_, .int 1), (8, 6, q0_, .int z1_), (0, 8, a0_, .int z2_)])) (Q3 (dC, dI) L kd tys [(0, 8), (0, 12), (7, 6), (7, 18), (8, 6)] [110, 111, 112, 113, 114, 138, 139] f0 sz) (pA L sz)) 0 0 (pA L sz) := by
  refine Met.ofW (cc := cX0_openOperator) (maxL := 3) (ret := none) (by decide) rfl ?_
  intro p e s m args below meth c s₁ B hml hv
  obtain ⟨rfl, hsz, hP, hK, hD0⟩ := hv
  have hx := B.exec
  have hb := B.bytes
  have hr := B.returns
  have hts := atoms_spec (ws := (.code yX0_openOperator cX0_openOperator 3 none :: lw_g)) B.pre
  have hown : s.vm.findClass RX0 = some m.cls := findClass_of_methodNamed B.named
  have hlocks := B.notSynchronized
  subst hsz
  have g : G3 (dC, dI) L kd tys s f0 [(0, 8), (0, 12), (7, 6), (7, 18), (8, 6)] [110, 111, 112, 113, 114, 138, 139] f0 s.heap [] [(0, 0, a0_, .ref q0_), (0, 2, a0_, .ref q1_), (8, 8, q0_, .int y0_)] := G3.start hP hD0 hWT hfx
  have hl := lv_entry ([.ref a0_, .int x1_]) (n := 3) (Nat.le_of_ble_eq_true rfl)
  rw [lg_entry_eq]
  generalize (lg_sl ([.ref a0_, .int x1_]) ++ List.replicate (3 - (lg_sl ([.ref a0_, .int x1_])).length) Slot.unset).toArray = ls at hl ⊢
  have hl : lv_has ls 3 [(0, .ref a0_), (1, .int x1_)] := hl
  refine W_q (fun Q hQ => ?_)
  refine lv_aload_n hx hb dX0_openOperator_0 rfl (lv_at hl 0 rfl) ?_
  refine g_getk (C := RX0) (T := TX0) (N := 14) hx hb hts (mc_ inX0) hown hK g rfl 2 (by decide) rfl (hts _ (List.mem_cons_of_mem _ t_375)) (fun _ h9 => h9) 1 rfl dX0_openOperator_1 ?_
  refine g_geti (C := RX7) (T := TX7) (N := 19) hx hb hts (mc_ inX7) hown hK g mq1_ kq1_ (by decide) rfl 6 (by decide) rfl (hts _ (List.mem_cons_of_mem _ t_646)) (fun _ h9 => h9) rfl dX0_openOperator_4 (fun x_1 bx_1 g => ?_)
  refine lv_istore_n (lv' := [(2, .int x_1), (0, .ref a0_), (1, .int x1_)]) hx hb dX0_openOperator_7 rfl hl (by decide) rfl (fun ls hl => ?_)
  refine lv_iload_n hx hb dX0_openOperator_8 rfl (lv_at hl 2 rfl) ?_
  refine lv_sipush (v := 205) hx hb dX0_openOperator_9 (by decide) ?_
  have kb_205 : bd 205 205 (205 : Int32) := ⟨by decide, by decide⟩
  refine lv_icmp_ne (tgt := 28) hx hb dX0_openOperator_12 (by decide) (fun c_2 => ?_) (fun c_2 => ?_)
  · have fc_2 := neq_f c_2
    refine lv_iload_n hx hb dX0_openOperator_28 rfl (lv_at hl 2 rfl) ?_
    refine lv_sipush (v := 206) hx hb dX0_openOperator_29 (by decide) ?_
    have kb_206 : bd 206 206 (206 : Int32) := ⟨by decide, by decide⟩
    refine lv_icmp_ne (tgt := 45) hx hb dX0_openOperator_32 (by decide) (fun c_3 => ?_) (fun c_3 => ?_)
    · have fc_3 := neq_f c_3
      have b_4 : bd 37 205 x1_ := neX fc_3 bx1_ kb_206 (by decide)
      refine lv_aload_n hx hb dX0_openOperator_45 rfl (lv_at hl 1 rfl) ?_
      refine lv_iload_n hx hb dX0_openOperator_46 rfl (lv_at hl 2 rfl) ?_
      refine lv_aload_n hx hb dX0_openOperator_47 rfl (lv_at hl 1 rfl) ?_
      refine g_getk (C := RX0) (T := TX0) (N := 14) hx hb hts (mc_ inX0) hown hK g rfl 0 (by decide) rfl (hts _ (List.mem_cons_of_mem _ t_373)) (fun _ h9 => h9) 1 rfl dX0_openOperator_48 ?_
      have go_ := g
      refine g_calli (va_runV (As := []) (rest := [.int x1_, .ref a0_]) ⟨hx, hb, hml, hown, hts⟩ (r_X8_place l dC dI L kd tys f0 s.heap.size g.2.2.2.1 q0_ mq0_ kq0_) (cwV 0 hts (gV_ t_1220 t_1111 t_1112 t_184 t_1113) rfl rfl rfl (by decide +kernel) ⟨(Nat.le_of_ble_eq_true rfl), (Nat.le_of_ble_eq_true rfl)⟩) (pre3V g hK mq0_ kq0_ (by decide) (q := (RX8, TX8, 10)) rfl) rfl rfl hl.1 rfl (lv_room (Nat.le_of_ble_eq_true rfl)) dX0_openOperator_51 ⟨(Nat.le_of_ble_eq_true rfl), (Nat.le_of_ble_eq_true rfl)⟩) g hK (by decide) (by decide) (fx' := [(7, 6, q1_, .int x_1), (0, 0, a0_, .ref q0_), (0, 2, a0_, .ref q1_), (8, 8, q0_, .int y0_)]) rfl (fun r_5 fr_5 H locs hp hMr_5 g => ?_)
      have hG_6 := eOK.frame hMr_5 go_.2.2.2.1 ma0_ ka0_ (by decide) (by decide) hGea0_
      refine lv_iload_n hx hb dX0_openOperator_54 rfl (lv_at hl 0 rfl) ?_
      obtain ⟨a_7, ma_7, ka_7, g⟩ := g_factr (K := 110) g ma0_ ka0_ (by decide) 3 rfl
      obtain ⟨a_8, ma_8, ka_8, g⟩ := g_factr (K := 112) g ma0_ ka0_ (by decide) 5 rfl
      have go_ := g
      refine g_callv (va_runV (As := [.int x1_, .int r_5, .int x_1]) (rest := []) ⟨hx, hb, hml, hown, hts⟩ (r_X0_push_2 l dC dI L kd tys fr_5 H.size g.2.2.2.1 a0_ ma0_ ka0_ x1_ r_5 x_1 a_7 ma_7 ka_7 a_8 ma_8 ka_8 hG_6 (erel_bd b_4 bx_1 (by decide)) (g.fcts [1, 0] rfl)) (cwV 3 hts (gV_ t_1221 t_1223 t_19 t_190 t_1224) rfl rfl rfl (by decide +kernel) ⟨(Nat.le_of_ble_eq_true rfl), (Nat.le_of_ble_eq_true rfl)⟩) (pre3V g hK ma0_ ka0_ (by decide) (q := (RX0, TX0, 14)) rfl) rfl rfl hl.1 rfl (lv_room (Nat.le_of_ble_eq_true rfl)) dX0_openOperator_55 ⟨(Nat.le_of_ble_eq_true rfl), (Nat.le_of_ble_eq_true rfl)⟩) g hK (by decide) (by decide) (fx' := [(0, 5, a0_, .ref a_8), (0, 3, a0_, .ref a_7), (7, 6, q1_, .int x_1), (0, 0, a0_, .ref q0_), (0, 2, a0_, .ref q1_), (8, 8, q0_, .int y0_)]) rfl (fun fr_9 H locs hp hMr_9 g => ?_)
      obtain ⟨hG_10, x_11, h_12, hF_13⟩ := hp
      have g := g.more hF_13
      refine lv_aload_n hx hb dX0_openOperator_58 rfl (lv_at hl 1 rfl) ?_
      refine g_getk (C := RX0) (T := TX0) (N := 14) hx hb hts (mc_ inX0) hown hK g rfl 2 (by decide) rfl (hts _ (List.mem_cons_of_mem _ t_375)) (fun _ h9 => h9) 5 rfl dX0_openOperator_59 ?_
      refine lv_dup hx hb dX0_openOperator_62 rfl ?_
      refine g_geti (C := RX7) (T := TX7) (N := 19) hx hb hts (mc_ inX7) hown hK g mq1_ kq1_ (by decide) rfl 18 (by decide) rfl (hts _ (List.mem_cons_of_mem _ t_681)) (fun _ h9 => h9) rfl dX0_openOperator_63 (fun x_14 bx_14 g => ?_)
      refine lv_iconst (v := 1) hx hb dX0_openOperator_66 (by decide) ?_
      have kb_1 : bd 1 1 (1 : Int32) := ⟨by decide, by decide⟩
      refine lv_iadd hx hb dX0_openOperator_67 ?_
      refine lv_topi (fun y_15 ey_15 => ?_)
      have go_ := g
      refine g_put (C := RX7) (T := TX7) (N := 19) hx hb hts (mc_ inX7) tyX7 tyX7_ok nmX7 hown hK g mq1_ kq1_ (by decide) rfl 18 (by decide) (hts _ (List.mem_cons_of_mem _ t_681)) (fun _ h9 => h9) rfl rfl (okV_i (bdT y_15)) rfl rfl (by decide) (Or.inr (Or.inl (by decide))) (fx' := [(0, 8, a0_, .int x_11), (0, 5, a0_, .ref a_8), (0, 3, a0_, .ref a_7), (7, 6, q1_, .int x_1), (0, 0, a0_, .ref q0_), (0, 2, a0_, .ref q1_), (8, 8, q0_, .int y0_)]) rfl dX0_openOperator_68 (fun f H locs hM_16 g => ?_)
      have hG_17 := eOK.frame hM_16 go_.2.2.2.1 ma0_ ka0_ (by decide) (by decide) hG_10
      refine lv_aload_n hx hb dX0_openOperator_71 rfl (lv_at hl 1 rfl) ?_
      refine g_getk (C := RX0) (T := TX0) (N := 14) hx hb hts (mc_ inX0) hown hK g rfl 0 (by decide) rfl (hts _ (List.mem_cons_of_mem _ t_373)) (fun _ h9 => h9) 5 rfl dX0_openOperator_72 ?_
      have go_ := g
      refine g_callv (va_runV (As := []) (rest := []) ⟨hx, hb, hml, hown, hts⟩ (r_X8_next l dC dI L kd tys f H.size g.2.2.2.1 q0_ mq0_ kq0_) (cwV 0 hts (gV_ t_1225 t_1103 t_1104 t_184 t_1105) rfl rfl rfl (by decide +kernel) ⟨(Nat.le_of_ble_eq_true rfl), (Nat.le_of_ble_eq_true rfl)⟩) (pre3V g hK mq0_ kq0_ (by decide) (q := (RX8, TX8, 10)) rfl) rfl rfl hl.1 rfl (lv_room (Nat.le_of_ble_eq_true rfl)) dX0_openOperator_75 ⟨(Nat.le_of_ble_eq_true rfl), (Nat.le_of_ble_eq_true rfl)⟩) g hK (by decide) (by decide) (fx' := [(7, 18, q1_, .int y_15), (0, 8, a0_, .int x_11), (0, 5, a0_, .ref a_8), (0, 3, a0_, .ref a_7), (7, 6, q1_, .int x_1), (0, 0, a0_, .ref q0_), (0, 2, a0_, .ref q1_), (8, 8, q0_, .int y0_)]) rfl (fun fr_18 H locs hp hMr_18 g => ?_)
      obtain ⟨x_19, h_20, hF_21⟩ := hp
      have hG_22 := eOK.frame hMr_18 go_.2.2.2.1 ma0_ ka0_ (by decide) (by decide) hG_17
      have g := g.more hF_21
      refine lv_aload_n hx hb dX0_openOperator_78 rfl (lv_at hl 1 rfl) ?_
      refine lv_iconst (v := 1) hx hb dX0_openOperator_79 (by decide) ?_
      have go_ := g
      refine g_put (C := RX0) (T := TX0) (N := 14) hx hb hts (mc_ inX0) tyX0 tyX0_ok nmX0 hown hK g ma0_ ka0_ (by decide) rfl 12 (by decide) (hts _ (List.mem_cons_of_mem _ t_385)) (fun _ h9 => h9) rfl rfl (okV_i (bd_sub kb_1 (by decide))) rfl rfl (by decide) (Or.inr (Or.inl (by decide))) (fx' := [(8, 6, q0_, .int x_19), (7, 18, q1_, .int y_15), (0, 8, a0_, .int x_11), (0, 5, a0_, .ref a_8), (0, 3, a0_, .ref a_7), (7, 6, q1_, .int x_1), (0, 0, a0_, .ref q0_), (0, 2, a0_, .ref q1_), (8, 8, q0_, .int y0_)]) rfl dX0_openOperator_80 (fun f H locs hM_23 g => ?_)
      have hG_24 := eOK.frame hM_23 go_.2.2.2.1 ma0_ ka0_ (by decide) (by decide) hG_22
      subst hQ
      exact W.vret hx hb hr (fun t ht hW => ⟨⟨_, rfl, ⟨hG_24, x_19, h_20, x_11, h_12, (g.fcts [0, 1, 3] rfl)⟩, q3_of g hK ht hW⟩, g.2.2.1.F ht⟩) g.2.2.1.2.2 dX0_openOperator_83
    · have fc_3 := eq_f c_3
      have b_25 : bd 206 206 x1_ := eqX fc_3 bx1_ kb_206 (by decide)
      refine lv_aload_n hx hb dX0_openOperator_35 rfl (lv_at hl 1 rfl) ?_
      refine g_getk (C := RX0) (T := TX0) (N := 14) hx hb hts (mc_ inX0) hown hK g rfl 2 (by decide) rfl (hts _ (List.mem_cons_of_mem _ t_375)) (fun _ h9 => h9) 2 rfl dX0_openOperator_36 ?_
      refine lv_bipush (v := 25) hx hb dX0_openOperator_39 (by decide) ?_
      refine lv_iconst (v := 0) hx hb dX0_openOperator_41 (by decide) ?_
      have go_ := g
      refine g_callv (va_runV (As := [.int 25, .int 0]) (rest := []) ⟨hx, hb, hml, hown, hts⟩ (r_X7_emit l dC dI L kd tys f0 s.heap.size g.2.2.2.1 q1_ mq1_ kq1_ 25 0) (cwV 2 hts (gV_ t_1203 t_1204 t_1205 t_191 t_1206) rfl rfl rfl (by decide +kernel) ⟨(Nat.le_of_ble_eq_true rfl), (Nat.le_of_ble_eq_true rfl)⟩) (pre3V g hK mq1_ kq1_ (by decide) (q := (RX7, TX7, 19)) rfl) rfl rfl hl.1 rfl (lv_room (Nat.le_of_ble_eq_true rfl)) dX0_openOperator_42 ⟨(Nat.le_of_ble_eq_true rfl), (Nat.le_of_ble_eq_true rfl)⟩) g hK (by decide) (by decide) (fx' := [(0, 0, a0_, .ref q0_), (0, 2, a0_, .ref q1_), (8, 8, q0_, .int y0_)]) rfl (fun fr_26 H locs hp hMr_26 g => ?_)
      obtain ⟨x_27, h_28, hF_29⟩ := hp
      have hG_30 := eOK.frame hMr_26 go_.2.2.2.1 ma0_ ka0_ (by decide) (by decide) hGea0_
      have g := g.more hF_29
      refine lv_aload_n hx hb dX0_openOperator_45 rfl (lv_at hl 1 rfl) ?_
      refine lv_iload_n hx hb dX0_openOperator_46 rfl (lv_at hl 2 rfl) ?_
      refine lv_aload_n hx hb dX0_openOperator_47 rfl (lv_at hl 1 rfl) ?_
      refine g_getk (C := RX0) (T := TX0) (N := 14) hx hb hts (mc_ inX0) hown hK g rfl 0 (by decide) rfl (hts _ (List.mem_cons_of_mem _ t_373)) (fun _ h9 => h9) 1 rfl dX0_openOperator_48 ?_
      have go_ := g
      refine g_calli (va_runV (As := []) (rest := [.int x1_, .ref a0_]) ⟨hx, hb, hml, hown, hts⟩ (r_X8_place l dC dI L kd tys fr_26 H.size g.2.2.2.1 q0_ mq0_ kq0_) (cwV 0 hts (gV_ t_1220 t_1111 t_1112 t_184 t_1113) rfl rfl rfl (by decide +kernel) ⟨(Nat.le_of_ble_eq_true rfl), (Nat.le_of_ble_eq_true rfl)⟩) (pre3V g hK mq0_ kq0_ (by decide) (q := (RX8, TX8, 10)) rfl) rfl rfl hl.1 rfl (lv_room (Nat.le_of_ble_eq_true rfl)) dX0_openOperator_51 ⟨(Nat.le_of_ble_eq_true rfl), (Nat.le_of_ble_eq_true rfl)⟩) g hK (by decide) (by decide) (fx' := [(7, 6, q1_, .int x_27), (0, 0, a0_, .ref q0_), (0, 2, a0_, .ref q1_), (8, 8, q0_, .int y0_)]) rfl (fun r_31 fr_31 H locs hp hMr_31 g => ?_)
      have hG_32 := eOK.frame hMr_31 go_.2.2.2.1 ma0_ ka0_ (by decide) (by decide) hG_30
      refine lv_iload_n hx hb dX0_openOperator_54 rfl (lv_at hl 0 rfl) ?_
      obtain ⟨a_33, ma_33, ka_33, g⟩ := g_factr (K := 110) g ma0_ ka0_ (by decide) 3 rfl
      obtain ⟨a_34, ma_34, ka_34, g⟩ := g_factr (K := 112) g ma0_ ka0_ (by decide) 5 rfl
      have go_ := g
      refine g_callv (va_runV (As := [.int x1_, .int r_31, .int x_1]) (rest := []) ⟨hx, hb, hml, hown, hts⟩ (r_X0_push_2 l dC dI L kd tys fr_31 H.size g.2.2.2.1 a0_ ma0_ ka0_ x1_ r_31 x_1 a_33 ma_33 ka_33 a_34 ma_34 ka_34 hG_32 (erel_bd b_25 bx_1 (by decide)) (g.fcts [1, 0] rfl)) (cwV 3 hts (gV_ t_1221 t_1223 t_19 t_190 t_1224) rfl rfl rfl (by decide +kernel) ⟨(Nat.le_of_ble_eq_true rfl), (Nat.le_of_ble_eq_true rfl)⟩) (pre3V g hK ma0_ ka0_ (by decide) (q := (RX0, TX0, 14)) rfl) rfl rfl hl.1 rfl (lv_room (Nat.le_of_ble_eq_true rfl)) dX0_openOperator_55 ⟨(Nat.le_of_ble_eq_true rfl), (Nat.le_of_ble_eq_true rfl)⟩) g hK (by decide) (by decide) (fx' := [(0, 5, a0_, .ref a_34), (0, 3, a0_, .ref a_33), (7, 6, q1_, .int x_27), (0, 0, a0_, .ref q0_), (0, 2, a0_, .ref q1_), (8, 8, q0_, .int y0_)]) rfl (fun fr_35 H locs hp hMr_35 g => ?_)
      obtain ⟨hG_36, x_37, h_38, hF_39⟩ := hp
      have g := g.more hF_39
      refine lv_aload_n hx hb dX0_openOperator_58 rfl (lv_at hl 1 rfl) ?_
      refine g_getk (C := RX0) (T := TX0) (N := 14) hx hb hts (mc_ inX0) hown hK g rfl 2 (by decide) rfl (hts _ (List.mem_cons_of_mem _ t_375)) (fun _ h9 => h9) 5 rfl dX0_openOperator_59 ?_
      refine lv_dup hx hb dX0_openOperator_62 rfl ?_
      refine g_geti (C := RX7) (T := TX7) (N := 19) hx hb hts (mc_ inX7) hown hK g mq1_ kq1_ (by decide) rfl 18 (by decide) rfl (hts _ (List.mem_cons_of_mem _ t_681)) (fun _ h9 => h9) rfl dX0_openOperator_63 (fun x_40 bx_40 g => ?_)
      refine lv_iconst (v := 1) hx hb dX0_openOperator_66 (by decide) ?_
      have kb_1 : bd 1 1 (1 : Int32) := ⟨by decide, by decide⟩
      refine lv_iadd hx hb dX0_openOperator_67 ?_
      refine lv_topi (fun y_41 ey_41 => ?_)
      have go_ := g
      refine g_put (C := RX7) (T := TX7) (N := 19) hx hb hts (mc_ inX7) tyX7 tyX7_ok nmX7 hown hK g mq1_ kq1_ (by decide) rfl 18 (by decide) (hts _ (List.mem_cons_of_mem _ t_681)) (fun _ h9 => h9) rfl rfl (okV_i (bdT y_41)) rfl rfl (by decide) (Or.inr (Or.inl (by decide))) (fx' := [(0, 8, a0_, .int x_37), (0, 5, a0_, .ref a_34), (0, 3, a0_, .ref a_33), (7, 6, q1_, .int x_27), (0, 0, a0_, .ref q0_), (0, 2, a0_, .ref q1_), (8, 8, q0_, .int y0_)]) rfl dX0_openOperator_68 (fun f H locs hM_42 g => ?_)
      have hG_43 := eOK.frame hM_42 go_.2.2.2.1 ma0_ ka0_ (by decide) (by decide) hG_36
      refine lv_aload_n hx hb dX0_openOperator_71 rfl (lv_at hl 1 rfl) ?_
      refine g_getk (C := RX0) (T := TX0) (N := 14) hx hb hts (mc_ inX0) hown hK g rfl 0 (by decide) rfl (hts _ (List.mem_cons_of_mem _ t_373)) (fun _ h9 => h9) 5 rfl dX0_openOperator_72 ?_
      have go_ := g
      refine g_callv (va_runV (As := []) (rest := []) ⟨hx, hb, hml, hown, hts⟩ (r_X8_next l dC dI L kd tys f H.size g.2.2.2.1 q0_ mq0_ kq0_) (cwV 0 hts (gV_ t_1225 t_1103 t_1104 t_184 t_1105) rfl rfl rfl (by decide +kernel) ⟨(Nat.le_of_ble_eq_true rfl), (Nat.le_of_ble_eq_true rfl)⟩) (pre3V g hK mq0_ kq0_ (by decide) (q := (RX8, TX8, 10)) rfl) rfl rfl hl.1 rfl (lv_room (Nat.le_of_ble_eq_true rfl)) dX0_openOperator_75 ⟨(Nat.le_of_ble_eq_true rfl), (Nat.le_of_ble_eq_true rfl)⟩) g hK (by decide) (by decide) (fx' := [(7, 18, q1_, .int y_41), (0, 8, a0_, .int x_37), (0, 5, a0_, .ref a_34), (0, 3, a0_, .ref a_33), (7, 6, q1_, .int x_27), (0, 0, a0_, .ref q0_), (0, 2, a0_, .ref q1_), (8, 8, q0_, .int y0_)]) rfl (fun fr_44 H locs hp hMr_44 g => ?_)
      obtain ⟨x_45, h_46, hF_47⟩ := hp
      have hG_48 := eOK.frame hMr_44 go_.2.2.2.1 ma0_ ka0_ (by decide) (by decide) hG_43
      have g := g.more hF_47
      refine lv_aload_n hx hb dX0_openOperator_78 rfl (lv_at hl 1 rfl) ?_
      refine lv_iconst (v := 1) hx hb dX0_openOperator_79 (by decide) ?_
      have go_ := g
      refine g_put (C := RX0) (T := TX0) (N := 14) hx hb hts (mc_ inX0) tyX0 tyX0_ok nmX0 hown hK g ma0_ ka0_ (by decide) rfl 12 (by decide) (hts _ (List.mem_cons_of_mem _ t_385)) (fun _ h9 => h9) rfl rfl (okV_i (bd_sub kb_1 (by decide))) rfl rfl (by decide) (Or.inr (Or.inl (by decide))) (fx' := [(8, 6, q0_, .int x_45), (7, 18, q1_, .int y_41), (0, 8, a0_, .int x_37), (0, 5, a0_, .ref a_34), (0, 3, a0_, .ref a_33), (7, 6, q1_, .int x_27), (0, 0, a0_, .ref q0_), (0, 2, a0_, .ref q1_), (8, 8, q0_, .int y0_)]) rfl dX0_openOperator_80 (fun f H locs hM_49 g => ?_)
      have hG_50 := eOK.frame hM_49 go_.2.2.2.1 ma0_ ka0_ (by decide) (by decide) hG_48
      subst hQ
      exact W.vret hx hb hr (fun t ht hW => ⟨⟨_, rfl, ⟨hG_50, x_45, h_46, x_37, h_38, (g.fcts [0, 1, 3] rfl)⟩, q3_of g hK ht hW⟩, g.2.2.1.F ht⟩) g.2.2.1.2.2 dX0_openOperator_83
  · have fc_2 := eq_f c_2
    have b_51 : bd 205 205 x1_ := eqX fc_2 bx1_ kb_205 (by decide)
    refine lv_aload_n hx hb dX0_openOperator_15 rfl (lv_at hl 1 rfl) ?_
    refine g_getk (C := RX0) (T := TX0) (N := 14) hx hb hts (mc_ inX0) hown hK g rfl 2 (by decide) rfl (hts _ (List.mem_cons_of_mem _ t_375)) (fun _ h9 => h9) 2 rfl dX0_openOperator_16 ?_
    refine lv_bipush (v := 24) hx hb dX0_openOperator_19 (by decide) ?_
    refine lv_iconst (v := 0) hx hb dX0_openOperator_21 (by decide) ?_
    have go_ := g
    refine g_callv (va_runV (As := [.int 24, .int 0]) (rest := []) ⟨hx, hb, hml, hown, hts⟩ (r_X7_emit l dC dI L kd tys f0 s.heap.size g.2.2.2.1 q1_ mq1_ kq1_ 24 0) (cwV 2 hts (gV_ t_1203 t_1204 t_1205 t_191 t_1206) rfl rfl rfl (by decide +kernel) ⟨(Nat.le_of_ble_eq_true rfl), (Nat.le_of_ble_eq_true rfl)⟩) (pre3V g hK mq1_ kq1_ (by decide) (q := (RX7, TX7, 19)) rfl) rfl rfl hl.1 rfl (lv_room (Nat.le_of_ble_eq_true rfl)) dX0_openOperator_22 ⟨(Nat.le_of_ble_eq_true rfl), (Nat.le_of_ble_eq_true rfl)⟩) g hK (by decide) (by decide) (fx' := [(0, 0, a0_, .ref q0_), (0, 2, a0_, .ref q1_), (8, 8, q0_, .int y0_)]) rfl (fun fr_52 H locs hp hMr_52 g => ?_)
    obtain ⟨x_53, h_54, hF_55⟩ := hp
    have hG_56 := eOK.frame hMr_52 go_.2.2.2.1 ma0_ ka0_ (by decide) (by decide) hGea0_
    have g := g.more hF_55
    refine lv_goto (tgt := 45) hx hb dX0_openOperator_25 (by decide) ?_
    refine lv_aload_n hx hb dX0_openOperator_45 rfl (lv_at hl 1 rfl) ?_
    refine lv_iload_n hx hb dX0_openOperator_46 rfl (lv_at hl 2 rfl) ?_
    refine lv_aload_n hx hb dX0_openOperator_47 rfl (lv_at hl 1 rfl) ?_
    refine g_getk (C := RX0) (T := TX0) (N := 14) hx hb hts (mc_ inX0) hown hK g rfl 0 (by decide) rfl (hts _ (List.mem_cons_of_mem _ t_373)) (fun _ h9 => h9) 1 rfl dX0_openOperator_48 ?_
    have go_ := g
    refine g_calli (va_runV (As := []) (rest := [.int x1_, .ref a0_]) ⟨hx, hb, hml, hown, hts⟩ (r_X8_place l dC dI L kd tys fr_52 H.size g.2.2.2.1 q0_ mq0_ kq0_) (cwV 0 hts (gV_ t_1220 t_1111 t_1112 t_184 t_1113) rfl rfl rfl (by decide +kernel) ⟨(Nat.le_of_ble_eq_true rfl), (Nat.le_of_ble_eq_true rfl)⟩) (pre3V g hK mq0_ kq0_ (by decide) (q := (RX8, TX8, 10)) rfl) rfl rfl hl.1 rfl (lv_room (Nat.le_of_ble_eq_true rfl)) dX0_openOperator_51 ⟨(Nat.le_of_ble_eq_true rfl), (Nat.le_of_ble_eq_true rfl)⟩) g hK (by decide) (by decide) (fx' := [(7, 6, q1_, .int x_53), (0, 0, a0_, .ref q0_), (0, 2, a0_, .ref q1_), (8, 8, q0_, .int y0_)]) rfl (fun r_57 fr_57 H locs hp hMr_57 g => ?_)
    have hG_58 := eOK.frame hMr_57 go_.2.2.2.1 ma0_ ka0_ (by decide) (by decide) hG_56
    refine lv_iload_n hx hb dX0_openOperator_54 rfl (lv_at hl 0 rfl) ?_
    obtain ⟨a_59, ma_59, ka_59, g⟩ := g_factr (K := 110) g ma0_ ka0_ (by decide) 3 rfl
    obtain ⟨a_60, ma_60, ka_60, g⟩ := g_factr (K := 112) g ma0_ ka0_ (by decide) 5 rfl
    have go_ := g
    refine g_callv (va_runV (As := [.int x1_, .int r_57, .int x_1]) (rest := []) ⟨hx, hb, hml, hown, hts⟩ (r_X0_push_2 l dC dI L kd tys fr_57 H.size g.2.2.2.1 a0_ ma0_ ka0_ x1_ r_57 x_1 a_59 ma_59 ka_59 a_60 ma_60 ka_60 hG_58 (erel_bd b_51 bx_1 (by decide)) (g.fcts [1, 0] rfl)) (cwV 3 hts (gV_ t_1221 t_1223 t_19 t_190 t_1224) rfl rfl rfl (by decide +kernel) ⟨(Nat.le_of_ble_eq_true rfl), (Nat.le_of_ble_eq_true rfl)⟩) (pre3V g hK ma0_ ka0_ (by decide) (q := (RX0, TX0, 14)) rfl) rfl rfl hl.1 rfl (lv_room (Nat.le_of_ble_eq_true rfl)) dX0_openOperator_55 ⟨(Nat.le_of_ble_eq_true rfl), (Nat.le_of_ble_eq_true rfl)⟩) g hK (by decide) (by decide) (fx' := [(0, 5, a0_, .ref a_60), (0, 3, a0_, .ref a_59), (7, 6, q1_, .int x_53), (0, 0, a0_, .ref q0_), (0, 2, a0_, .ref q1_), (8, 8, q0_, .int y0_)]) rfl (fun fr_61 H locs hp hMr_61 g => ?_)
    obtain ⟨hG_62, x_63, h_64, hF_65⟩ := hp
    have g := g.more hF_65
    refine lv_aload_n hx hb dX0_openOperator_58 rfl (lv_at hl 1 rfl) ?_
    refine g_getk (C := RX0) (T := TX0) (N := 14) hx hb hts (mc_ inX0) hown hK g rfl 2 (by decide) rfl (hts _ (List.mem_cons_of_mem _ t_375)) (fun _ h9 => h9) 5 rfl dX0_openOperator_59 ?_
    refine lv_dup hx hb dX0_openOperator_62 rfl ?_
    refine g_geti (C := RX7) (T := TX7) (N := 19) hx hb hts (mc_ inX7) hown hK g mq1_ kq1_ (by decide) rfl 18 (by decide) rfl (hts _ (List.mem_cons_of_mem _ t_681)) (fun _ h9 => h9) rfl dX0_openOperator_63 (fun x_66 bx_66 g => ?_)
    refine lv_iconst (v := 1) hx hb dX0_openOperator_66 (by decide) ?_
    have kb_1 : bd 1 1 (1 : Int32) := ⟨by decide, by decide⟩
    refine lv_iadd hx hb dX0_openOperator_67 ?_
    refine lv_topi (fun y_67 ey_67 => ?_)
    have go_ := g
    refine g_put (C := RX7) (T := TX7) (N := 19) hx hb hts (mc_ inX7) tyX7 tyX7_ok nmX7 hown hK g mq1_ kq1_ (by decide) rfl 18 (by decide) (hts _ (List.mem_cons_of_mem _ t_681)) (fun _ h9 => h9) rfl rfl (okV_i (bdT y_67)) rfl rfl (by decide) (Or.inr (Or.inl (by decide))) (fx' := [(0, 8, a0_, .int x_63), (0, 5, a0_, .ref a_60), (0, 3, a0_, .ref a_59), (7, 6, q1_, .int x_53), (0, 0, a0_, .ref q0_), (0, 2, a0_, .ref q1_), (8, 8, q0_, .int y0_)]) rfl dX0_openOperator_68 (fun f H locs hM_68 g => ?_)
    have hG_69 := eOK.frame hM_68 go_.2.2.2.1 ma0_ ka0_ (by decide) (by decide) hG_62
    refine lv_aload_n hx hb dX0_openOperator_71 rfl (lv_at hl 1 rfl) ?_
    refine g_getk (C := RX0) (T := TX0) (N := 14) hx hb hts (mc_ inX0) hown hK g rfl 0 (by decide) rfl (hts _ (List.mem_cons_of_mem _ t_373)) (fun _ h9 => h9) 5 rfl dX0_openOperator_72 ?_
    have go_ := g
    refine g_callv (va_runV (As := []) (rest := []) ⟨hx, hb, hml, hown, hts⟩ (r_X8_next l dC dI L kd tys f H.size g.2.2.2.1 q0_ mq0_ kq0_) (cwV 0 hts (gV_ t_1225 t_1103 t_1104 t_184 t_1105) rfl rfl rfl (by decide +kernel) ⟨(Nat.le_of_ble_eq_true rfl), (Nat.le_of_ble_eq_true rfl)⟩) (pre3V g hK mq0_ kq0_ (by decide) (q := (RX8, TX8, 10)) rfl) rfl rfl hl.1 rfl (lv_room (Nat.le_of_ble_eq_true rfl)) dX0_openOperator_75 ⟨(Nat.le_of_ble_eq_true rfl), (Nat.le_of_ble_eq_true rfl)⟩) g hK (by decide) (by decide) (fx' := [(7, 18, q1_, .int y_67), (0, 8, a0_, .int x_63), (0, 5, a0_, .ref a_60), (0, 3, a0_, .ref a_59), (7, 6, q1_, .int x_53), (0, 0, a0_, .ref q0_), (0, 2, a0_, .ref q1_), (8, 8, q0_, .int y0_)]) rfl (fun fr_70 H locs hp hMr_70 g => ?_)
    obtain ⟨x_71, h_72, hF_73⟩ := hp
    have hG_74 := eOK.frame hMr_70 go_.2.2.2.1 ma0_ ka0_ (by decide) (by decide) hG_69
    have g := g.more hF_73
    refine lv_aload_n hx hb dX0_openOperator_78 rfl (lv_at hl 1 rfl) ?_
    refine lv_iconst (v := 1) hx hb dX0_openOperator_79 (by decide) ?_
    have go_ := g
    refine g_put (C := RX0) (T := TX0) (N := 14) hx hb hts (mc_ inX0) tyX0 tyX0_ok nmX0 hown hK g ma0_ ka0_ (by decide) rfl 12 (by decide) (hts _ (List.mem_cons_of_mem _ t_385)) (fun _ h9 => h9) rfl rfl (okV_i (bd_sub kb_1 (by decide))) rfl rfl (by decide) (Or.inr (Or.inl (by decide))) (fx' := [(8, 6, q0_, .int x_71), (7, 18, q1_, .int y_67), (0, 8, a0_, .int x_63), (0, 5, a0_, .ref a_60), (0, 3, a0_, .ref a_59), (7, 6, q1_, .int x_53), (0, 0, a0_, .ref q0_), (0, 2, a0_, .ref q1_), (8, 8, q0_, .int y0_)]) rfl dX0_openOperator_80 (fun f H locs hM_75 g => ?_)
    have hG_76 := eOK.frame hM_75 go_.2.2.2.1 ma0_ ka0_ (by decide) (by decide) hG_74
    subst hQ
    exact W.vret hx hb hr (fun t ht hW => ⟨⟨_, rfl, ⟨hG_76, x_71, h_72, x_63, h_64, (g.fcts [0, 1, 3] rfl)⟩, q3_of g hK ht hW⟩, g.2.2.1.F ht⟩) g.2.2.1.2.2 dX0_openOperator_83
set_option maxHeartbeats 4000000 in
set_option maxRecDepth 100000 in
theorem r_X0_readBehind (l : Launch) (dC : Nat → ClassId) (dI : Nat → Nat → Nat) (L : List Nat) (kd : Nat → Nat) (tys : List (ClassId × FieldType)) (f0 : Nat → va_E) (sz : Nat) (hWT : WT L kd tys f0) (a0_ : Nat) (ma0_ : a0_ ∈ L) (ka0_ : kd a0_ = 0) (x1_ : Int32) (q0_ : Nat) (mq0_ : q0_ ∈ L) (kq0_ : kd q0_ = 8) (q1_ : Nat) (mq1_ : q1_ ∈ L) (kq1_ : kd q1_ = 5) (q2_ : Nat) (mq2_ : q2_ ∈ L) (kq2_ : kd q2_ = 7) (q3_ : Nat) (mq3_ : q3_ ∈ L) (kq3_ : kd q3_ = 9) (y0_ : Int32) (by0_ : bd 0 0 y0_) (hGea0_ : eOK f0 a0_) (hfx : Fs L kd f0 [(0, 0, a0_, .ref q0_), (0, 1, a0_, .ref q1_), (0, 2, a0_, .ref q2_), (5, 1, q1_, .ref q3_), (8, 8, q0_, .int y0_)]) : Met l yX0_readBehind (.code yX0_readBehind cX0_readBehind 3 none :: lw_g) ({ frames := 2, cells := 0, slots := 0, locals := 49 }) (va_Pc [.ref a0_, .int x1_] (P3 (dC, dI) L tys f0 sz)) (va_Qv (fun (f : Nat → va_E) => (eOK f a0_ ∧ Fs L kd f [(8, 8, q0_, .int y0_)]) ∨ (eOK f a0_ ∧ ∃ z1_ : Int32, bd 1 7 z1_ ∧ Fs L kd f [(8, 6, q0_, .int 1201), (8, 8, q0_, .int z1_)])) (Q3 (dC, dI) L kd tys [(0, 8), (0, 10), (0, 11), (0, 12), (0, 13), (7, 6), (7, 18), (8, 6), (8, 8), (8, 9)] [110, 111, 112, 113, 114, 115, 138, 139] f0 sz) (pA L sz)) 0 0 (pA L sz) := by
  refine Met.ofW (cc := cX0_readBehind) (maxL := 3) (ret := none) (by decide) rfl ?_
  intro p e s m args below meth c s₁ B hml hv
  obtain ⟨rfl, hsz, hP, hK, hD0⟩ := hv
  have hx := B.exec
  have hb := B.bytes
  have hr := B.returns
  have hts := atoms_spec (ws := (.code yX0_readBehind cX0_readBehind 3 none :: lw_g)) B.pre
  have hown : s.vm.findClass RX0 = some m.cls := findClass_of_methodNamed B.named
  have hlocks := B.notSynchronized
  subst hsz
  have g : G3 (dC, dI) L kd tys s f0 [(0, 8), (0, 10), (0, 11), (0, 12), (0, 13), (7, 6), (7, 18), (8, 6), (8, 8), (8, 9)] [110, 111, 112, 113, 114, 115, 138, 139] f0 s.heap [] [(0, 0, a0_, .ref q0_), (0, 1, a0_, .ref q1_), (0, 2, a0_, .ref q2_), (5, 1, q1_, .ref q3_), (8, 8, q0_, .int y0_)] := G3.start hP hD0 hWT hfx
  have hl := lv_entry ([.ref a0_, .int x1_]) (n := 3) (Nat.le_of_ble_eq_true rfl)
  rw [lg_entry_eq]
  generalize (lg_sl ([.ref a0_, .int x1_]) ++ List.replicate (3 - (lg_sl ([.ref a0_, .int x1_])).length) Slot.unset).toArray = ls at hl ⊢
  have hl : lv_has ls 3 [(0, .ref a0_), (1, .int x1_)] := hl
  refine W_q (fun Q hQ => ?_)
  refine lv_iload_n hx hb dX0_readBehind_0 rfl (lv_at hl 1 rfl) ?_
  have go_ := g
  refine g_calli (va_runS (As := [.int x1_]) (rest := []) ⟨hx, hb, hml, hown, hts⟩ (r_X0_levelOf l dC dI L kd tys f0 s.heap.size g.2.2.2.1 x1_) (va_cwS 1 hts (gS_ t_1191 t_1192 t_190 t_1193) rfl rfl rfl (by decide +kernel) ⟨(Nat.le_of_ble_eq_true rfl), (Nat.le_of_ble_eq_true rfl)⟩) (pre3S g hK) rfl rfl hl.1 rfl (lv_room (Nat.le_of_ble_eq_true rfl)) dX0_readBehind_1 ⟨(Nat.le_of_ble_eq_true rfl), (Nat.le_of_ble_eq_true rfl)⟩) g hK (by decide) (by decide) (fx' := [(0, 0, a0_, .ref q0_), (0, 1, a0_, .ref q1_), (0, 2, a0_, .ref q2_), (5, 1, q1_, .ref q3_), (8, 8, q0_, .int y0_)]) rfl (fun r_1 fr_1 H locs hp hMr_1 g => ?_)
  rcases hp with ⟨h_2, -⟩ | ⟨h_3, h_4, -⟩
  · have hG_5 := eOK.frame hMr_1 go_.2.2.2.1 ma0_ ka0_ (by decide) (by decide) hGea0_
    obtain rfl : r_1 = 0 := h_2
    refine lv_istore_n (lv' := [(2, .int 0), (0, .ref a0_), (1, .int x1_)]) hx hb dX0_readBehind_4 rfl hl (by decide) rfl (fun ls hl => ?_)
    refine lv_aload_n hx hb dX0_readBehind_5 rfl (lv_at hl 1 rfl) ?_
    refine lv_iload_n hx hb dX0_readBehind_6 rfl (lv_at hl 0 rfl) ?_
    refine lv_iconst (v := 1) hx hb dX0_readBehind_7 (by decide) ?_
    have kb_0 : bd 0 0 (0 : Int32) := ⟨by decide, by decide⟩
    have kb_1 : bd 1 1 (1 : Int32) := ⟨by decide, by decide⟩
    refine va_mmax hx hb (hml.trans hl.1.symm) hown (hts _ (List.mem_cons_of_mem _ t_1194)) (hts _ (List.mem_cons_of_mem _ t_1041)) (hts _ (List.mem_cons_of_mem _ t_204)) (hts _ (List.mem_cons_of_mem _ t_1042)) (Nat.le_of_ble_eq_true rfl) (Nat.le_of_ble_eq_true rfl) (Nat.le_of_ble_eq_true rfl) (Nat.le_of_ble_eq_true rfl) dX0_readBehind_8 ?_
    refine lv_topi (fun y_6 ey_6 => ?_)
    obtain rfl : y_6 = 1 := ey_6.trans (by decide)
    have go_ := g
    refine g_callv (va_runV (As := [.int 1]) (rest := []) ⟨hx, hb, hml, hown, hts⟩ (r_X0_closeParts l dC dI L kd tys fr_1 H.size g.2.2.2.1 a0_ ma0_ ka0_ 1 q0_ mq0_ kq0_ q2_ mq2_ kq2_ y0_ by0_ (g.fcts [0, 2, 4] rfl)) (cwV 1 hts (gV_ t_1195 t_1197 t_15 t_190 t_1198) rfl rfl rfl (by decide +kernel) ⟨(Nat.le_of_ble_eq_true rfl), (Nat.le_of_ble_eq_true rfl)⟩) (pre3V g hK ma0_ ka0_ (by decide) (q := (RX0, TX0, 14)) rfl) rfl rfl hl.1 rfl (lv_room (Nat.le_of_ble_eq_true rfl)) dX0_readBehind_11 ⟨(Nat.le_of_ble_eq_true rfl), (Nat.le_of_ble_eq_true rfl)⟩) g hK (by decide) (by decide) (fx' := [(0, 0, a0_, .ref q0_), (0, 1, a0_, .ref q1_), (0, 2, a0_, .ref q2_), (5, 1, q1_, .ref q3_)]) rfl (fun fr_7 H locs hp hMr_7 g => ?_)
    rcases hp with hF_8 | ⟨x_9, h_10, x_11, h_12, x_13, h_14, x_15, h_16, hF_17⟩
    · have hG_18 := eOK.frame hMr_7 go_.2.2.2.1 ma0_ ka0_ (by decide) (by decide) hG_5
      have g := g.more hF_8
      refine lv_aload_n hx hb dX0_readBehind_14 rfl (lv_at hl 1 rfl) ?_
      refine g_getk (C := RX0) (T := TX0) (N := 14) hx hb hts (mc_ inX0) hown hK g rfl 0 (by decide) rfl (hts _ (List.mem_cons_of_mem _ t_373)) (fun _ h9 => h9) 1 rfl dX0_readBehind_15 ?_
      refine g_getk (C := RX8) (T := TX8) (N := 10) hx hb hts (mc_ inX8) hown hK g rfl 8 (by decide) rfl (hts _ (List.mem_cons_of_mem _ t_293)) (fun _ h9 => h9) 0 rfl dX0_readBehind_18 ?_
      refine lv_if_eq (tgt := 25) hx hb dX0_readBehind_21 (by decide) (fun c_19 => ?_) (fun c_19 => ?_)
      · have fc_19 := eq_f c_19
        refine lv_iload_n hx hb dX0_readBehind_25 rfl (lv_at hl 0 rfl) ?_
        refine lv_if_le (tgt := 37) hx hb dX0_readBehind_26 (by decide) (fun c_ => ?_) (fun c_ => absurd (by decide) c_)
        refine lv_aload_n hx hb dX0_readBehind_37 rfl (lv_at hl 1 rfl) ?_
        refine g_geti (C := RX0) (T := TX0) (N := 14) hx hb hts (mc_ inX0) hown hK g ma0_ ka0_ (by decide) rfl 8 (by decide) rfl (hts _ (List.mem_cons_of_mem _ t_381)) (fun _ h9 => h9) rfl dX0_readBehind_38 (fun x_20 bx_20 g => ?_)
        refine lv_if_ne (tgt := 52) hx hb dX0_readBehind_41 (by decide) (fun c_21 => ?_) (fun c_21 => ?_)
        · have fc_21 := neq_f c_21
          have b_22 : bd 1 300 x_20 := neX fc_21 bx_20 kb_0 (by decide)
          refine lv_aload_n hx hb dX0_readBehind_52 rfl (lv_at hl 1 rfl) ?_
          refine g_getr (K := 110) (C := RX0) (T := TX0) (N := 14) hx hb hts (mc_ inX0) hown hK g ma0_ ka0_ (by decide) rfl 3 (by decide) rfl (hts _ (List.mem_cons_of_mem _ t_376)) (fun _ h9 => h9) rfl dX0_readBehind_53 (fun a_23 ma_23 ka_23 g => ?_)
          refine lv_aload_n hx hb dX0_readBehind_56 rfl (lv_at hl 1 rfl) ?_
          refine g_getk (C := RX0) (T := TX0) (N := 14) hx hb hts (mc_ inX0) hown hK g rfl 8 (by decide) rfl (hts _ (List.mem_cons_of_mem _ t_381)) (fun _ h9 => h9) 1 rfl dX0_readBehind_57 ?_
          refine lv_iconst (v := 1) hx hb dX0_readBehind_60 (by decide) ?_
          refine lv_isub hx hb dX0_readBehind_61 ?_
          refine lv_topi (fun y_24 ey_24 => ?_)
          have ty_24 := sub_bd ey_24 b_22 kb_1 (by decide)
          have b_25 : bd 0 299 y_24 := sub_rg ty_24 b_22 kb_1 (by decide)
          refine g_iald hx hb hK g ma_23 ka_23 (by decide) rfl (in_bd b_25 (by decide)) dX0_readBehind_62 (fun x_26 bx_26 cx_26 => ?_)
          refine lv_iconst (v := 1) hx hb dX0_readBehind_63 (by decide) ?_
          refine lv_icmp_ne (tgt := 103) hx hb dX0_readBehind_64 (by decide) (fun c_27 => ?_) (fun c_27 => ?_)
          · have fc_27 := neq_f c_27
            refine lv_aload_n hx hb dX0_readBehind_103 rfl (lv_at hl 1 rfl) ?_
            refine g_getk (C := RX0) (T := TX0) (N := 14) hx hb hts (mc_ inX0) hown hK g rfl 3 (by decide) rfl (hts _ (List.mem_cons_of_mem _ t_376)) (fun _ h9 => h9) 0 rfl dX0_readBehind_104 ?_
            refine lv_aload_n hx hb dX0_readBehind_107 rfl (lv_at hl 1 rfl) ?_
            refine g_getk (C := RX0) (T := TX0) (N := 14) hx hb hts (mc_ inX0) hown hK g rfl 8 (by decide) rfl (hts _ (List.mem_cons_of_mem _ t_381)) (fun _ h9 => h9) 1 rfl dX0_readBehind_108 ?_
            refine lv_iconst (v := 1) hx hb dX0_readBehind_111 (by decide) ?_
            refine lv_isub hx hb dX0_readBehind_112 ?_
            refine lv_topi (fun y_28 ey_28 => ?_)
            obtain rfl : y_24 = y_28 := ey_24.trans ey_28.symm
            refine g_iald hx hb hK g ma_23 ka_23 (by decide) rfl (in_bd b_25 (by decide)) dX0_readBehind_113 (fun x_29 bx_29 cx_29 => ?_)
            obtain rfl : x_26 = x_29 := el_same cx_26 cx_29 rfl
            refine lv_iconst (v := 4) hx hb dX0_readBehind_114 (by decide) ?_
            have kb_4 : bd 4 4 (4 : Int32) := ⟨by decide, by decide⟩
            refine lv_icmp_eq (tgt := 133) hx hb dX0_readBehind_115 (by decide) (fun c_30 => ?_) (fun c_30 => ?_)
            · have fc_30 := eq_f c_30
              have b_31 : bd 4 4 x_26 := eqX fc_30 (bdT x_26) kb_4 (by decide)
              refine lv_iload_n hx hb dX0_readBehind_133 rfl (lv_at hl 2 rfl) ?_
              refine lv_bipush (v := 93) hx hb dX0_readBehind_134 (by decide) ?_
              have kb_93 : bd 93 93 (93 : Int32) := ⟨by decide, by decide⟩
              refine lv_icmp_ne (tgt := 146) hx hb dX0_readBehind_136 (by decide) (fun c_32 => ?_) (fun c_32 => ?_)
              · have fc_32 := neq_f c_32
                refine lv_aload_n hx hb dX0_readBehind_146 rfl (lv_at hl 1 rfl) ?_
                refine g_getk (C := RX0) (T := TX0) (N := 14) hx hb hts (mc_ inX0) hown hK g rfl 3 (by decide) rfl (hts _ (List.mem_cons_of_mem _ t_376)) (fun _ h9 => h9) 0 rfl dX0_readBehind_147 ?_
                refine lv_aload_n hx hb dX0_readBehind_150 rfl (lv_at hl 1 rfl) ?_
                refine g_getk (C := RX0) (T := TX0) (N := 14) hx hb hts (mc_ inX0) hown hK g rfl 8 (by decide) rfl (hts _ (List.mem_cons_of_mem _ t_381)) (fun _ h9 => h9) 1 rfl dX0_readBehind_151 ?_
                refine lv_iconst (v := 1) hx hb dX0_readBehind_154 (by decide) ?_
                refine lv_isub hx hb dX0_readBehind_155 ?_
                refine lv_topi (fun y_33 ey_33 => ?_)
                obtain rfl : y_24 = y_33 := ey_24.trans ey_33.symm
                refine g_iald hx hb hK g ma_23 ka_23 (by decide) rfl (in_bd b_25 (by decide)) dX0_readBehind_156 (fun x_34 bx_34 cx_34 => ?_)
                obtain rfl : x_26 = x_34 := el_same cx_26 cx_34 rfl
                refine lv_iconst (v := 2) hx hb dX0_readBehind_157 (by decide) ?_
                have kb_2 : bd 2 2 (2 : Int32) := ⟨by decide, by decide⟩
                refine lv_icmp_eq (tgt := 176) hx hb dX0_readBehind_158 (by decide) (fun c_35 => ?_) (fun c_35 => ?_)
                · have fc_35 := eq_f c_35
                  have b_36 : bd 4 2 x_26 := eqX fc_35 b_31 kb_2 (by decide)
                  exact bd_no b_36 (by decide)
                · have fc_35 := neq_f c_35
                  refine lv_aload_n hx hb dX0_readBehind_161 rfl (lv_at hl 1 rfl) ?_
                  refine g_getk (C := RX0) (T := TX0) (N := 14) hx hb hts (mc_ inX0) hown hK g rfl 3 (by decide) rfl (hts _ (List.mem_cons_of_mem _ t_376)) (fun _ h9 => h9) 0 rfl dX0_readBehind_162 ?_
                  refine lv_aload_n hx hb dX0_readBehind_165 rfl (lv_at hl 1 rfl) ?_
                  refine g_getk (C := RX0) (T := TX0) (N := 14) hx hb hts (mc_ inX0) hown hK g rfl 8 (by decide) rfl (hts _ (List.mem_cons_of_mem _ t_381)) (fun _ h9 => h9) 1 rfl dX0_readBehind_166 ?_
                  refine lv_iconst (v := 1) hx hb dX0_readBehind_169 (by decide) ?_
                  refine lv_isub hx hb dX0_readBehind_170 ?_
                  refine lv_topi (fun y_37 ey_37 => ?_)
                  obtain rfl : y_24 = y_37 := ey_24.trans ey_37.symm
                  refine g_iald hx hb hK g ma_23 ka_23 (by decide) rfl (in_bd b_25 (by decide)) dX0_readBehind_171 (fun x_38 bx_38 cx_38 => ?_)
                  obtain rfl : x_26 = x_38 := el_same cx_26 cx_38 rfl
                  refine lv_iconst (v := 3) hx hb dX0_readBehind_172 (by decide) ?_
                  have kb_3 : bd 3 3 (3 : Int32) := ⟨by decide, by decide⟩
                  refine lv_icmp_ne (tgt := 184) hx hb dX0_readBehind_173 (by decide) (fun c_39 => ?_) (fun c_39 => ?_)
                  · have fc_39 := neq_f c_39
                    refine lv_aload_n hx hb dX0_readBehind_184 rfl (lv_at hl 1 rfl) ?_
                    refine g_getk (C := RX0) (T := TX0) (N := 14) hx hb hts (mc_ inX0) hown hK g rfl 0 (by decide) rfl (hts _ (List.mem_cons_of_mem _ t_373)) (fun _ h9 => h9) 3 rfl dX0_readBehind_185 ?_
                    refine lv_iconst (v := 1) hx hb dX0_readBehind_188 (by decide) ?_
                    refine lv_aload_n hx hb dX0_readBehind_189 rfl (lv_at hl 1 rfl) ?_
                    refine g_getk (C := RX0) (T := TX0) (N := 14) hx hb hts (mc_ inX0) hown hK g rfl 0 (by decide) rfl (hts _ (List.mem_cons_of_mem _ t_373)) (fun _ h9 => h9) 3 rfl dX0_readBehind_190 ?_
                    have go_ := g
                    refine g_calli (va_runV (As := []) (rest := [.int 1, .ref q0_]) ⟨hx, hb, hml, hown, hts⟩ (r_X8_place l dC dI L kd tys fr_7 H.size g.2.2.2.1 q0_ mq0_ kq0_) (cwV 0 hts (gV_ t_1220 t_1111 t_1112 t_184 t_1113) rfl rfl rfl (by decide +kernel) ⟨(Nat.le_of_ble_eq_true rfl), (Nat.le_of_ble_eq_true rfl)⟩) (pre3V g hK mq0_ kq0_ (by decide) (q := (RX8, TX8, 10)) rfl) rfl rfl hl.1 rfl (lv_room (Nat.le_of_ble_eq_true rfl)) dX0_readBehind_193 ⟨(Nat.le_of_ble_eq_true rfl), (Nat.le_of_ble_eq_true rfl)⟩) g hK (by decide) (by decide) (fx' := [(0, 3, a0_, .ref a_23), (0, 8, a0_, .int x_20), (8, 8, q0_, .int y0_), (0, 0, a0_, .ref q0_), (0, 1, a0_, .ref q1_), (0, 2, a0_, .ref q2_), (5, 1, q1_, .ref q3_)]) rfl (fun r_40 fr_40 H locs hp hMr_40 g => ?_)
                    have hG_41 := eOK.frame hMr_40 go_.2.2.2.1 ma0_ ka0_ (by decide) (by decide) hG_18
                    have go_ := g
                    refine g_callv (va_runV (As := [.int 1, .int r_40]) (rest := []) ⟨hx, hb, hml, hown, hts⟩ (r_X8_fail l dC dI L kd tys fr_40 H.size g.2.2.2.1 q0_ mq0_ kq0_ 1 (bd_sub kb_1 (by decide)) r_40 y0_ by0_ (g.fcts [2] rfl)) (cwV 2 hts (gV_ t_1215 t_1107 t_1108 t_184 t_1109) rfl rfl rfl (by decide +kernel) ⟨(Nat.le_of_ble_eq_true rfl), (Nat.le_of_ble_eq_true rfl)⟩) (pre3V g hK mq0_ kq0_ (by decide) (q := (RX8, TX8, 10)) rfl) rfl rfl hl.1 rfl (lv_room (Nat.le_of_ble_eq_true rfl)) dX0_readBehind_196 ⟨(Nat.le_of_ble_eq_true rfl), (Nat.le_of_ble_eq_true rfl)⟩) g hK (by decide) (by decide) (fx' := [(0, 3, a0_, .ref a_23), (0, 8, a0_, .int x_20), (0, 0, a0_, .ref q0_), (0, 1, a0_, .ref q1_), (0, 2, a0_, .ref q2_), (5, 1, q1_, .ref q3_)]) rfl (fun fr_42 H locs hp hMr_42 g => ?_)
                    obtain ⟨x_43, h_44, hF_45⟩ := hp
                    have hG_46 := eOK.frame hMr_42 go_.2.2.2.1 ma0_ ka0_ (by decide) (by decide) hG_41
                    have g := g.more hF_45
                    subst hQ
                    exact W.vret hx hb hr (fun t ht hW => ⟨⟨_, rfl, Or.inr (⟨hG_46, x_43, h_44, (g.fcts [0, 1] rfl)⟩), q3_of g hK ht hW⟩, g.2.2.1.F ht⟩) g.2.2.1.2.2 dX0_readBehind_199
                  · have fc_39 := eq_f c_39
                    have b_47 : bd 4 3 x_26 := eqX fc_39 b_31 kb_3 (by decide)
                    exact bd_no b_47 (by decide)
              · have fc_32 := eq_f c_32
                have b_48 : bd 93 93 x1_ := eqX fc_32 (bdT x1_) kb_93 (by decide)
                refine lv_aload_n hx hb dX0_readBehind_139 rfl (lv_at hl 1 rfl) ?_
                have go_ := g
                refine g_callv (va_runV (As := []) (rest := []) ⟨hx, hb, hml, hown, hts⟩ (r_X0_closeIndex l dC dI L kd tys fr_7 H.size g.2.2.2.1 a0_ ma0_ ka0_ q0_ mq0_ kq0_ q2_ mq2_ kq2_ x_20 b_22 y0_ by0_ (g.fcts [3, 5, 1, 2] rfl)) (cwV 0 hts (gV_ t_1226 t_1228 t_20 t_190 t_1229) rfl rfl rfl (by decide +kernel) ⟨(Nat.le_of_ble_eq_true rfl), (Nat.le_of_ble_eq_true rfl)⟩) (pre3V g hK ma0_ ka0_ (by decide) (q := (RX0, TX0, 14)) rfl) rfl rfl hl.1 rfl (lv_room (Nat.le_of_ble_eq_true rfl)) dX0_readBehind_140 ⟨(Nat.le_of_ble_eq_true rfl), (Nat.le_of_ble_eq_true rfl)⟩) g hK (by decide) (by decide) (fx' := [(0, 3, a0_, .ref a_23), (0, 0, a0_, .ref q0_), (0, 1, a0_, .ref q1_), (0, 2, a0_, .ref q2_), (5, 1, q1_, .ref q3_)]) rfl (fun fr_49 H locs hp hMr_49 g => ?_)
                rcases hp with ⟨x_50, h_51, x_52, h_53, x_54, h_55, x_56, h_57, hF_58⟩ | ⟨x_59, h_60, x_61, h_62, x_63, h_64, x_65, h_66, hF_67⟩
                · have hG_68 := eOK.frame hMr_49 go_.2.2.2.1 ma0_ ka0_ (by decide) (by decide) hG_18
                  have g := g.more hF_58
                  refine lv_goto (tgt := 199) hx hb dX0_readBehind_143 (by decide) ?_
                  subst hQ
                  exact W.vret hx hb hr (fun t ht hW => ⟨⟨_, rfl, Or.inl ⟨hG_68, (g.fcts [5] rfl)⟩, q3_of g hK ht hW⟩, g.2.2.1.F ht⟩) g.2.2.1.2.2 dX0_readBehind_199
                · have hG_69 := eOK.frame hMr_49 go_.2.2.2.1 ma0_ ka0_ (by decide) (by decide) hG_18
                  have g := g.more hF_67
                  refine lv_goto (tgt := 199) hx hb dX0_readBehind_143 (by decide) ?_
                  subst hQ
                  exact W.vret hx hb hr (fun t ht hW => ⟨⟨_, rfl, Or.inr (⟨hG_69, x_63, h_64, (g.fcts [2, 4] rfl)⟩), q3_of g hK ht hW⟩, g.2.2.1.F ht⟩) g.2.2.1.2.2 dX0_readBehind_199
            · have fc_30 := neq_f c_30
              refine lv_aload_n hx hb dX0_readBehind_118 rfl (lv_at hl 1 rfl) ?_
              refine g_getk (C := RX0) (T := TX0) (N := 14) hx hb hts (mc_ inX0) hown hK g rfl 3 (by decide) rfl (hts _ (List.mem_cons_of_mem _ t_376)) (fun _ h9 => h9) 0 rfl dX0_readBehind_119 ?_
              refine lv_aload_n hx hb dX0_readBehind_122 rfl (lv_at hl 1 rfl) ?_
              refine g_getk (C := RX0) (T := TX0) (N := 14) hx hb hts (mc_ inX0) hown hK g rfl 8 (by decide) rfl (hts _ (List.mem_cons_of_mem _ t_381)) (fun _ h9 => h9) 1 rfl dX0_readBehind_123 ?_
              refine lv_iconst (v := 1) hx hb dX0_readBehind_126 (by decide) ?_
              refine lv_isub hx hb dX0_readBehind_127 ?_
              refine lv_topi (fun y_70 ey_70 => ?_)
              obtain rfl : y_24 = y_70 := ey_24.trans ey_70.symm
              refine g_iald hx hb hK g ma_23 ka_23 (by decide) rfl (in_bd b_25 (by decide)) dX0_readBehind_128 (fun x_71 bx_71 cx_71 => ?_)
              obtain rfl : x_26 = x_71 := el_same cx_26 cx_71 rfl
              refine lv_iconst (v := 5) hx hb dX0_readBehind_129 (by decide) ?_
              have kb_5 : bd 5 5 (5 : Int32) := ⟨by decide, by decide⟩
              refine lv_icmp_ne (tgt := 146) hx hb dX0_readBehind_130 (by decide) (fun c_72 => ?_) (fun c_72 => ?_)
              · have fc_72 := neq_f c_72
                refine lv_aload_n hx hb dX0_readBehind_146 rfl (lv_at hl 1 rfl) ?_
                refine g_getk (C := RX0) (T := TX0) (N := 14) hx hb hts (mc_ inX0) hown hK g rfl 3 (by decide) rfl (hts _ (List.mem_cons_of_mem _ t_376)) (fun _ h9 => h9) 0 rfl dX0_readBehind_147 ?_
                refine lv_aload_n hx hb dX0_readBehind_150 rfl (lv_at hl 1 rfl) ?_
                refine g_getk (C := RX0) (T := TX0) (N := 14) hx hb hts (mc_ inX0) hown hK g rfl 8 (by decide) rfl (hts _ (List.mem_cons_of_mem _ t_381)) (fun _ h9 => h9) 1 rfl dX0_readBehind_151 ?_
                refine lv_iconst (v := 1) hx hb dX0_readBehind_154 (by decide) ?_
                refine lv_isub hx hb dX0_readBehind_155 ?_
                refine lv_topi (fun y_73 ey_73 => ?_)
                obtain rfl : y_24 = y_73 := ey_24.trans ey_73.symm
                refine g_iald hx hb hK g ma_23 ka_23 (by decide) rfl (in_bd b_25 (by decide)) dX0_readBehind_156 (fun x_74 bx_74 cx_74 => ?_)
                obtain rfl : x_26 = x_74 := el_same cx_26 cx_74 rfl
                refine lv_iconst (v := 2) hx hb dX0_readBehind_157 (by decide) ?_
                have kb_2 : bd 2 2 (2 : Int32) := ⟨by decide, by decide⟩
                refine lv_icmp_eq (tgt := 176) hx hb dX0_readBehind_158 (by decide) (fun c_75 => ?_) (fun c_75 => ?_)
                · have fc_75 := eq_f c_75
                  have b_76 : bd 2 2 x_26 := eqX fc_75 (bdT x_26) kb_2 (by decide)
                  refine lv_aload_n hx hb dX0_readBehind_176 rfl (lv_at hl 1 rfl) ?_
                  refine lv_iload_n hx hb dX0_readBehind_177 rfl (lv_at hl 2 rfl) ?_
                  have go_ := g
                  refine g_callv (va_runV (As := [.int x1_]) (rest := []) ⟨hx, hb, hml, hown, hts⟩ (r_X0_closeArgument l dC dI L kd tys fr_7 H.size g.2.2.2.1 a0_ ma0_ ka0_ x1_ q0_ mq0_ kq0_ q1_ mq1_ kq1_ q2_ mq2_ kq2_ a_23 ma_23 ka_23 q3_ mq3_ kq3_ x_20 b_22 y0_ by0_ hG_18 (fun z hz => t2_ cx_26 hz (t1_ ty_24) (bd_sub b_76 (by decide))) (g.fcts [3, 4, 5, 0, 6, 1, 2] rfl)) (cwV 1 hts (gV_ t_1230 t_1232 t_21 t_190 t_1233) rfl rfl rfl (by decide +kernel) ⟨(Nat.le_of_ble_eq_true rfl), (Nat.le_of_ble_eq_true rfl)⟩) (pre3V g hK ma0_ ka0_ (by decide) (q := (RX0, TX0, 14)) rfl) rfl rfl hl.1 rfl (lv_room (Nat.le_of_ble_eq_true rfl)) dX0_readBehind_178 ⟨(Nat.le_of_ble_eq_true rfl), (Nat.le_of_ble_eq_true rfl)⟩) g hK (by decide) (by decide) (fx' := [(0, 3, a0_, .ref a_23), (0, 0, a0_, .ref q0_), (0, 1, a0_, .ref q1_), (0, 2, a0_, .ref q2_), (5, 1, q1_, .ref q3_)]) rfl (fun fr_77 H locs hp hMr_77 g => ?_)
                  rcases hp with ⟨h_78, x_79, h_80, hF_81⟩ | ⟨x_82, h_83, hF_84⟩
                  · have hG_85 := eOK.frame hMr_77 go_.2.2.2.1 ma0_ ka0_ (by decide) (by decide) hG_18
                    have b_86 : bd 41 44 x1_ := eqX rfl (bdT x1_) h_78 (by decide)
                    have g := g.more hF_81
                    refine lv_goto (tgt := 199) hx hb dX0_readBehind_181 (by decide) ?_
                    subst hQ
                    exact W.vret hx hb hr (fun t ht hW => ⟨⟨_, rfl, Or.inl ⟨hG_85, (g.fcts [1] rfl)⟩, q3_of g hK ht hW⟩, g.2.2.1.F ht⟩) g.2.2.1.2.2 dX0_readBehind_199
                  · have hG_87 := eOK.frame hMr_77 go_.2.2.2.1 ma0_ ka0_ (by decide) (by decide) hG_18
                    have g := g.more hF_84
                    refine lv_goto (tgt := 199) hx hb dX0_readBehind_181 (by decide) ?_
                    subst hQ
                    exact W.vret hx hb hr (fun t ht hW => ⟨⟨_, rfl, Or.inr (⟨hG_87, x_82, h_83, (g.fcts [0, 1] rfl)⟩), q3_of g hK ht hW⟩, g.2.2.1.F ht⟩) g.2.2.1.2.2 dX0_readBehind_199
                · have fc_75 := neq_f c_75
                  refine lv_aload_n hx hb dX0_readBehind_161 rfl (lv_at hl 1 rfl) ?_
                  refine g_getk (C := RX0) (T := TX0) (N := 14) hx hb hts (mc_ inX0) hown hK g rfl 3 (by decide) rfl (hts _ (List.mem_cons_of_mem _ t_376)) (fun _ h9 => h9) 0 rfl dX0_readBehind_162 ?_
                  refine lv_aload_n hx hb dX0_readBehind_165 rfl (lv_at hl 1 rfl) ?_
                  refine g_getk (C := RX0) (T := TX0) (N := 14) hx hb hts (mc_ inX0) hown hK g rfl 8 (by decide) rfl (hts _ (List.mem_cons_of_mem _ t_381)) (fun _ h9 => h9) 1 rfl dX0_readBehind_166 ?_
                  refine lv_iconst (v := 1) hx hb dX0_readBehind_169 (by decide) ?_
                  refine lv_isub hx hb dX0_readBehind_170 ?_
                  refine lv_topi (fun y_88 ey_88 => ?_)
                  obtain rfl : y_24 = y_88 := ey_24.trans ey_88.symm
                  refine g_iald hx hb hK g ma_23 ka_23 (by decide) rfl (in_bd b_25 (by decide)) dX0_readBehind_171 (fun x_89 bx_89 cx_89 => ?_)
                  obtain rfl : x_26 = x_89 := el_same cx_26 cx_89 rfl
                  refine lv_iconst (v := 3) hx hb dX0_readBehind_172 (by decide) ?_
                  have kb_3 : bd 3 3 (3 : Int32) := ⟨by decide, by decide⟩
                  refine lv_icmp_ne (tgt := 184) hx hb dX0_readBehind_173 (by decide) (fun c_90 => ?_) (fun c_90 => ?_)
                  · have fc_90 := neq_f c_90
                    refine lv_aload_n hx hb dX0_readBehind_184 rfl (lv_at hl 1 rfl) ?_
                    refine g_getk (C := RX0) (T := TX0) (N := 14) hx hb hts (mc_ inX0) hown hK g rfl 0 (by decide) rfl (hts _ (List.mem_cons_of_mem _ t_373)) (fun _ h9 => h9) 3 rfl dX0_readBehind_185 ?_
                    refine lv_iconst (v := 1) hx hb dX0_readBehind_188 (by decide) ?_
                    refine lv_aload_n hx hb dX0_readBehind_189 rfl (lv_at hl 1 rfl) ?_
                    refine g_getk (C := RX0) (T := TX0) (N := 14) hx hb hts (mc_ inX0) hown hK g rfl 0 (by decide) rfl (hts _ (List.mem_cons_of_mem _ t_373)) (fun _ h9 => h9) 3 rfl dX0_readBehind_190 ?_
                    have go_ := g
                    refine g_calli (va_runV (As := []) (rest := [.int 1, .ref q0_]) ⟨hx, hb, hml, hown, hts⟩ (r_X8_place l dC dI L kd tys fr_7 H.size g.2.2.2.1 q0_ mq0_ kq0_) (cwV 0 hts (gV_ t_1220 t_1111 t_1112 t_184 t_1113) rfl rfl rfl (by decide +kernel) ⟨(Nat.le_of_ble_eq_true rfl), (Nat.le_of_ble_eq_true rfl)⟩) (pre3V g hK mq0_ kq0_ (by decide) (q := (RX8, TX8, 10)) rfl) rfl rfl hl.1 rfl (lv_room (Nat.le_of_ble_eq_true rfl)) dX0_readBehind_193 ⟨(Nat.le_of_ble_eq_true rfl), (Nat.le_of_ble_eq_true rfl)⟩) g hK (by decide) (by decide) (fx' := [(0, 3, a0_, .ref a_23), (0, 8, a0_, .int x_20), (8, 8, q0_, .int y0_), (0, 0, a0_, .ref q0_), (0, 1, a0_, .ref q1_), (0, 2, a0_, .ref q2_), (5, 1, q1_, .ref q3_)]) rfl (fun r_91 fr_91 H locs hp hMr_91 g => ?_)
                    have hG_92 := eOK.frame hMr_91 go_.2.2.2.1 ma0_ ka0_ (by decide) (by decide) hG_18
                    have go_ := g
                    refine g_callv (va_runV (As := [.int 1, .int r_91]) (rest := []) ⟨hx, hb, hml, hown, hts⟩ (r_X8_fail l dC dI L kd tys fr_91 H.size g.2.2.2.1 q0_ mq0_ kq0_ 1 (bd_sub kb_1 (by decide)) r_91 y0_ by0_ (g.fcts [2] rfl)) (cwV 2 hts (gV_ t_1215 t_1107 t_1108 t_184 t_1109) rfl rfl rfl (by decide +kernel) ⟨(Nat.le_of_ble_eq_true rfl), (Nat.le_of_ble_eq_true rfl)⟩) (pre3V g hK mq0_ kq0_ (by decide) (q := (RX8, TX8, 10)) rfl) rfl rfl hl.1 rfl (lv_room (Nat.le_of_ble_eq_true rfl)) dX0_readBehind_196 ⟨(Nat.le_of_ble_eq_true rfl), (Nat.le_of_ble_eq_true rfl)⟩) g hK (by decide) (by decide) (fx' := [(0, 3, a0_, .ref a_23), (0, 8, a0_, .int x_20), (0, 0, a0_, .ref q0_), (0, 1, a0_, .ref q1_), (0, 2, a0_, .ref q2_), (5, 1, q1_, .ref q3_)]) rfl (fun fr_93 H locs hp hMr_93 g => ?_)
                    obtain ⟨x_94, h_95, hF_96⟩ := hp
                    have hG_97 := eOK.frame hMr_93 go_.2.2.2.1 ma0_ ka0_ (by decide) (by decide) hG_92
                    have g := g.more hF_96
                    subst hQ
                    exact W.vret hx hb hr (fun t ht hW => ⟨⟨_, rfl, Or.inr (⟨hG_97, x_94, h_95, (g.fcts [0, 1] rfl)⟩), q3_of g hK ht hW⟩, g.2.2.1.F ht⟩) g.2.2.1.2.2 dX0_readBehind_199
                  · have fc_90 := eq_f c_90
                    have b_98 : bd 3 3 x_26 := eqX fc_90 (bdT x_26) kb_3 (by decide)
                    refine lv_aload_n hx hb dX0_readBehind_176 rfl (lv_at hl 1 rfl) ?_
                    refine lv_iload_n hx hb dX0_readBehind_177 rfl (lv_at hl 2 rfl) ?_
                    have go_ := g
                    refine g_callv (va_runV (As := [.int x1_]) (rest := []) ⟨hx, hb, hml, hown, hts⟩ (r_X0_closeArgument l dC dI L kd tys fr_7 H.size g.2.2.2.1 a0_ ma0_ ka0_ x1_ q0_ mq0_ kq0_ q1_ mq1_ kq1_ q2_ mq2_ kq2_ a_23 ma_23 ka_23 q3_ mq3_ kq3_ x_20 b_22 y0_ by0_ hG_18 (fun z hz => t2_ cx_26 hz (t1_ ty_24) (bd_sub b_98 (by decide))) (g.fcts [3, 4, 5, 0, 6, 1, 2] rfl)) (cwV 1 hts (gV_ t_1230 t_1232 t_21 t_190 t_1233) rfl rfl rfl (by decide +kernel) ⟨(Nat.le_of_ble_eq_true rfl), (Nat.le_of_ble_eq_true rfl)⟩) (pre3V g hK ma0_ ka0_ (by decide) (q := (RX0, TX0, 14)) rfl) rfl rfl hl.1 rfl (lv_room (Nat.le_of_ble_eq_true rfl)) dX0_readBehind_178 ⟨(Nat.le_of_ble_eq_true rfl), (Nat.le_of_ble_eq_true rfl)⟩) g hK (by decide) (by decide) (fx' := [(0, 3, a0_, .ref a_23), (0, 0, a0_, .ref q0_), (0, 1, a0_, .ref q1_), (0, 2, a0_, .ref q2_), (5, 1, q1_, .ref q3_)]) rfl (fun fr_99 H locs hp hMr_99 g => ?_)
                    rcases hp with ⟨h_100, x_101, h_102, hF_103⟩ | ⟨x_104, h_105, hF_106⟩
                    · have hG_107 := eOK.frame hMr_99 go_.2.2.2.1 ma0_ ka0_ (by decide) (by decide) hG_18
                      have b_108 : bd 41 44 x1_ := eqX rfl (bdT x1_) h_100 (by decide)
                      have g := g.more hF_103
                      refine lv_goto (tgt := 199) hx hb dX0_readBehind_181 (by decide) ?_
                      subst hQ
                      exact W.vret hx hb hr (fun t ht hW => ⟨⟨_, rfl, Or.inl ⟨hG_107, (g.fcts [1] rfl)⟩, q3_of g hK ht hW⟩, g.2.2.1.F ht⟩) g.2.2.1.2.2 dX0_readBehind_199
                    · have hG_109 := eOK.frame hMr_99 go_.2.2.2.1 ma0_ ka0_ (by decide) (by decide) hG_18
                      have g := g.more hF_106
                      refine lv_goto (tgt := 199) hx hb dX0_readBehind_181 (by decide) ?_
                      subst hQ
                      exact W.vret hx hb hr (fun t ht hW => ⟨⟨_, rfl, Or.inr (⟨hG_109, x_104, h_105, (g.fcts [0, 1] rfl)⟩), q3_of g hK ht hW⟩, g.2.2.1.F ht⟩) g.2.2.1.2.2 dX0_readBehind_199
              · have fc_72 := eq_f c_72
                have b_110 : bd 5 5 x_26 := eqX fc_72 (bdT x_26) kb_5 (by decide)
                refine lv_iload_n hx hb dX0_readBehind_133 rfl (lv_at hl 2 rfl) ?_
                refine lv_bipush (v := 93) hx hb dX0_readBehind_134 (by decide) ?_
                have kb_93 : bd 93 93 (93 : Int32) := ⟨by decide, by decide⟩
                refine lv_icmp_ne (tgt := 146) hx hb dX0_readBehind_136 (by decide) (fun c_111 => ?_) (fun c_111 => ?_)
                · have fc_111 := neq_f c_111
                  refine lv_aload_n hx hb dX0_readBehind_146 rfl (lv_at hl 1 rfl) ?_
                  refine g_getk (C := RX0) (T := TX0) (N := 14) hx hb hts (mc_ inX0) hown hK g rfl 3 (by decide) rfl (hts _ (List.mem_cons_of_mem _ t_376)) (fun _ h9 => h9) 0 rfl dX0_readBehind_147 ?_
                  refine lv_aload_n hx hb dX0_readBehind_150 rfl (lv_at hl 1 rfl) ?_
                  refine g_getk (C := RX0) (T := TX0) (N := 14) hx hb hts (mc_ inX0) hown hK g rfl 8 (by decide) rfl (hts _ (List.mem_cons_of_mem _ t_381)) (fun _ h9 => h9) 1 rfl dX0_readBehind_151 ?_
                  refine lv_iconst (v := 1) hx hb dX0_readBehind_154 (by decide) ?_
                  refine lv_isub hx hb dX0_readBehind_155 ?_
                  refine lv_topi (fun y_112 ey_112 => ?_)
                  obtain rfl : y_24 = y_112 := ey_24.trans ey_112.symm
                  refine g_iald hx hb hK g ma_23 ka_23 (by decide) rfl (in_bd b_25 (by decide)) dX0_readBehind_156 (fun x_113 bx_113 cx_113 => ?_)
                  obtain rfl : x_26 = x_113 := el_same cx_26 cx_113 rfl
                  refine lv_iconst (v := 2) hx hb dX0_readBehind_157 (by decide) ?_
                  have kb_2 : bd 2 2 (2 : Int32) := ⟨by decide, by decide⟩
                  refine lv_icmp_eq (tgt := 176) hx hb dX0_readBehind_158 (by decide) (fun c_114 => ?_) (fun c_114 => ?_)
                  · have fc_114 := eq_f c_114
                    have b_115 : bd 5 2 x_26 := eqX fc_114 b_110 kb_2 (by decide)
                    exact bd_no b_115 (by decide)
                  · have fc_114 := neq_f c_114
                    refine lv_aload_n hx hb dX0_readBehind_161 rfl (lv_at hl 1 rfl) ?_
                    refine g_getk (C := RX0) (T := TX0) (N := 14) hx hb hts (mc_ inX0) hown hK g rfl 3 (by decide) rfl (hts _ (List.mem_cons_of_mem _ t_376)) (fun _ h9 => h9) 0 rfl dX0_readBehind_162 ?_
                    refine lv_aload_n hx hb dX0_readBehind_165 rfl (lv_at hl 1 rfl) ?_
                    refine g_getk (C := RX0) (T := TX0) (N := 14) hx hb hts (mc_ inX0) hown hK g rfl 8 (by decide) rfl (hts _ (List.mem_cons_of_mem _ t_381)) (fun _ h9 => h9) 1 rfl dX0_readBehind_166 ?_
                    refine lv_iconst (v := 1) hx hb dX0_readBehind_169 (by decide) ?_
                    refine lv_isub hx hb dX0_readBehind_170 ?_
                    refine lv_topi (fun y_116 ey_116 => ?_)
                    obtain rfl : y_24 = y_116 := ey_24.trans ey_116.symm
                    refine g_iald hx hb hK g ma_23 ka_23 (by decide) rfl (in_bd b_25 (by decide)) dX0_readBehind_171 (fun x_117 bx_117 cx_117 => ?_)
                    obtain rfl : x_26 = x_117 := el_same cx_26 cx_117 rfl
                    refine lv_iconst (v := 3) hx hb dX0_readBehind_172 (by decide) ?_
                    have kb_3 : bd 3 3 (3 : Int32) := ⟨by decide, by decide⟩
                    refine lv_icmp_ne (tgt := 184) hx hb dX0_readBehind_173 (by decide) (fun c_118 => ?_) (fun c_118 => ?_)
                    · have fc_118 := neq_f c_118
                      refine lv_aload_n hx hb dX0_readBehind_184 rfl (lv_at hl 1 rfl) ?_
                      refine g_getk (C := RX0) (T := TX0) (N := 14) hx hb hts (mc_ inX0) hown hK g rfl 0 (by decide) rfl (hts _ (List.mem_cons_of_mem _ t_373)) (fun _ h9 => h9) 3 rfl dX0_readBehind_185 ?_
                      refine lv_iconst (v := 1) hx hb dX0_readBehind_188 (by decide) ?_
                      refine lv_aload_n hx hb dX0_readBehind_189 rfl (lv_at hl 1 rfl) ?_
                      refine g_getk (C := RX0) (T := TX0) (N := 14) hx hb hts (mc_ inX0) hown hK g rfl 0 (by decide) rfl (hts _ (List.mem_cons_of_mem _ t_373)) (fun _ h9 => h9) 3 rfl dX0_readBehind_190 ?_
                      have go_ := g
                      refine g_calli (va_runV (As := []) (rest := [.int 1, .ref q0_]) ⟨hx, hb, hml, hown, hts⟩ (r_X8_place l dC dI L kd tys fr_7 H.size g.2.2.2.1 q0_ mq0_ kq0_) (cwV 0 hts (gV_ t_1220 t_1111 t_1112 t_184 t_1113) rfl rfl rfl (by decide +kernel) ⟨(Nat.le_of_ble_eq_true rfl), (Nat.le_of_ble_eq_true rfl)⟩) (pre3V g hK mq0_ kq0_ (by decide) (q := (RX8, TX8, 10)) rfl) rfl rfl hl.1 rfl (lv_room (Nat.le_of_ble_eq_true rfl)) dX0_readBehind_193 ⟨(Nat.le_of_ble_eq_true rfl), (Nat.le_of_ble_eq_true rfl)⟩) g hK (by decide) (by decide) (fx' := [(0, 3, a0_, .ref a_23), (0, 8, a0_, .int x_20), (8, 8, q0_, .int y0_), (0, 0, a0_, .ref q0_), (0, 1, a0_, .ref q1_), (0, 2, a0_, .ref q2_), (5, 1, q1_, .ref q3_)]) rfl (fun r_119 fr_119 H locs hp hMr_119 g => ?_)
                      have hG_120 := eOK.frame hMr_119 go_.2.2.2.1 ma0_ ka0_ (by decide) (by decide) hG_18
                      have go_ := g
                      refine g_callv (va_runV (As := [.int 1, .int r_119]) (rest := []) ⟨hx, hb, hml, hown, hts⟩ (r_X8_fail l dC dI L kd tys fr_119 H.size g.2.2.2.1 q0_ mq0_ kq0_ 1 (bd_sub kb_1 (by decide)) r_119 y0_ by0_ (g.fcts [2] rfl)) (cwV 2 hts (gV_ t_1215 t_1107 t_1108 t_184 t_1109) rfl rfl rfl (by decide +kernel) ⟨(Nat.le_of_ble_eq_true rfl), (Nat.le_of_ble_eq_true rfl)⟩) (pre3V g hK mq0_ kq0_ (by decide) (q := (RX8, TX8, 10)) rfl) rfl rfl hl.1 rfl (lv_room (Nat.le_of_ble_eq_true rfl)) dX0_readBehind_196 ⟨(Nat.le_of_ble_eq_true rfl), (Nat.le_of_ble_eq_true rfl)⟩) g hK (by decide) (by decide) (fx' := [(0, 3, a0_, .ref a_23), (0, 8, a0_, .int x_20), (0, 0, a0_, .ref q0_), (0, 1, a0_, .ref q1_), (0, 2, a0_, .ref q2_), (5, 1, q1_, .ref q3_)]) rfl (fun fr_121 H locs hp hMr_121 g => ?_)
                      obtain ⟨x_122, h_123, hF_124⟩ := hp
                      have hG_125 := eOK.frame hMr_121 go_.2.2.2.1 ma0_ ka0_ (by decide) (by decide) hG_120
                      have g := g.more hF_124
                      subst hQ
                      exact W.vret hx hb hr (fun t ht hW => ⟨⟨_, rfl, Or.inr (⟨hG_125, x_122, h_123, (g.fcts [0, 1] rfl)⟩), q3_of g hK ht hW⟩, g.2.2.1.F ht⟩) g.2.2.1.2.2 dX0_readBehind_199
                    · have fc_118 := eq_f c_118
                      have b_126 : bd 5 3 x_26 := eqX fc_118 b_110 kb_3 (by decide)
                      exact bd_no b_126 (by decide)
                · have fc_111 := eq_f c_111
                  have b_127 : bd 93 93 x1_ := eqX fc_111 (bdT x1_) kb_93 (by decide)
                  refine lv_aload_n hx hb dX0_readBehind_139 rfl (lv_at hl 1 rfl) ?_
                  have go_ := g
                  refine g_callv (va_runV (As := []) (rest := []) ⟨hx, hb, hml, hown, hts⟩ (r_X0_closeIndex l dC dI L kd tys fr_7 H.size g.2.2.2.1 a0_ ma0_ ka0_ q0_ mq0_ kq0_ q2_ mq2_ kq2_ x_20 b_22 y0_ by0_ (g.fcts [3, 5, 1, 2] rfl)) (cwV 0 hts (gV_ t_1226 t_1228 t_20 t_190 t_1229) rfl rfl rfl (by decide +kernel) ⟨(Nat.le_of_ble_eq_true rfl), (Nat.le_of_ble_eq_true rfl)⟩) (pre3V g hK ma0_ ka0_ (by decide) (q := (RX0, TX0, 14)) rfl) rfl rfl hl.1 rfl (lv_room (Nat.le_of_ble_eq_true rfl)) dX0_readBehind_140 ⟨(Nat.le_of_ble_eq_true rfl), (Nat.le_of_ble_eq_true rfl)⟩) g hK (by decide) (by decide) (fx' := [(0, 3, a0_, .ref a_23), (0, 0, a0_, .ref q0_), (0, 1, a0_, .ref q1_), (0, 2, a0_, .ref q2_), (5, 1, q1_, .ref q3_)]) rfl (fun fr_128 H locs hp hMr_128 g => ?_)
                  rcases hp with ⟨x_129, h_130, x_131, h_132, x_133, h_134, x_135, h_136, hF_137⟩ | ⟨x_138, h_139, x_140, h_141, x_142, h_143, x_144, h_145, hF_146⟩
                  · have hG_147 := eOK.frame hMr_128 go_.2.2.2.1 ma0_ ka0_ (by decide) (by decide) hG_18
                    have g := g.more hF_137
                    refine lv_goto (tgt := 199) hx hb dX0_readBehind_143 (by decide) ?_
                    subst hQ
                    exact W.vret hx hb hr (fun t ht hW => ⟨⟨_, rfl, Or.inl ⟨hG_147, (g.fcts [5] rfl)⟩, q3_of g hK ht hW⟩, g.2.2.1.F ht⟩) g.2.2.1.2.2 dX0_readBehind_199
                  · have hG_148 := eOK.frame hMr_128 go_.2.2.2.1 ma0_ ka0_ (by decide) (by decide) hG_18
                    have g := g.more hF_146
                    refine lv_goto (tgt := 199) hx hb dX0_readBehind_143 (by decide) ?_
                    subst hQ
                    exact W.vret hx hb hr (fun t ht hW => ⟨⟨_, rfl, Or.inr (⟨hG_148, x_142, h_143, (g.fcts [2, 4] rfl)⟩), q3_of g hK ht hW⟩, g.2.2.1.F ht⟩) g.2.2.1.2.2 dX0_readBehind_199
          · have fc_27 := eq_f c_27
            have b_149 : bd 1 1 x_26 := eqX fc_27 (bdT x_26) kb_1 (by decide)
            refine lv_iload_n hx hb dX0_readBehind_67 rfl (lv_at hl 2 rfl) ?_
            refine lv_bipush (v := 41) hx hb dX0_readBehind_68 (by decide) ?_
            have kb_41 : bd 41 41 (41 : Int32) := ⟨by decide, by decide⟩
            refine lv_icmp_ne (tgt := 103) hx hb dX0_readBehind_70 (by decide) (fun c_150 => ?_) (fun c_150 => ?_)
            · have fc_150 := neq_f c_150
              refine lv_aload_n hx hb dX0_readBehind_103 rfl (lv_at hl 1 rfl) ?_
              refine g_getk (C := RX0) (T := TX0) (N := 14) hx hb hts (mc_ inX0) hown hK g rfl 3 (by decide) rfl (hts _ (List.mem_cons_of_mem _ t_376)) (fun _ h9 => h9) 0 rfl dX0_readBehind_104 ?_
              refine lv_aload_n hx hb dX0_readBehind_107 rfl (lv_at hl 1 rfl) ?_
              refine g_getk (C := RX0) (T := TX0) (N := 14) hx hb hts (mc_ inX0) hown hK g rfl 8 (by decide) rfl (hts _ (List.mem_cons_of_mem _ t_381)) (fun _ h9 => h9) 1 rfl dX0_readBehind_108 ?_
              refine lv_iconst (v := 1) hx hb dX0_readBehind_111 (by decide) ?_
              refine lv_isub hx hb dX0_readBehind_112 ?_
              refine lv_topi (fun y_151 ey_151 => ?_)
              obtain rfl : y_24 = y_151 := ey_24.trans ey_151.symm
              refine g_iald hx hb hK g ma_23 ka_23 (by decide) rfl (in_bd b_25 (by decide)) dX0_readBehind_113 (fun x_152 bx_152 cx_152 => ?_)
              obtain rfl : x_26 = x_152 := el_same cx_26 cx_152 rfl
              refine lv_iconst (v := 4) hx hb dX0_readBehind_114 (by decide) ?_
              have kb_4 : bd 4 4 (4 : Int32) := ⟨by decide, by decide⟩
              refine lv_icmp_eq (tgt := 133) hx hb dX0_readBehind_115 (by decide) (fun c_153 => ?_) (fun c_153 => ?_)
              · have fc_153 := eq_f c_153
                have b_154 : bd 4 1 x_26 := eqX fc_153 b_149 kb_4 (by decide)
                exact bd_no b_154 (by decide)
              · have fc_153 := neq_f c_153
                refine lv_aload_n hx hb dX0_readBehind_118 rfl (lv_at hl 1 rfl) ?_
                refine g_getk (C := RX0) (T := TX0) (N := 14) hx hb hts (mc_ inX0) hown hK g rfl 3 (by decide) rfl (hts _ (List.mem_cons_of_mem _ t_376)) (fun _ h9 => h9) 0 rfl dX0_readBehind_119 ?_
                refine lv_aload_n hx hb dX0_readBehind_122 rfl (lv_at hl 1 rfl) ?_
                refine g_getk (C := RX0) (T := TX0) (N := 14) hx hb hts (mc_ inX0) hown hK g rfl 8 (by decide) rfl (hts _ (List.mem_cons_of_mem _ t_381)) (fun _ h9 => h9) 1 rfl dX0_readBehind_123 ?_
                refine lv_iconst (v := 1) hx hb dX0_readBehind_126 (by decide) ?_
                refine lv_isub hx hb dX0_readBehind_127 ?_
                refine lv_topi (fun y_155 ey_155 => ?_)
                obtain rfl : y_24 = y_155 := ey_24.trans ey_155.symm
                refine g_iald hx hb hK g ma_23 ka_23 (by decide) rfl (in_bd b_25 (by decide)) dX0_readBehind_128 (fun x_156 bx_156 cx_156 => ?_)
                obtain rfl : x_26 = x_156 := el_same cx_26 cx_156 rfl
                refine lv_iconst (v := 5) hx hb dX0_readBehind_129 (by decide) ?_
                have kb_5 : bd 5 5 (5 : Int32) := ⟨by decide, by decide⟩
                refine lv_icmp_ne (tgt := 146) hx hb dX0_readBehind_130 (by decide) (fun c_157 => ?_) (fun c_157 => ?_)
                · have fc_157 := neq_f c_157
                  refine lv_aload_n hx hb dX0_readBehind_146 rfl (lv_at hl 1 rfl) ?_
                  refine g_getk (C := RX0) (T := TX0) (N := 14) hx hb hts (mc_ inX0) hown hK g rfl 3 (by decide) rfl (hts _ (List.mem_cons_of_mem _ t_376)) (fun _ h9 => h9) 0 rfl dX0_readBehind_147 ?_
                  refine lv_aload_n hx hb dX0_readBehind_150 rfl (lv_at hl 1 rfl) ?_
                  refine g_getk (C := RX0) (T := TX0) (N := 14) hx hb hts (mc_ inX0) hown hK g rfl 8 (by decide) rfl (hts _ (List.mem_cons_of_mem _ t_381)) (fun _ h9 => h9) 1 rfl dX0_readBehind_151 ?_
                  refine lv_iconst (v := 1) hx hb dX0_readBehind_154 (by decide) ?_
                  refine lv_isub hx hb dX0_readBehind_155 ?_
                  refine lv_topi (fun y_158 ey_158 => ?_)
                  obtain rfl : y_24 = y_158 := ey_24.trans ey_158.symm
                  refine g_iald hx hb hK g ma_23 ka_23 (by decide) rfl (in_bd b_25 (by decide)) dX0_readBehind_156 (fun x_159 bx_159 cx_159 => ?_)
                  obtain rfl : x_26 = x_159 := el_same cx_26 cx_159 rfl
                  refine lv_iconst (v := 2) hx hb dX0_readBehind_157 (by decide) ?_
                  have kb_2 : bd 2 2 (2 : Int32) := ⟨by decide, by decide⟩
                  refine lv_icmp_eq (tgt := 176) hx hb dX0_readBehind_158 (by decide) (fun c_160 => ?_) (fun c_160 => ?_)
                  · have fc_160 := eq_f c_160
                    have b_161 : bd 2 1 x_26 := eqX fc_160 b_149 kb_2 (by decide)
                    exact bd_no b_161 (by decide)
                  · have fc_160 := neq_f c_160
                    refine lv_aload_n hx hb dX0_readBehind_161 rfl (lv_at hl 1 rfl) ?_
                    refine g_getk (C := RX0) (T := TX0) (N := 14) hx hb hts (mc_ inX0) hown hK g rfl 3 (by decide) rfl (hts _ (List.mem_cons_of_mem _ t_376)) (fun _ h9 => h9) 0 rfl dX0_readBehind_162 ?_
                    refine lv_aload_n hx hb dX0_readBehind_165 rfl (lv_at hl 1 rfl) ?_
                    refine g_getk (C := RX0) (T := TX0) (N := 14) hx hb hts (mc_ inX0) hown hK g rfl 8 (by decide) rfl (hts _ (List.mem_cons_of_mem _ t_381)) (fun _ h9 => h9) 1 rfl dX0_readBehind_166 ?_
                    refine lv_iconst (v := 1) hx hb dX0_readBehind_169 (by decide) ?_
                    refine lv_isub hx hb dX0_readBehind_170 ?_
                    refine lv_topi (fun y_162 ey_162 => ?_)
                    obtain rfl : y_24 = y_162 := ey_24.trans ey_162.symm
                    refine g_iald hx hb hK g ma_23 ka_23 (by decide) rfl (in_bd b_25 (by decide)) dX0_readBehind_171 (fun x_163 bx_163 cx_163 => ?_)
                    obtain rfl : x_26 = x_163 := el_same cx_26 cx_163 rfl
                    refine lv_iconst (v := 3) hx hb dX0_readBehind_172 (by decide) ?_
                    have kb_3 : bd 3 3 (3 : Int32) := ⟨by decide, by decide⟩
                    refine lv_icmp_ne (tgt := 184) hx hb dX0_readBehind_173 (by decide) (fun c_164 => ?_) (fun c_164 => ?_)
                    · have fc_164 := neq_f c_164
                      refine lv_aload_n hx hb dX0_readBehind_184 rfl (lv_at hl 1 rfl) ?_
                      refine g_getk (C := RX0) (T := TX0) (N := 14) hx hb hts (mc_ inX0) hown hK g rfl 0 (by decide) rfl (hts _ (List.mem_cons_of_mem _ t_373)) (fun _ h9 => h9) 3 rfl dX0_readBehind_185 ?_
                      refine lv_iconst (v := 1) hx hb dX0_readBehind_188 (by decide) ?_
                      refine lv_aload_n hx hb dX0_readBehind_189 rfl (lv_at hl 1 rfl) ?_
                      refine g_getk (C := RX0) (T := TX0) (N := 14) hx hb hts (mc_ inX0) hown hK g rfl 0 (by decide) rfl (hts _ (List.mem_cons_of_mem _ t_373)) (fun _ h9 => h9) 3 rfl dX0_readBehind_190 ?_
                      have go_ := g
                      refine g_calli (va_runV (As := []) (rest := [.int 1, .ref q0_]) ⟨hx, hb, hml, hown, hts⟩ (r_X8_place l dC dI L kd tys fr_7 H.size g.2.2.2.1 q0_ mq0_ kq0_) (cwV 0 hts (gV_ t_1220 t_1111 t_1112 t_184 t_1113) rfl rfl rfl (by decide +kernel) ⟨(Nat.le_of_ble_eq_true rfl), (Nat.le_of_ble_eq_true rfl)⟩) (pre3V g hK mq0_ kq0_ (by decide) (q := (RX8, TX8, 10)) rfl) rfl rfl hl.1 rfl (lv_room (Nat.le_of_ble_eq_true rfl)) dX0_readBehind_193 ⟨(Nat.le_of_ble_eq_true rfl), (Nat.le_of_ble_eq_true rfl)⟩) g hK (by decide) (by decide) (fx' := [(0, 3, a0_, .ref a_23), (0, 8, a0_, .int x_20), (8, 8, q0_, .int y0_), (0, 0, a0_, .ref q0_), (0, 1, a0_, .ref q1_), (0, 2, a0_, .ref q2_), (5, 1, q1_, .ref q3_)]) rfl (fun r_165 fr_165 H locs hp hMr_165 g => ?_)
                      have hG_166 := eOK.frame hMr_165 go_.2.2.2.1 ma0_ ka0_ (by decide) (by decide) hG_18
                      have go_ := g
                      refine g_callv (va_runV (As := [.int 1, .int r_165]) (rest := []) ⟨hx, hb, hml, hown, hts⟩ (r_X8_fail l dC dI L kd tys fr_165 H.size g.2.2.2.1 q0_ mq0_ kq0_ 1 (bd_sub kb_1 (by decide)) r_165 y0_ by0_ (g.fcts [2] rfl)) (cwV 2 hts (gV_ t_1215 t_1107 t_1108 t_184 t_1109) rfl rfl rfl (by decide +kernel) ⟨(Nat.le_of_ble_eq_true rfl), (Nat.le_of_ble_eq_true rfl)⟩) (pre3V g hK mq0_ kq0_ (by decide) (q := (RX8, TX8, 10)) rfl) rfl rfl hl.1 rfl (lv_room (Nat.le_of_ble_eq_true rfl)) dX0_readBehind_196 ⟨(Nat.le_of_ble_eq_true rfl), (Nat.le_of_ble_eq_true rfl)⟩) g hK (by decide) (by decide) (fx' := [(0, 3, a0_, .ref a_23), (0, 8, a0_, .int x_20), (0, 0, a0_, .ref q0_), (0, 1, a0_, .ref q1_), (0, 2, a0_, .ref q2_), (5, 1, q1_, .ref q3_)]) rfl (fun fr_167 H locs hp hMr_167 g => ?_)
                      obtain ⟨x_168, h_169, hF_170⟩ := hp
                      have hG_171 := eOK.frame hMr_167 go_.2.2.2.1 ma0_ ka0_ (by decide) (by decide) hG_166
                      have g := g.more hF_170
                      subst hQ
                      exact W.vret hx hb hr (fun t ht hW => ⟨⟨_, rfl, Or.inr (⟨hG_171, x_168, h_169, (g.fcts [0, 1] rfl)⟩), q3_of g hK ht hW⟩, g.2.2.1.F ht⟩) g.2.2.1.2.2 dX0_readBehind_199
                    · have fc_164 := eq_f c_164
                      have b_172 : bd 3 1 x_26 := eqX fc_164 b_149 kb_3 (by decide)
                      exact bd_no b_172 (by decide)
                · have fc_157 := eq_f c_157
                  have b_173 : bd 5 1 x_26 := eqX fc_157 b_149 kb_5 (by decide)
                  exact bd_no b_173 (by decide)
            · have fc_150 := eq_f c_150
              have b_174 : bd 41 41 x1_ := eqX fc_150 (bdT x1_) kb_41 (by decide)
              refine lv_aload_n hx hb dX0_readBehind_73 rfl (lv_at hl 1 rfl) ?_
              refine lv_dup hx hb dX0_readBehind_74 rfl ?_
              refine g_getk (C := RX0) (T := TX0) (N := 14) hx hb hts (mc_ inX0) hown hK g rfl 8 (by decide) rfl (hts _ (List.mem_cons_of_mem _ t_381)) (fun _ h9 => h9) 1 rfl dX0_readBehind_75 ?_
              refine lv_iconst (v := 1) hx hb dX0_readBehind_78 (by decide) ?_
              refine lv_isub hx hb dX0_readBehind_79 ?_
              refine lv_topi (fun y_175 ey_175 => ?_)
              obtain rfl : y_24 = y_175 := ey_24.trans ey_175.symm
              have go_ := g
              refine g_put (C := RX0) (T := TX0) (N := 14) hx hb hts (mc_ inX0) tyX0 tyX0_ok nmX0 hown hK g ma0_ ka0_ (by decide) rfl 8 (by decide) (hts _ (List.mem_cons_of_mem _ t_381)) (fun _ h9 => h9) rfl rfl (okV_i (bd_sub b_25 (by decide))) rfl rfl (by decide) (Or.inr (Or.inl (by decide))) (fx' := [(0, 3, a0_, .ref a_23), (8, 8, q0_, .int y0_), (0, 0, a0_, .ref q0_), (0, 1, a0_, .ref q1_), (0, 2, a0_, .ref q2_), (5, 1, q1_, .ref q3_)]) rfl dX0_readBehind_80 (fun f H locs hM_176 g => ?_)
              have hG_177 := eOK.frame hM_176 go_.2.2.2.1 ma0_ ka0_ (by decide) (by decide) hG_18
              refine lv_aload_n hx hb dX0_readBehind_83 rfl (lv_at hl 1 rfl) ?_
              refine lv_dup hx hb dX0_readBehind_84 rfl ?_
              refine g_geti (C := RX0) (T := TX0) (N := 14) hx hb hts (mc_ inX0) hown hK g ma0_ ka0_ (by decide) rfl 11 (by decide) rfl (hts _ (List.mem_cons_of_mem _ t_384)) (fun _ h9 => h9) rfl dX0_readBehind_85 (fun x_178 bx_178 g => ?_)
              refine lv_iconst (v := 1) hx hb dX0_readBehind_88 (by decide) ?_
              refine lv_isub hx hb dX0_readBehind_89 ?_
              refine lv_topi (fun y_179 ey_179 => ?_)
              have go_ := g
              refine g_put (C := RX0) (T := TX0) (N := 14) hx hb hts (mc_ inX0) tyX0 tyX0_ok nmX0 hown hK g ma0_ ka0_ (by decide) rfl 11 (by decide) (hts _ (List.mem_cons_of_mem _ t_384)) (fun _ h9 => h9) rfl rfl (okV_i (bdT y_179)) rfl rfl (by decide) (Or.inr (Or.inl (by decide))) (fx' := [(0, 8, a0_, .int y_24), (0, 3, a0_, .ref a_23), (8, 8, q0_, .int y0_), (0, 0, a0_, .ref q0_), (0, 1, a0_, .ref q1_), (0, 2, a0_, .ref q2_), (5, 1, q1_, .ref q3_)]) rfl dX0_readBehind_90 (fun f H locs hM_180 g => ?_)
              have hG_181 := eOK.frame hM_180 go_.2.2.2.1 ma0_ ka0_ (by decide) (by decide) hG_177
              refine lv_aload_n hx hb dX0_readBehind_93 rfl (lv_at hl 1 rfl) ?_
              refine g_getk (C := RX0) (T := TX0) (N := 14) hx hb hts (mc_ inX0) hown hK g rfl 0 (by decide) rfl (hts _ (List.mem_cons_of_mem _ t_373)) (fun _ h9 => h9) 4 rfl dX0_readBehind_94 ?_
              have go_ := g
              refine g_callv (va_runV (As := []) (rest := []) ⟨hx, hb, hml, hown, hts⟩ (r_X8_next l dC dI L kd tys f H.size g.2.2.2.1 q0_ mq0_ kq0_) (cwV 0 hts (gV_ t_1225 t_1103 t_1104 t_184 t_1105) rfl rfl rfl (by decide +kernel) ⟨(Nat.le_of_ble_eq_true rfl), (Nat.le_of_ble_eq_true rfl)⟩) (pre3V g hK mq0_ kq0_ (by decide) (q := (RX8, TX8, 10)) rfl) rfl rfl hl.1 rfl (lv_room (Nat.le_of_ble_eq_true rfl)) dX0_readBehind_97 ⟨(Nat.le_of_ble_eq_true rfl), (Nat.le_of_ble_eq_true rfl)⟩) g hK (by decide) (by decide) (fx' := [(0, 11, a0_, .int y_179), (0, 8, a0_, .int y_24), (0, 3, a0_, .ref a_23), (8, 8, q0_, .int y0_), (0, 0, a0_, .ref q0_), (0, 1, a0_, .ref q1_), (0, 2, a0_, .ref q2_), (5, 1, q1_, .ref q3_)]) rfl (fun fr_182 H locs hp hMr_182 g => ?_)
              obtain ⟨x_183, h_184, hF_185⟩ := hp
              have hG_186 := eOK.frame hMr_182 go_.2.2.2.1 ma0_ ka0_ (by decide) (by decide) hG_181
              have g := g.more hF_185
              refine lv_goto (tgt := 199) hx hb dX0_readBehind_100 (by decide) ?_
              subst hQ
              exact W.vret hx hb hr (fun t ht hW => ⟨⟨_, rfl, Or.inl ⟨hG_186, (g.fcts [4] rfl)⟩, q3_of g hK ht hW⟩, g.2.2.1.F ht⟩) g.2.2.1.2.2 dX0_readBehind_199
        · have fc_21 := eq_f c_21
          have b_187 : bd 0 0 x_20 := eqX fc_21 bx_20 kb_0 (by decide)
          refine lv_aload_n hx hb dX0_readBehind_44 rfl (lv_at hl 1 rfl) ?_
          refine lv_iconst (v := 1) hx hb dX0_readBehind_45 (by decide) ?_
          have go_ := g
          refine g_put (C := RX0) (T := TX0) (N := 14) hx hb hts (mc_ inX0) tyX0 tyX0_ok nmX0 hown hK g ma0_ ka0_ (by decide) rfl 13 (by decide) (hts _ (List.mem_cons_of_mem _ t_386)) (fun _ h9 => h9) rfl rfl (okV_i (bd_sub kb_1 (by decide))) rfl rfl (by decide) (Or.inr (Or.inl (by decide))) (fx' := [(0, 8, a0_, .int x_20), (8, 8, q0_, .int y0_), (0, 0, a0_, .ref q0_), (0, 1, a0_, .ref q1_), (0, 2, a0_, .ref q2_), (5, 1, q1_, .ref q3_)]) rfl dX0_readBehind_46 (fun f H locs hM_188 g => ?_)
          have hG_189 := eOK.frame hM_188 go_.2.2.2.1 ma0_ ka0_ (by decide) (by decide) hG_18
          refine lv_goto (tgt := 199) hx hb dX0_readBehind_49 (by decide) ?_
          subst hQ
          exact W.vret hx hb hr (fun t ht hW => ⟨⟨_, rfl, Or.inl ⟨hG_189, (g.fcts [2] rfl)⟩, q3_of g hK ht hW⟩, g.2.2.1.F ht⟩) g.2.2.1.2.2 dX0_readBehind_199
      · have fc_19 := neq_f c_19
        have b_190 : bd 1 (-1) y0_ := neX fc_19 by0_ kb_0 (by decide)
        exact bd_no b_190 (by decide)
    · have hG_191 := eOK.frame hMr_7 go_.2.2.2.1 ma0_ ka0_ (by decide) (by decide) hG_5
      have g := g.more hF_17
      refine lv_aload_n hx hb dX0_readBehind_14 rfl (lv_at hl 1 rfl) ?_
      refine g_getk (C := RX0) (T := TX0) (N := 14) hx hb hts (mc_ inX0) hown hK g rfl 0 (by decide) rfl (hts _ (List.mem_cons_of_mem _ t_373)) (fun _ h9 => h9) 6 rfl dX0_readBehind_15 ?_
      refine g_getk (C := RX8) (T := TX8) (N := 10) hx hb hts (mc_ inX8) hown hK g rfl 8 (by decide) rfl (hts _ (List.mem_cons_of_mem _ t_293)) (fun _ h9 => h9) 1 rfl dX0_readBehind_18 ?_
      refine lv_if_eq (tgt := 25) hx hb dX0_readBehind_21 (by decide) (fun c_192 => ?_) (fun c_192 => ?_)
      · have fc_192 := eq_f c_192
        have b_193 : bd 1 0 x_9 := eqX fc_192 h_10 kb_0 (by decide)
        exact bd_no b_193 (by decide)
      · have fc_192 := neq_f c_192
        subst hQ
        exact W.vret hx hb hr (fun t ht hW => ⟨⟨_, rfl, Or.inr (⟨hG_191, x_9, h_10, (g.fcts [0, 1] rfl)⟩), q3_of g hK ht hW⟩, g.2.2.1.F ht⟩) g.2.2.1.2.2 dX0_readBehind_24
  · have hG_194 := eOK.frame hMr_1 go_.2.2.2.1 ma0_ ka0_ (by decide) (by decide) hGea0_
    have b_195 : bd 37 206 x1_ := eqX rfl (bdT x1_) h_4 (by decide)
    refine lv_istore_n (lv' := [(2, .int r_1), (0, .ref a0_), (1, .int x1_)]) hx hb dX0_readBehind_4 rfl hl (by decide) rfl (fun ls hl => ?_)
    refine lv_aload_n hx hb dX0_readBehind_5 rfl (lv_at hl 1 rfl) ?_
    refine lv_iload_n hx hb dX0_readBehind_6 rfl (lv_at hl 0 rfl) ?_
    refine lv_iconst (v := 1) hx hb dX0_readBehind_7 (by decide) ?_
    have kb_1 : bd 1 1 (1 : Int32) := ⟨by decide, by decide⟩
    refine va_mmax hx hb (hml.trans hl.1.symm) hown (hts _ (List.mem_cons_of_mem _ t_1194)) (hts _ (List.mem_cons_of_mem _ t_1041)) (hts _ (List.mem_cons_of_mem _ t_204)) (hts _ (List.mem_cons_of_mem _ t_1042)) (Nat.le_of_ble_eq_true rfl) (Nat.le_of_ble_eq_true rfl) (Nat.le_of_ble_eq_true rfl) (Nat.le_of_ble_eq_true rfl) dX0_readBehind_8 ?_
    refine lv_topi (fun y_196 ey_196 => ?_)
    have ty_196 : y_196.toInt = max r_1.toInt (1 : Int32).toInt := by rw [ey_196]; exact mmax_ok _ _
    have b_197 : bd 1 5 y_196 := max_rg ty_196 h_3 kb_1 (by decide)
    have go_ := g
    refine g_callv (va_runV (As := [.int y_196]) (rest := []) ⟨hx, hb, hml, hown, hts⟩ (r_X0_closeParts l dC dI L kd tys fr_1 H.size g.2.2.2.1 a0_ ma0_ ka0_ y_196 q0_ mq0_ kq0_ q2_ mq2_ kq2_ y0_ by0_ (g.fcts [0, 2, 4] rfl)) (cwV 1 hts (gV_ t_1195 t_1197 t_15 t_190 t_1198) rfl rfl rfl (by decide +kernel) ⟨(Nat.le_of_ble_eq_true rfl), (Nat.le_of_ble_eq_true rfl)⟩) (pre3V g hK ma0_ ka0_ (by decide) (q := (RX0, TX0, 14)) rfl) rfl rfl hl.1 rfl (lv_room (Nat.le_of_ble_eq_true rfl)) dX0_readBehind_11 ⟨(Nat.le_of_ble_eq_true rfl), (Nat.le_of_ble_eq_true rfl)⟩) g hK (by decide) (by decide) (fx' := [(0, 0, a0_, .ref q0_), (0, 1, a0_, .ref q1_), (0, 2, a0_, .ref q2_), (5, 1, q1_, .ref q3_)]) rfl (fun fr_198 H locs hp hMr_198 g => ?_)
    rcases hp with hF_199 | ⟨x_200, h_201, x_202, h_203, x_204, h_205, x_206, h_207, hF_208⟩
    · have hG_209 := eOK.frame hMr_198 go_.2.2.2.1 ma0_ ka0_ (by decide) (by decide) hG_194
      have g := g.more hF_199
      refine lv_aload_n hx hb dX0_readBehind_14 rfl (lv_at hl 1 rfl) ?_
      refine g_getk (C := RX0) (T := TX0) (N := 14) hx hb hts (mc_ inX0) hown hK g rfl 0 (by decide) rfl (hts _ (List.mem_cons_of_mem _ t_373)) (fun _ h9 => h9) 1 rfl dX0_readBehind_15 ?_
      refine g_getk (C := RX8) (T := TX8) (N := 10) hx hb hts (mc_ inX8) hown hK g rfl 8 (by decide) rfl (hts _ (List.mem_cons_of_mem _ t_293)) (fun _ h9 => h9) 0 rfl dX0_readBehind_18 ?_
      have kb_0 : bd 0 0 (0 : Int32) := ⟨by decide, by decide⟩
      refine lv_if_eq (tgt := 25) hx hb dX0_readBehind_21 (by decide) (fun c_210 => ?_) (fun c_210 => ?_)
      · have fc_210 := eq_f c_210
        refine lv_iload_n hx hb dX0_readBehind_25 rfl (lv_at hl 0 rfl) ?_
        refine lv_if_le (tgt := 37) hx hb dX0_readBehind_26 (by decide) (fun c_211 => ?_) (fun c_211 => ?_)
        · have fc_211 := le_f c_211
          have b_212 : bd 1 0 r_1 := leL fc_211 h_3 kb_0 (by decide)
          exact bd_no b_212 (by decide)
        · have fc_211 := nle_f c_211
          refine lv_aload_n hx hb dX0_readBehind_29 rfl (lv_at hl 1 rfl) ?_
          refine lv_iload_n hx hb dX0_readBehind_30 rfl (lv_at hl 2 rfl) ?_
          have go_ := g
          refine g_callv (va_runV (As := [.int x1_]) (rest := []) ⟨hx, hb, hml, hown, hts⟩ (r_X0_openOperator l dC dI L kd tys fr_198 H.size g.2.2.2.1 a0_ ma0_ ka0_ x1_ b_195 q0_ mq0_ kq0_ q2_ mq2_ kq2_ y0_ by0_ hG_209 (g.fcts [1, 3, 0] rfl)) (cwV 1 hts (gV_ t_1216 t_1218 t_18 t_190 t_1219) rfl rfl rfl (by decide +kernel) ⟨(Nat.le_of_ble_eq_true rfl), (Nat.le_of_ble_eq_true rfl)⟩) (pre3V g hK ma0_ ka0_ (by decide) (q := (RX0, TX0, 14)) rfl) rfl rfl hl.1 rfl (lv_room (Nat.le_of_ble_eq_true rfl)) dX0_readBehind_31 ⟨(Nat.le_of_ble_eq_true rfl), (Nat.le_of_ble_eq_true rfl)⟩) g hK (by decide) (by decide) (fx' := [(8, 8, q0_, .int y0_), (0, 0, a0_, .ref q0_), (0, 1, a0_, .ref q1_), (0, 2, a0_, .ref q2_), (5, 1, q1_, .ref q3_)]) rfl (fun fr_213 H locs hp hMr_213 g => ?_)
          obtain ⟨hG_214, x_215, h_216, x_217, h_218, hF_219⟩ := hp
          have g := g.more hF_219
          refine lv_goto (tgt := 199) hx hb dX0_readBehind_34 (by decide) ?_
          subst hQ
          exact W.vret hx hb hr (fun t ht hW => ⟨⟨_, rfl, Or.inl ⟨hG_214, (g.fcts [3] rfl)⟩, q3_of g hK ht hW⟩, g.2.2.1.F ht⟩) g.2.2.1.2.2 dX0_readBehind_199
      · have fc_210 := neq_f c_210
        have b_220 : bd 1 (-1) y0_ := neX fc_210 by0_ kb_0 (by decide)
        exact bd_no b_220 (by decide)
    · have hG_221 := eOK.frame hMr_198 go_.2.2.2.1 ma0_ ka0_ (by decide) (by decide) hG_194
      have g := g.more hF_208
      refine lv_aload_n hx hb dX0_readBehind_14 rfl (lv_at hl 1 rfl) ?_
      refine g_getk (C := RX0) (T := TX0) (N := 14) hx hb hts (mc_ inX0) hown hK g rfl 0 (by decide) rfl (hts _ (List.mem_cons_of_mem _ t_373)) (fun _ h9 => h9) 6 rfl dX0_readBehind_15 ?_
      refine g_getk (C := RX8) (T := TX8) (N := 10) hx hb hts (mc_ inX8) hown hK g rfl 8 (by decide) rfl (hts _ (List.mem_cons_of_mem _ t_293)) (fun _ h9 => h9) 1 rfl dX0_readBehind_18 ?_
      have kb_0 : bd 0 0 (0 : Int32) := ⟨by decide, by decide⟩
      refine lv_if_eq (tgt := 25) hx hb dX0_readBehind_21 (by decide) (fun c_222 => ?_) (fun c_222 => ?_)
      · have fc_222 := eq_f c_222
        have b_223 : bd 1 0 x_200 := eqX fc_222 h_201 kb_0 (by decide)
        exact bd_no b_223 (by decide)
      · have fc_222 := neq_f c_222
        subst hQ
        exact W.vret hx hb hr (fun t ht hW => ⟨⟨_, rfl, Or.inr (⟨hG_221, x_200, h_201, (g.fcts [0, 1] rfl)⟩), q3_of g hK ht hW⟩, g.2.2.1.F ht⟩) g.2.2.1.2.2 dX0_readBehind_24
