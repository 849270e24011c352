set_option maxHeartbeats 4000000 in
set_option maxRecDepth 100000 in
theorem r_X0_openOperator (l : Launch) (dC : Nat → ClassId) (dI : Nat → Nat → Nat) (L : List Nat) (kd : Nat → Nat) (tys : List (ClassId × FieldType)) (f0 : Nat → va_E) (sz : Nat) (hWT : WT L kd tys f0) (a0_ : Nat) (ma0_ : a0_ ∈ L) (ka0_ : kd a0_ = 0) (x1_ : Int32) (bx1_ : bd 37 206 x1_) (q0_ : Nat) (mq0_ : q0_ ∈ L) (kq0_ : kd q0_ = 8) (q1_ : Nat) (mq1_ : q1_ ∈ L) (kq1_ : kd q1_ = 7) (y0_ : Int32) (by0_ : bd 0 0 y0_) (T_ : Nat) (J_ : Int32 → Prop) (hGia0_ : eJx f0 a0_) (hGcq1_ : cOK f0 q1_) (hGdq1_ : dOK L kd f0 q1_ T_) (hGsq1_ : jS f0 q1_ J_) (hGea0_ : eOK f0 a0_) (hfx : Fs L kd f0 [(0, 0, a0_, .ref q0_), (0, 2, a0_, .ref q1_), (8, 8, q0_, .int y0_)]) : Met l yX0_openOperator (.code yX0_openOperator cX0_openOperator 3 none :: lw_g) ({ frames := 1, cells := 0, slots := 0, locals := 23 }) (va_Pc [.ref a0_, .int x1_] (P3 (dC, dI) L tys f0 sz)) (va_Qv (fun (f : Nat → va_E) => (eJx f a0_ ∧ cOK f q1_ ∧ dOK L kd f q1_ T_ ∧ jS f q1_ J_ ∧ eOK f a0_ ∧ ∃ z1_ : Int32, bd 1 1201 z1_ ∧ ∃ z2_ : Int32, bd 1 300 z2_ ∧ Fs L kd f [(0, 12, a0_, .int 1), (8, 6, q0_, .int z1_), (0, 8, a0_, .int z2_)])) (Q3 (dC, dI) L kd tys [(0, 8), (0, 12), (7, 6), (7, 18), (8, 6)] [110, 111, 112, 113, 114, 138, 139] f0 sz) (pA L sz)) 0 0 (pA L sz) := by
  refine Met.ofW (cc := cX0_openOperator) (maxL := 3) (ret := none) (by decide) rfl ?_
  intro p e s m args below meth c s₁ B hml hv
  obtain ⟨rfl, hsz, hP, hK, hD0⟩ := hv
  have hx := B.exec
  have hb := B.bytes
  have hr := B.returns
  have hts := atoms_spec (ws := (.code yX0_openOperator cX0_openOperator 3 none :: lw_g)) B.pre
  have hown : s.vm.findClass RX0 = some m.cls := findClass_of_methodNamed B.named
  have hlocks := B.notSynchronized
  subst hsz
  have g : G3 (dC, dI) L kd tys s f0 [(0, 8), (0, 12), (7, 6), (7, 18), (8, 6)] [110, 111, 112, 113, 114, 138, 139] f0 s.heap [] [(0, 0, a0_, .ref q0_), (0, 2, a0_, .ref q1_), (8, 8, q0_, .int y0_)] := G3.start hP hD0 hWT hfx
  have hl := lv_entry ([.ref a0_, .int x1_]) (n := 3) (Nat.le_of_ble_eq_true rfl)
  rw [lg_entry_eq]
  generalize (lg_sl ([.ref a0_, .int x1_]) ++ List.replicate (3 - (lg_sl ([.ref a0_, .int x1_])).length) Slot.unset).toArray = ls at hl ⊢
  have hl : lv_has ls 3 [(0, .ref a0_), (1, .int x1_)] := hl
  refine W_q (fun Q hQ => ?_)
  refine lv_aload_n hx hb dX0_openOperator_0 rfl (lv_at hl 0 rfl) ?_
  refine g_getk (C := RX0) (T := TX0) (N := 14) hx hb hts (mc_ inX0) hown hK g rfl 2 (by decide) rfl (hts _ (List.mem_cons_of_mem _ t_375)) (fun _ h9 => h9) 1 rfl dX0_openOperator_1 ?_
  refine g_geti (C := RX7) (T := TX7) (N := 19) hx hb hts (mc_ inX7) hown hK g mq1_ kq1_ (by decide) rfl 6 (by decide) rfl (hts _ (List.mem_cons_of_mem _ t_646)) (fun _ h9 => h9) rfl dX0_openOperator_4 (fun x_1 bx_1 g => ?_)
  refine lv_istore_n (lv' := [(2, .int x_1), (0, .ref a0_), (1, .int x1_)]) hx hb dX0_openOperator_7 rfl hl (by decide) rfl (fun ls hl => ?_)
  refine lv_iload_n hx hb dX0_openOperator_8 rfl (lv_at hl 2 rfl) ?_
  refine lv_sipush (v := 205) hx hb dX0_openOperator_9 (by decide) ?_
  have kb_205 : bd 205 205 (205 : Int32) := ⟨by decide, by decide⟩
  refine lv_icmp_ne (tgt := 28) hx hb dX0_openOperator_12 (by decide) (fun c_2 => ?_) (fun c_2 => ?_)
  · have fc_2 := neq_f c_2
    refine lv_iload_n hx hb dX0_openOperator_28 rfl (lv_at hl 2 rfl) ?_
    refine lv_sipush (v := 206) hx hb dX0_openOperator_29 (by decide) ?_
    have kb_206 : bd 206 206 (206 : Int32) := ⟨by decide, by decide⟩
    refine lv_icmp_ne (tgt := 45) hx hb dX0_openOperator_32 (by decide) (fun c_3 => ?_) (fun c_3 => ?_)
    · have fc_3 := neq_f c_3
      have b_4 : bd 37 205 x1_ := neX fc_3 bx1_ kb_206 (by decide)
      refine lv_aload_n hx hb dX0_openOperator_45 rfl (lv_at hl 1 rfl) ?_
      refine lv_iload_n hx hb dX0_openOperator_46 rfl (lv_at hl 2 rfl) ?_
      refine lv_aload_n hx hb dX0_openOperator_47 rfl (lv_at hl 1 rfl) ?_
      refine g_getk (C := RX0) (T := TX0) (N := 14) hx hb hts (mc_ inX0) hown hK g rfl 0 (by decide) rfl (hts _ (List.mem_cons_of_mem _ t_373)) (fun _ h9 => h9) 1 rfl dX0_openOperator_48 ?_
      have go_ := g
      refine g_calli (va_runV (As := []) (rest := [.int x1_, .ref a0_]) ⟨hx, hb, hml, hown, hts⟩ (r_X8_place l dC dI L kd tys f0 s.heap.size g.2.2.2.1 q0_ mq0_ kq0_) (cwV 0 hts (gV_ t_1220 t_1111 t_1112 t_184 t_1113) rfl rfl rfl (by decide +kernel) ⟨(Nat.le_of_ble_eq_true rfl), (Nat.le_of_ble_eq_true rfl)⟩) (pre3V g hK mq0_ kq0_ (by decide) (q := (RX8, TX8, 10)) rfl) rfl rfl hl.1 rfl (lv_room (Nat.le_of_ble_eq_true rfl)) dX0_openOperator_51 ⟨(Nat.le_of_ble_eq_true rfl), (Nat.le_of_ble_eq_true rfl)⟩) g hK (by decide) (by decide) (fx' := [(7, 6, q1_, .int x_1), (0, 0, a0_, .ref q0_), (0, 2, a0_, .ref q1_), (8, 8, q0_, .int y0_)]) rfl (fun r_5 fr_5 H locs hp hMr_5 g => ?_)
      have hG_6 := eJx.frame hMr_5 go_.2.2.2.1 ma0_ ka0_ (by decide) (by decide) hGia0_
      have hG_7 := cOK.frame hMr_5 go_.2.2.2.1 mq1_ kq1_ (by decide) (by decide) hGcq1_
      have hG_8 := dOK.frame hMr_5 go_.2.2.2.1 mq1_ kq1_ (by decide) (by decide) hGdq1_
      have hG_9 := jS.frame hMr_5 go_.2.2.2.1 mq1_ kq1_ (by decide) (by decide) hGsq1_
      have hG_10 := eOK.frame hMr_5 go_.2.2.2.1 ma0_ ka0_ (by decide) (by decide) hGea0_
      refine lv_iload_n hx hb dX0_openOperator_54 rfl (lv_at hl 0 rfl) ?_
      obtain ⟨a_11, ma_11, ka_11, g⟩ := g_factr (K := 110) g ma0_ ka0_ (by decide) 3 rfl
      obtain ⟨a_12, ma_12, ka_12, g⟩ := g_factr (K := 112) g ma0_ ka0_ (by decide) 5 rfl
      have go_ := g
      refine g_callv (va_runV (As := [.int x1_, .int r_5, .int x_1]) (rest := []) ⟨hx, hb, hml, hown, hts⟩ (r_X0_push_3 l dC dI L kd tys fr_5 H.size g.2.2.2.1 a0_ ma0_ ka0_ x1_ r_5 x_1 q1_ mq1_ kq1_ a_11 ma_11 ka_11 a_12 ma_12 ka_12 hG_6 hG_10 (erel_bd b_4 bx_1 (by decide)) ⟨(fun h9 => (by exfalso; have h9_0 := b_4; unfold bd at h9_0; have h9_1 := bx_1; unfold bd at h9_1; have h9_2 := by0_; unfold bd at h9_2; have h8_0 := kb_205; unfold bd at h8_0; have h8_1 := kb_206; unfold bd at h8_1; omega)), (fun h9 => ⟨(by have h9_0 := b_4; unfold bd at h9_0; have h9_1 := bx_1; unfold bd at h9_1; have h9_2 := by0_; unfold bd at h9_2; have h8_0 := kb_205; unfold bd at h8_0; have h8_1 := kb_206; unfold bd at h8_1; omega), (by have h9_0 := b_4; unfold bd at h9_0; have h9_1 := bx_1; unfold bd at h9_1; have h9_2 := by0_; unfold bd at h9_2; have h8_0 := kb_205; unfold bd at h8_0; have h8_1 := kb_206; unfold bd at h8_1; omega)⟩)⟩ (g.fcts [4, 1, 0] rfl)) (cwV 3 hts (gV_ t_1221 t_1223 t_19 t_190 t_1224) rfl rfl rfl (by decide +kernel) ⟨(Nat.le_of_ble_eq_true rfl), (Nat.le_of_ble_eq_true rfl)⟩) (pre3V g hK ma0_ ka0_ (by decide) (q := (RX0, TX0, 14)) rfl) rfl rfl hl.1 rfl (lv_room (Nat.le_of_ble_eq_true rfl)) dX0_openOperator_55 ⟨(Nat.le_of_ble_eq_true rfl), (Nat.le_of_ble_eq_true rfl)⟩) g hK (by decide) (by decide) (fx' := [(0, 5, a0_, .ref a_12), (0, 3, a0_, .ref a_11), (7, 6, q1_, .int x_1), (0, 0, a0_, .ref q0_), (0, 2, a0_, .ref q1_), (8, 8, q0_, .int y0_)]) rfl (fun fr_13 H locs hp hMr_13 g => ?_)
      obtain ⟨hG_14, hG_15, x_16, h_17, hF_18⟩ := hp
      have hG_19 := cOK.frame hMr_13 go_.2.2.2.1 mq1_ kq1_ (by decide) (by decide) hG_7
      have hG_20 := dOK.frame hMr_13 go_.2.2.2.1 mq1_ kq1_ (by decide) (by decide) hG_8
      have hG_21 := jS.frame hMr_13 go_.2.2.2.1 mq1_ kq1_ (by decide) (by decide) hG_9
      have g := g.more hF_18
      refine lv_aload_n hx hb dX0_openOperator_58 rfl (lv_at hl 1 rfl) ?_
      refine g_getk (C := RX0) (T := TX0) (N := 14) hx hb hts (mc_ inX0) hown hK g rfl 2 (by decide) rfl (hts _ (List.mem_cons_of_mem _ t_375)) (fun _ h9 => h9) 5 rfl dX0_openOperator_59 ?_
      refine lv_dup hx hb dX0_openOperator_62 rfl ?_
      refine g_geti (C := RX7) (T := TX7) (N := 19) hx hb hts (mc_ inX7) hown hK g mq1_ kq1_ (by decide) rfl 18 (by decide) rfl (hts _ (List.mem_cons_of_mem _ t_681)) (fun _ h9 => h9) rfl dX0_openOperator_63 (fun x_22 bx_22 g => ?_)
      refine lv_iconst (v := 1) hx hb dX0_openOperator_66 (by decide) ?_
      have kb_1 : bd 1 1 (1 : Int32) := ⟨by decide, by decide⟩
      refine lv_iadd hx hb dX0_openOperator_67 ?_
      refine lv_topi (fun y_23 ey_23 => ?_)
      have go_ := g
      refine g_put (C := RX7) (T := TX7) (N := 19) hx hb hts (mc_ inX7) tyX7 tyX7_ok nmX7 hown hK g mq1_ kq1_ (by decide) rfl 18 (by decide) (hts _ (List.mem_cons_of_mem _ t_681)) (fun _ h9 => h9) rfl rfl (okV_i (bdT y_23)) rfl rfl (by decide) (Or.inr (Or.inl (by decide))) (fx' := [(0, 8, a0_, .int x_16), (0, 5, a0_, .ref a_12), (0, 3, a0_, .ref a_11), (7, 6, q1_, .int x_1), (0, 0, a0_, .ref q0_), (0, 2, a0_, .ref q1_), (8, 8, q0_, .int y0_)]) rfl dX0_openOperator_68 (fun f H locs hM_24 g => ?_)
      have hG_25 := eJx.frame hM_24 go_.2.2.2.1 ma0_ ka0_ (by decide) (by decide) hG_14
      have hG_26 := cOK.frame hM_24 go_.2.2.2.1 mq1_ kq1_ (by decide) (by decide) hG_19
      have hG_27 := dOK.frame hM_24 go_.2.2.2.1 mq1_ kq1_ (by decide) (by decide) hG_20
      have hG_28 := jS.frame hM_24 go_.2.2.2.1 mq1_ kq1_ (by decide) (by decide) hG_21
      have hG_29 := eOK.frame hM_24 go_.2.2.2.1 ma0_ ka0_ (by decide) (by decide) hG_15
      refine lv_aload_n hx hb dX0_openOperator_71 rfl (lv_at hl 1 rfl) ?_
      refine g_getk (C := RX0) (T := TX0) (N := 14) hx hb hts (mc_ inX0) hown hK g rfl 0 (by decide) rfl (hts _ (List.mem_cons_of_mem _ t_373)) (fun _ h9 => h9) 5 rfl dX0_openOperator_72 ?_
      have go_ := g
      refine g_callv (va_runV (As := []) (rest := []) ⟨hx, hb, hml, hown, hts⟩ (r_X8_next l dC dI L kd tys f H.size g.2.2.2.1 q0_ mq0_ kq0_) (cwV 0 hts (gV_ t_1225 t_1103 t_1104 t_184 t_1105) rfl rfl rfl (by decide +kernel) ⟨(Nat.le_of_ble_eq_true rfl), (Nat.le_of_ble_eq_true rfl)⟩) (pre3V g hK mq0_ kq0_ (by decide) (q := (RX8, TX8, 10)) rfl) rfl rfl hl.1 rfl (lv_room (Nat.le_of_ble_eq_true rfl)) dX0_openOperator_75 ⟨(Nat.le_of_ble_eq_true rfl), (Nat.le_of_ble_eq_true rfl)⟩) g hK (by decide) (by decide) (fx' := [(7, 18, q1_, .int y_23), (0, 8, a0_, .int x_16), (0, 5, a0_, .ref a_12), (0, 3, a0_, .ref a_11), (7, 6, q1_, .int x_1), (0, 0, a0_, .ref q0_), (0, 2, a0_, .ref q1_), (8, 8, q0_, .int y0_)]) rfl (fun fr_30 H locs hp hMr_30 g => ?_)
      obtain ⟨x_31, h_32, hF_33⟩ := hp
      have hG_34 := eJx.frame hMr_30 go_.2.2.2.1 ma0_ ka0_ (by decide) (by decide) hG_25
      have hG_35 := cOK.frame hMr_30 go_.2.2.2.1 mq1_ kq1_ (by decide) (by decide) hG_26
      have hG_36 := dOK.frame hMr_30 go_.2.2.2.1 mq1_ kq1_ (by decide) (by decide) hG_27
      have hG_37 := jS.frame hMr_30 go_.2.2.2.1 mq1_ kq1_ (by decide) (by decide) hG_28
      have hG_38 := eOK.frame hMr_30 go_.2.2.2.1 ma0_ ka0_ (by decide) (by decide) hG_29
      have g := g.more hF_33
      refine lv_aload_n hx hb dX0_openOperator_78 rfl (lv_at hl 1 rfl) ?_
      refine lv_iconst (v := 1) hx hb dX0_openOperator_79 (by decide) ?_
      have go_ := g
      refine g_put (C := RX0) (T := TX0) (N := 14) hx hb hts (mc_ inX0) tyX0 tyX0_ok nmX0 hown hK g ma0_ ka0_ (by decide) rfl 12 (by decide) (hts _ (List.mem_cons_of_mem _ t_385)) (fun _ h9 => h9) rfl rfl (okV_i (bd_sub kb_1 (by decide))) rfl rfl (by decide) (Or.inr (Or.inl (by decide))) (fx' := [(8, 6, q0_, .int x_31), (7, 18, q1_, .int y_23), (0, 8, a0_, .int x_16), (0, 5, a0_, .ref a_12), (0, 3, a0_, .ref a_11), (7, 6, q1_, .int x_1), (0, 0, a0_, .ref q0_), (0, 2, a0_, .ref q1_), (8, 8, q0_, .int y0_)]) rfl dX0_openOperator_80 (fun f H locs hM_39 g => ?_)
      have hG_40 := eJx.frame hM_39 go_.2.2.2.1 ma0_ ka0_ (by decide) (by decide) hG_34
      have hG_41 := cOK.frame hM_39 go_.2.2.2.1 mq1_ kq1_ (by decide) (by decide) hG_35
      have hG_42 := dOK.frame hM_39 go_.2.2.2.1 mq1_ kq1_ (by decide) (by decide) hG_36
      have hG_43 := jS.frame hM_39 go_.2.2.2.1 mq1_ kq1_ (by decide) (by decide) hG_37
      have hG_44 := eOK.frame hM_39 go_.2.2.2.1 ma0_ ka0_ (by decide) (by decide) hG_38
      subst hQ
      exact W.vret hx hb hr (fun t ht hW => ⟨⟨_, rfl, ⟨hG_40, hG_41, hG_42, hG_43, hG_44, x_31, h_32, x_16, h_17, (g.fcts [0, 1, 3] rfl)⟩, q3_of g hK ht hW⟩, g.2.2.1.F ht⟩) g.2.2.1.2.2 dX0_openOperator_83
    · have fc_3 := eq_f c_3
      have b_45 : bd 206 206 x1_ := eqX fc_3 bx1_ kb_206 (by decide)
      refine lv_aload_n hx hb dX0_openOperator_35 rfl (lv_at hl 1 rfl) ?_
      refine g_getk (C := RX0) (T := TX0) (N := 14) hx hb hts (mc_ inX0) hown hK g rfl 2 (by decide) rfl (hts _ (List.mem_cons_of_mem _ t_375)) (fun _ h9 => h9) 2 rfl dX0_openOperator_36 ?_
      refine lv_bipush (v := 25) hx hb dX0_openOperator_39 (by decide) ?_
      refine lv_iconst (v := 0) hx hb dX0_openOperator_41 (by decide) ?_
      obtain ⟨a_46, ma_46, ka_46, g⟩ := g_factr g mq1_ kq1_ (by decide) 4 rfl
      obtain ⟨a_47, ma_47, ka_47, g⟩ := g_factr g mq1_ kq1_ (by decide) 5 rfl
      have kb_25 : bd 25 25 (25 : Int32) := ⟨by decide, by decide⟩
      have kb_0 : bd 0 0 (0 : Int32) := ⟨by decide, by decide⟩
      have go_ := g
      refine g_callv (va_runV (As := [.int 25, .int 0]) (rest := []) ⟨hx, hb, hml, hown, hts⟩ (r_X7_emitN l dC dI L kd tys f0 s.heap.size g.2.2.2.1 q1_ mq1_ kq1_ a_46 ma_46 ka_46 a_47 ma_47 ka_47 x_1 bx_1 T_ hGdq1_ (25 : Int32) (0 : Int32) (fun j9 => jOK f0 q1_ j9) hGcq1_ (fun _ h9 => h9) ⟨(fun h9 => ⟨(by have h9_0 := b_45; unfold bd at h9_0; have h9_1 := bx_1; unfold bd at h9_1; have h9_2 := by0_; unfold bd at h9_2; have h8_0 := kb_0; unfold bd at h8_0; have h8_1 := kb_205; unfold bd at h8_1; have h8_2 := kb_206; unfold bd at h8_2; have h8_3 := kb_25; unfold bd at h8_3; omega), (by have h9_0 := b_45; unfold bd at h9_0; have h9_1 := bx_1; unfold bd at h9_1; have h9_2 := by0_; unfold bd at h9_2; have h8_0 := kb_0; unfold bd at h8_0; have h8_1 := kb_205; unfold bd at h8_1; have h8_2 := kb_206; unfold bd at h8_2; have h8_3 := kb_25; unfold bd at h8_3; omega)⟩), (fun h9 => ⟨(by have h9_0 := b_45; unfold bd at h9_0; have h9_1 := bx_1; unfold bd at h9_1; have h9_2 := by0_; unfold bd at h9_2; have h8_0 := kb_0; unfold bd at h8_0; have h8_1 := kb_205; unfold bd at h8_1; have h8_2 := kb_206; unfold bd at h8_2; have h8_3 := kb_25; unfold bd at h8_3; omega), (by have h9_0 := b_45; unfold bd at h9_0; have h9_1 := bx_1; unfold bd at h9_1; have h9_2 := by0_; unfold bd at h9_2; have h8_0 := kb_0; unfold bd at h8_0; have h8_1 := kb_205; unfold bd at h8_1; have h8_2 := kb_206; unfold bd at h8_2; have h8_3 := kb_25; unfold bd at h8_3; omega)⟩), (fun h9 => ⟨(by have h9_0 := b_45; unfold bd at h9_0; have h9_1 := bx_1; unfold bd at h9_1; have h9_2 := by0_; unfold bd at h9_2; have h8_0 := kb_0; unfold bd at h8_0; have h8_1 := kb_205; unfold bd at h8_1; have h8_2 := kb_206; unfold bd at h8_2; have h8_3 := kb_25; unfold bd at h8_3; omega), (by have h9_0 := b_45; unfold bd at h9_0; have h9_1 := bx_1; unfold bd at h9_1; have h9_2 := by0_; unfold bd at h9_2; have h8_0 := kb_0; unfold bd at h8_0; have h8_1 := kb_205; unfold bd at h8_1; have h8_2 := kb_206; unfold bd at h8_2; have h8_3 := kb_25; unfold bd at h8_3; omega)⟩)⟩ (g.fcts [1, 0, 2] rfl)) (cwV 2 hts (gV_ t_1203 t_1204 t_1205 t_191 t_1206) rfl rfl rfl (by decide +kernel) ⟨(Nat.le_of_ble_eq_true rfl), (Nat.le_of_ble_eq_true rfl)⟩) (pre3V g hK mq1_ kq1_ (by decide) (q := (RX7, TX7, 19)) rfl) rfl rfl hl.1 rfl (lv_room (Nat.le_of_ble_eq_true rfl)) dX0_openOperator_42 ⟨(Nat.le_of_ble_eq_true rfl), (Nat.le_of_ble_eq_true rfl)⟩) g hK (by decide) (by decide) (fx' := [(7, 5, q1_, .ref a_47), (7, 4, q1_, .ref a_46), (0, 0, a0_, .ref q0_), (0, 2, a0_, .ref q1_), (8, 8, q0_, .int y0_)]) rfl (fun fr_48 H locs hp hMr_48 g => ?_)
      obtain ⟨hG_49, hG_50, hG_51, hx_52, x_53, h_54, hF_55⟩ := hp
      have hG_56 := eOK.frame hMr_48 go_.2.2.2.1 ma0_ ka0_ (by decide) (by decide) hGea0_
      have hj_57 := hx_52 (by unfold jop; decide)
      have g := g.more hF_55
      have hs_58 := jS.mv hGsq1_ hG_51
      have hG_59 := eJx.mv hGia0_ hMr_48 go_.2.2.2.1 ma0_ ka0_ (by decide) (by decide) (((hMr_48 a0_ ma0_).1 2 (by rw [ka0_]; decide) (by rw [ka0_]; decide)).symm.trans (fx_at g (i := 4) rfl).2.2.2) hG_51
      refine lv_aload_n hx hb dX0_openOperator_45 rfl (lv_at hl 1 rfl) ?_
      refine lv_iload_n hx hb dX0_openOperator_46 rfl (lv_at hl 2 rfl) ?_
      refine lv_aload_n hx hb dX0_openOperator_47 rfl (lv_at hl 1 rfl) ?_
      refine g_getk (C := RX0) (T := TX0) (N := 14) hx hb hts (mc_ inX0) hown hK g rfl 0 (by decide) rfl (hts _ (List.mem_cons_of_mem _ t_373)) (fun _ h9 => h9) 3 rfl dX0_openOperator_48 ?_
      have go_ := g
      refine g_calli (va_runV (As := []) (rest := [.int x1_, .ref a0_]) ⟨hx, hb, hml, hown, hts⟩ (r_X8_place l dC dI L kd tys fr_48 H.size g.2.2.2.1 q0_ mq0_ kq0_) (cwV 0 hts (gV_ t_1220 t_1111 t_1112 t_184 t_1113) rfl rfl rfl (by decide +kernel) ⟨(Nat.le_of_ble_eq_true rfl), (Nat.le_of_ble_eq_true rfl)⟩) (pre3V g hK mq0_ kq0_ (by decide) (q := (RX8, TX8, 10)) rfl) rfl rfl hl.1 rfl (lv_room (Nat.le_of_ble_eq_true rfl)) dX0_openOperator_51 ⟨(Nat.le_of_ble_eq_true rfl), (Nat.le_of_ble_eq_true rfl)⟩) g hK (by decide) (by decide) (fx' := [(7, 6, q1_, .int x_53), (7, 5, q1_, .ref a_47), (7, 4, q1_, .ref a_46), (0, 0, a0_, .ref q0_), (0, 2, a0_, .ref q1_), (8, 8, q0_, .int y0_)]) rfl (fun r_60 fr_60 H locs hp hMr_60 g => ?_)
      have hG_61 := cOK.frame hMr_60 go_.2.2.2.1 mq1_ kq1_ (by decide) (by decide) hG_50
      have hG_62 := dOK.frame hMr_60 go_.2.2.2.1 mq1_ kq1_ (by decide) (by decide) hG_49
      have hG_63 := jS.frame hMr_60 go_.2.2.2.1 mq1_ kq1_ (by decide) (by decide) hs_58
      have hG_64 := eOK.frame hMr_60 go_.2.2.2.1 ma0_ ka0_ (by decide) (by decide) hG_56
      have hG_65 := eJx.frame hMr_60 go_.2.2.2.1 ma0_ ka0_ (by decide) (by decide) hG_59
      have hG_66 := jOK.frame hMr_60 go_.2.2.2.1 mq1_ kq1_ (by decide) (by decide) hj_57
      refine lv_iload_n hx hb dX0_openOperator_54 rfl (lv_at hl 0 rfl) ?_
      obtain ⟨a_67, ma_67, ka_67, g⟩ := g_factr (K := 110) g ma0_ ka0_ (by decide) 3 rfl
      obtain ⟨a_68, ma_68, ka_68, g⟩ := g_factr (K := 112) g ma0_ ka0_ (by decide) 5 rfl
      have go_ := g
      refine g_callv (va_runV (As := [.int x1_, .int r_60, .int x_1]) (rest := []) ⟨hx, hb, hml, hown, hts⟩ (r_X0_push_3 l dC dI L kd tys fr_60 H.size g.2.2.2.1 a0_ ma0_ ka0_ x1_ r_60 x_1 q1_ mq1_ kq1_ a_67 ma_67 ka_67 a_68 ma_68 ka_68 hG_65 hG_64 (erel_bd b_45 bx_1 (by decide)) ⟨(fun _ => hG_66), (fun h9 => ⟨(by have h9_0 := b_45; unfold bd at h9_0; have h9_1 := bx_1; unfold bd at h9_1; have h9_2 := h_54; unfold bd at h9_2; have h9_3 := by0_; unfold bd at h9_3; have h8_0 := kb_0; unfold bd at h8_0; have h8_1 := kb_205; unfold bd at h8_1; have h8_2 := kb_206; unfold bd at h8_2; have h8_3 := kb_25; unfold bd at h8_3; omega), (by have h9_0 := b_45; unfold bd at h9_0; have h9_1 := bx_1; unfold bd at h9_1; have h9_2 := h_54; unfold bd at h9_2; have h9_3 := by0_; unfold bd at h9_3; have h8_0 := kb_0; unfold bd at h8_0; have h8_1 := kb_205; unfold bd at h8_1; have h8_2 := kb_206; unfold bd at h8_2; have h8_3 := kb_25; unfold bd at h8_3; omega)⟩)⟩ (g.fcts [6, 1, 0] rfl)) (cwV 3 hts (gV_ t_1221 t_1223 t_19 t_190 t_1224) rfl rfl rfl (by decide +kernel) ⟨(Nat.le_of_ble_eq_true rfl), (Nat.le_of_ble_eq_true rfl)⟩) (pre3V g hK ma0_ ka0_ (by decide) (q := (RX0, TX0, 14)) rfl) rfl rfl hl.1 rfl (lv_room (Nat.le_of_ble_eq_true rfl)) dX0_openOperator_55 ⟨(Nat.le_of_ble_eq_true rfl), (Nat.le_of_ble_eq_true rfl)⟩) g hK (by decide) (by decide) (fx' := [(0, 5, a0_, .ref a_68), (0, 3, a0_, .ref a_67), (7, 6, q1_, .int x_53), (7, 5, q1_, .ref a_47), (7, 4, q1_, .ref a_46), (0, 0, a0_, .ref q0_), (0, 2, a0_, .ref q1_), (8, 8, q0_, .int y0_)]) rfl (fun fr_69 H locs hp hMr_69 g => ?_)
      obtain ⟨hG_70, hG_71, x_72, h_73, hF_74⟩ := hp
      have hG_75 := cOK.frame hMr_69 go_.2.2.2.1 mq1_ kq1_ (by decide) (by decide) hG_61
      have hG_76 := dOK.frame hMr_69 go_.2.2.2.1 mq1_ kq1_ (by decide) (by decide) hG_62
      have hG_77 := jS.frame hMr_69 go_.2.2.2.1 mq1_ kq1_ (by decide) (by decide) hG_63
      have hG_78 := jOK.frame hMr_69 go_.2.2.2.1 mq1_ kq1_ (by decide) (by decide) hG_66
      have g := g.more hF_74
      refine lv_aload_n hx hb dX0_openOperator_58 rfl (lv_at hl 1 rfl) ?_
      refine g_getk (C := RX0) (T := TX0) (N := 14) hx hb hts (mc_ inX0) hown hK g rfl 2 (by decide) rfl (hts _ (List.mem_cons_of_mem _ t_375)) (fun _ h9 => h9) 7 rfl dX0_openOperator_59 ?_
      refine lv_dup hx hb dX0_openOperator_62 rfl ?_
      refine g_geti (C := RX7) (T := TX7) (N := 19) hx hb hts (mc_ inX7) hown hK g mq1_ kq1_ (by decide) rfl 18 (by decide) rfl (hts _ (List.mem_cons_of_mem _ t_681)) (fun _ h9 => h9) rfl dX0_openOperator_63 (fun x_79 bx_79 g => ?_)
      refine lv_iconst (v := 1) hx hb dX0_openOperator_66 (by decide) ?_
      have kb_1 : bd 1 1 (1 : Int32) := ⟨by decide, by decide⟩
      refine lv_iadd hx hb dX0_openOperator_67 ?_
      refine lv_topi (fun y_80 ey_80 => ?_)
      have go_ := g
      refine g_put (C := RX7) (T := TX7) (N := 19) hx hb hts (mc_ inX7) tyX7 tyX7_ok nmX7 hown hK g mq1_ kq1_ (by decide) rfl 18 (by decide) (hts _ (List.mem_cons_of_mem _ t_681)) (fun _ h9 => h9) rfl rfl (okV_i (bdT y_80)) rfl rfl (by decide) (Or.inr (Or.inl (by decide))) (fx' := [(0, 8, a0_, .int x_72), (0, 5, a0_, .ref a_68), (0, 3, a0_, .ref a_67), (7, 6, q1_, .int x_53), (7, 5, q1_, .ref a_47), (7, 4, q1_, .ref a_46), (0, 0, a0_, .ref q0_), (0, 2, a0_, .ref q1_), (8, 8, q0_, .int y0_)]) rfl dX0_openOperator_68 (fun f H locs hM_81 g => ?_)
      have hG_82 := cOK.frame hM_81 go_.2.2.2.1 mq1_ kq1_ (by decide) (by decide) hG_75
      have hG_83 := dOK.frame hM_81 go_.2.2.2.1 mq1_ kq1_ (by decide) (by decide) hG_76
      have hG_84 := jS.frame hM_81 go_.2.2.2.1 mq1_ kq1_ (by decide) (by decide) hG_77
      have hG_85 := eOK.frame hM_81 go_.2.2.2.1 ma0_ ka0_ (by decide) (by decide) hG_71
      have hG_86 := eJx.frame hM_81 go_.2.2.2.1 ma0_ ka0_ (by decide) (by decide) hG_70
      have hG_87 := jOK.frame hM_81 go_.2.2.2.1 mq1_ kq1_ (by decide) (by decide) hG_78
      refine lv_aload_n hx hb dX0_openOperator_71 rfl (lv_at hl 1 rfl) ?_
      refine g_getk (C := RX0) (T := TX0) (N := 14) hx hb hts (mc_ inX0) hown hK g rfl 0 (by decide) rfl (hts _ (List.mem_cons_of_mem _ t_373)) (fun _ h9 => h9) 7 rfl dX0_openOperator_72 ?_
      have go_ := g
      refine g_callv (va_runV (As := []) (rest := []) ⟨hx, hb, hml, hown, hts⟩ (r_X8_next l dC dI L kd tys f H.size g.2.2.2.1 q0_ mq0_ kq0_) (cwV 0 hts (gV_ t_1225 t_1103 t_1104 t_184 t_1105) rfl rfl rfl (by decide +kernel) ⟨(Nat.le_of_ble_eq_true rfl), (Nat.le_of_ble_eq_true rfl)⟩) (pre3V g hK mq0_ kq0_ (by decide) (q := (RX8, TX8, 10)) rfl) rfl rfl hl.1 rfl (lv_room (Nat.le_of_ble_eq_true rfl)) dX0_openOperator_75 ⟨(Nat.le_of_ble_eq_true rfl), (Nat.le_of_ble_eq_true rfl)⟩) g hK (by decide) (by decide) (fx' := [(7, 18, q1_, .int y_80), (0, 8, a0_, .int x_72), (0, 5, a0_, .ref a_68), (0, 3, a0_, .ref a_67), (7, 6, q1_, .int x_53), (7, 5, q1_, .ref a_47), (7, 4, q1_, .ref a_46), (0, 0, a0_, .ref q0_), (0, 2, a0_, .ref q1_), (8, 8, q0_, .int y0_)]) rfl (fun fr_88 H locs hp hMr_88 g => ?_)
      obtain ⟨x_89, h_90, hF_91⟩ := hp
      have hG_92 := cOK.frame hMr_88 go_.2.2.2.1 mq1_ kq1_ (by decide) (by decide) hG_82
      have hG_93 := dOK.frame hMr_88 go_.2.2.2.1 mq1_ kq1_ (by decide) (by decide) hG_83
      have hG_94 := jS.frame hMr_88 go_.2.2.2.1 mq1_ kq1_ (by decide) (by decide) hG_84
      have hG_95 := eOK.frame hMr_88 go_.2.2.2.1 ma0_ ka0_ (by decide) (by decide) hG_85
      have hG_96 := eJx.frame hMr_88 go_.2.2.2.1 ma0_ ka0_ (by decide) (by decide) hG_86
      have hG_97 := jOK.frame hMr_88 go_.2.2.2.1 mq1_ kq1_ (by decide) (by decide) hG_87
      have g := g.more hF_91
      refine lv_aload_n hx hb dX0_openOperator_78 rfl (lv_at hl 1 rfl) ?_
      refine lv_iconst (v := 1) hx hb dX0_openOperator_79 (by decide) ?_
      have go_ := g
      refine g_put (C := RX0) (T := TX0) (N := 14) hx hb hts (mc_ inX0) tyX0 tyX0_ok nmX0 hown hK g ma0_ ka0_ (by decide) rfl 12 (by decide) (hts _ (List.mem_cons_of_mem _ t_385)) (fun _ h9 => h9) rfl rfl (okV_i (bd_sub kb_1 (by decide))) rfl rfl (by decide) (Or.inr (Or.inl (by decide))) (fx' := [(8, 6, q0_, .int x_89), (7, 18, q1_, .int y_80), (0, 8, a0_, .int x_72), (0, 5, a0_, .ref a_68), (0, 3, a0_, .ref a_67), (7, 6, q1_, .int x_53), (7, 5, q1_, .ref a_47), (7, 4, q1_, .ref a_46), (0, 0, a0_, .ref q0_), (0, 2, a0_, .ref q1_), (8, 8, q0_, .int y0_)]) rfl dX0_openOperator_80 (fun f H locs hM_98 g => ?_)
      have hG_99 := cOK.frame hM_98 go_.2.2.2.1 mq1_ kq1_ (by decide) (by decide) hG_92
      have hG_100 := dOK.frame hM_98 go_.2.2.2.1 mq1_ kq1_ (by decide) (by decide) hG_93
      have hG_101 := jS.frame hM_98 go_.2.2.2.1 mq1_ kq1_ (by decide) (by decide) hG_94
      have hG_102 := eOK.frame hM_98 go_.2.2.2.1 ma0_ ka0_ (by decide) (by decide) hG_95
      have hG_103 := eJx.frame hM_98 go_.2.2.2.1 ma0_ ka0_ (by decide) (by decide) hG_96
      have hG_104 := jOK.frame hM_98 go_.2.2.2.1 mq1_ kq1_ (by decide) (by decide) hG_97
      subst hQ
      exact W.vret hx hb hr (fun t ht hW => ⟨⟨_, rfl, ⟨hG_103, hG_99, hG_100, hG_101, hG_102, x_89, h_90, x_72, h_73, (g.fcts [0, 1, 3] rfl)⟩, q3_of g hK ht hW⟩, g.2.2.1.F ht⟩) g.2.2.1.2.2 dX0_openOperator_83
  · have fc_2 := eq_f c_2
    have b_105 : bd 205 205 x1_ := eqX fc_2 bx1_ kb_205 (by decide)
    refine lv_aload_n hx hb dX0_openOperator_15 rfl (lv_at hl 1 rfl) ?_
    refine g_getk (C := RX0) (T := TX0) (N := 14) hx hb hts (mc_ inX0) hown hK g rfl 2 (by decide) rfl (hts _ (List.mem_cons_of_mem _ t_375)) (fun _ h9 => h9) 2 rfl dX0_openOperator_16 ?_
    refine lv_bipush (v := 24) hx hb dX0_openOperator_19 (by decide) ?_
    refine lv_iconst (v := 0) hx hb dX0_openOperator_21 (by decide) ?_
    obtain ⟨a_106, ma_106, ka_106, g⟩ := g_factr g mq1_ kq1_ (by decide) 4 rfl
    obtain ⟨a_107, ma_107, ka_107, g⟩ := g_factr g mq1_ kq1_ (by decide) 5 rfl
    have kb_24 : bd 24 24 (24 : Int32) := ⟨by decide, by decide⟩
    have kb_0 : bd 0 0 (0 : Int32) := ⟨by decide, by decide⟩
    have go_ := g
    refine g_callv (va_runV (As := [.int 24, .int 0]) (rest := []) ⟨hx, hb, hml, hown, hts⟩ (r_X7_emitN l dC dI L kd tys f0 s.heap.size g.2.2.2.1 q1_ mq1_ kq1_ a_106 ma_106 ka_106 a_107 ma_107 ka_107 x_1 bx_1 T_ hGdq1_ (24 : Int32) (0 : Int32) (fun j9 => jOK f0 q1_ j9) hGcq1_ (fun _ h9 => h9) ⟨(fun h9 => ⟨(by have h9_0 := b_105; unfold bd at h9_0; have h9_1 := bx_1; unfold bd at h9_1; have h9_2 := by0_; unfold bd at h9_2; have h8_0 := kb_0; unfold bd at h8_0; have h8_1 := kb_205; unfold bd at h8_1; have h8_2 := kb_24; unfold bd at h8_2; omega), (by have h9_0 := b_105; unfold bd at h9_0; have h9_1 := bx_1; unfold bd at h9_1; have h9_2 := by0_; unfold bd at h9_2; have h8_0 := kb_0; unfold bd at h8_0; have h8_1 := kb_205; unfold bd at h8_1; have h8_2 := kb_24; unfold bd at h8_2; omega)⟩), (fun h9 => ⟨(by have h9_0 := b_105; unfold bd at h9_0; have h9_1 := bx_1; unfold bd at h9_1; have h9_2 := by0_; unfold bd at h9_2; have h8_0 := kb_0; unfold bd at h8_0; have h8_1 := kb_205; unfold bd at h8_1; have h8_2 := kb_24; unfold bd at h8_2; omega), (by have h9_0 := b_105; unfold bd at h9_0; have h9_1 := bx_1; unfold bd at h9_1; have h9_2 := by0_; unfold bd at h9_2; have h8_0 := kb_0; unfold bd at h8_0; have h8_1 := kb_205; unfold bd at h8_1; have h8_2 := kb_24; unfold bd at h8_2; omega)⟩), (fun h9 => ⟨(by have h9_0 := b_105; unfold bd at h9_0; have h9_1 := bx_1; unfold bd at h9_1; have h9_2 := by0_; unfold bd at h9_2; have h8_0 := kb_0; unfold bd at h8_0; have h8_1 := kb_205; unfold bd at h8_1; have h8_2 := kb_24; unfold bd at h8_2; omega), (by have h9_0 := b_105; unfold bd at h9_0; have h9_1 := bx_1; unfold bd at h9_1; have h9_2 := by0_; unfold bd at h9_2; have h8_0 := kb_0; unfold bd at h8_0; have h8_1 := kb_205; unfold bd at h8_1; have h8_2 := kb_24; unfold bd at h8_2; omega)⟩)⟩ (g.fcts [1, 0, 2] rfl)) (cwV 2 hts (gV_ t_1203 t_1204 t_1205 t_191 t_1206) rfl rfl rfl (by decide +kernel) ⟨(Nat.le_of_ble_eq_true rfl), (Nat.le_of_ble_eq_true rfl)⟩) (pre3V g hK mq1_ kq1_ (by decide) (q := (RX7, TX7, 19)) rfl) rfl rfl hl.1 rfl (lv_room (Nat.le_of_ble_eq_true rfl)) dX0_openOperator_22 ⟨(Nat.le_of_ble_eq_true rfl), (Nat.le_of_ble_eq_true rfl)⟩) g hK (by decide) (by decide) (fx' := [(7, 5, q1_, .ref a_107), (7, 4, q1_, .ref a_106), (0, 0, a0_, .ref q0_), (0, 2, a0_, .ref q1_), (8, 8, q0_, .int y0_)]) rfl (fun fr_108 H locs hp hMr_108 g => ?_)
    obtain ⟨hG_109, hG_110, hG_111, hx_112, x_113, h_114, hF_115⟩ := hp
    have hG_116 := eOK.frame hMr_108 go_.2.2.2.1 ma0_ ka0_ (by decide) (by decide) hGea0_
    have hj_117 := hx_112 (by unfold jop; decide)
    have g := g.more hF_115
    have hs_118 := jS.mv hGsq1_ hG_111
    have hG_119 := eJx.mv hGia0_ hMr_108 go_.2.2.2.1 ma0_ ka0_ (by decide) (by decide) (((hMr_108 a0_ ma0_).1 2 (by rw [ka0_]; decide) (by rw [ka0_]; decide)).symm.trans (fx_at g (i := 4) rfl).2.2.2) hG_111
    refine lv_goto (tgt := 45) hx hb dX0_openOperator_25 (by decide) ?_
    refine lv_aload_n hx hb dX0_openOperator_45 rfl (lv_at hl 1 rfl) ?_
    refine lv_iload_n hx hb dX0_openOperator_46 rfl (lv_at hl 2 rfl) ?_
    refine lv_aload_n hx hb dX0_openOperator_47 rfl (lv_at hl 1 rfl) ?_
    refine g_getk (C := RX0) (T := TX0) (N := 14) hx hb hts (mc_ inX0) hown hK g rfl 0 (by decide) rfl (hts _ (List.mem_cons_of_mem _ t_373)) (fun _ h9 => h9) 3 rfl dX0_openOperator_48 ?_
    have go_ := g
    refine g_calli (va_runV (As := []) (rest := [.int x1_, .ref a0_]) ⟨hx, hb, hml, hown, hts⟩ (r_X8_place l dC dI L kd tys fr_108 H.size g.2.2.2.1 q0_ mq0_ kq0_) (cwV 0 hts (gV_ t_1220 t_1111 t_1112 t_184 t_1113) rfl rfl rfl (by decide +kernel) ⟨(Nat.le_of_ble_eq_true rfl), (Nat.le_of_ble_eq_true rfl)⟩) (pre3V g hK mq0_ kq0_ (by decide) (q := (RX8, TX8, 10)) rfl) rfl rfl hl.1 rfl (lv_room (Nat.le_of_ble_eq_true rfl)) dX0_openOperator_51 ⟨(Nat.le_of_ble_eq_true rfl), (Nat.le_of_ble_eq_true rfl)⟩) g hK (by decide) (by decide) (fx' := [(7, 6, q1_, .int x_113), (7, 5, q1_, .ref a_107), (7, 4, q1_, .ref a_106), (0, 0, a0_, .ref q0_), (0, 2, a0_, .ref q1_), (8, 8, q0_, .int y0_)]) rfl (fun r_120 fr_120 H locs hp hMr_120 g => ?_)
    have hG_121 := cOK.frame hMr_120 go_.2.2.2.1 mq1_ kq1_ (by decide) (by decide) hG_110
    have hG_122 := dOK.frame hMr_120 go_.2.2.2.1 mq1_ kq1_ (by decide) (by decide) hG_109
    have hG_123 := jS.frame hMr_120 go_.2.2.2.1 mq1_ kq1_ (by decide) (by decide) hs_118
    have hG_124 := eOK.frame hMr_120 go_.2.2.2.1 ma0_ ka0_ (by decide) (by decide) hG_116
    have hG_125 := eJx.frame hMr_120 go_.2.2.2.1 ma0_ ka0_ (by decide) (by decide) hG_119
    have hG_126 := jOK.frame hMr_120 go_.2.2.2.1 mq1_ kq1_ (by decide) (by decide) hj_117
    refine lv_iload_n hx hb dX0_openOperator_54 rfl (lv_at hl 0 rfl) ?_
    obtain ⟨a_127, ma_127, ka_127, g⟩ := g_factr (K := 110) g ma0_ ka0_ (by decide) 3 rfl
    obtain ⟨a_128, ma_128, ka_128, g⟩ := g_factr (K := 112) g ma0_ ka0_ (by decide) 5 rfl
    have go_ := g
    refine g_callv (va_runV (As := [.int x1_, .int r_120, .int x_1]) (rest := []) ⟨hx, hb, hml, hown, hts⟩ (r_X0_push_3 l dC dI L kd tys fr_120 H.size g.2.2.2.1 a0_ ma0_ ka0_ x1_ r_120 x_1 q1_ mq1_ kq1_ a_127 ma_127 ka_127 a_128 ma_128 ka_128 hG_125 hG_124 (erel_bd b_105 bx_1 (by decide)) ⟨(fun _ => hG_126), (fun h9 => ⟨(by have h9_0 := b_105; unfold bd at h9_0; have h9_1 := bx_1; unfold bd at h9_1; have h9_2 := h_114; unfold bd at h9_2; have h9_3 := by0_; unfold bd at h9_3; have h8_0 := kb_0; unfold bd at h8_0; have h8_1 := kb_205; unfold bd at h8_1; have h8_2 := kb_24; unfold bd at h8_2; omega), (by have h9_0 := b_105; unfold bd at h9_0; have h9_1 := bx_1; unfold bd at h9_1; have h9_2 := h_114; unfold bd at h9_2; have h9_3 := by0_; unfold bd at h9_3; have h8_0 := kb_0; unfold bd at h8_0; have h8_1 := kb_205; unfold bd at h8_1; have h8_2 := kb_24; unfold bd at h8_2; omega)⟩)⟩ (g.fcts [6, 1, 0] rfl)) (cwV 3 hts (gV_ t_1221 t_1223 t_19 t_190 t_1224) rfl rfl rfl (by decide +kernel) ⟨(Nat.le_of_ble_eq_true rfl), (Nat.le_of_ble_eq_true rfl)⟩) (pre3V g hK ma0_ ka0_ (by decide) (q := (RX0, TX0, 14)) rfl) rfl rfl hl.1 rfl (lv_room (Nat.le_of_ble_eq_true rfl)) dX0_openOperator_55 ⟨(Nat.le_of_ble_eq_true rfl), (Nat.le_of_ble_eq_true rfl)⟩) g hK (by decide) (by decide) (fx' := [(0, 5, a0_, .ref a_128), (0, 3, a0_, .ref a_127), (7, 6, q1_, .int x_113), (7, 5, q1_, .ref a_107), (7, 4, q1_, .ref a_106), (0, 0, a0_, .ref q0_), (0, 2, a0_, .ref q1_), (8, 8, q0_, .int y0_)]) rfl (fun fr_129 H locs hp hMr_129 g => ?_)
    obtain ⟨hG_130, hG_131, x_132, h_133, hF_134⟩ := hp
    have hG_135 := cOK.frame hMr_129 go_.2.2.2.1 mq1_ kq1_ (by decide) (by decide) hG_121
    have hG_136 := dOK.frame hMr_129 go_.2.2.2.1 mq1_ kq1_ (by decide) (by decide) hG_122
    have hG_137 := jS.frame hMr_129 go_.2.2.2.1 mq1_ kq1_ (by decide) (by decide) hG_123
    have hG_138 := jOK.frame hMr_129 go_.2.2.2.1 mq1_ kq1_ (by decide) (by decide) hG_126
    have g := g.more hF_134
    refine lv_aload_n hx hb dX0_openOperator_58 rfl (lv_at hl 1 rfl) ?_
    refine g_getk (C := RX0) (T := TX0) (N := 14) hx hb hts (mc_ inX0) hown hK g rfl 2 (by decide) rfl (hts _ (List.mem_cons_of_mem _ t_375)) (fun _ h9 => h9) 7 rfl dX0_openOperator_59 ?_
    refine lv_dup hx hb dX0_openOperator_62 rfl ?_
    refine g_geti (C := RX7) (T := TX7) (N := 19) hx hb hts (mc_ inX7) hown hK g mq1_ kq1_ (by decide) rfl 18 (by decide) rfl (hts _ (List.mem_cons_of_mem _ t_681)) (fun _ h9 => h9) rfl dX0_openOperator_63 (fun x_139 bx_139 g => ?_)
    refine lv_iconst (v := 1) hx hb dX0_openOperator_66 (by decide) ?_
    have kb_1 : bd 1 1 (1 : Int32) := ⟨by decide, by decide⟩
    refine lv_iadd hx hb dX0_openOperator_67 ?_
    refine lv_topi (fun y_140 ey_140 => ?_)
    have go_ := g
    refine g_put (C := RX7) (T := TX7) (N := 19) hx hb hts (mc_ inX7) tyX7 tyX7_ok nmX7 hown hK g mq1_ kq1_ (by decide) rfl 18 (by decide) (hts _ (List.mem_cons_of_mem _ t_681)) (fun _ h9 => h9) rfl rfl (okV_i (bdT y_140)) rfl rfl (by decide) (Or.inr (Or.inl (by decide))) (fx' := [(0, 8, a0_, .int x_132), (0, 5, a0_, .ref a_128), (0, 3, a0_, .ref a_127), (7, 6, q1_, .int x_113), (7, 5, q1_, .ref a_107), (7, 4, q1_, .ref a_106), (0, 0, a0_, .ref q0_), (0, 2, a0_, .ref q1_), (8, 8, q0_, .int y0_)]) rfl dX0_openOperator_68 (fun f H locs hM_141 g => ?_)
    have hG_142 := cOK.frame hM_141 go_.2.2.2.1 mq1_ kq1_ (by decide) (by decide) hG_135
    have hG_143 := dOK.frame hM_141 go_.2.2.2.1 mq1_ kq1_ (by decide) (by decide) hG_136
    have hG_144 := jS.frame hM_141 go_.2.2.2.1 mq1_ kq1_ (by decide) (by decide) hG_137
    have hG_145 := eOK.frame hM_141 go_.2.2.2.1 ma0_ ka0_ (by decide) (by decide) hG_131
    have hG_146 := eJx.frame hM_141 go_.2.2.2.1 ma0_ ka0_ (by decide) (by decide) hG_130
    have hG_147 := jOK.frame hM_141 go_.2.2.2.1 mq1_ kq1_ (by decide) (by decide) hG_138
    refine lv_aload_n hx hb dX0_openOperator_71 rfl (lv_at hl 1 rfl) ?_
    refine g_getk (C := RX0) (T := TX0) (N := 14) hx hb hts (mc_ inX0) hown hK g rfl 0 (by decide) rfl (hts _ (List.mem_cons_of_mem _ t_373)) (fun _ h9 => h9) 7 rfl dX0_openOperator_72 ?_
    have go_ := g
    refine g_callv (va_runV (As := []) (rest := []) ⟨hx, hb, hml, hown, hts⟩ (r_X8_next l dC dI L kd tys f H.size g.2.2.2.1 q0_ mq0_ kq0_) (cwV 0 hts (gV_ t_1225 t_1103 t_1104 t_184 t_1105) rfl rfl rfl (by decide +kernel) ⟨(Nat.le_of_ble_eq_true rfl), (Nat.le_of_ble_eq_true rfl)⟩) (pre3V g hK mq0_ kq0_ (by decide) (q := (RX8, TX8, 10)) rfl) rfl rfl hl.1 rfl (lv_room (Nat.le_of_ble_eq_true rfl)) dX0_openOperator_75 ⟨(Nat.le_of_ble_eq_true rfl), (Nat.le_of_ble_eq_true rfl)⟩) g hK (by decide) (by decide) (fx' := [(7, 18, q1_, .int y_140), (0, 8, a0_, .int x_132), (0, 5, a0_, .ref a_128), (0, 3, a0_, .ref a_127), (7, 6, q1_, .int x_113), (7, 5, q1_, .ref a_107), (7, 4, q1_, .ref a_106), (0, 0, a0_, .ref q0_), (0, 2, a0_, .ref q1_), (8, 8, q0_, .int y0_)]) rfl (fun fr_148 H locs hp hMr_148 g => ?_)
    obtain ⟨x_149, h_150, hF_151⟩ := hp
    have hG_152 := cOK.frame hMr_148 go_.2.2.2.1 mq1_ kq1_ (by decide) (by decide) hG_142
    have hG_153 := dOK.frame hMr_148 go_.2.2.2.1 mq1_ kq1_ (by decide) (by decide) hG_143
    have hG_154 := jS.frame hMr_148 go_.2.2.2.1 mq1_ kq1_ (by decide) (by decide) hG_144
    have hG_155 := eOK.frame hMr_148 go_.2.2.2.1 ma0_ ka0_ (by decide) (by decide) hG_145
    have hG_156 := eJx.frame hMr_148 go_.2.2.2.1 ma0_ ka0_ (by decide) (by decide) hG_146
    have hG_157 := jOK.frame hMr_148 go_.2.2.2.1 mq1_ kq1_ (by decide) (by decide) hG_147
    have g := g.more hF_151
    refine lv_aload_n hx hb dX0_openOperator_78 rfl (lv_at hl 1 rfl) ?_
    refine lv_iconst (v := 1) hx hb dX0_openOperator_79 (by decide) ?_
    have go_ := g
    refine g_put (C := RX0) (T := TX0) (N := 14) hx hb hts (mc_ inX0) tyX0 tyX0_ok nmX0 hown hK g ma0_ ka0_ (by decide) rfl 12 (by decide) (hts _ (List.mem_cons_of_mem _ t_385)) (fun _ h9 => h9) rfl rfl (okV_i (bd_sub kb_1 (by decide))) rfl rfl (by decide) (Or.inr (Or.inl (by decide))) (fx' := [(8, 6, q0_, .int x_149), (7, 18, q1_, .int y_140), (0, 8, a0_, .int x_132), (0, 5, a0_, .ref a_128), (0, 3, a0_, .ref a_127), (7, 6, q1_, .int x_113), (7, 5, q1_, .ref a_107), (7, 4, q1_, .ref a_106), (0, 0, a0_, .ref q0_), (0, 2, a0_, .ref q1_), (8, 8, q0_, .int y0_)]) rfl dX0_openOperator_80 (fun f H locs hM_158 g => ?_)
    have hG_159 := cOK.frame hM_158 go_.2.2.2.1 mq1_ kq1_ (by decide) (by decide) hG_152
    have hG_160 := dOK.frame hM_158 go_.2.2.2.1 mq1_ kq1_ (by decide) (by decide) hG_153
    have hG_161 := jS.frame hM_158 go_.2.2.2.1 mq1_ kq1_ (by decide) (by decide) hG_154
    have hG_162 := eOK.frame hM_158 go_.2.2.2.1 ma0_ ka0_ (by decide) (by decide) hG_155
    have hG_163 := eJx.frame hM_158 go_.2.2.2.1 ma0_ ka0_ (by decide) (by decide) hG_156
    have hG_164 := jOK.frame hM_158 go_.2.2.2.1 mq1_ kq1_ (by decide) (by decide) hG_157
    subst hQ
    exact W.vret hx hb hr (fun t ht hW => ⟨⟨_, rfl, ⟨hG_163, hG_159, hG_160, hG_161, hG_162, x_149, h_150, x_132, h_133, (g.fcts [0, 1, 3] rfl)⟩, q3_of g hK ht hW⟩, g.2.2.1.F ht⟩) g.2.2.1.2.2 dX0_openOperator_83
set_option maxHeartbeats 4000000 in
set_option maxRecDepth 100000 in
theorem r_X0_readBehind (l : Launch) (dC : Nat → ClassId) (dI : Nat → Nat → Nat) (L : List Nat) (kd : Nat → Nat) (tys : List (ClassId × FieldType)) (f0 : Nat → va_E) (sz : Nat) (hWT : WT L kd tys f0) (a0_ : Nat) (ma0_ : a0_ ∈ L) (ka0_ : kd a0_ = 0) (x1_ : Int32) (q0_ : Nat) (mq0_ : q0_ ∈ L) (kq0_ : kd q0_ = 8) (q1_ : Nat) (mq1_ : q1_ ∈ L) (kq1_ : kd q1_ = 5) (q2_ : Nat) (mq2_ : q2_ ∈ L) (kq2_ : kd q2_ = 7) (q3_ : Nat) (mq3_ : q3_ ∈ L) (kq3_ : kd q3_ = 9) (y0_ : Int32) (by0_ : bd 0 0 y0_) (T_ : Nat) (J_ : Int32 → Prop) (hGea0_ : eOK f0 a0_) (hGia0_ : eJx f0 a0_) (hGcq2_ : cOK f0 q2_) (hGdq2_ : dOK L kd f0 q2_ T_) (hGsq2_ : jS f0 q2_ J_) (hfx : Fs L kd f0 [(0, 0, a0_, .ref q0_), (0, 1, a0_, .ref q1_), (0, 2, a0_, .ref q2_), (5, 1, q1_, .ref q3_), (8, 8, q0_, .int y0_)]) : Met l yX0_readBehind (.code yX0_readBehind cX0_readBehind 3 none :: lw_g) ({ frames := 2, cells := 0, slots := 0, locals := 49 }) (va_Pc [.ref a0_, .int x1_] (P3 (dC, dI) L tys f0 sz)) (va_Qv (fun (f : Nat → va_E) => (eOK f a0_ ∧ eJx f a0_ ∧ cOK f q2_ ∧ dOK L kd f q2_ T_ ∧ jS f q2_ J_ ∧ Fs L kd f [(8, 8, q0_, .int y0_)]) ∨ (eOK f a0_ ∧ dOK L kd f q2_ T_ ∧ ∃ z1_ : Int32, bd 1 7 z1_ ∧ Fs L kd f [(8, 6, q0_, .int 1201), (8, 8, q0_, .int z1_)])) (Q3 (dC, dI) L kd tys [(0, 8), (0, 10), (0, 11), (0, 12), (0, 13), (7, 6), (7, 18), (8, 6), (8, 8), (8, 9)] [110, 111, 112, 113, 114, 115, 138, 139] f0 sz) (pA L sz)) 0 0 (pA L sz) := by
  refine Met.ofW (cc := cX0_readBehind) (maxL := 3) (ret := none) (by decide) rfl ?_
  intro p e s m args below meth c s₁ B hml hv
  obtain ⟨rfl, hsz, hP, hK, hD0⟩ := hv
  have hx := B.exec
  have hb := B.bytes
  have hr := B.returns
  have hts := atoms_spec (ws := (.code yX0_readBehind cX0_readBehind 3 none :: lw_g)) B.pre
  have hown : s.vm.findClass RX0 = some m.cls := findClass_of_methodNamed B.named
  have hlocks := B.notSynchronized
  subst hsz
  have g : G3 (dC, dI) L kd tys s f0 [(0, 8), (0, 10), (0, 11), (0, 12), (0, 13), (7, 6), (7, 18), (8, 6), (8, 8), (8, 9)] [110, 111, 112, 113, 114, 115, 138, 139] f0 s.heap [] [(0, 0, a0_, .ref q0_), (0, 1, a0_, .ref q1_), (0, 2, a0_, .ref q2_), (5, 1, q1_, .ref q3_), (8, 8, q0_, .int y0_)] := G3.start hP hD0 hWT hfx
  have hl := lv_entry ([.ref a0_, .int x1_]) (n := 3) (Nat.le_of_ble_eq_true rfl)
  rw [lg_entry_eq]
  generalize (lg_sl ([.ref a0_, .int x1_]) ++ List.replicate (3 - (lg_sl ([.ref a0_, .int x1_])).length) Slot.unset).toArray = ls at hl ⊢
  have hl : lv_has ls 3 [(0, .ref a0_), (1, .int x1_)] := hl
  refine W_q (fun Q hQ => ?_)
  refine lv_iload_n hx hb dX0_readBehind_0 rfl (lv_at hl 1 rfl) ?_
  have go_ := g
  refine g_calli (va_runS (As := [.int x1_]) (rest := []) ⟨hx, hb, hml, hown, hts⟩ (r_X0_levelOf l dC dI L kd tys f0 s.heap.size g.2.2.2.1 x1_) (va_cwS 1 hts (gS_ t_1191 t_1192 t_190 t_1193) rfl rfl rfl (by decide +kernel) ⟨(Nat.le_of_ble_eq_true rfl), (Nat.le_of_ble_eq_true rfl)⟩) (pre3S g hK) rfl rfl hl.1 rfl (lv_room (Nat.le_of_ble_eq_true rfl)) dX0_readBehind_1 ⟨(Nat.le_of_ble_eq_true rfl), (Nat.le_of_ble_eq_true rfl)⟩) g hK (by decide) (by decide) (fx' := [(0, 0, a0_, .ref q0_), (0, 1, a0_, .ref q1_), (0, 2, a0_, .ref q2_), (5, 1, q1_, .ref q3_), (8, 8, q0_, .int y0_)]) rfl (fun r_1 fr_1 H locs hp hMr_1 g => ?_)
  rcases hp with ⟨h_2, -⟩ | ⟨h_3, h_4, -⟩
  · have hG_5 := eOK.frame hMr_1 go_.2.2.2.1 ma0_ ka0_ (by decide) (by decide) hGea0_
    have hG_6 := eJx.frame hMr_1 go_.2.2.2.1 ma0_ ka0_ (by decide) (by decide) hGia0_
    have hG_7 := cOK.frame hMr_1 go_.2.2.2.1 mq2_ kq2_ (by decide) (by decide) hGcq2_
    have hG_8 := dOK.frame hMr_1 go_.2.2.2.1 mq2_ kq2_ (by decide) (by decide) hGdq2_
    have hG_9 := jS.frame hMr_1 go_.2.2.2.1 mq2_ kq2_ (by decide) (by decide) hGsq2_
    obtain rfl : r_1 = 0 := h_2
    refine lv_istore_n (lv' := [(2, .int 0), (0, .ref a0_), (1, .int x1_)]) hx hb dX0_readBehind_4 rfl hl (by decide) rfl (fun ls hl => ?_)
    refine lv_aload_n hx hb dX0_readBehind_5 rfl (lv_at hl 1 rfl) ?_
    refine lv_iload_n hx hb dX0_readBehind_6 rfl (lv_at hl 0 rfl) ?_
    refine lv_iconst (v := 1) hx hb dX0_readBehind_7 (by decide) ?_
    have kb_0 : bd 0 0 (0 : Int32) := ⟨by decide, by decide⟩
    have kb_1 : bd 1 1 (1 : Int32) := ⟨by decide, by decide⟩
    refine va_mmax hx hb (hml.trans hl.1.symm) hown (hts _ (List.mem_cons_of_mem _ t_1194)) (hts _ (List.mem_cons_of_mem _ t_1041)) (hts _ (List.mem_cons_of_mem _ t_204)) (hts _ (List.mem_cons_of_mem _ t_1042)) (Nat.le_of_ble_eq_true rfl) (Nat.le_of_ble_eq_true rfl) (Nat.le_of_ble_eq_true rfl) (Nat.le_of_ble_eq_true rfl) dX0_readBehind_8 ?_
    refine lv_topi (fun y_10 ey_10 => ?_)
    obtain rfl : y_10 = 1 := ey_10.trans (by decide)
    have go_ := g
    refine g_callv (va_runV (As := [.int 1]) (rest := []) ⟨hx, hb, hml, hown, hts⟩ (r_X0_closeParts l dC dI L kd tys fr_1 H.size g.2.2.2.1 a0_ ma0_ ka0_ 1 q0_ mq0_ kq0_ q2_ mq2_ kq2_ y0_ by0_ T_ (fun j9 => jOK fr_1 q2_ j9) hG_6 hG_7 hG_8 (fun _ h9 => h9) (g.fcts [0, 2, 4] rfl)) (cwV 1 hts (gV_ t_1195 t_1197 t_15 t_190 t_1198) rfl rfl rfl (by decide +kernel) ⟨(Nat.le_of_ble_eq_true rfl), (Nat.le_of_ble_eq_true rfl)⟩) (pre3V g hK ma0_ ka0_ (by decide) (q := (RX0, TX0, 14)) rfl) rfl rfl hl.1 rfl (lv_room (Nat.le_of_ble_eq_true rfl)) dX0_readBehind_11 ⟨(Nat.le_of_ble_eq_true rfl), (Nat.le_of_ble_eq_true rfl)⟩) g hK (by decide) (by decide) (fx' := [(0, 0, a0_, .ref q0_), (0, 1, a0_, .ref q1_), (0, 2, a0_, .ref q2_), (5, 1, q1_, .ref q3_)]) rfl (fun fr_11 H locs hp hMr_11 g => ?_)
    rcases hp with ⟨hG_12, hG_13, hG_14, hG_15, hF_16⟩ | ⟨hG_17, x_18, h_19, x_20, h_21, x_22, h_23, hF_24⟩
    · have hG_25 := eOK.frame hMr_11 go_.2.2.2.1 ma0_ ka0_ (by decide) (by decide) hG_5
      have g := g.more hF_16
      have hs_26 := jS.mv hG_9 hG_15
      refine lv_aload_n hx hb dX0_readBehind_14 rfl (lv_at hl 1 rfl) ?_
      refine g_getk (C := RX0) (T := TX0) (N := 14) hx hb hts (mc_ inX0) hown hK g rfl 0 (by decide) rfl (hts _ (List.mem_cons_of_mem _ t_373)) (fun _ h9 => h9) 1 rfl dX0_readBehind_15 ?_
      refine g_getk (C := RX8) (T := TX8) (N := 10) hx hb hts (mc_ inX8) hown hK g rfl 8 (by decide) rfl (hts _ (List.mem_cons_of_mem _ t_293)) (fun _ h9 => h9) 0 rfl dX0_readBehind_18 ?_
      refine lv_if_eq (tgt := 25) hx hb dX0_readBehind_21 (by decide) (fun c_27 => ?_) (fun c_27 => ?_)
      · have fc_27 := eq_f c_27
        refine lv_iload_n hx hb dX0_readBehind_25 rfl (lv_at hl 0 rfl) ?_
        refine lv_if_le (tgt := 37) hx hb dX0_readBehind_26 (by decide) (fun c_ => ?_) (fun c_ => absurd (by decide) c_)
        refine lv_aload_n hx hb dX0_readBehind_37 rfl (lv_at hl 1 rfl) ?_
        refine g_geti (C := RX0) (T := TX0) (N := 14) hx hb hts (mc_ inX0) hown hK g ma0_ ka0_ (by decide) rfl 8 (by decide) rfl (hts _ (List.mem_cons_of_mem _ t_381)) (fun _ h9 => h9) rfl dX0_readBehind_38 (fun x_28 bx_28 g => ?_)
        refine lv_if_ne (tgt := 52) hx hb dX0_readBehind_41 (by decide) (fun c_29 => ?_) (fun c_29 => ?_)
        · have fc_29 := neq_f c_29
          have b_30 : bd 1 300 x_28 := neX fc_29 bx_28 kb_0 (by decide)
          refine lv_aload_n hx hb dX0_readBehind_52 rfl (lv_at hl 1 rfl) ?_
          refine g_getr (K := 110) (C := RX0) (T := TX0) (N := 14) hx hb hts (mc_ inX0) hown hK g ma0_ ka0_ (by decide) rfl 3 (by decide) rfl (hts _ (List.mem_cons_of_mem _ t_376)) (fun _ h9 => h9) rfl dX0_readBehind_53 (fun a_31 ma_31 ka_31 g => ?_)
          refine lv_aload_n hx hb dX0_readBehind_56 rfl (lv_at hl 1 rfl) ?_
          refine g_getk (C := RX0) (T := TX0) (N := 14) hx hb hts (mc_ inX0) hown hK g rfl 8 (by decide) rfl (hts _ (List.mem_cons_of_mem _ t_381)) (fun _ h9 => h9) 1 rfl dX0_readBehind_57 ?_
          refine lv_iconst (v := 1) hx hb dX0_readBehind_60 (by decide) ?_
          refine lv_isub hx hb dX0_readBehind_61 ?_
          refine lv_topi (fun y_32 ey_32 => ?_)
          have ty_32 := sub_bd ey_32 b_30 kb_1 (by decide)
          have b_33 : bd 0 299 y_32 := sub_rg ty_32 b_30 kb_1 (by decide)
          refine g_iald hx hb hK g ma_31 ka_31 (by decide) rfl (in_bd b_33 (by decide)) dX0_readBehind_62 (fun x_34 bx_34 cx_34 => ?_)
          obtain ⟨a_35, ma_35, ka_35, g⟩ := g_factr g ma0_ ka0_ (by decide) 5 rfl
          obtain ⟨tg_36, hv_37, hq_38⟩ := eJx.at hG_12 (fx_at g (i := 6) rfl).2.2.2 (fx_at g (i := 1) rfl).2.2.2 (fx_at g (i := 0) rfl).2.2.2 (fx_at g (i := 2) rfl).2.2.2 (by have h9 := tnZ (i := y_32) (by have h9_0 := b_30; unfold bd at h9_0; have h9_1 := by0_; unfold bd at h9_1; have h9_2 := b_33; unfold bd at h9_2; have h8_0 := kb_0; unfold bd at h8_0; have h8_1 := kb_1; unfold bd at h8_1; omega); have h9_0 := b_30; unfold bd at h9_0; have h9_1 := by0_; unfold bd at h9_1; have h9_2 := b_33; unfold bd at h9_2; have h8_0 := kb_0; unfold bd at h8_0; have h8_1 := kb_1; unfold bd at h8_1; omega) cx_34
          refine lv_iconst (v := 1) hx hb dX0_readBehind_63 (by decide) ?_
          refine lv_icmp_ne (tgt := 103) hx hb dX0_readBehind_64 (by decide) (fun c_39 => ?_) (fun c_39 => ?_)
          · have fc_39 := neq_f c_39
            refine lv_aload_n hx hb dX0_readBehind_103 rfl (lv_at hl 1 rfl) ?_
            refine g_getk (C := RX0) (T := TX0) (N := 14) hx hb hts (mc_ inX0) hown hK g rfl 3 (by decide) rfl (hts _ (List.mem_cons_of_mem _ t_376)) (fun _ h9 => h9) 1 rfl dX0_readBehind_104 ?_
            refine lv_aload_n hx hb dX0_readBehind_107 rfl (lv_at hl 1 rfl) ?_
            refine g_getk (C := RX0) (T := TX0) (N := 14) hx hb hts (mc_ inX0) hown hK g rfl 8 (by decide) rfl (hts _ (List.mem_cons_of_mem _ t_381)) (fun _ h9 => h9) 2 rfl dX0_readBehind_108 ?_
            refine lv_iconst (v := 1) hx hb dX0_readBehind_111 (by decide) ?_
            refine lv_isub hx hb dX0_readBehind_112 ?_
            refine lv_topi (fun y_40 ey_40 => ?_)
            obtain rfl : y_32 = y_40 := ey_32.trans ey_40.symm
            refine g_iald hx hb hK g ma_31 ka_31 (by decide) rfl (in_bd b_33 (by decide)) dX0_readBehind_113 (fun x_41 bx_41 cx_41 => ?_)
            obtain rfl : x_34 = x_41 := el_same cx_34 cx_41 rfl
            refine lv_iconst (v := 4) hx hb dX0_readBehind_114 (by decide) ?_
            have kb_4 : bd 4 4 (4 : Int32) := ⟨by decide, by decide⟩
            refine lv_icmp_eq (tgt := 133) hx hb dX0_readBehind_115 (by decide) (fun c_42 => ?_) (fun c_42 => ?_)
            · have fc_42 := eq_f c_42
              have b_43 : bd 4 4 x_34 := eqX fc_42 (bdT x_34) kb_4 (by decide)
              refine lv_iload_n hx hb dX0_readBehind_133 rfl (lv_at hl 2 rfl) ?_
              refine lv_bipush (v := 93) hx hb dX0_readBehind_134 (by decide) ?_
              have kb_93 : bd 93 93 (93 : Int32) := ⟨by decide, by decide⟩
              refine lv_icmp_ne (tgt := 146) hx hb dX0_readBehind_136 (by decide) (fun c_44 => ?_) (fun c_44 => ?_)
              · have fc_44 := neq_f c_44
                refine lv_aload_n hx hb dX0_readBehind_146 rfl (lv_at hl 1 rfl) ?_
                refine g_getk (C := RX0) (T := TX0) (N := 14) hx hb hts (mc_ inX0) hown hK g rfl 3 (by decide) rfl (hts _ (List.mem_cons_of_mem _ t_376)) (fun _ h9 => h9) 1 rfl dX0_readBehind_147 ?_
                refine lv_aload_n hx hb dX0_readBehind_150 rfl (lv_at hl 1 rfl) ?_
                refine g_getk (C := RX0) (T := TX0) (N := 14) hx hb hts (mc_ inX0) hown hK g rfl 8 (by decide) rfl (hts _ (List.mem_cons_of_mem _ t_381)) (fun _ h9 => h9) 2 rfl dX0_readBehind_151 ?_
                refine lv_iconst (v := 1) hx hb dX0_readBehind_154 (by decide) ?_
                refine lv_isub hx hb dX0_readBehind_155 ?_
                refine lv_topi (fun y_45 ey_45 => ?_)
                obtain rfl : y_32 = y_45 := ey_32.trans ey_45.symm
                refine g_iald hx hb hK g ma_31 ka_31 (by decide) rfl (in_bd b_33 (by decide)) dX0_readBehind_156 (fun x_46 bx_46 cx_46 => ?_)
                obtain rfl : x_34 = x_46 := el_same cx_34 cx_46 rfl
                refine lv_iconst (v := 2) hx hb dX0_readBehind_157 (by decide) ?_
                have kb_2 : bd 2 2 (2 : Int32) := ⟨by decide, by decide⟩
                refine lv_icmp_eq (tgt := 176) hx hb dX0_readBehind_158 (by decide) (fun c_47 => ?_) (fun c_47 => ?_)
                · have fc_47 := eq_f c_47
                  have b_48 : bd 4 2 x_34 := eqX fc_47 b_43 kb_2 (by decide)
                  exact bd_no b_48 (by decide)
                · have fc_47 := neq_f c_47
                  refine lv_aload_n hx hb dX0_readBehind_161 rfl (lv_at hl 1 rfl) ?_
                  refine g_getk (C := RX0) (T := TX0) (N := 14) hx hb hts (mc_ inX0) hown hK g rfl 3 (by decide) rfl (hts _ (List.mem_cons_of_mem _ t_376)) (fun _ h9 => h9) 1 rfl dX0_readBehind_162 ?_
                  refine lv_aload_n hx hb dX0_readBehind_165 rfl (lv_at hl 1 rfl) ?_
                  refine g_getk (C := RX0) (T := TX0) (N := 14) hx hb hts (mc_ inX0) hown hK g rfl 8 (by decide) rfl (hts _ (List.mem_cons_of_mem _ t_381)) (fun _ h9 => h9) 2 rfl dX0_readBehind_166 ?_
                  refine lv_iconst (v := 1) hx hb dX0_readBehind_169 (by decide) ?_
                  refine lv_isub hx hb dX0_readBehind_170 ?_
                  refine lv_topi (fun y_49 ey_49 => ?_)
                  obtain rfl : y_32 = y_49 := ey_32.trans ey_49.symm
                  refine g_iald hx hb hK g ma_31 ka_31 (by decide) rfl (in_bd b_33 (by decide)) dX0_readBehind_171 (fun x_50 bx_50 cx_50 => ?_)
                  obtain rfl : x_34 = x_50 := el_same cx_34 cx_50 rfl
                  refine lv_iconst (v := 3) hx hb dX0_readBehind_172 (by decide) ?_
                  have kb_3 : bd 3 3 (3 : Int32) := ⟨by decide, by decide⟩
                  refine lv_icmp_ne (tgt := 184) hx hb dX0_readBehind_173 (by decide) (fun c_51 => ?_) (fun c_51 => ?_)
                  · have fc_51 := neq_f c_51
                    refine lv_aload_n hx hb dX0_readBehind_184 rfl (lv_at hl 1 rfl) ?_
                    refine g_getk (C := RX0) (T := TX0) (N := 14) hx hb hts (mc_ inX0) hown hK g rfl 0 (by decide) rfl (hts _ (List.mem_cons_of_mem _ t_373)) (fun _ h9 => h9) 4 rfl dX0_readBehind_185 ?_
                    refine lv_iconst (v := 1) hx hb dX0_readBehind_188 (by decide) ?_
                    refine lv_aload_n hx hb dX0_readBehind_189 rfl (lv_at hl 1 rfl) ?_
                    refine g_getk (C := RX0) (T := TX0) (N := 14) hx hb hts (mc_ inX0) hown hK g rfl 0 (by decide) rfl (hts _ (List.mem_cons_of_mem _ t_373)) (fun _ h9 => h9) 4 rfl dX0_readBehind_190 ?_
                    have go_ := g
                    refine g_calli (va_runV (As := []) (rest := [.int 1, .ref q0_]) ⟨hx, hb, hml, hown, hts⟩ (r_X8_place l dC dI L kd tys fr_11 H.size g.2.2.2.1 q0_ mq0_ kq0_) (cwV 0 hts (gV_ t_1220 t_1111 t_1112 t_184 t_1113) rfl rfl rfl (by decide +kernel) ⟨(Nat.le_of_ble_eq_true rfl), (Nat.le_of_ble_eq_true rfl)⟩) (pre3V g hK mq0_ kq0_ (by decide) (q := (RX8, TX8, 10)) rfl) rfl rfl hl.1 rfl (lv_room (Nat.le_of_ble_eq_true rfl)) dX0_readBehind_193 ⟨(Nat.le_of_ble_eq_true rfl), (Nat.le_of_ble_eq_true rfl)⟩) g hK (by decide) (by decide) (fx' := [(0, 5, a0_, .ref a_35), (0, 3, a0_, .ref a_31), (0, 8, a0_, .int x_28), (8, 8, q0_, .int y0_), (0, 0, a0_, .ref q0_), (0, 1, a0_, .ref q1_), (0, 2, a0_, .ref q2_), (5, 1, q1_, .ref q3_)]) rfl (fun r_52 fr_52 H locs hp hMr_52 g => ?_)
                    have hG_53 := eOK.frame hMr_52 go_.2.2.2.1 ma0_ ka0_ (by decide) (by decide) hG_25
                    have hG_54 := eJx.frame hMr_52 go_.2.2.2.1 ma0_ ka0_ (by decide) (by decide) hG_12
                    have hG_55 := cOK.frame hMr_52 go_.2.2.2.1 mq2_ kq2_ (by decide) (by decide) hG_13
                    have hG_56 := dOK.frame hMr_52 go_.2.2.2.1 mq2_ kq2_ (by decide) (by decide) hG_14
                    have hG_57 := jS.frame hMr_52 go_.2.2.2.1 mq2_ kq2_ (by decide) (by decide) hs_26
                    have hG_58 := vP.frame hMr_52 go_.2.2.2.1 ma_35 ka_35 (by decide) (by decide) hv_37
                    have hG_59 := kQj.frame hMr_52 go_.2.2.2.1 mq2_ kq2_ (by decide) (by decide) hq_38
                    have go_ := g
                    refine g_callv (va_runV (As := [.int 1, .int r_52]) (rest := []) ⟨hx, hb, hml, hown, hts⟩ (r_X8_fail l dC dI L kd tys fr_52 H.size g.2.2.2.1 q0_ mq0_ kq0_ 1 (bd_sub kb_1 (by decide)) r_52 y0_ by0_ (g.fcts [3] rfl)) (cwV 2 hts (gV_ t_1215 t_1107 t_1108 t_184 t_1109) rfl rfl rfl (by decide +kernel) ⟨(Nat.le_of_ble_eq_true rfl), (Nat.le_of_ble_eq_true rfl)⟩) (pre3V g hK mq0_ kq0_ (by decide) (q := (RX8, TX8, 10)) rfl) rfl rfl hl.1 rfl (lv_room (Nat.le_of_ble_eq_true rfl)) dX0_readBehind_196 ⟨(Nat.le_of_ble_eq_true rfl), (Nat.le_of_ble_eq_true rfl)⟩) g hK (by decide) (by decide) (fx' := [(0, 5, a0_, .ref a_35), (0, 3, a0_, .ref a_31), (0, 8, a0_, .int x_28), (0, 0, a0_, .ref q0_), (0, 1, a0_, .ref q1_), (0, 2, a0_, .ref q2_), (5, 1, q1_, .ref q3_)]) rfl (fun fr_60 H locs hp hMr_60 g => ?_)
                    obtain ⟨x_61, h_62, hF_63⟩ := hp
                    have hG_64 := eOK.frame hMr_60 go_.2.2.2.1 ma0_ ka0_ (by decide) (by decide) hG_53
                    have hG_65 := eJx.frame hMr_60 go_.2.2.2.1 ma0_ ka0_ (by decide) (by decide) hG_54
                    have hG_66 := cOK.frame hMr_60 go_.2.2.2.1 mq2_ kq2_ (by decide) (by decide) hG_55
                    have hG_67 := dOK.frame hMr_60 go_.2.2.2.1 mq2_ kq2_ (by decide) (by decide) hG_56
                    have hG_68 := jS.frame hMr_60 go_.2.2.2.1 mq2_ kq2_ (by decide) (by decide) hG_57
                    have hG_69 := vP.frame hMr_60 go_.2.2.2.1 ma_35 ka_35 (by decide) (by decide) hG_58
                    have hG_70 := kQj.frame hMr_60 go_.2.2.2.1 mq2_ kq2_ (by decide) (by decide) hG_59
                    have g := g.more hF_63
                    subst hQ
                    exact W.vret hx hb hr (fun t ht hW => ⟨⟨_, rfl, Or.inr (⟨hG_64, hG_67, x_61, h_62, (g.fcts [0, 1] rfl)⟩), q3_of g hK ht hW⟩, g.2.2.1.F ht⟩) g.2.2.1.2.2 dX0_readBehind_199
                  · have fc_51 := eq_f c_51
                    have b_71 : bd 4 3 x_34 := eqX fc_51 b_43 kb_3 (by decide)
                    exact bd_no b_71 (by decide)
              · have fc_44 := eq_f c_44
                have b_72 : bd 93 93 x1_ := eqX fc_44 (bdT x1_) kb_93 (by decide)
                refine lv_aload_n hx hb dX0_readBehind_139 rfl (lv_at hl 1 rfl) ?_
                have go_ := g
                refine g_callv (va_runV (As := []) (rest := []) ⟨hx, hb, hml, hown, hts⟩ (r_X0_closeIndex l dC dI L kd tys fr_11 H.size g.2.2.2.1 a0_ ma0_ ka0_ q0_ mq0_ kq0_ q2_ mq2_ kq2_ x_28 b_30 y0_ by0_ T_ (fun j9 => jOK fr_11 q2_ j9) hG_12 hG_13 hG_14 (fun _ h9 => h9) (fun a9 n9 h9 h8 => by have e1 := h9.symm.trans (fx_at g (i := 0) rfl).2.2.2; have e2 := h8.symm.trans (fx_at g (i := 2) rfl).2.2.2; cases e1; cases e2; exact ⟨tg_36, hv_37, hq_38.2 (by have h9_0 := b_72; unfold bd at h9_0; have h9_1 := b_30; unfold bd at h9_1; have h9_2 := b_43; unfold bd at h9_2; have h9_3 := by0_; unfold bd at h9_3; have h9_4 := b_33; unfold bd at h9_4; have h8_0 := kb_0; unfold bd at h8_0; have h8_1 := kb_1; unfold bd at h8_1; have h8_2 := kb_4; unfold bd at h8_2; have h8_3 := kb_93; unfold bd at h8_3; omega)⟩) (g.fcts [4, 6, 2, 3] rfl)) (cwV 0 hts (gV_ t_1226 t_1228 t_20 t_190 t_1229) rfl rfl rfl (by decide +kernel) ⟨(Nat.le_of_ble_eq_true rfl), (Nat.le_of_ble_eq_true rfl)⟩) (pre3V g hK ma0_ ka0_ (by decide) (q := (RX0, TX0, 14)) rfl) rfl rfl hl.1 rfl (lv_room (Nat.le_of_ble_eq_true rfl)) dX0_readBehind_140 ⟨(Nat.le_of_ble_eq_true rfl), (Nat.le_of_ble_eq_true rfl)⟩) g hK (by decide) (by decide) (fx' := [(0, 5, a0_, .ref a_35), (0, 3, a0_, .ref a_31), (0, 0, a0_, .ref q0_), (0, 1, a0_, .ref q1_), (0, 2, a0_, .ref q2_), (5, 1, q1_, .ref q3_)]) rfl (fun fr_73 H locs hp hMr_73 g => ?_)
                rcases hp with ⟨hG_74, hG_75, hG_76, hG_77, x_78, h_79, x_80, h_81, x_82, h_83, hF_84⟩ | ⟨hG_85, x_86, h_87, x_88, h_89, x_90, h_91, hF_92⟩
                · have hG_93 := eOK.frame hMr_73 go_.2.2.2.1 ma0_ ka0_ (by decide) (by decide) hG_25
                  have hG_94 := vP.frame hMr_73 go_.2.2.2.1 ma_35 ka_35 (by decide) (by decide) hv_37
                  have g := g.more hF_84
                  have hs_95 := jS.mv hs_26 hG_77
                  have hq_96 := kQj.mv hq_38 hG_77
                  refine lv_goto (tgt := 199) hx hb dX0_readBehind_143 (by decide) ?_
                  subst hQ
                  exact W.vret hx hb hr (fun t ht hW => ⟨⟨_, rfl, Or.inl ⟨hG_93, hG_74, hG_75, hG_76, hs_95, (g.fcts [4] rfl)⟩, q3_of g hK ht hW⟩, g.2.2.1.F ht⟩) g.2.2.1.2.2 dX0_readBehind_199
                · have hG_97 := eOK.frame hMr_73 go_.2.2.2.1 ma0_ ka0_ (by decide) (by decide) hG_25
                  have hG_98 := vP.frame hMr_73 go_.2.2.2.1 ma_35 ka_35 (by decide) (by decide) hv_37
                  have g := g.more hF_92
                  refine lv_goto (tgt := 199) hx hb dX0_readBehind_143 (by decide) ?_
                  subst hQ
                  exact W.vret hx hb hr (fun t ht hW => ⟨⟨_, rfl, Or.inr (⟨hG_97, hG_85, x_88, h_89, (g.fcts [2, 3] rfl)⟩), q3_of g hK ht hW⟩, g.2.2.1.F ht⟩) g.2.2.1.2.2 dX0_readBehind_199
            · have fc_42 := neq_f c_42
              refine lv_aload_n hx hb dX0_readBehind_118 rfl (lv_at hl 1 rfl) ?_
              refine g_getk (C := RX0) (T := TX0) (N := 14) hx hb hts (mc_ inX0) hown hK g rfl 3 (by decide) rfl (hts _ (List.mem_cons_of_mem _ t_376)) (fun _ h9 => h9) 1 rfl dX0_readBehind_119 ?_
              refine lv_aload_n hx hb dX0_readBehind_122 rfl (lv_at hl 1 rfl) ?_
              refine g_getk (C := RX0) (T := TX0) (N := 14) hx hb hts (mc_ inX0) hown hK g rfl 8 (by decide) rfl (hts _ (List.mem_cons_of_mem _ t_381)) (fun _ h9 => h9) 2 rfl dX0_readBehind_123 ?_
              refine lv_iconst (v := 1) hx hb dX0_readBehind_126 (by decide) ?_
              refine lv_isub hx hb dX0_readBehind_127 ?_
              refine lv_topi (fun y_99 ey_99 => ?_)
              obtain rfl : y_32 = y_99 := ey_32.trans ey_99.symm
              refine g_iald hx hb hK g ma_31 ka_31 (by decide) rfl (in_bd b_33 (by decide)) dX0_readBehind_128 (fun x_100 bx_100 cx_100 => ?_)
              obtain rfl : x_34 = x_100 := el_same cx_34 cx_100 rfl
              refine lv_iconst (v := 5) hx hb dX0_readBehind_129 (by decide) ?_
              have kb_5 : bd 5 5 (5 : Int32) := ⟨by decide, by decide⟩
              refine lv_icmp_ne (tgt := 146) hx hb dX0_readBehind_130 (by decide) (fun c_101 => ?_) (fun c_101 => ?_)
              · have fc_101 := neq_f c_101
                refine lv_aload_n hx hb dX0_readBehind_146 rfl (lv_at hl 1 rfl) ?_
                refine g_getk (C := RX0) (T := TX0) (N := 14) hx hb hts (mc_ inX0) hown hK g rfl 3 (by decide) rfl (hts _ (List.mem_cons_of_mem _ t_376)) (fun _ h9 => h9) 1 rfl dX0_readBehind_147 ?_
                refine lv_aload_n hx hb dX0_readBehind_150 rfl (lv_at hl 1 rfl) ?_
                refine g_getk (C := RX0) (T := TX0) (N := 14) hx hb hts (mc_ inX0) hown hK g rfl 8 (by decide) rfl (hts _ (List.mem_cons_of_mem _ t_381)) (fun _ h9 => h9) 2 rfl dX0_readBehind_151 ?_
                refine lv_iconst (v := 1) hx hb dX0_readBehind_154 (by decide) ?_
                refine lv_isub hx hb dX0_readBehind_155 ?_
                refine lv_topi (fun y_102 ey_102 => ?_)
                obtain rfl : y_32 = y_102 := ey_32.trans ey_102.symm
                refine g_iald hx hb hK g ma_31 ka_31 (by decide) rfl (in_bd b_33 (by decide)) dX0_readBehind_156 (fun x_103 bx_103 cx_103 => ?_)
                obtain rfl : x_34 = x_103 := el_same cx_34 cx_103 rfl
                refine lv_iconst (v := 2) hx hb dX0_readBehind_157 (by decide) ?_
                have kb_2 : bd 2 2 (2 : Int32) := ⟨by decide, by decide⟩
                refine lv_icmp_eq (tgt := 176) hx hb dX0_readBehind_158 (by decide) (fun c_104 => ?_) (fun c_104 => ?_)
                · have fc_104 := eq_f c_104
                  have b_105 : bd 2 2 x_34 := eqX fc_104 (bdT x_34) kb_2 (by decide)
                  refine lv_aload_n hx hb dX0_readBehind_176 rfl (lv_at hl 1 rfl) ?_
                  refine lv_iload_n hx hb dX0_readBehind_177 rfl (lv_at hl 2 rfl) ?_
                  have go_ := g
                  refine g_callv (va_runV (As := [.int x1_]) (rest := []) ⟨hx, hb, hml, hown, hts⟩ (r_X0_closeArgument l dC dI L kd tys fr_11 H.size g.2.2.2.1 a0_ ma0_ ka0_ x1_ q0_ mq0_ kq0_ q1_ mq1_ kq1_ q2_ mq2_ kq2_ a_31 ma_31 ka_31 q3_ mq3_ kq3_ x_28 b_30 y0_ by0_ T_ (fun j9 => jOK fr_11 q2_ j9) hG_25 hG_12 hG_13 hG_14 (fun _ h9 => h9) (fun z hz => t2_ cx_34 hz (t1_ ty_32) (bd_sub b_105 (by decide))) (g.fcts [4, 5, 6, 1, 7, 2, 3] rfl)) (cwV 1 hts (gV_ t_1230 t_1232 t_21 t_190 t_1233) rfl rfl rfl (by decide +kernel) ⟨(Nat.le_of_ble_eq_true rfl), (Nat.le_of_ble_eq_true rfl)⟩) (pre3V g hK ma0_ ka0_ (by decide) (q := (RX0, TX0, 14)) rfl) rfl rfl hl.1 rfl (lv_room (Nat.le_of_ble_eq_true rfl)) dX0_readBehind_178 ⟨(Nat.le_of_ble_eq_true rfl), (Nat.le_of_ble_eq_true rfl)⟩) g hK (by decide) (by decide) (fx' := [(0, 5, a0_, .ref a_35), (0, 3, a0_, .ref a_31), (0, 0, a0_, .ref q0_), (0, 1, a0_, .ref q1_), (0, 2, a0_, .ref q2_), (5, 1, q1_, .ref q3_)]) rfl (fun fr_106 H locs hp hMr_106 g => ?_)
                  rcases hp with ⟨hG_107, hG_108, hG_109, hG_110, h_111, x_112, h_113, hF_114⟩ | ⟨hG_115, x_116, h_117, hF_118⟩
                  · have hG_119 := eOK.frame hMr_106 go_.2.2.2.1 ma0_ ka0_ (by decide) (by decide) hG_25
                    have hG_120 := vP.frame hMr_106 go_.2.2.2.1 ma_35 ka_35 (by decide) (by decide) hv_37
                    have b_121 : bd 41 44 x1_ := eqX rfl (bdT x1_) h_111 (by decide)
                    have g := g.more hF_114
                    have hs_122 := jS.mv hs_26 hG_110
                    have hq_123 := kQj.mv hq_38 hG_110
                    refine lv_goto (tgt := 199) hx hb dX0_readBehind_181 (by decide) ?_
                    subst hQ
                    exact W.vret hx hb hr (fun t ht hW => ⟨⟨_, rfl, Or.inl ⟨hG_119, hG_107, hG_108, hG_109, hs_122, (g.fcts [1] rfl)⟩, q3_of g hK ht hW⟩, g.2.2.1.F ht⟩) g.2.2.1.2.2 dX0_readBehind_199
                  · have hG_124 := eOK.frame hMr_106 go_.2.2.2.1 ma0_ ka0_ (by decide) (by decide) hG_25
                    have hG_125 := vP.frame hMr_106 go_.2.2.2.1 ma_35 ka_35 (by decide) (by decide) hv_37
                    have g := g.more hF_118
                    refine lv_goto (tgt := 199) hx hb dX0_readBehind_181 (by decide) ?_
                    subst hQ
                    exact W.vret hx hb hr (fun t ht hW => ⟨⟨_, rfl, Or.inr (⟨hG_124, hG_115, x_116, h_117, (g.fcts [0, 1] rfl)⟩), q3_of g hK ht hW⟩, g.2.2.1.F ht⟩) g.2.2.1.2.2 dX0_readBehind_199
                · have fc_104 := neq_f c_104
                  refine lv_aload_n hx hb dX0_readBehind_161 rfl (lv_at hl 1 rfl) ?_
                  refine g_getk (C := RX0) (T := TX0) (N := 14) hx hb hts (mc_ inX0) hown hK g rfl 3 (by decide) rfl (hts _ (List.mem_cons_of_mem _ t_376)) (fun _ h9 => h9) 1 rfl dX0_readBehind_162 ?_
                  refine lv_aload_n hx hb dX0_readBehind_165 rfl (lv_at hl 1 rfl) ?_
                  refine g_getk (C := RX0) (T := TX0) (N := 14) hx hb hts (mc_ inX0) hown hK g rfl 8 (by decide) rfl (hts _ (List.mem_cons_of_mem _ t_381)) (fun _ h9 => h9) 2 rfl dX0_readBehind_166 ?_
                  refine lv_iconst (v := 1) hx hb dX0_readBehind_169 (by decide) ?_
                  refine lv_isub hx hb dX0_readBehind_170 ?_
                  refine lv_topi (fun y_126 ey_126 => ?_)
                  obtain rfl : y_32 = y_126 := ey_32.trans ey_126.symm
                  refine g_iald hx hb hK g ma_31 ka_31 (by decide) rfl (in_bd b_33 (by decide)) dX0_readBehind_171 (fun x_127 bx_127 cx_127 => ?_)
                  obtain rfl : x_34 = x_127 := el_same cx_34 cx_127 rfl
                  refine lv_iconst (v := 3) hx hb dX0_readBehind_172 (by decide) ?_
                  have kb_3 : bd 3 3 (3 : Int32) := ⟨by decide, by decide⟩
                  refine lv_icmp_ne (tgt := 184) hx hb dX0_readBehind_173 (by decide) (fun c_128 => ?_) (fun c_128 => ?_)
                  · have fc_128 := neq_f c_128
                    refine lv_aload_n hx hb dX0_readBehind_184 rfl (lv_at hl 1 rfl) ?_
                    refine g_getk (C := RX0) (T := TX0) (N := 14) hx hb hts (mc_ inX0) hown hK g rfl 0 (by decide) rfl (hts _ (List.mem_cons_of_mem _ t_373)) (fun _ h9 => h9) 4 rfl dX0_readBehind_185 ?_
                    refine lv_iconst (v := 1) hx hb dX0_readBehind_188 (by decide) ?_
                    refine lv_aload_n hx hb dX0_readBehind_189 rfl (lv_at hl 1 rfl) ?_
                    refine g_getk (C := RX0) (T := TX0) (N := 14) hx hb hts (mc_ inX0) hown hK g rfl 0 (by decide) rfl (hts _ (List.mem_cons_of_mem _ t_373)) (fun _ h9 => h9) 4 rfl dX0_readBehind_190 ?_
                    have go_ := g
                    refine g_calli (va_runV (As := []) (rest := [.int 1, .ref q0_]) ⟨hx, hb, hml, hown, hts⟩ (r_X8_place l dC dI L kd tys fr_11 H.size g.2.2.2.1 q0_ mq0_ kq0_) (cwV 0 hts (gV_ t_1220 t_1111 t_1112 t_184 t_1113) rfl rfl rfl (by decide +kernel) ⟨(Nat.le_of_ble_eq_true rfl), (Nat.le_of_ble_eq_true rfl)⟩) (pre3V g hK mq0_ kq0_ (by decide) (q := (RX8, TX8, 10)) rfl) rfl rfl hl.1 rfl (lv_room (Nat.le_of_ble_eq_true rfl)) dX0_readBehind_193 ⟨(Nat.le_of_ble_eq_true rfl), (Nat.le_of_ble_eq_true rfl)⟩) g hK (by decide) (by decide) (fx' := [(0, 5, a0_, .ref a_35), (0, 3, a0_, .ref a_31), (0, 8, a0_, .int x_28), (8, 8, q0_, .int y0_), (0, 0, a0_, .ref q0_), (0, 1, a0_, .ref q1_), (0, 2, a0_, .ref q2_), (5, 1, q1_, .ref q3_)]) rfl (fun r_129 fr_129 H locs hp hMr_129 g => ?_)
                    have hG_130 := eOK.frame hMr_129 go_.2.2.2.1 ma0_ ka0_ (by decide) (by decide) hG_25
                    have hG_131 := eJx.frame hMr_129 go_.2.2.2.1 ma0_ ka0_ (by decide) (by decide) hG_12
                    have hG_132 := cOK.frame hMr_129 go_.2.2.2.1 mq2_ kq2_ (by decide) (by decide) hG_13
                    have hG_133 := dOK.frame hMr_129 go_.2.2.2.1 mq2_ kq2_ (by decide) (by decide) hG_14
                    have hG_134 := jS.frame hMr_129 go_.2.2.2.1 mq2_ kq2_ (by decide) (by decide) hs_26
                    have hG_135 := vP.frame hMr_129 go_.2.2.2.1 ma_35 ka_35 (by decide) (by decide) hv_37
                    have hG_136 := kQj.frame hMr_129 go_.2.2.2.1 mq2_ kq2_ (by decide) (by decide) hq_38
                    have go_ := g
                    refine g_callv (va_runV (As := [.int 1, .int r_129]) (rest := []) ⟨hx, hb, hml, hown, hts⟩ (r_X8_fail l dC dI L kd tys fr_129 H.size g.2.2.2.1 q0_ mq0_ kq0_ 1 (bd_sub kb_1 (by decide)) r_129 y0_ by0_ (g.fcts [3] rfl)) (cwV 2 hts (gV_ t_1215 t_1107 t_1108 t_184 t_1109) rfl rfl rfl (by decide +kernel) ⟨(Nat.le_of_ble_eq_true rfl), (Nat.le_of_ble_eq_true rfl)⟩) (pre3V g hK mq0_ kq0_ (by decide) (q := (RX8, TX8, 10)) rfl) rfl rfl hl.1 rfl (lv_room (Nat.le_of_ble_eq_true rfl)) dX0_readBehind_196 ⟨(Nat.le_of_ble_eq_true rfl), (Nat.le_of_ble_eq_true rfl)⟩) g hK (by decide) (by decide) (fx' := [(0, 5, a0_, .ref a_35), (0, 3, a0_, .ref a_31), (0, 8, a0_, .int x_28), (0, 0, a0_, .ref q0_), (0, 1, a0_, .ref q1_), (0, 2, a0_, .ref q2_), (5, 1, q1_, .ref q3_)]) rfl (fun fr_137 H locs hp hMr_137 g => ?_)
                    obtain ⟨x_138, h_139, hF_140⟩ := hp
                    have hG_141 := eOK.frame hMr_137 go_.2.2.2.1 ma0_ ka0_ (by decide) (by decide) hG_130
                    have hG_142 := eJx.frame hMr_137 go_.2.2.2.1 ma0_ ka0_ (by decide) (by decide) hG_131
                    have hG_143 := cOK.frame hMr_137 go_.2.2.2.1 mq2_ kq2_ (by decide) (by decide) hG_132
                    have hG_144 := dOK.frame hMr_137 go_.2.2.2.1 mq2_ kq2_ (by decide) (by decide) hG_133
                    have hG_145 := jS.frame hMr_137 go_.2.2.2.1 mq2_ kq2_ (by decide) (by decide) hG_134
                    have hG_146 := vP.frame hMr_137 go_.2.2.2.1 ma_35 ka_35 (by decide) (by decide) hG_135
                    have hG_147 := kQj.frame hMr_137 go_.2.2.2.1 mq2_ kq2_ (by decide) (by decide) hG_136
                    have g := g.more hF_140
                    subst hQ
                    exact W.vret hx hb hr (fun t ht hW => ⟨⟨_, rfl, Or.inr (⟨hG_141, hG_144, x_138, h_139, (g.fcts [0, 1] rfl)⟩), q3_of g hK ht hW⟩, g.2.2.1.F ht⟩) g.2.2.1.2.2 dX0_readBehind_199
                  · have fc_128 := eq_f c_128
                    have b_148 : bd 3 3 x_34 := eqX fc_128 (bdT x_34) kb_3 (by decide)
                    refine lv_aload_n hx hb dX0_readBehind_176 rfl (lv_at hl 1 rfl) ?_
                    refine lv_iload_n hx hb dX0_readBehind_177 rfl (lv_at hl 2 rfl) ?_
                    have go_ := g
                    refine g_callv (va_runV (As := [.int x1_]) (rest := []) ⟨hx, hb, hml, hown, hts⟩ (r_X0_closeArgument l dC dI L kd tys fr_11 H.size g.2.2.2.1 a0_ ma0_ ka0_ x1_ q0_ mq0_ kq0_ q1_ mq1_ kq1_ q2_ mq2_ kq2_ a_31 ma_31 ka_31 q3_ mq3_ kq3_ x_28 b_30 y0_ by0_ T_ (fun j9 => jOK fr_11 q2_ j9) hG_25 hG_12 hG_13 hG_14 (fun _ h9 => h9) (fun z hz => t2_ cx_34 hz (t1_ ty_32) (bd_sub b_148 (by decide))) (g.fcts [4, 5, 6, 1, 7, 2, 3] rfl)) (cwV 1 hts (gV_ t_1230 t_1232 t_21 t_190 t_1233) rfl rfl rfl (by decide +kernel) ⟨(Nat.le_of_ble_eq_true rfl), (Nat.le_of_ble_eq_true rfl)⟩) (pre3V g hK ma0_ ka0_ (by decide) (q := (RX0, TX0, 14)) rfl) rfl rfl hl.1 rfl (lv_room (Nat.le_of_ble_eq_true rfl)) dX0_readBehind_178 ⟨(Nat.le_of_ble_eq_true rfl), (Nat.le_of_ble_eq_true rfl)⟩) g hK (by decide) (by decide) (fx' := [(0, 5, a0_, .ref a_35), (0, 3, a0_, .ref a_31), (0, 0, a0_, .ref q0_), (0, 1, a0_, .ref q1_), (0, 2, a0_, .ref q2_), (5, 1, q1_, .ref q3_)]) rfl (fun fr_149 H locs hp hMr_149 g => ?_)
                    rcases hp with ⟨hG_150, hG_151, hG_152, hG_153, h_154, x_155, h_156, hF_157⟩ | ⟨hG_158, x_159, h_160, hF_161⟩
                    · have hG_162 := eOK.frame hMr_149 go_.2.2.2.1 ma0_ ka0_ (by decide) (by decide) hG_25
                      have hG_163 := vP.frame hMr_149 go_.2.2.2.1 ma_35 ka_35 (by decide) (by decide) hv_37
                      have b_164 : bd 41 44 x1_ := eqX rfl (bdT x1_) h_154 (by decide)
                      have g := g.more hF_157
                      have hs_165 := jS.mv hs_26 hG_153
                      have hq_166 := kQj.mv hq_38 hG_153
                      refine lv_goto (tgt := 199) hx hb dX0_readBehind_181 (by decide) ?_
                      subst hQ
                      exact W.vret hx hb hr (fun t ht hW => ⟨⟨_, rfl, Or.inl ⟨hG_162, hG_150, hG_151, hG_152, hs_165, (g.fcts [1] rfl)⟩, q3_of g hK ht hW⟩, g.2.2.1.F ht⟩) g.2.2.1.2.2 dX0_readBehind_199
                    · have hG_167 := eOK.frame hMr_149 go_.2.2.2.1 ma0_ ka0_ (by decide) (by decide) hG_25
                      have hG_168 := vP.frame hMr_149 go_.2.2.2.1 ma_35 ka_35 (by decide) (by decide) hv_37
                      have g := g.more hF_161
                      refine lv_goto (tgt := 199) hx hb dX0_readBehind_181 (by decide) ?_
                      subst hQ
                      exact W.vret hx hb hr (fun t ht hW => ⟨⟨_, rfl, Or.inr (⟨hG_167, hG_158, x_159, h_160, (g.fcts [0, 1] rfl)⟩), q3_of g hK ht hW⟩, g.2.2.1.F ht⟩) g.2.2.1.2.2 dX0_readBehind_199
              · have fc_101 := eq_f c_101
                have b_169 : bd 5 5 x_34 := eqX fc_101 (bdT x_34) kb_5 (by decide)
                refine lv_iload_n hx hb dX0_readBehind_133 rfl (lv_at hl 2 rfl) ?_
                refine lv_bipush (v := 93) hx hb dX0_readBehind_134 (by decide) ?_
                have kb_93 : bd 93 93 (93 : Int32) := ⟨by decide, by decide⟩
                refine lv_icmp_ne (tgt := 146) hx hb dX0_readBehind_136 (by decide) (fun c_170 => ?_) (fun c_170 => ?_)
                · have fc_170 := neq_f c_170
                  refine lv_aload_n hx hb dX0_readBehind_146 rfl (lv_at hl 1 rfl) ?_
                  refine g_getk (C := RX0) (T := TX0) (N := 14) hx hb hts (mc_ inX0) hown hK g rfl 3 (by decide) rfl (hts _ (List.mem_cons_of_mem _ t_376)) (fun _ h9 => h9) 1 rfl dX0_readBehind_147 ?_
                  refine lv_aload_n hx hb dX0_readBehind_150 rfl (lv_at hl 1 rfl) ?_
                  refine g_getk (C := RX0) (T := TX0) (N := 14) hx hb hts (mc_ inX0) hown hK g rfl 8 (by decide) rfl (hts _ (List.mem_cons_of_mem _ t_381)) (fun _ h9 => h9) 2 rfl dX0_readBehind_151 ?_
                  refine lv_iconst (v := 1) hx hb dX0_readBehind_154 (by decide) ?_
                  refine lv_isub hx hb dX0_readBehind_155 ?_
                  refine lv_topi (fun y_171 ey_171 => ?_)
                  obtain rfl : y_32 = y_171 := ey_32.trans ey_171.symm
                  refine g_iald hx hb hK g ma_31 ka_31 (by decide) rfl (in_bd b_33 (by decide)) dX0_readBehind_156 (fun x_172 bx_172 cx_172 => ?_)
                  obtain rfl : x_34 = x_172 := el_same cx_34 cx_172 rfl
                  refine lv_iconst (v := 2) hx hb dX0_readBehind_157 (by decide) ?_
                  have kb_2 : bd 2 2 (2 : Int32) := ⟨by decide, by decide⟩
                  refine lv_icmp_eq (tgt := 176) hx hb dX0_readBehind_158 (by decide) (fun c_173 => ?_) (fun c_173 => ?_)
                  · have fc_173 := eq_f c_173
                    have b_174 : bd 5 2 x_34 := eqX fc_173 b_169 kb_2 (by decide)
                    exact bd_no b_174 (by decide)
                  · have fc_173 := neq_f c_173
                    refine lv_aload_n hx hb dX0_readBehind_161 rfl (lv_at hl 1 rfl) ?_
                    refine g_getk (C := RX0) (T := TX0) (N := 14) hx hb hts (mc_ inX0) hown hK g rfl 3 (by decide) rfl (hts _ (List.mem_cons_of_mem _ t_376)) (fun _ h9 => h9) 1 rfl dX0_readBehind_162 ?_
                    refine lv_aload_n hx hb dX0_readBehind_165 rfl (lv_at hl 1 rfl) ?_
                    refine g_getk (C := RX0) (T := TX0) (N := 14) hx hb hts (mc_ inX0) hown hK g rfl 8 (by decide) rfl (hts _ (List.mem_cons_of_mem _ t_381)) (fun _ h9 => h9) 2 rfl dX0_readBehind_166 ?_
                    refine lv_iconst (v := 1) hx hb dX0_readBehind_169 (by decide) ?_
                    refine lv_isub hx hb dX0_readBehind_170 ?_
                    refine lv_topi (fun y_175 ey_175 => ?_)
                    obtain rfl : y_32 = y_175 := ey_32.trans ey_175.symm
                    refine g_iald hx hb hK g ma_31 ka_31 (by decide) rfl (in_bd b_33 (by decide)) dX0_readBehind_171 (fun x_176 bx_176 cx_176 => ?_)
                    obtain rfl : x_34 = x_176 := el_same cx_34 cx_176 rfl
                    refine lv_iconst (v := 3) hx hb dX0_readBehind_172 (by decide) ?_
                    have kb_3 : bd 3 3 (3 : Int32) := ⟨by decide, by decide⟩
                    refine lv_icmp_ne (tgt := 184) hx hb dX0_readBehind_173 (by decide) (fun c_177 => ?_) (fun c_177 => ?_)
                    · have fc_177 := neq_f c_177
                      refine lv_aload_n hx hb dX0_readBehind_184 rfl (lv_at hl 1 rfl) ?_
                      refine g_getk (C := RX0) (T := TX0) (N := 14) hx hb hts (mc_ inX0) hown hK g rfl 0 (by decide) rfl (hts _ (List.mem_cons_of_mem _ t_373)) (fun _ h9 => h9) 4 rfl dX0_readBehind_185 ?_
                      refine lv_iconst (v := 1) hx hb dX0_readBehind_188 (by decide) ?_
                      refine lv_aload_n hx hb dX0_readBehind_189 rfl (lv_at hl 1 rfl) ?_
                      refine g_getk (C := RX0) (T := TX0) (N := 14) hx hb hts (mc_ inX0) hown hK g rfl 0 (by decide) rfl (hts _ (List.mem_cons_of_mem _ t_373)) (fun _ h9 => h9) 4 rfl dX0_readBehind_190 ?_
                      have go_ := g
                      refine g_calli (va_runV (As := []) (rest := [.int 1, .ref q0_]) ⟨hx, hb, hml, hown, hts⟩ (r_X8_place l dC dI L kd tys fr_11 H.size g.2.2.2.1 q0_ mq0_ kq0_) (cwV 0 hts (gV_ t_1220 t_1111 t_1112 t_184 t_1113) rfl rfl rfl (by decide +kernel) ⟨(Nat.le_of_ble_eq_true rfl), (Nat.le_of_ble_eq_true rfl)⟩) (pre3V g hK mq0_ kq0_ (by decide) (q := (RX8, TX8, 10)) rfl) rfl rfl hl.1 rfl (lv_room (Nat.le_of_ble_eq_true rfl)) dX0_readBehind_193 ⟨(Nat.le_of_ble_eq_true rfl), (Nat.le_of_ble_eq_true rfl)⟩) g hK (by decide) (by decide) (fx' := [(0, 5, a0_, .ref a_35), (0, 3, a0_, .ref a_31), (0, 8, a0_, .int x_28), (8, 8, q0_, .int y0_), (0, 0, a0_, .ref q0_), (0, 1, a0_, .ref q1_), (0, 2, a0_, .ref q2_), (5, 1, q1_, .ref q3_)]) rfl (fun r_178 fr_178 H locs hp hMr_178 g => ?_)
                      have hG_179 := eOK.frame hMr_178 go_.2.2.2.1 ma0_ ka0_ (by decide) (by decide) hG_25
                      have hG_180 := eJx.frame hMr_178 go_.2.2.2.1 ma0_ ka0_ (by decide) (by decide) hG_12
                      have hG_181 := cOK.frame hMr_178 go_.2.2.2.1 mq2_ kq2_ (by decide) (by decide) hG_13
                      have hG_182 := dOK.frame hMr_178 go_.2.2.2.1 mq2_ kq2_ (by decide) (by decide) hG_14
                      have hG_183 := jS.frame hMr_178 go_.2.2.2.1 mq2_ kq2_ (by decide) (by decide) hs_26
                      have hG_184 := vP.frame hMr_178 go_.2.2.2.1 ma_35 ka_35 (by decide) (by decide) hv_37
                      have hG_185 := kQj.frame hMr_178 go_.2.2.2.1 mq2_ kq2_ (by decide) (by decide) hq_38
                      have go_ := g
                      refine g_callv (va_runV (As := [.int 1, .int r_178]) (rest := []) ⟨hx, hb, hml, hown, hts⟩ (r_X8_fail l dC dI L kd tys fr_178 H.size g.2.2.2.1 q0_ mq0_ kq0_ 1 (bd_sub kb_1 (by decide)) r_178 y0_ by0_ (g.fcts [3] rfl)) (cwV 2 hts (gV_ t_1215 t_1107 t_1108 t_184 t_1109) rfl rfl rfl (by decide +kernel) ⟨(Nat.le_of_ble_eq_true rfl), (Nat.le_of_ble_eq_true rfl)⟩) (pre3V g hK mq0_ kq0_ (by decide) (q := (RX8, TX8, 10)) rfl) rfl rfl hl.1 rfl (lv_room (Nat.le_of_ble_eq_true rfl)) dX0_readBehind_196 ⟨(Nat.le_of_ble_eq_true rfl), (Nat.le_of_ble_eq_true rfl)⟩) g hK (by decide) (by decide) (fx' := [(0, 5, a0_, .ref a_35), (0, 3, a0_, .ref a_31), (0, 8, a0_, .int x_28), (0, 0, a0_, .ref q0_), (0, 1, a0_, .ref q1_), (0, 2, a0_, .ref q2_), (5, 1, q1_, .ref q3_)]) rfl (fun fr_186 H locs hp hMr_186 g => ?_)
                      obtain ⟨x_187, h_188, hF_189⟩ := hp
                      have hG_190 := eOK.frame hMr_186 go_.2.2.2.1 ma0_ ka0_ (by decide) (by decide) hG_179
                      have hG_191 := eJx.frame hMr_186 go_.2.2.2.1 ma0_ ka0_ (by decide) (by decide) hG_180
                      have hG_192 := cOK.frame hMr_186 go_.2.2.2.1 mq2_ kq2_ (by decide) (by decide) hG_181
                      have hG_193 := dOK.frame hMr_186 go_.2.2.2.1 mq2_ kq2_ (by decide) (by decide) hG_182
                      have hG_194 := jS.frame hMr_186 go_.2.2.2.1 mq2_ kq2_ (by decide) (by decide) hG_183
                      have hG_195 := vP.frame hMr_186 go_.2.2.2.1 ma_35 ka_35 (by decide) (by decide) hG_184
                      have hG_196 := kQj.frame hMr_186 go_.2.2.2.1 mq2_ kq2_ (by decide) (by decide) hG_185
                      have g := g.more hF_189
                      subst hQ
                      exact W.vret hx hb hr (fun t ht hW => ⟨⟨_, rfl, Or.inr (⟨hG_190, hG_193, x_187, h_188, (g.fcts [0, 1] rfl)⟩), q3_of g hK ht hW⟩, g.2.2.1.F ht⟩) g.2.2.1.2.2 dX0_readBehind_199
                    · have fc_177 := eq_f c_177
                      have b_197 : bd 5 3 x_34 := eqX fc_177 b_169 kb_3 (by decide)
                      exact bd_no b_197 (by decide)
                · have fc_170 := eq_f c_170
                  have b_198 : bd 93 93 x1_ := eqX fc_170 (bdT x1_) kb_93 (by decide)
                  refine lv_aload_n hx hb dX0_readBehind_139 rfl (lv_at hl 1 rfl) ?_
                  have go_ := g
                  refine g_callv (va_runV (As := []) (rest := []) ⟨hx, hb, hml, hown, hts⟩ (r_X0_closeIndex l dC dI L kd tys fr_11 H.size g.2.2.2.1 a0_ ma0_ ka0_ q0_ mq0_ kq0_ q2_ mq2_ kq2_ x_28 b_30 y0_ by0_ T_ (fun j9 => jOK fr_11 q2_ j9) hG_12 hG_13 hG_14 (fun _ h9 => h9) (fun a9 n9 h9 h8 => by have e1 := h9.symm.trans (fx_at g (i := 0) rfl).2.2.2; have e2 := h8.symm.trans (fx_at g (i := 2) rfl).2.2.2; cases e1; cases e2; exact ⟨tg_36, hv_37, hq_38.2 (by have h9_0 := b_198; unfold bd at h9_0; have h9_1 := b_30; unfold bd at h9_1; have h9_2 := b_169; unfold bd at h9_2; have h9_3 := by0_; unfold bd at h9_3; have h9_4 := b_33; unfold bd at h9_4; have h8_0 := kb_0; unfold bd at h8_0; have h8_1 := kb_1; unfold bd at h8_1; have h8_2 := kb_4; unfold bd at h8_2; have h8_3 := kb_5; unfold bd at h8_3; have h8_4 := kb_93; unfold bd at h8_4; omega)⟩) (g.fcts [4, 6, 2, 3] rfl)) (cwV 0 hts (gV_ t_1226 t_1228 t_20 t_190 t_1229) rfl rfl rfl (by decide +kernel) ⟨(Nat.le_of_ble_eq_true rfl), (Nat.le_of_ble_eq_true rfl)⟩) (pre3V g hK ma0_ ka0_ (by decide) (q := (RX0, TX0, 14)) rfl) rfl rfl hl.1 rfl (lv_room (Nat.le_of_ble_eq_true rfl)) dX0_readBehind_140 ⟨(Nat.le_of_ble_eq_true rfl), (Nat.le_of_ble_eq_true rfl)⟩) g hK (by decide) (by decide) (fx' := [(0, 5, a0_, .ref a_35), (0, 3, a0_, .ref a_31), (0, 0, a0_, .ref q0_), (0, 1, a0_, .ref q1_), (0, 2, a0_, .ref q2_), (5, 1, q1_, .ref q3_)]) rfl (fun fr_199 H locs hp hMr_199 g => ?_)
                  rcases hp with ⟨hG_200, hG_201, hG_202, hG_203, x_204, h_205, x_206, h_207, x_208, h_209, hF_210⟩ | ⟨hG_211, x_212, h_213, x_214, h_215, x_216, h_217, hF_218⟩
                  · have hG_219 := eOK.frame hMr_199 go_.2.2.2.1 ma0_ ka0_ (by decide) (by decide) hG_25
                    have hG_220 := vP.frame hMr_199 go_.2.2.2.1 ma_35 ka_35 (by decide) (by decide) hv_37
                    have g := g.more hF_210
                    have hs_221 := jS.mv hs_26 hG_203
                    have hq_222 := kQj.mv hq_38 hG_203
                    refine lv_goto (tgt := 199) hx hb dX0_readBehind_143 (by decide) ?_
                    subst hQ
                    exact W.vret hx hb hr (fun t ht hW => ⟨⟨_, rfl, Or.inl ⟨hG_219, hG_200, hG_201, hG_202, hs_221, (g.fcts [4] rfl)⟩, q3_of g hK ht hW⟩, g.2.2.1.F ht⟩) g.2.2.1.2.2 dX0_readBehind_199
                  · have hG_223 := eOK.frame hMr_199 go_.2.2.2.1 ma0_ ka0_ (by decide) (by decide) hG_25
                    have hG_224 := vP.frame hMr_199 go_.2.2.2.1 ma_35 ka_35 (by decide) (by decide) hv_37
                    have g := g.more hF_218
                    refine lv_goto (tgt := 199) hx hb dX0_readBehind_143 (by decide) ?_
                    subst hQ
                    exact W.vret hx hb hr (fun t ht hW => ⟨⟨_, rfl, Or.inr (⟨hG_223, hG_211, x_214, h_215, (g.fcts [2, 3] rfl)⟩), q3_of g hK ht hW⟩, g.2.2.1.F ht⟩) g.2.2.1.2.2 dX0_readBehind_199
          · have fc_39 := eq_f c_39
            have b_225 : bd 1 1 x_34 := eqX fc_39 (bdT x_34) kb_1 (by decide)
            refine lv_iload_n hx hb dX0_readBehind_67 rfl (lv_at hl 2 rfl) ?_
            refine lv_bipush (v := 41) hx hb dX0_readBehind_68 (by decide) ?_
            have kb_41 : bd 41 41 (41 : Int32) := ⟨by decide, by decide⟩
            refine lv_icmp_ne (tgt := 103) hx hb dX0_readBehind_70 (by decide) (fun c_226 => ?_) (fun c_226 => ?_)
            · have fc_226 := neq_f c_226
              refine lv_aload_n hx hb dX0_readBehind_103 rfl (lv_at hl 1 rfl) ?_
              refine g_getk (C := RX0) (T := TX0) (N := 14) hx hb hts (mc_ inX0) hown hK g rfl 3 (by decide) rfl (hts _ (List.mem_cons_of_mem _ t_376)) (fun _ h9 => h9) 1 rfl dX0_readBehind_104 ?_
              refine lv_aload_n hx hb dX0_readBehind_107 rfl (lv_at hl 1 rfl) ?_
              refine g_getk (C := RX0) (T := TX0) (N := 14) hx hb hts (mc_ inX0) hown hK g rfl 8 (by decide) rfl (hts _ (List.mem_cons_of_mem _ t_381)) (fun _ h9 => h9) 2 rfl dX0_readBehind_108 ?_
              refine lv_iconst (v := 1) hx hb dX0_readBehind_111 (by decide) ?_
              refine lv_isub hx hb dX0_readBehind_112 ?_
              refine lv_topi (fun y_227 ey_227 => ?_)
              obtain rfl : y_32 = y_227 := ey_32.trans ey_227.symm
              refine g_iald hx hb hK g ma_31 ka_31 (by decide) rfl (in_bd b_33 (by decide)) dX0_readBehind_113 (fun x_228 bx_228 cx_228 => ?_)
              obtain rfl : x_34 = x_228 := el_same cx_34 cx_228 rfl
              refine lv_iconst (v := 4) hx hb dX0_readBehind_114 (by decide) ?_
              have kb_4 : bd 4 4 (4 : Int32) := ⟨by decide, by decide⟩
              refine lv_icmp_eq (tgt := 133) hx hb dX0_readBehind_115 (by decide) (fun c_229 => ?_) (fun c_229 => ?_)
              · have fc_229 := eq_f c_229
                have b_230 : bd 4 1 x_34 := eqX fc_229 b_225 kb_4 (by decide)
                exact bd_no b_230 (by decide)
              · have fc_229 := neq_f c_229
                refine lv_aload_n hx hb dX0_readBehind_118 rfl (lv_at hl 1 rfl) ?_
                refine g_getk (C := RX0) (T := TX0) (N := 14) hx hb hts (mc_ inX0) hown hK g rfl 3 (by decide) rfl (hts _ (List.mem_cons_of_mem _ t_376)) (fun _ h9 => h9) 1 rfl dX0_readBehind_119 ?_
                refine lv_aload_n hx hb dX0_readBehind_122 rfl (lv_at hl 1 rfl) ?_
                refine g_getk (C := RX0) (T := TX0) (N := 14) hx hb hts (mc_ inX0) hown hK g rfl 8 (by decide) rfl (hts _ (List.mem_cons_of_mem _ t_381)) (fun _ h9 => h9) 2 rfl dX0_readBehind_123 ?_
                refine lv_iconst (v := 1) hx hb dX0_readBehind_126 (by decide) ?_
                refine lv_isub hx hb dX0_readBehind_127 ?_
                refine lv_topi (fun y_231 ey_231 => ?_)
                obtain rfl : y_32 = y_231 := ey_32.trans ey_231.symm
                refine g_iald hx hb hK g ma_31 ka_31 (by decide) rfl (in_bd b_33 (by decide)) dX0_readBehind_128 (fun x_232 bx_232 cx_232 => ?_)
                obtain rfl : x_34 = x_232 := el_same cx_34 cx_232 rfl
                refine lv_iconst (v := 5) hx hb dX0_readBehind_129 (by decide) ?_
                have kb_5 : bd 5 5 (5 : Int32) := ⟨by decide, by decide⟩
                refine lv_icmp_ne (tgt := 146) hx hb dX0_readBehind_130 (by decide) (fun c_233 => ?_) (fun c_233 => ?_)
                · have fc_233 := neq_f c_233
                  refine lv_aload_n hx hb dX0_readBehind_146 rfl (lv_at hl 1 rfl) ?_
                  refine g_getk (C := RX0) (T := TX0) (N := 14) hx hb hts (mc_ inX0) hown hK g rfl 3 (by decide) rfl (hts _ (List.mem_cons_of_mem _ t_376)) (fun _ h9 => h9) 1 rfl dX0_readBehind_147 ?_
                  refine lv_aload_n hx hb dX0_readBehind_150 rfl (lv_at hl 1 rfl) ?_
                  refine g_getk (C := RX0) (T := TX0) (N := 14) hx hb hts (mc_ inX0) hown hK g rfl 8 (by decide) rfl (hts _ (List.mem_cons_of_mem _ t_381)) (fun _ h9 => h9) 2 rfl dX0_readBehind_151 ?_
                  refine lv_iconst (v := 1) hx hb dX0_readBehind_154 (by decide) ?_
                  refine lv_isub hx hb dX0_readBehind_155 ?_
                  refine lv_topi (fun y_234 ey_234 => ?_)
                  obtain rfl : y_32 = y_234 := ey_32.trans ey_234.symm
                  refine g_iald hx hb hK g ma_31 ka_31 (by decide) rfl (in_bd b_33 (by decide)) dX0_readBehind_156 (fun x_235 bx_235 cx_235 => ?_)
                  obtain rfl : x_34 = x_235 := el_same cx_34 cx_235 rfl
                  refine lv_iconst (v := 2) hx hb dX0_readBehind_157 (by decide) ?_
                  have kb_2 : bd 2 2 (2 : Int32) := ⟨by decide, by decide⟩
                  refine lv_icmp_eq (tgt := 176) hx hb dX0_readBehind_158 (by decide) (fun c_236 => ?_) (fun c_236 => ?_)
                  · have fc_236 := eq_f c_236
                    have b_237 : bd 2 1 x_34 := eqX fc_236 b_225 kb_2 (by decide)
                    exact bd_no b_237 (by decide)
                  · have fc_236 := neq_f c_236
                    refine lv_aload_n hx hb dX0_readBehind_161 rfl (lv_at hl 1 rfl) ?_
                    refine g_getk (C := RX0) (T := TX0) (N := 14) hx hb hts (mc_ inX0) hown hK g rfl 3 (by decide) rfl (hts _ (List.mem_cons_of_mem _ t_376)) (fun _ h9 => h9) 1 rfl dX0_readBehind_162 ?_
                    refine lv_aload_n hx hb dX0_readBehind_165 rfl (lv_at hl 1 rfl) ?_
                    refine g_getk (C := RX0) (T := TX0) (N := 14) hx hb hts (mc_ inX0) hown hK g rfl 8 (by decide) rfl (hts _ (List.mem_cons_of_mem _ t_381)) (fun _ h9 => h9) 2 rfl dX0_readBehind_166 ?_
                    refine lv_iconst (v := 1) hx hb dX0_readBehind_169 (by decide) ?_
                    refine lv_isub hx hb dX0_readBehind_170 ?_
                    refine lv_topi (fun y_238 ey_238 => ?_)
                    obtain rfl : y_32 = y_238 := ey_32.trans ey_238.symm
                    refine g_iald hx hb hK g ma_31 ka_31 (by decide) rfl (in_bd b_33 (by decide)) dX0_readBehind_171 (fun x_239 bx_239 cx_239 => ?_)
                    obtain rfl : x_34 = x_239 := el_same cx_34 cx_239 rfl
                    refine lv_iconst (v := 3) hx hb dX0_readBehind_172 (by decide) ?_
                    have kb_3 : bd 3 3 (3 : Int32) := ⟨by decide, by decide⟩
                    refine lv_icmp_ne (tgt := 184) hx hb dX0_readBehind_173 (by decide) (fun c_240 => ?_) (fun c_240 => ?_)
                    · have fc_240 := neq_f c_240
                      refine lv_aload_n hx hb dX0_readBehind_184 rfl (lv_at hl 1 rfl) ?_
                      refine g_getk (C := RX0) (T := TX0) (N := 14) hx hb hts (mc_ inX0) hown hK g rfl 0 (by decide) rfl (hts _ (List.mem_cons_of_mem _ t_373)) (fun _ h9 => h9) 4 rfl dX0_readBehind_185 ?_
                      refine lv_iconst (v := 1) hx hb dX0_readBehind_188 (by decide) ?_
                      refine lv_aload_n hx hb dX0_readBehind_189 rfl (lv_at hl 1 rfl) ?_
                      refine g_getk (C := RX0) (T := TX0) (N := 14) hx hb hts (mc_ inX0) hown hK g rfl 0 (by decide) rfl (hts _ (List.mem_cons_of_mem _ t_373)) (fun _ h9 => h9) 4 rfl dX0_readBehind_190 ?_
                      have go_ := g
                      refine g_calli (va_runV (As := []) (rest := [.int 1, .ref q0_]) ⟨hx, hb, hml, hown, hts⟩ (r_X8_place l dC dI L kd tys fr_11 H.size g.2.2.2.1 q0_ mq0_ kq0_) (cwV 0 hts (gV_ t_1220 t_1111 t_1112 t_184 t_1113) rfl rfl rfl (by decide +kernel) ⟨(Nat.le_of_ble_eq_true rfl), (Nat.le_of_ble_eq_true rfl)⟩) (pre3V g hK mq0_ kq0_ (by decide) (q := (RX8, TX8, 10)) rfl) rfl rfl hl.1 rfl (lv_room (Nat.le_of_ble_eq_true rfl)) dX0_readBehind_193 ⟨(Nat.le_of_ble_eq_true rfl), (Nat.le_of_ble_eq_true rfl)⟩) g hK (by decide) (by decide) (fx' := [(0, 5, a0_, .ref a_35), (0, 3, a0_, .ref a_31), (0, 8, a0_, .int x_28), (8, 8, q0_, .int y0_), (0, 0, a0_, .ref q0_), (0, 1, a0_, .ref q1_), (0, 2, a0_, .ref q2_), (5, 1, q1_, .ref q3_)]) rfl (fun r_241 fr_241 H locs hp hMr_241 g => ?_)
                      have hG_242 := eOK.frame hMr_241 go_.2.2.2.1 ma0_ ka0_ (by decide) (by decide) hG_25
                      have hG_243 := eJx.frame hMr_241 go_.2.2.2.1 ma0_ ka0_ (by decide) (by decide) hG_12
                      have hG_244 := cOK.frame hMr_241 go_.2.2.2.1 mq2_ kq2_ (by decide) (by decide) hG_13
                      have hG_245 := dOK.frame hMr_241 go_.2.2.2.1 mq2_ kq2_ (by decide) (by decide) hG_14
                      have hG_246 := jS.frame hMr_241 go_.2.2.2.1 mq2_ kq2_ (by decide) (by decide) hs_26
                      have hG_247 := vP.frame hMr_241 go_.2.2.2.1 ma_35 ka_35 (by decide) (by decide) hv_37
                      have hG_248 := kQj.frame hMr_241 go_.2.2.2.1 mq2_ kq2_ (by decide) (by decide) hq_38
                      have go_ := g
                      refine g_callv (va_runV (As := [.int 1, .int r_241]) (rest := []) ⟨hx, hb, hml, hown, hts⟩ (r_X8_fail l dC dI L kd tys fr_241 H.size g.2.2.2.1 q0_ mq0_ kq0_ 1 (bd_sub kb_1 (by decide)) r_241 y0_ by0_ (g.fcts [3] rfl)) (cwV 2 hts (gV_ t_1215 t_1107 t_1108 t_184 t_1109) rfl rfl rfl (by decide +kernel) ⟨(Nat.le_of_ble_eq_true rfl), (Nat.le_of_ble_eq_true rfl)⟩) (pre3V g hK mq0_ kq0_ (by decide) (q := (RX8, TX8, 10)) rfl) rfl rfl hl.1 rfl (lv_room (Nat.le_of_ble_eq_true rfl)) dX0_readBehind_196 ⟨(Nat.le_of_ble_eq_true rfl), (Nat.le_of_ble_eq_true rfl)⟩) g hK (by decide) (by decide) (fx' := [(0, 5, a0_, .ref a_35), (0, 3, a0_, .ref a_31), (0, 8, a0_, .int x_28), (0, 0, a0_, .ref q0_), (0, 1, a0_, .ref q1_), (0, 2, a0_, .ref q2_), (5, 1, q1_, .ref q3_)]) rfl (fun fr_249 H locs hp hMr_249 g => ?_)
                      obtain ⟨x_250, h_251, hF_252⟩ := hp
                      have hG_253 := eOK.frame hMr_249 go_.2.2.2.1 ma0_ ka0_ (by decide) (by decide) hG_242
                      have hG_254 := eJx.frame hMr_249 go_.2.2.2.1 ma0_ ka0_ (by decide) (by decide) hG_243
                      have hG_255 := cOK.frame hMr_249 go_.2.2.2.1 mq2_ kq2_ (by decide) (by decide) hG_244
                      have hG_256 := dOK.frame hMr_249 go_.2.2.2.1 mq2_ kq2_ (by decide) (by decide) hG_245
                      have hG_257 := jS.frame hMr_249 go_.2.2.2.1 mq2_ kq2_ (by decide) (by decide) hG_246
                      have hG_258 := vP.frame hMr_249 go_.2.2.2.1 ma_35 ka_35 (by decide) (by decide) hG_247
                      have hG_259 := kQj.frame hMr_249 go_.2.2.2.1 mq2_ kq2_ (by decide) (by decide) hG_248
                      have g := g.more hF_252
                      subst hQ
                      exact W.vret hx hb hr (fun t ht hW => ⟨⟨_, rfl, Or.inr (⟨hG_253, hG_256, x_250, h_251, (g.fcts [0, 1] rfl)⟩), q3_of g hK ht hW⟩, g.2.2.1.F ht⟩) g.2.2.1.2.2 dX0_readBehind_199
                    · have fc_240 := eq_f c_240
                      have b_260 : bd 3 1 x_34 := eqX fc_240 b_225 kb_3 (by decide)
                      exact bd_no b_260 (by decide)
                · have fc_233 := eq_f c_233
                  have b_261 : bd 5 1 x_34 := eqX fc_233 b_225 kb_5 (by decide)
                  exact bd_no b_261 (by decide)
            · have fc_226 := eq_f c_226
              have b_262 : bd 41 41 x1_ := eqX fc_226 (bdT x1_) kb_41 (by decide)
              refine lv_aload_n hx hb dX0_readBehind_73 rfl (lv_at hl 1 rfl) ?_
              refine lv_dup hx hb dX0_readBehind_74 rfl ?_
              refine g_getk (C := RX0) (T := TX0) (N := 14) hx hb hts (mc_ inX0) hown hK g rfl 8 (by decide) rfl (hts _ (List.mem_cons_of_mem _ t_381)) (fun _ h9 => h9) 2 rfl dX0_readBehind_75 ?_
              refine lv_iconst (v := 1) hx hb dX0_readBehind_78 (by decide) ?_
              refine lv_isub hx hb dX0_readBehind_79 ?_
              refine lv_topi (fun y_263 ey_263 => ?_)
              obtain rfl : y_32 = y_263 := ey_32.trans ey_263.symm
              have go_ := g
              refine g_putX (C := RX0) (T := TX0) (N := 14) hx hb hts (mc_ inX0) tyX0 tyX0_ok nmX0 hown hK g ma0_ ka0_ (by decide) rfl 8 (by decide) (hts _ (List.mem_cons_of_mem _ t_381)) (fun _ h9 => h9) rfl rfl (okV_i (bd_sub b_33 (by decide))) rfl rfl (by decide) (Or.inr (Or.inl (by decide))) (fx' := [(0, 5, a0_, .ref a_35), (0, 3, a0_, .ref a_31), (8, 8, q0_, .int y0_), (0, 0, a0_, .ref q0_), (0, 1, a0_, .ref q1_), (0, 2, a0_, .ref q2_), (5, 1, q1_, .ref q3_)]) rfl dX0_readBehind_80 (fun f H locs hM_264 u_272 g => ?_)
              have hG_265 := eOK.frame hM_264 go_.2.2.2.1 ma0_ ka0_ (by decide) (by decide) hG_25
              have hG_266 := cOK.frame hM_264 go_.2.2.2.1 mq2_ kq2_ (by decide) (by decide) hG_13
              have hG_267 := dOK.frame hM_264 go_.2.2.2.1 mq2_ kq2_ (by decide) (by decide) hG_14
              have hG_268 := jS.frame hM_264 go_.2.2.2.1 mq2_ kq2_ (by decide) (by decide) hs_26
              have hG_269 := vP.frame hM_264 go_.2.2.2.1 ma_35 ka_35 (by decide) (by decide) hv_37
              have hG_270 := kQj.frame hM_264 go_.2.2.2.1 mq2_ kq2_ (by decide) (by decide) hq_38
              have hi_271 := eJx.dec hG_12 (fx_at go_ (i := 2) rfl).2.2.2 (fx_at go_ (i := 6) rfl).2.2.2 mq2_ kq2_ u_272 (by have h9_0 := b_262; unfold bd at h9_0; have h9_1 := b_30; unfold bd at h9_1; have h9_2 := b_225; unfold bd at h9_2; have h9_3 := by0_; unfold bd at h9_3; have h9_4 := b_33; unfold bd at h9_4; have h8_0 := kb_0; unfold bd at h8_0; have h8_1 := kb_1; unfold bd at h8_1; have h8_2 := kb_41; unfold bd at h8_2; omega) go_.2.2.2.1 ma0_ ka0_
              refine lv_aload_n hx hb dX0_readBehind_83 rfl (lv_at hl 1 rfl) ?_
              refine lv_dup hx hb dX0_readBehind_84 rfl ?_
              refine g_geti (C := RX0) (T := TX0) (N := 14) hx hb hts (mc_ inX0) hown hK g ma0_ ka0_ (by decide) rfl 11 (by decide) rfl (hts _ (List.mem_cons_of_mem _ t_384)) (fun _ h9 => h9) rfl dX0_readBehind_85 (fun x_273 bx_273 g => ?_)
              refine lv_iconst (v := 1) hx hb dX0_readBehind_88 (by decide) ?_
              refine lv_isub hx hb dX0_readBehind_89 ?_
              refine lv_topi (fun y_274 ey_274 => ?_)
              have go_ := g
              refine g_put (C := RX0) (T := TX0) (N := 14) hx hb hts (mc_ inX0) tyX0 tyX0_ok nmX0 hown hK g ma0_ ka0_ (by decide) rfl 11 (by decide) (hts _ (List.mem_cons_of_mem _ t_384)) (fun _ h9 => h9) rfl rfl (okV_i (bdT y_274)) rfl rfl (by decide) (Or.inr (Or.inl (by decide))) (fx' := [(0, 8, a0_, .int y_32), (0, 5, a0_, .ref a_35), (0, 3, a0_, .ref a_31), (8, 8, q0_, .int y0_), (0, 0, a0_, .ref q0_), (0, 1, a0_, .ref q1_), (0, 2, a0_, .ref q2_), (5, 1, q1_, .ref q3_)]) rfl dX0_readBehind_90 (fun f H locs hM_275 g => ?_)
              have hG_276 := eOK.frame hM_275 go_.2.2.2.1 ma0_ ka0_ (by decide) (by decide) hG_265
              have hG_277 := cOK.frame hM_275 go_.2.2.2.1 mq2_ kq2_ (by decide) (by decide) hG_266
              have hG_278 := dOK.frame hM_275 go_.2.2.2.1 mq2_ kq2_ (by decide) (by decide) hG_267
              have hG_279 := jS.frame hM_275 go_.2.2.2.1 mq2_ kq2_ (by decide) (by decide) hG_268
              have hG_280 := vP.frame hM_275 go_.2.2.2.1 ma_35 ka_35 (by decide) (by decide) hG_269
              have hG_281 := kQj.frame hM_275 go_.2.2.2.1 mq2_ kq2_ (by decide) (by decide) hG_270
              have hG_282 := eJx.frame hM_275 go_.2.2.2.1 ma0_ ka0_ (by decide) (by decide) hi_271
              refine lv_aload_n hx hb dX0_readBehind_93 rfl (lv_at hl 1 rfl) ?_
              refine g_getk (C := RX0) (T := TX0) (N := 14) hx hb hts (mc_ inX0) hown hK g rfl 0 (by decide) rfl (hts _ (List.mem_cons_of_mem _ t_373)) (fun _ h9 => h9) 5 rfl dX0_readBehind_94 ?_
              have go_ := g
              refine g_callv (va_runV (As := []) (rest := []) ⟨hx, hb, hml, hown, hts⟩ (r_X8_next l dC dI L kd tys f H.size g.2.2.2.1 q0_ mq0_ kq0_) (cwV 0 hts (gV_ t_1225 t_1103 t_1104 t_184 t_1105) rfl rfl rfl (by decide +kernel) ⟨(Nat.le_of_ble_eq_true rfl), (Nat.le_of_ble_eq_true rfl)⟩) (pre3V g hK mq0_ kq0_ (by decide) (q := (RX8, TX8, 10)) rfl) rfl rfl hl.1 rfl (lv_room (Nat.le_of_ble_eq_true rfl)) dX0_readBehind_97 ⟨(Nat.le_of_ble_eq_true rfl), (Nat.le_of_ble_eq_true rfl)⟩) g hK (by decide) (by decide) (fx' := [(0, 11, a0_, .int y_274), (0, 8, a0_, .int y_32), (0, 5, a0_, .ref a_35), (0, 3, a0_, .ref a_31), (8, 8, q0_, .int y0_), (0, 0, a0_, .ref q0_), (0, 1, a0_, .ref q1_), (0, 2, a0_, .ref q2_), (5, 1, q1_, .ref q3_)]) rfl (fun fr_283 H locs hp hMr_283 g => ?_)
              obtain ⟨x_284, h_285, hF_286⟩ := hp
              have hG_287 := eOK.frame hMr_283 go_.2.2.2.1 ma0_ ka0_ (by decide) (by decide) hG_276
              have hG_288 := cOK.frame hMr_283 go_.2.2.2.1 mq2_ kq2_ (by decide) (by decide) hG_277
              have hG_289 := dOK.frame hMr_283 go_.2.2.2.1 mq2_ kq2_ (by decide) (by decide) hG_278
              have hG_290 := jS.frame hMr_283 go_.2.2.2.1 mq2_ kq2_ (by decide) (by decide) hG_279
              have hG_291 := vP.frame hMr_283 go_.2.2.2.1 ma_35 ka_35 (by decide) (by decide) hG_280
              have hG_292 := kQj.frame hMr_283 go_.2.2.2.1 mq2_ kq2_ (by decide) (by decide) hG_281
              have hG_293 := eJx.frame hMr_283 go_.2.2.2.1 ma0_ ka0_ (by decide) (by decide) hG_282
              have g := g.more hF_286
              refine lv_goto (tgt := 199) hx hb dX0_readBehind_100 (by decide) ?_
              subst hQ
              exact W.vret hx hb hr (fun t ht hW => ⟨⟨_, rfl, Or.inl ⟨hG_287, hG_293, hG_288, hG_289, hG_290, (g.fcts [5] rfl)⟩, q3_of g hK ht hW⟩, g.2.2.1.F ht⟩) g.2.2.1.2.2 dX0_readBehind_199
        · have fc_29 := eq_f c_29
          have b_294 : bd 0 0 x_28 := eqX fc_29 bx_28 kb_0 (by decide)
          refine lv_aload_n hx hb dX0_readBehind_44 rfl (lv_at hl 1 rfl) ?_
          refine lv_iconst (v := 1) hx hb dX0_readBehind_45 (by decide) ?_
          have go_ := g
          refine g_put (C := RX0) (T := TX0) (N := 14) hx hb hts (mc_ inX0) tyX0 tyX0_ok nmX0 hown hK g ma0_ ka0_ (by decide) rfl 13 (by decide) (hts _ (List.mem_cons_of_mem _ t_386)) (fun _ h9 => h9) rfl rfl (okV_i (bd_sub kb_1 (by decide))) rfl rfl (by decide) (Or.inr (Or.inl (by decide))) (fx' := [(0, 8, a0_, .int x_28), (8, 8, q0_, .int y0_), (0, 0, a0_, .ref q0_), (0, 1, a0_, .ref q1_), (0, 2, a0_, .ref q2_), (5, 1, q1_, .ref q3_)]) rfl dX0_readBehind_46 (fun f H locs hM_295 g => ?_)
          have hG_296 := eOK.frame hM_295 go_.2.2.2.1 ma0_ ka0_ (by decide) (by decide) hG_25
          have hG_297 := eJx.frame hM_295 go_.2.2.2.1 ma0_ ka0_ (by decide) (by decide) hG_12
          have hG_298 := cOK.frame hM_295 go_.2.2.2.1 mq2_ kq2_ (by decide) (by decide) hG_13
          have hG_299 := dOK.frame hM_295 go_.2.2.2.1 mq2_ kq2_ (by decide) (by decide) hG_14
          have hG_300 := jS.frame hM_295 go_.2.2.2.1 mq2_ kq2_ (by decide) (by decide) hs_26
          refine lv_goto (tgt := 199) hx hb dX0_readBehind_49 (by decide) ?_
          subst hQ
          exact W.vret hx hb hr (fun t ht hW => ⟨⟨_, rfl, Or.inl ⟨hG_296, hG_297, hG_298, hG_299, hG_300, (g.fcts [2] rfl)⟩, q3_of g hK ht hW⟩, g.2.2.1.F ht⟩) g.2.2.1.2.2 dX0_readBehind_199
      · have fc_27 := neq_f c_27
        have b_301 : bd 1 (-1) y0_ := neX fc_27 by0_ kb_0 (by decide)
        exact bd_no b_301 (by decide)
    · have hG_302 := eOK.frame hMr_11 go_.2.2.2.1 ma0_ ka0_ (by decide) (by decide) hG_5
      have g := g.more hF_24
      refine lv_aload_n hx hb dX0_readBehind_14 rfl (lv_at hl 1 rfl) ?_
      refine g_getk (C := RX0) (T := TX0) (N := 14) hx hb hts (mc_ inX0) hown hK g rfl 0 (by decide) rfl (hts _ (List.mem_cons_of_mem _ t_373)) (fun _ h9 => h9) 5 rfl dX0_readBehind_15 ?_
      refine g_getk (C := RX8) (T := TX8) (N := 10) hx hb hts (mc_ inX8) hown hK g rfl 8 (by decide) rfl (hts _ (List.mem_cons_of_mem _ t_293)) (fun _ h9 => h9) 1 rfl dX0_readBehind_18 ?_
      refine lv_if_eq (tgt := 25) hx hb dX0_readBehind_21 (by decide) (fun c_303 => ?_) (fun c_303 => ?_)
      · have fc_303 := eq_f c_303
        have b_304 : bd 1 0 x_18 := eqX fc_303 h_19 kb_0 (by decide)
        exact bd_no b_304 (by decide)
      · have fc_303 := neq_f c_303
        subst hQ
        exact W.vret hx hb hr (fun t ht hW => ⟨⟨_, rfl, Or.inr (⟨hG_302, hG_17, x_18, h_19, (g.fcts [0, 1] rfl)⟩), q3_of g hK ht hW⟩, g.2.2.1.F ht⟩) g.2.2.1.2.2 dX0_readBehind_24
  · have hG_305 := eOK.frame hMr_1 go_.2.2.2.1 ma0_ ka0_ (by decide) (by decide) hGea0_
    have hG_306 := eJx.frame hMr_1 go_.2.2.2.1 ma0_ ka0_ (by decide) (by decide) hGia0_
    have hG_307 := cOK.frame hMr_1 go_.2.2.2.1 mq2_ kq2_ (by decide) (by decide) hGcq2_
    have hG_308 := dOK.frame hMr_1 go_.2.2.2.1 mq2_ kq2_ (by decide) (by decide) hGdq2_
    have hG_309 := jS.frame hMr_1 go_.2.2.2.1 mq2_ kq2_ (by decide) (by decide) hGsq2_
    have b_310 : bd 37 206 x1_ := eqX rfl (bdT x1_) h_4 (by decide)
    refine lv_istore_n (lv' := [(2, .int r_1), (0, .ref a0_), (1, .int x1_)]) hx hb dX0_readBehind_4 rfl hl (by decide) rfl (fun ls hl => ?_)
    refine lv_aload_n hx hb dX0_readBehind_5 rfl (lv_at hl 1 rfl) ?_
    refine lv_iload_n hx hb dX0_readBehind_6 rfl (lv_at hl 0 rfl) ?_
    refine lv_iconst (v := 1) hx hb dX0_readBehind_7 (by decide) ?_
    have kb_1 : bd 1 1 (1 : Int32) := ⟨by decide, by decide⟩
    refine va_mmax hx hb (hml.trans hl.1.symm) hown (hts _ (List.mem_cons_of_mem _ t_1194)) (hts _ (List.mem_cons_of_mem _ t_1041)) (hts _ (List.mem_cons_of_mem _ t_204)) (hts _ (List.mem_cons_of_mem _ t_1042)) (Nat.le_of_ble_eq_true rfl) (Nat.le_of_ble_eq_true rfl) (Nat.le_of_ble_eq_true rfl) (Nat.le_of_ble_eq_true rfl) dX0_readBehind_8 ?_
    refine lv_topi (fun y_311 ey_311 => ?_)
    have ty_311 : y_311.toInt = max r_1.toInt (1 : Int32).toInt := by rw [ey_311]; exact mmax_ok _ _
    have b_312 : bd 1 5 y_311 := max_rg ty_311 h_3 kb_1 (by decide)
    have go_ := g
    refine g_callv (va_runV (As := [.int y_311]) (rest := []) ⟨hx, hb, hml, hown, hts⟩ (r_X0_closeParts l dC dI L kd tys fr_1 H.size g.2.2.2.1 a0_ ma0_ ka0_ y_311 q0_ mq0_ kq0_ q2_ mq2_ kq2_ y0_ by0_ T_ (fun j9 => jOK fr_1 q2_ j9) hG_306 hG_307 hG_308 (fun _ h9 => h9) (g.fcts [0, 2, 4] rfl)) (cwV 1 hts (gV_ t_1195 t_1197 t_15 t_190 t_1198) rfl rfl rfl (by decide +kernel) ⟨(Nat.le_of_ble_eq_true rfl), (Nat.le_of_ble_eq_true rfl)⟩) (pre3V g hK ma0_ ka0_ (by decide) (q := (RX0, TX0, 14)) rfl) rfl rfl hl.1 rfl (lv_room (Nat.le_of_ble_eq_true rfl)) dX0_readBehind_11 ⟨(Nat.le_of_ble_eq_true rfl), (Nat.le_of_ble_eq_true rfl)⟩) g hK (by decide) (by decide) (fx' := [(0, 0, a0_, .ref q0_), (0, 1, a0_, .ref q1_), (0, 2, a0_, .ref q2_), (5, 1, q1_, .ref q3_)]) rfl (fun fr_313 H locs hp hMr_313 g => ?_)
    rcases hp with ⟨hG_314, hG_315, hG_316, hG_317, hF_318⟩ | ⟨hG_319, x_320, h_321, x_322, h_323, x_324, h_325, hF_326⟩
    · have hG_327 := eOK.frame hMr_313 go_.2.2.2.1 ma0_ ka0_ (by decide) (by decide) hG_305
      have g := g.more hF_318
      have hs_328 := jS.mv hG_309 hG_317
      refine lv_aload_n hx hb dX0_readBehind_14 rfl (lv_at hl 1 rfl) ?_
      refine g_getk (C := RX0) (T := TX0) (N := 14) hx hb hts (mc_ inX0) hown hK g rfl 0 (by decide) rfl (hts _ (List.mem_cons_of_mem _ t_373)) (fun _ h9 => h9) 1 rfl dX0_readBehind_15 ?_
      refine g_getk (C := RX8) (T := TX8) (N := 10) hx hb hts (mc_ inX8) hown hK g rfl 8 (by decide) rfl (hts _ (List.mem_cons_of_mem _ t_293)) (fun _ h9 => h9) 0 rfl dX0_readBehind_18 ?_
      have kb_0 : bd 0 0 (0 : Int32) := ⟨by decide, by decide⟩
      refine lv_if_eq (tgt := 25) hx hb dX0_readBehind_21 (by decide) (fun c_329 => ?_) (fun c_329 => ?_)
      · have fc_329 := eq_f c_329
        refine lv_iload_n hx hb dX0_readBehind_25 rfl (lv_at hl 0 rfl) ?_
        refine lv_if_le (tgt := 37) hx hb dX0_readBehind_26 (by decide) (fun c_330 => ?_) (fun c_330 => ?_)
        · have fc_330 := le_f c_330
          have b_331 : bd 1 0 r_1 := leL fc_330 h_3 kb_0 (by decide)
          exact bd_no b_331 (by decide)
        · have fc_330 := nle_f c_330
          refine lv_aload_n hx hb dX0_readBehind_29 rfl (lv_at hl 1 rfl) ?_
          refine lv_iload_n hx hb dX0_readBehind_30 rfl (lv_at hl 2 rfl) ?_
          have go_ := g
          refine g_callv (va_runV (As := [.int x1_]) (rest := []) ⟨hx, hb, hml, hown, hts⟩ (r_X0_openOperator l dC dI L kd tys fr_313 H.size g.2.2.2.1 a0_ ma0_ ka0_ x1_ b_310 q0_ mq0_ kq0_ q2_ mq2_ kq2_ y0_ by0_ T_ (fun j9 => jOK fr_313 q2_ j9) hG_314 hG_315 hG_316 (fun _ h9 => h9) hG_327 (g.fcts [1, 3, 0] rfl)) (cwV 1 hts (gV_ t_1216 t_1218 t_18 t_190 t_1219) rfl rfl rfl (by decide +kernel) ⟨(Nat.le_of_ble_eq_true rfl), (Nat.le_of_ble_eq_true rfl)⟩) (pre3V g hK ma0_ ka0_ (by decide) (q := (RX0, TX0, 14)) rfl) rfl rfl hl.1 rfl (lv_room (Nat.le_of_ble_eq_true rfl)) dX0_readBehind_31 ⟨(Nat.le_of_ble_eq_true rfl), (Nat.le_of_ble_eq_true rfl)⟩) g hK (by decide) (by decide) (fx' := [(8, 8, q0_, .int y0_), (0, 0, a0_, .ref q0_), (0, 1, a0_, .ref q1_), (0, 2, a0_, .ref q2_), (5, 1, q1_, .ref q3_)]) rfl (fun fr_332 H locs hp hMr_332 g => ?_)
          obtain ⟨hG_333, hG_334, hG_335, hG_336, hG_337, x_338, h_339, x_340, h_341, hF_342⟩ := hp
          have g := g.more hF_342
          have hs_343 := jS.mv hs_328 hG_336
          refine lv_goto (tgt := 199) hx hb dX0_readBehind_34 (by decide) ?_
          subst hQ
          exact W.vret hx hb hr (fun t ht hW => ⟨⟨_, rfl, Or.inl ⟨hG_337, hG_333, hG_334, hG_335, hs_343, (g.fcts [3] rfl)⟩, q3_of g hK ht hW⟩, g.2.2.1.F ht⟩) g.2.2.1.2.2 dX0_readBehind_199
      · have fc_329 := neq_f c_329
        have b_344 : bd 1 (-1) y0_ := neX fc_329 by0_ kb_0 (by decide)
        exact bd_no b_344 (by decide)
    · have hG_345 := eOK.frame hMr_313 go_.2.2.2.1 ma0_ ka0_ (by decide) (by decide) hG_305
      have g := g.more hF_326
      refine lv_aload_n hx hb dX0_readBehind_14 rfl (lv_at hl 1 rfl) ?_
      refine g_getk (C := RX0) (T := TX0) (N := 14) hx hb hts (mc_ inX0) hown hK g rfl 0 (by decide) rfl (hts _ (List.mem_cons_of_mem _ t_373)) (fun _ h9 => h9) 5 rfl dX0_readBehind_15 ?_
      refine g_getk (C := RX8) (T := TX8) (N := 10) hx hb hts (mc_ inX8) hown hK g rfl 8 (by decide) rfl (hts _ (List.mem_cons_of_mem _ t_293)) (fun _ h9 => h9) 1 rfl dX0_readBehind_18 ?_
      have kb_0 : bd 0 0 (0 : Int32) := ⟨by decide, by decide⟩
      refine lv_if_eq (tgt := 25) hx hb dX0_readBehind_21 (by decide) (fun c_346 => ?_) (fun c_346 => ?_)
      · have fc_346 := eq_f c_346
        have b_347 : bd 1 0 x_320 := eqX fc_346 h_321 kb_0 (by decide)
        exact bd_no b_347 (by decide)
      · have fc_346 := neq_f c_346
        subst hQ
        exact W.vret hx hb hr (fun t ht hW => ⟨⟨_, rfl, Or.inr (⟨hG_345, hG_319, x_320, h_321, (g.fcts [0, 1] rfl)⟩), q3_of g hK ht hW⟩, g.2.2.1.F ht⟩) g.2.2.1.2.2 dX0_readBehind_24
