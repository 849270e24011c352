set_option maxHeartbeats 4000000 in
set_option maxRecDepth 100000 in
theorem r_X0_openOperator (l : Launch) (dC : Nat → ClassId) (dI : Nat → Nat → Nat) (L : List Nat) (kd : Nat → Nat) (tys : List (ClassId × FieldType)) (f0 : Nat → va_E) (sz : Nat) (hWT : WT L kd tys f0) (a0_ : Nat) (ma0_ : a0_ ∈ L) (ka0_ : kd a0_ = 0) (x1_ : Int32) (q0_ : Nat) (mq0_ : q0_ ∈ L) (kq0_ : kd q0_ = 8) (q1_ : Nat) (mq1_ : q1_ ∈ L) (kq1_ : kd q1_ = 7) (hfx : Fs L kd f0 [(0, 0, a0_, .ref q0_), (0, 2, a0_, .ref q1_)]) : Met l yX0_openOperator (.code yX0_openOperator cX0_openOperator 3 none :: lw_g) ({ frames := 1, cells := 0, slots := 0, locals := 23 }) (va_Pc [.ref a0_, .int x1_] (P3 (dC, dI) L tys f0 sz)) (va_Qv (fun (f : Nat → va_E) => (∃ z1_ : Int32, bd 1 1201 z1_ ∧ ∃ z2_ : Int32, bd 1 300 z2_ ∧ Fs L kd f [(0, 12, a0_, .int 1), (8, 6, q0_, .int z1_), (0, 8, a0_, .int z2_)])) (Q3 (dC, dI) L kd tys [(0, 8), (0, 12), (7, 6), (7, 18), (8, 6)] [110, 111, 112, 113, 114, 138, 139] f0 sz) (pA L sz)) 0 0 (pA L sz) := by
  refine Met.ofW (cc := cX0_openOperator) (maxL := 3) (ret := none) (by decide) rfl ?_
  intro p e s m args below meth c s₁ B hml hv
  obtain ⟨rfl, hsz, hP, hK, hD0⟩ := hv
  have hx := B.exec
  have hb := B.bytes
  have hr := B.returns
  have hts := atoms_spec (ws := (.code yX0_openOperator cX0_openOperator 3 none :: lw_g)) B.pre
  have hown : s.vm.findClass RX0 = some m.cls := findClass_of_methodNamed B.named
  have hlocks := B.notSynchronized
  subst hsz
  have g : G3 (dC, dI) L kd tys s f0 [(0, 8), (0, 12), (7, 6), (7, 18), (8, 6)] [110, 111, 112, 113, 114, 138, 139] f0 s.heap [] [(0, 0, a0_, .ref q0_), (0, 2, a0_, .ref q1_)] := G3.start hP hD0 hWT hfx
  have hl := lv_entry ([.ref a0_, .int x1_]) (n := 3) (Nat.le_of_ble_eq_true rfl)
  rw [lg_entry_eq]
  generalize (lg_sl ([.ref a0_, .int x1_]) ++ List.replicate (3 - (lg_sl ([.ref a0_, .int x1_])).length) Slot.unset).toArray = ls at hl ⊢
  have hl : lv_has ls 3 [(0, .ref a0_), (1, .int x1_)] := hl
  refine W_q (fun Q hQ => ?_)
  refine lv_aload_n hx hb dX0_openOperator_0 rfl (lv_at hl 0 rfl) ?_
  refine g_getk (C := RX0) (T := TX0) (N := 14) hx hb hts (mc_ inX0) hown hK g rfl 2 (by decide) rfl (hts _ (List.mem_cons_of_mem _ t_375)) (fun _ h9 => h9) 1 rfl dX0_openOperator_1 ?_
  refine g_geti (C := RX7) (T := TX7) (N := 19) hx hb hts (mc_ inX7) hown hK g mq1_ kq1_ (by decide) rfl 6 (by decide) rfl (hts _ (List.mem_cons_of_mem _ t_646)) (fun _ h9 => h9) rfl dX0_openOperator_4 (fun x_1 bx_1 g => ?_)
  refine lv_istore_n (lv' := [(2, .int x_1), (0, .ref a0_), (1, .int x1_)]) hx hb dX0_openOperator_7 rfl hl (by decide) rfl (fun ls hl => ?_)
  refine lv_iload_n hx hb dX0_openOperator_8 rfl (lv_at hl 2 rfl) ?_
  refine lv_sipush (v := 205) hx hb dX0_openOperator_9 (by decide) ?_
  have kb_205 : bd 205 205 (205 : Int32) := ⟨by decide, by decide⟩
  refine lv_icmp_ne (tgt := 28) hx hb dX0_openOperator_12 (by decide) (fun c_2 => ?_) (fun c_2 => ?_)
  · have fc_2 := neq_f c_2
    refine lv_iload_n hx hb dX0_openOperator_28 rfl (lv_at hl 2 rfl) ?_
    refine lv_sipush (v := 206) hx hb dX0_openOperator_29 (by decide) ?_
    have kb_206 : bd 206 206 (206 : Int32) := ⟨by decide, by decide⟩
    refine lv_icmp_ne (tgt := 45) hx hb dX0_openOperator_32 (by decide) (fun c_3 => ?_) (fun c_3 => ?_)
    · have fc_3 := neq_f c_3
      refine lv_aload_n hx hb dX0_openOperator_45 rfl (lv_at hl 1 rfl) ?_
      refine lv_iload_n hx hb dX0_openOperator_46 rfl (lv_at hl 2 rfl) ?_
      refine lv_aload_n hx hb dX0_openOperator_47 rfl (lv_at hl 1 rfl) ?_
      refine g_getk (C := RX0) (T := TX0) (N := 14) hx hb hts (mc_ inX0) hown hK g rfl 0 (by decide) rfl (hts _ (List.mem_cons_of_mem _ t_373)) (fun _ h9 => h9) 1 rfl dX0_openOperator_48 ?_
      refine g_calli (va_runV (As := []) (rest := [.int x1_, .ref a0_]) ⟨hx, hb, hml, hown, hts⟩ (r_X8_place l dC dI L kd tys f0 s.heap.size g.2.2.2.1 q0_ mq0_ kq0_) (cwV 0 hts (gV_ t_1220 t_1111 t_1112 t_184 t_1113) rfl rfl rfl (by decide +kernel) ⟨(Nat.le_of_ble_eq_true rfl), (Nat.le_of_ble_eq_true rfl)⟩) (pre3V g hK mq0_ kq0_ (by decide) (q := (RX8, TX8, 10)) rfl) rfl rfl hl.1 rfl (lv_room (Nat.le_of_ble_eq_true rfl)) dX0_openOperator_51 ⟨(Nat.le_of_ble_eq_true rfl), (Nat.le_of_ble_eq_true rfl)⟩) g hK (by decide) (by decide) (fx' := [(7, 6, q1_, .int x_1), (0, 0, a0_, .ref q0_), (0, 2, a0_, .ref q1_)]) rfl (fun r_4 fr_4 H locs hp hMr_4 g => ?_)
      refine lv_iload_n hx hb dX0_openOperator_54 rfl (lv_at hl 0 rfl) ?_
      refine g_callv (va_runV (As := [.int x1_, .int r_4, .int x_1]) (rest := []) ⟨hx, hb, hml, hown, hts⟩ (r_X0_push l dC dI L kd tys fr_4 H.size g.2.2.2.1 a0_ ma0_ ka0_ x1_ r_4 x_1) (cwV 3 hts (gV_ t_1221 t_1223 t_19 t_190 t_1224) rfl rfl rfl (by decide +kernel) ⟨(Nat.le_of_ble_eq_true rfl), (Nat.le_of_ble_eq_true rfl)⟩) (pre3V g hK ma0_ ka0_ (by decide) (q := (RX0, TX0, 14)) rfl) rfl rfl hl.1 rfl (lv_room (Nat.le_of_ble_eq_true rfl)) dX0_openOperator_55 ⟨(Nat.le_of_ble_eq_true rfl), (Nat.le_of_ble_eq_true rfl)⟩) g hK (by decide) (by decide) (fx' := [(7, 6, q1_, .int x_1), (0, 0, a0_, .ref q0_), (0, 2, a0_, .ref q1_)]) rfl (fun fr_5 H locs hp hMr_5 g => ?_)
      obtain ⟨x_6, h_7, hF_8⟩ := hp
      have g := g.more hF_8
      refine lv_aload_n hx hb dX0_openOperator_58 rfl (lv_at hl 1 rfl) ?_
      refine g_getk (C := RX0) (T := TX0) (N := 14) hx hb hts (mc_ inX0) hown hK g rfl 2 (by decide) rfl (hts _ (List.mem_cons_of_mem _ t_375)) (fun _ h9 => h9) 3 rfl dX0_openOperator_59 ?_
      refine lv_dup hx hb dX0_openOperator_62 rfl ?_
      refine g_geti (C := RX7) (T := TX7) (N := 19) hx hb hts (mc_ inX7) hown hK g mq1_ kq1_ (by decide) rfl 18 (by decide) rfl (hts _ (List.mem_cons_of_mem _ t_681)) (fun _ h9 => h9) rfl dX0_openOperator_63 (fun x_9 bx_9 g => ?_)
      refine lv_iconst (v := 1) hx hb dX0_openOperator_66 (by decide) ?_
      have kb_1 : bd 1 1 (1 : Int32) := ⟨by decide, by decide⟩
      refine lv_iadd hx hb dX0_openOperator_67 ?_
      refine lv_topi (fun y_10 ey_10 => ?_)
      refine g_put (C := RX7) (T := TX7) (N := 19) hx hb hts (mc_ inX7) tyX7 tyX7_ok nmX7 hown hK g mq1_ kq1_ (by decide) rfl 18 (by decide) (hts _ (List.mem_cons_of_mem _ t_681)) (fun _ h9 => h9) rfl rfl (okV_i (bdT y_10)) rfl rfl (by decide) (Or.inr (Or.inl (by decide))) (fx' := [(0, 8, a0_, .int x_6), (7, 6, q1_, .int x_1), (0, 0, a0_, .ref q0_), (0, 2, a0_, .ref q1_)]) rfl dX0_openOperator_68 (fun f H locs hM_11 g => ?_)
      refine lv_aload_n hx hb dX0_openOperator_71 rfl (lv_at hl 1 rfl) ?_
      refine g_getk (C := RX0) (T := TX0) (N := 14) hx hb hts (mc_ inX0) hown hK g rfl 0 (by decide) rfl (hts _ (List.mem_cons_of_mem _ t_373)) (fun _ h9 => h9) 3 rfl dX0_openOperator_72 ?_
      refine g_callv (va_runV (As := []) (rest := []) ⟨hx, hb, hml, hown, hts⟩ (r_X8_next l dC dI L kd tys f H.size g.2.2.2.1 q0_ mq0_ kq0_) (cwV 0 hts (gV_ t_1225 t_1103 t_1104 t_184 t_1105) rfl rfl rfl (by decide +kernel) ⟨(Nat.le_of_ble_eq_true rfl), (Nat.le_of_ble_eq_true rfl)⟩) (pre3V g hK mq0_ kq0_ (by decide) (q := (RX8, TX8, 10)) rfl) rfl rfl hl.1 rfl (lv_room (Nat.le_of_ble_eq_true rfl)) dX0_openOperator_75 ⟨(Nat.le_of_ble_eq_true rfl), (Nat.le_of_ble_eq_true rfl)⟩) g hK (by decide) (by decide) (fx' := [(7, 18, q1_, .int y_10), (0, 8, a0_, .int x_6), (7, 6, q1_, .int x_1), (0, 0, a0_, .ref q0_), (0, 2, a0_, .ref q1_)]) rfl (fun fr_12 H locs hp hMr_12 g => ?_)
      obtain ⟨x_13, h_14, hF_15⟩ := hp
      have g := g.more hF_15
      refine lv_aload_n hx hb dX0_openOperator_78 rfl (lv_at hl 1 rfl) ?_
      refine lv_iconst (v := 1) hx hb dX0_openOperator_79 (by decide) ?_
      refine g_put (C := RX0) (T := TX0) (N := 14) hx hb hts (mc_ inX0) tyX0 tyX0_ok nmX0 hown hK g ma0_ ka0_ (by decide) rfl 12 (by decide) (hts _ (List.mem_cons_of_mem _ t_385)) (fun _ h9 => h9) rfl rfl (okV_i (bd_sub kb_1 (by decide))) rfl rfl (by decide) (Or.inr (Or.inl (by decide))) (fx' := [(8, 6, q0_, .int x_13), (7, 18, q1_, .int y_10), (0, 8, a0_, .int x_6), (7, 6, q1_, .int x_1), (0, 0, a0_, .ref q0_), (0, 2, a0_, .ref q1_)]) rfl dX0_openOperator_80 (fun f H locs hM_16 g => ?_)
      subst hQ
      exact W.vret hx hb hr (fun t ht hW => ⟨⟨_, rfl, ⟨x_13, h_14, x_6, h_7, (g.fcts [0, 1, 3] rfl)⟩, q3_of g hK ht hW⟩, g.2.2.1.F ht⟩) g.2.2.1.2.2 dX0_openOperator_83
    · have fc_3 := eq_f c_3
      have b_17 : bd 206 206 x1_ := eqX fc_3 (bdT x1_) kb_206 (by decide)
      refine lv_aload_n hx hb dX0_openOperator_35 rfl (lv_at hl 1 rfl) ?_
      refine g_getk (C := RX0) (T := TX0) (N := 14) hx hb hts (mc_ inX0) hown hK g rfl 2 (by decide) rfl (hts _ (List.mem_cons_of_mem _ t_375)) (fun _ h9 => h9) 2 rfl dX0_openOperator_36 ?_
      refine lv_bipush (v := 25) hx hb dX0_openOperator_39 (by decide) ?_
      refine lv_iconst (v := 0) hx hb dX0_openOperator_41 (by decide) ?_
      refine g_callv (va_runV (As := [.int 25, .int 0]) (rest := []) ⟨hx, hb, hml, hown, hts⟩ (r_X7_emit l dC dI L kd tys f0 s.heap.size g.2.2.2.1 q1_ mq1_ kq1_ 25 0) (cwV 2 hts (gV_ t_1203 t_1204 t_1205 t_191 t_1206) rfl rfl rfl (by decide +kernel) ⟨(Nat.le_of_ble_eq_true rfl), (Nat.le_of_ble_eq_true rfl)⟩) (pre3V g hK mq1_ kq1_ (by decide) (q := (RX7, TX7, 19)) rfl) rfl rfl hl.1 rfl (lv_room (Nat.le_of_ble_eq_true rfl)) dX0_openOperator_42 ⟨(Nat.le_of_ble_eq_true rfl), (Nat.le_of_ble_eq_true rfl)⟩) g hK (by decide) (by decide) (fx' := [(0, 0, a0_, .ref q0_), (0, 2, a0_, .ref q1_)]) rfl (fun fr_18 H locs hp hMr_18 g => ?_)
      obtain ⟨x_19, h_20, hF_21⟩ := hp
      have g := g.more hF_21
      refine lv_aload_n hx hb dX0_openOperator_45 rfl (lv_at hl 1 rfl) ?_
      refine lv_iload_n hx hb dX0_openOperator_46 rfl (lv_at hl 2 rfl) ?_
      refine lv_aload_n hx hb dX0_openOperator_47 rfl (lv_at hl 1 rfl) ?_
      refine g_getk (C := RX0) (T := TX0) (N := 14) hx hb hts (mc_ inX0) hown hK g rfl 0 (by decide) rfl (hts _ (List.mem_cons_of_mem _ t_373)) (fun _ h9 => h9) 1 rfl dX0_openOperator_48 ?_
      refine g_calli (va_runV (As := []) (rest := [.int x1_, .ref a0_]) ⟨hx, hb, hml, hown, hts⟩ (r_X8_place l dC dI L kd tys fr_18 H.size g.2.2.2.1 q0_ mq0_ kq0_) (cwV 0 hts (gV_ t_1220 t_1111 t_1112 t_184 t_1113) rfl rfl rfl (by decide +kernel) ⟨(Nat.le_of_ble_eq_true rfl), (Nat.le_of_ble_eq_true rfl)⟩) (pre3V g hK mq0_ kq0_ (by decide) (q := (RX8, TX8, 10)) rfl) rfl rfl hl.1 rfl (lv_room (Nat.le_of_ble_eq_true rfl)) dX0_openOperator_51 ⟨(Nat.le_of_ble_eq_true rfl), (Nat.le_of_ble_eq_true rfl)⟩) g hK (by decide) (by decide) (fx' := [(7, 6, q1_, .int x_19), (0, 0, a0_, .ref q0_), (0, 2, a0_, .ref q1_)]) rfl (fun r_22 fr_22 H locs hp hMr_22 g => ?_)
      refine lv_iload_n hx hb dX0_openOperator_54 rfl (lv_at hl 0 rfl) ?_
      refine g_callv (va_runV (As := [.int x1_, .int r_22, .int x_1]) (rest := []) ⟨hx, hb, hml, hown, hts⟩ (r_X0_push l dC dI L kd tys fr_22 H.size g.2.2.2.1 a0_ ma0_ ka0_ x1_ r_22 x_1) (cwV 3 hts (gV_ t_1221 t_1223 t_19 t_190 t_1224) rfl rfl rfl (by decide +kernel) ⟨(Nat.le_of_ble_eq_true rfl), (Nat.le_of_ble_eq_true rfl)⟩) (pre3V g hK ma0_ ka0_ (by decide) (q := (RX0, TX0, 14)) rfl) rfl rfl hl.1 rfl (lv_room (Nat.le_of_ble_eq_true rfl)) dX0_openOperator_55 ⟨(Nat.le_of_ble_eq_true rfl), (Nat.le_of_ble_eq_true rfl)⟩) g hK (by decide) (by decide) (fx' := [(7, 6, q1_, .int x_19), (0, 0, a0_, .ref q0_), (0, 2, a0_, .ref q1_)]) rfl (fun fr_23 H locs hp hMr_23 g => ?_)
      obtain ⟨x_24, h_25, hF_26⟩ := hp
      have g := g.more hF_26
      refine lv_aload_n hx hb dX0_openOperator_58 rfl (lv_at hl 1 rfl) ?_
      refine g_getk (C := RX0) (T := TX0) (N := 14) hx hb hts (mc_ inX0) hown hK g rfl 2 (by decide) rfl (hts _ (List.mem_cons_of_mem _ t_375)) (fun _ h9 => h9) 3 rfl dX0_openOperator_59 ?_
      refine lv_dup hx hb dX0_openOperator_62 rfl ?_
      refine g_geti (C := RX7) (T := TX7) (N := 19) hx hb hts (mc_ inX7) hown hK g mq1_ kq1_ (by decide) rfl 18 (by decide) rfl (hts _ (List.mem_cons_of_mem _ t_681)) (fun _ h9 => h9) rfl dX0_openOperator_63 (fun x_27 bx_27 g => ?_)
      refine lv_iconst (v := 1) hx hb dX0_openOperator_66 (by decide) ?_
      have kb_1 : bd 1 1 (1 : Int32) := ⟨by decide, by decide⟩
      refine lv_iadd hx hb dX0_openOperator_67 ?_
      refine lv_topi (fun y_28 ey_28 => ?_)
      refine g_put (C := RX7) (T := TX7) (N := 19) hx hb hts (mc_ inX7) tyX7 tyX7_ok nmX7 hown hK g mq1_ kq1_ (by decide) rfl 18 (by decide) (hts _ (List.mem_cons_of_mem _ t_681)) (fun _ h9 => h9) rfl rfl (okV_i (bdT y_28)) rfl rfl (by decide) (Or.inr (Or.inl (by decide))) (fx' := [(0, 8, a0_, .int x_24), (7, 6, q1_, .int x_19), (0, 0, a0_, .ref q0_), (0, 2, a0_, .ref q1_)]) rfl dX0_openOperator_68 (fun f H locs hM_29 g => ?_)
      refine lv_aload_n hx hb dX0_openOperator_71 rfl (lv_at hl 1 rfl) ?_
      refine g_getk (C := RX0) (T := TX0) (N := 14) hx hb hts (mc_ inX0) hown hK g rfl 0 (by decide) rfl (hts _ (List.mem_cons_of_mem _ t_373)) (fun _ h9 => h9) 3 rfl dX0_openOperator_72 ?_
      refine g_callv (va_runV (As := []) (rest := []) ⟨hx, hb, hml, hown, hts⟩ (r_X8_next l dC dI L kd tys f H.size g.2.2.2.1 q0_ mq0_ kq0_) (cwV 0 hts (gV_ t_1225 t_1103 t_1104 t_184 t_1105) rfl rfl rfl (by decide +kernel) ⟨(Nat.le_of_ble_eq_true rfl), (Nat.le_of_ble_eq_true rfl)⟩) (pre3V g hK mq0_ kq0_ (by decide) (q := (RX8, TX8, 10)) rfl) rfl rfl hl.1 rfl (lv_room (Nat.le_of_ble_eq_true rfl)) dX0_openOperator_75 ⟨(Nat.le_of_ble_eq_true rfl), (Nat.le_of_ble_eq_true rfl)⟩) g hK (by decide) (by decide) (fx' := [(7, 18, q1_, .int y_28), (0, 8, a0_, .int x_24), (7, 6, q1_, .int x_19), (0, 0, a0_, .ref q0_), (0, 2, a0_, .ref q1_)]) rfl (fun fr_30 H locs hp hMr_30 g => ?_)
      obtain ⟨x_31, h_32, hF_33⟩ := hp
      have g := g.more hF_33
      refine lv_aload_n hx hb dX0_openOperator_78 rfl (lv_at hl 1 rfl) ?_
      refine lv_iconst (v := 1) hx hb dX0_openOperator_79 (by decide) ?_
      refine g_put (C := RX0) (T := TX0) (N := 14) hx hb hts (mc_ inX0) tyX0 tyX0_ok nmX0 hown hK g ma0_ ka0_ (by decide) rfl 12 (by decide) (hts _ (List.mem_cons_of_mem _ t_385)) (fun _ h9 => h9) rfl rfl (okV_i (bd_sub kb_1 (by decide))) rfl rfl (by decide) (Or.inr (Or.inl (by decide))) (fx' := [(8, 6, q0_, .int x_31), (7, 18, q1_, .int y_28), (0, 8, a0_, .int x_24), (7, 6, q1_, .int x_19), (0, 0, a0_, .ref q0_), (0, 2, a0_, .ref q1_)]) rfl dX0_openOperator_80 (fun f H locs hM_34 g => ?_)
      subst hQ
      exact W.vret hx hb hr (fun t ht hW => ⟨⟨_, rfl, ⟨x_31, h_32, x_24, h_25, (g.fcts [0, 1, 3] rfl)⟩, q3_of g hK ht hW⟩, g.2.2.1.F ht⟩) g.2.2.1.2.2 dX0_openOperator_83
  · have fc_2 := eq_f c_2
    have b_35 : bd 205 205 x1_ := eqX fc_2 (bdT x1_) kb_205 (by decide)
    refine lv_aload_n hx hb dX0_openOperator_15 rfl (lv_at hl 1 rfl) ?_
    refine g_getk (C := RX0) (T := TX0) (N := 14) hx hb hts (mc_ inX0) hown hK g rfl 2 (by decide) rfl (hts _ (List.mem_cons_of_mem _ t_375)) (fun _ h9 => h9) 2 rfl dX0_openOperator_16 ?_
    refine lv_bipush (v := 24) hx hb dX0_openOperator_19 (by decide) ?_
    refine lv_iconst (v := 0) hx hb dX0_openOperator_21 (by decide) ?_
    refine g_callv (va_runV (As := [.int 24, .int 0]) (rest := []) ⟨hx, hb, hml, hown, hts⟩ (r_X7_emit l dC dI L kd tys f0 s.heap.size g.2.2.2.1 q1_ mq1_ kq1_ 24 0) (cwV 2 hts (gV_ t_1203 t_1204 t_1205 t_191 t_1206) rfl rfl rfl (by decide +kernel) ⟨(Nat.le_of_ble_eq_true rfl), (Nat.le_of_ble_eq_true rfl)⟩) (pre3V g hK mq1_ kq1_ (by decide) (q := (RX7, TX7, 19)) rfl) rfl rfl hl.1 rfl (lv_room (Nat.le_of_ble_eq_true rfl)) dX0_openOperator_22 ⟨(Nat.le_of_ble_eq_true rfl), (Nat.le_of_ble_eq_true rfl)⟩) g hK (by decide) (by decide) (fx' := [(0, 0, a0_, .ref q0_), (0, 2, a0_, .ref q1_)]) rfl (fun fr_36 H locs hp hMr_36 g => ?_)
    obtain ⟨x_37, h_38, hF_39⟩ := hp
    have g := g.more hF_39
    refine lv_goto (tgt := 45) hx hb dX0_openOperator_25 (by decide) ?_
    refine lv_aload_n hx hb dX0_openOperator_45 rfl (lv_at hl 1 rfl) ?_
    refine lv_iload_n hx hb dX0_openOperator_46 rfl (lv_at hl 2 rfl) ?_
    refine lv_aload_n hx hb dX0_openOperator_47 rfl (lv_at hl 1 rfl) ?_
    refine g_getk (C := RX0) (T := TX0) (N := 14) hx hb hts (mc_ inX0) hown hK g rfl 0 (by decide) rfl (hts _ (List.mem_cons_of_mem _ t_373)) (fun _ h9 => h9) 1 rfl dX0_openOperator_48 ?_
    refine g_calli (va_runV (As := []) (rest := [.int x1_, .ref a0_]) ⟨hx, hb, hml, hown, hts⟩ (r_X8_place l dC dI L kd tys fr_36 H.size g.2.2.2.1 q0_ mq0_ kq0_) (cwV 0 hts (gV_ t_1220 t_1111 t_1112 t_184 t_1113) rfl rfl rfl (by decide +kernel) ⟨(Nat.le_of_ble_eq_true rfl), (Nat.le_of_ble_eq_true rfl)⟩) (pre3V g hK mq0_ kq0_ (by decide) (q := (RX8, TX8, 10)) rfl) rfl rfl hl.1 rfl (lv_room (Nat.le_of_ble_eq_true rfl)) dX0_openOperator_51 ⟨(Nat.le_of_ble_eq_true rfl), (Nat.le_of_ble_eq_true rfl)⟩) g hK (by decide) (by decide) (fx' := [(7, 6, q1_, .int x_37), (0, 0, a0_, .ref q0_), (0, 2, a0_, .ref q1_)]) rfl (fun r_40 fr_40 H locs hp hMr_40 g => ?_)
    refine lv_iload_n hx hb dX0_openOperator_54 rfl (lv_at hl 0 rfl) ?_
    refine g_callv (va_runV (As := [.int x1_, .int r_40, .int x_1]) (rest := []) ⟨hx, hb, hml, hown, hts⟩ (r_X0_push l dC dI L kd tys fr_40 H.size g.2.2.2.1 a0_ ma0_ ka0_ x1_ r_40 x_1) (cwV 3 hts (gV_ t_1221 t_1223 t_19 t_190 t_1224) rfl rfl rfl (by decide +kernel) ⟨(Nat.le_of_ble_eq_true rfl), (Nat.le_of_ble_eq_true rfl)⟩) (pre3V g hK ma0_ ka0_ (by decide) (q := (RX0, TX0, 14)) rfl) rfl rfl hl.1 rfl (lv_room (Nat.le_of_ble_eq_true rfl)) dX0_openOperator_55 ⟨(Nat.le_of_ble_eq_true rfl), (Nat.le_of_ble_eq_true rfl)⟩) g hK (by decide) (by decide) (fx' := [(7, 6, q1_, .int x_37), (0, 0, a0_, .ref q0_), (0, 2, a0_, .ref q1_)]) rfl (fun fr_41 H locs hp hMr_41 g => ?_)
    obtain ⟨x_42, h_43, hF_44⟩ := hp
    have g := g.more hF_44
    refine lv_aload_n hx hb dX0_openOperator_58 rfl (lv_at hl 1 rfl) ?_
    refine g_getk (C := RX0) (T := TX0) (N := 14) hx hb hts (mc_ inX0) hown hK g rfl 2 (by decide) rfl (hts _ (List.mem_cons_of_mem _ t_375)) (fun _ h9 => h9) 3 rfl dX0_openOperator_59 ?_
    refine lv_dup hx hb dX0_openOperator_62 rfl ?_
    refine g_geti (C := RX7) (T := TX7) (N := 19) hx hb hts (mc_ inX7) hown hK g mq1_ kq1_ (by decide) rfl 18 (by decide) rfl (hts _ (List.mem_cons_of_mem _ t_681)) (fun _ h9 => h9) rfl dX0_openOperator_63 (fun x_45 bx_45 g => ?_)
    refine lv_iconst (v := 1) hx hb dX0_openOperator_66 (by decide) ?_
    have kb_1 : bd 1 1 (1 : Int32) := ⟨by decide, by decide⟩
    refine lv_iadd hx hb dX0_openOperator_67 ?_
    refine lv_topi (fun y_46 ey_46 => ?_)
    refine g_put (C := RX7) (T := TX7) (N := 19) hx hb hts (mc_ inX7) tyX7 tyX7_ok nmX7 hown hK g mq1_ kq1_ (by decide) rfl 18 (by decide) (hts _ (List.mem_cons_of_mem _ t_681)) (fun _ h9 => h9) rfl rfl (okV_i (bdT y_46)) rfl rfl (by decide) (Or.inr (Or.inl (by decide))) (fx' := [(0, 8, a0_, .int x_42), (7, 6, q1_, .int x_37), (0, 0, a0_, .ref q0_), (0, 2, a0_, .ref q1_)]) rfl dX0_openOperator_68 (fun f H locs hM_47 g => ?_)
    refine lv_aload_n hx hb dX0_openOperator_71 rfl (lv_at hl 1 rfl) ?_
    refine g_getk (C := RX0) (T := TX0) (N := 14) hx hb hts (mc_ inX0) hown hK g rfl 0 (by decide) rfl (hts _ (List.mem_cons_of_mem _ t_373)) (fun _ h9 => h9) 3 rfl dX0_openOperator_72 ?_
    refine g_callv (va_runV (As := []) (rest := []) ⟨hx, hb, hml, hown, hts⟩ (r_X8_next l dC dI L kd tys f H.size g.2.2.2.1 q0_ mq0_ kq0_) (cwV 0 hts (gV_ t_1225 t_1103 t_1104 t_184 t_1105) rfl rfl rfl (by decide +kernel) ⟨(Nat.le_of_ble_eq_true rfl), (Nat.le_of_ble_eq_true rfl)⟩) (pre3V g hK mq0_ kq0_ (by decide) (q := (RX8, TX8, 10)) rfl) rfl rfl hl.1 rfl (lv_room (Nat.le_of_ble_eq_true rfl)) dX0_openOperator_75 ⟨(Nat.le_of_ble_eq_true rfl), (Nat.le_of_ble_eq_true rfl)⟩) g hK (by decide) (by decide) (fx' := [(7, 18, q1_, .int y_46), (0, 8, a0_, .int x_42), (7, 6, q1_, .int x_37), (0, 0, a0_, .ref q0_), (0, 2, a0_, .ref q1_)]) rfl (fun fr_48 H locs hp hMr_48 g => ?_)
    obtain ⟨x_49, h_50, hF_51⟩ := hp
    have g := g.more hF_51
    refine lv_aload_n hx hb dX0_openOperator_78 rfl (lv_at hl 1 rfl) ?_
    refine lv_iconst (v := 1) hx hb dX0_openOperator_79 (by decide) ?_
    refine g_put (C := RX0) (T := TX0) (N := 14) hx hb hts (mc_ inX0) tyX0 tyX0_ok nmX0 hown hK g ma0_ ka0_ (by decide) rfl 12 (by decide) (hts _ (List.mem_cons_of_mem _ t_385)) (fun _ h9 => h9) rfl rfl (okV_i (bd_sub kb_1 (by decide))) rfl rfl (by decide) (Or.inr (Or.inl (by decide))) (fx' := [(8, 6, q0_, .int x_49), (7, 18, q1_, .int y_46), (0, 8, a0_, .int x_42), (7, 6, q1_, .int x_37), (0, 0, a0_, .ref q0_), (0, 2, a0_, .ref q1_)]) rfl dX0_openOperator_80 (fun f H locs hM_52 g => ?_)
    subst hQ
    exact W.vret hx hb hr (fun t ht hW => ⟨⟨_, rfl, ⟨x_49, h_50, x_42, h_43, (g.fcts [0, 1, 3] rfl)⟩, q3_of g hK ht hW⟩, g.2.2.1.F ht⟩) g.2.2.1.2.2 dX0_openOperator_83
set_option maxHeartbeats 4000000 in
set_option maxRecDepth 100000 in
theorem r_X8_fail_11 (l : Launch) (dC : Nat → ClassId) (dI : Nat → Nat → Nat) (L : List Nat) (kd : Nat → Nat) (tys : List (ClassId × FieldType)) (f0 : Nat → va_E) (sz : Nat) (hWT : WT L kd tys f0) (a0_ : Nat) (ma0_ : a0_ ∈ L) (ka0_ : kd a0_ = 8) (x1_ : Int32) (bx1_ : bd 7 7 x1_) (x2_ : Int32) : Met l yX8_fail (.code yX8_fail cX8_fail 4 none :: lw_g) ({ frames := 0, cells := 0, slots := 0, locals := 0 }) (va_Pc [.ref a0_, .int x1_, .int x2_] (P3 (dC, dI) L tys f0 sz)) (va_Qv (fun (f : Nat → va_E) => (∃ z1_ : Int32, bd 1 7 z1_ ∧ Fs L kd f [(8, 6, a0_, .int 1201), (8, 8, a0_, .int z1_)])) (Q3 (dC, dI) L kd tys [(8, 6), (8, 8), (8, 9)] [] f0 sz) (pA L sz)) 0 0 (pA L sz) := by
  refine Met.ofW (cc := cX8_fail) (maxL := 4) (ret := none) (by decide) rfl ?_
  intro p e s m args below meth c s₁ B hml hv
  obtain ⟨rfl, hsz, hP, hK, hD0⟩ := hv
  have hx := B.exec
  have hb := B.bytes
  have hr := B.returns
  have hts := atoms_spec (ws := (.code yX8_fail cX8_fail 4 none :: lw_g)) B.pre
  have hown : s.vm.findClass RX8 = some m.cls := findClass_of_methodNamed B.named
  have hlocks := B.notSynchronized
  subst hsz
  have g : G3 (dC, dI) L kd tys s f0 [(8, 6), (8, 8), (8, 9)] [] f0 s.heap [] [] := G3.start hP hD0 hWT Fs.nil
  have hl := lv_entry ([.ref a0_, .int x1_, .int x2_]) (n := 4) (Nat.le_of_ble_eq_true rfl)
  rw [lg_entry_eq]
  generalize (lg_sl ([.ref a0_, .int x1_, .int x2_]) ++ List.replicate (4 - (lg_sl ([.ref a0_, .int x1_, .int x2_])).length) Slot.unset).toArray = ls at hl ⊢
  have hl : lv_has ls 4 [(0, .ref a0_), (1, .int x1_), (2, .int x2_)] := hl
  refine W_q (fun Q hQ => ?_)
  refine lv_aload_n hx hb dX8_fail_0 rfl (lv_at hl 0 rfl) ?_
  refine g_geti (C := RX8) (T := TX8) (N := 10) hx hb hts (mc_ inX8) hown hK g ma0_ ka0_ (by decide) rfl 6 (by decide) rfl (hts _ (List.mem_cons_of_mem _ t_291)) (fun _ h9 => h9) rfl dX8_fail_1 (fun x_1 bx_1 g => ?_)
  refine lv_sipush (v := 1200) hx hb dX8_fail_4 (by decide) ?_
  have kb_1200 : bd 1200 1200 (1200 : Int32) := ⟨by decide, by decide⟩
  refine lv_icmp_le (tgt := 31) hx hb dX8_fail_7 (by decide) (fun c_2 => ?_) (fun c_2 => ?_)
  · have fc_2 := le_f c_2
    have b_3 : bd 0 1200 x_1 := leL fc_2 bx_1 kb_1200 (by decide)
    refine lv_iconst (v := 0) hx hb dX8_fail_31 (by decide) ?_
    refine lv_istore_n (lv' := [(3, .int 0), (0, .ref a0_), (1, .int x1_), (2, .int x2_)]) hx hb dX8_fail_32 rfl hl (by decide) rfl (fun ls hl => ?_)
    refine lv_aload_n hx hb dX8_fail_33 rfl (lv_at hl 1 rfl) ?_
    refine g_geti (C := RX8) (T := TX8) (N := 10) hx hb hts (mc_ inX8) hown hK g ma0_ ka0_ (by decide) rfl 8 (by decide) rfl (hts _ (List.mem_cons_of_mem _ t_295)) (fun _ h9 => h9) rfl dX8_fail_34 (fun x_4 bx_4 g => ?_)
    have kb_0 : bd 0 0 (0 : Int32) := ⟨by decide, by decide⟩
    refine lv_if_ne (tgt := 73) hx hb dX8_fail_37 (by decide) (fun c_5 => ?_) (fun c_5 => ?_)
    · have fc_5 := neq_f c_5
      have b_6 : bd 1 7 x_4 := neX fc_5 bx_4 kb_0 (by decide)
      refine lv_aload_n hx hb dX8_fail_73 rfl (lv_at hl 1 rfl) ?_
      refine lv_sipush (v := 1201) hx hb dX8_fail_74 (by decide) ?_
      have kb_1201 : bd 1201 1201 (1201 : Int32) := ⟨by decide, by decide⟩
      refine g_put (C := RX8) (T := TX8) (N := 10) hx hb hts (mc_ inX8) tyX8 tyX8_ok nmX8 hown hK g ma0_ ka0_ (by decide) rfl 6 (by decide) (hts _ (List.mem_cons_of_mem _ t_291)) (fun _ h9 => h9) rfl rfl (okV_i (bd_sub kb_1201 (by decide))) rfl rfl (by decide) (Or.inr (Or.inl (by decide))) (fx' := [(8, 8, a0_, .int x_4)]) rfl dX8_fail_77 (fun f H locs hM_7 g => ?_)
      subst hQ
      exact W.vret hx hb hr (fun t ht hW => ⟨⟨_, rfl, ⟨x_4, b_6, (g.fcts [0, 1] rfl)⟩, q3_of g hK ht hW⟩, g.2.2.1.F ht⟩) g.2.2.1.2.2 dX8_fail_80
    · have fc_5 := eq_f c_5
      have b_8 : bd 0 0 x_4 := eqX fc_5 bx_4 kb_0 (by decide)
      refine lv_aload_n hx hb dX8_fail_40 rfl (lv_at hl 1 rfl) ?_
      refine lv_iload_n hx hb dX8_fail_41 rfl (lv_at hl 0 rfl) ?_
      refine lv_if_eq (tgt := 49) hx hb dX8_fail_42 (by decide) (fun c_ => ?_) (fun c_ => absurd (by decide) c_)
      refine lv_iload_n hx hb dX8_fail_49 rfl (lv_at hl 2 rfl) ?_
      refine g_put (C := RX8) (T := TX8) (N := 10) hx hb hts (mc_ inX8) tyX8 tyX8_ok nmX8 hown hK g ma0_ ka0_ (by decide) rfl 8 (by decide) (hts _ (List.mem_cons_of_mem _ t_295)) (fun _ h9 => h9) rfl rfl (okV_i (bd_sub bx1_ (by decide))) rfl rfl (by decide) (Or.inr (Or.inr (st_of bx1_ (by decide)))) (fx' := [(8, 6, a0_, .int x_1)]) rfl dX8_fail_50 (fun f H locs hM_9 g => ?_)
      refine lv_aload_n hx hb dX8_fail_53 rfl (lv_at hl 1 rfl) ?_
      refine lv_iload_n hx hb dX8_fail_54 rfl (lv_at hl 0 rfl) ?_
      refine lv_if_eq (tgt := 69) hx hb dX8_fail_55 (by decide) (fun c_ => ?_) (fun c_ => absurd (by decide) c_)
      refine lv_iload_n hx hb dX8_fail_69 rfl (lv_at hl 3 rfl) ?_
      refine g_put (C := RX8) (T := TX8) (N := 10) hx hb hts (mc_ inX8) tyX8 tyX8_ok nmX8 hown hK g ma0_ ka0_ (by decide) rfl 9 (by decide) (hts _ (List.mem_cons_of_mem _ t_296)) (fun _ h9 => h9) rfl rfl (okV_i (bdT x2_)) rfl rfl (by decide) (Or.inr (Or.inl (by decide))) (fx' := [(8, 8, a0_, .int x1_), (8, 6, a0_, .int x_1)]) rfl dX8_fail_70 (fun f H locs hM_10 g => ?_)
      refine lv_aload_n hx hb dX8_fail_73 rfl (lv_at hl 1 rfl) ?_
      refine lv_sipush (v := 1201) hx hb dX8_fail_74 (by decide) ?_
      have kb_1201 : bd 1201 1201 (1201 : Int32) := ⟨by decide, by decide⟩
      refine g_put (C := RX8) (T := TX8) (N := 10) hx hb hts (mc_ inX8) tyX8 tyX8_ok nmX8 hown hK g ma0_ ka0_ (by decide) rfl 6 (by decide) (hts _ (List.mem_cons_of_mem _ t_291)) (fun _ h9 => h9) rfl rfl (okV_i (bd_sub kb_1201 (by decide))) rfl rfl (by decide) (Or.inr (Or.inl (by decide))) (fx' := [(8, 9, a0_, .int x2_), (8, 8, a0_, .int x1_)]) rfl dX8_fail_77 (fun f H locs hM_11 g => ?_)
      subst hQ
      exact W.vret hx hb hr (fun t ht hW => ⟨⟨_, rfl, ⟨x1_, (bd_sub bx1_ (by decide)), (g.fcts [0, 2] rfl)⟩, q3_of g hK ht hW⟩, g.2.2.1.F ht⟩) g.2.2.1.2.2 dX8_fail_80
  · have fc_2 := nle_f c_2
    have b_12 : bd 1201 1201 x_1 := ltR fc_2 kb_1200 bx_1 (by decide)
    refine lv_iload_n hx hb dX8_fail_10 rfl (lv_at hl 1 rfl) ?_
    refine lv_iconst (v := 4) hx hb dX8_fail_11 (by decide) ?_
    have kb_4 : bd 4 4 (4 : Int32) := ⟨by decide, by decide⟩
    refine lv_icmp_gt (tgt := 27) hx hb dX8_fail_12 (by decide) (fun c_13 => ?_) (fun c_13 => ?_)
    · have fc_13 := lt_f c_13
      refine lv_iconst (v := 1) hx hb dX8_fail_27 (by decide) ?_
      refine lv_goto (tgt := 32) hx hb dX8_fail_28 (by decide) ?_
      refine lv_istore_n (lv' := [(3, .int 1), (0, .ref a0_), (1, .int x1_), (2, .int x2_)]) hx hb dX8_fail_32 rfl hl (by decide) rfl (fun ls hl => ?_)
      refine lv_aload_n hx hb dX8_fail_33 rfl (lv_at hl 1 rfl) ?_
      refine g_geti (C := RX8) (T := TX8) (N := 10) hx hb hts (mc_ inX8) hown hK g ma0_ ka0_ (by decide) rfl 8 (by decide) rfl (hts _ (List.mem_cons_of_mem _ t_295)) (fun _ h9 => h9) rfl dX8_fail_34 (fun x_14 bx_14 g => ?_)
      have kb_0 : bd 0 0 (0 : Int32) := ⟨by decide, by decide⟩
      refine lv_if_ne (tgt := 73) hx hb dX8_fail_37 (by decide) (fun c_15 => ?_) (fun c_15 => ?_)
      · have fc_15 := neq_f c_15
        have b_16 : bd 1 7 x_14 := neX fc_15 bx_14 kb_0 (by decide)
        refine lv_aload_n hx hb dX8_fail_73 rfl (lv_at hl 1 rfl) ?_
        refine lv_sipush (v := 1201) hx hb dX8_fail_74 (by decide) ?_
        have kb_1201 : bd 1201 1201 (1201 : Int32) := ⟨by decide, by decide⟩
        refine g_put (C := RX8) (T := TX8) (N := 10) hx hb hts (mc_ inX8) tyX8 tyX8_ok nmX8 hown hK g ma0_ ka0_ (by decide) rfl 6 (by decide) (hts _ (List.mem_cons_of_mem _ t_291)) (fun _ h9 => h9) rfl rfl (okV_i (bd_sub kb_1201 (by decide))) rfl rfl (by decide) (Or.inr (Or.inl (by decide))) (fx' := [(8, 8, a0_, .int x_14)]) rfl dX8_fail_77 (fun f H locs hM_17 g => ?_)
        subst hQ
        exact W.vret hx hb hr (fun t ht hW => ⟨⟨_, rfl, ⟨x_14, b_16, (g.fcts [0, 1] rfl)⟩, q3_of g hK ht hW⟩, g.2.2.1.F ht⟩) g.2.2.1.2.2 dX8_fail_80
      · have fc_15 := eq_f c_15
        have b_18 : bd 0 0 x_14 := eqX fc_15 bx_14 kb_0 (by decide)
        refine lv_aload_n hx hb dX8_fail_40 rfl (lv_at hl 1 rfl) ?_
        refine lv_iload_n hx hb dX8_fail_41 rfl (lv_at hl 0 rfl) ?_
        refine lv_if_eq (tgt := 49) hx hb dX8_fail_42 (by decide) (fun c_ => absurd c_ (by decide)) (fun c_ => ?_)
        refine lv_iconst (v := 4) hx hb dX8_fail_45 (by decide) ?_
        refine lv_goto (tgt := 50) hx hb dX8_fail_46 (by decide) ?_
        refine g_put (C := RX8) (T := TX8) (N := 10) hx hb hts (mc_ inX8) tyX8 tyX8_ok nmX8 hown hK g ma0_ ka0_ (by decide) rfl 8 (by decide) (hts _ (List.mem_cons_of_mem _ t_295)) (fun _ h9 => h9) rfl rfl (okV_i (bd_sub kb_4 (by decide))) rfl rfl (by decide) (Or.inr (Or.inr (st_of kb_4 (by decide)))) (fx' := [(8, 6, a0_, .int x_1)]) rfl dX8_fail_50 (fun f H locs hM_19 g => ?_)
        refine lv_aload_n hx hb dX8_fail_53 rfl (lv_at hl 1 rfl) ?_
        refine lv_iload_n hx hb dX8_fail_54 rfl (lv_at hl 0 rfl) ?_
        refine lv_if_eq (tgt := 69) hx hb dX8_fail_55 (by decide) (fun c_ => absurd c_ (by decide)) (fun c_ => ?_)
        refine lv_aload_n hx hb dX8_fail_58 rfl (lv_at hl 1 rfl) ?_
        refine g_getr (K := 149) (C := RX8) (T := TX8) (N := 10) hx hb hts (mc_ inX8) hown hK g ma0_ ka0_ (by decide) rfl 1 (by decide) rfl (hts _ (List.mem_cons_of_mem _ t_286)) (fun _ h9 => h9) rfl dX8_fail_59 (fun a_20 ma_20 ka_20 g => ?_)
        refine lv_sipush (v := 1200) hx hb dX8_fail_62 (by decide) ?_
        refine g_iald hx hb hK g ma_20 ka_20 (by decide) rfl (by unfold vp_in; decide) dX8_fail_65 (fun x_21 bx_21 cx_21 => ?_)
        refine lv_goto (tgt := 70) hx hb dX8_fail_66 (by decide) ?_
        refine g_put (C := RX8) (T := TX8) (N := 10) hx hb hts (mc_ inX8) tyX8 tyX8_ok nmX8 hown hK g ma0_ ka0_ (by decide) rfl 9 (by decide) (hts _ (List.mem_cons_of_mem _ t_296)) (fun _ h9 => h9) rfl rfl (okV_i (bdT x_21)) rfl rfl (by decide) (Or.inr (Or.inl (by decide))) (fx' := [(8, 1, a0_, .ref a_20), (8, 8, a0_, .int 4), (8, 6, a0_, .int x_1)]) rfl dX8_fail_70 (fun f H locs hM_22 g => ?_)
        refine lv_aload_n hx hb dX8_fail_73 rfl (lv_at hl 1 rfl) ?_
        refine lv_sipush (v := 1201) hx hb dX8_fail_74 (by decide) ?_
        have kb_1201 : bd 1201 1201 (1201 : Int32) := ⟨by decide, by decide⟩
        refine g_put (C := RX8) (T := TX8) (N := 10) hx hb hts (mc_ inX8) tyX8 tyX8_ok nmX8 hown hK g ma0_ ka0_ (by decide) rfl 6 (by decide) (hts _ (List.mem_cons_of_mem _ t_291)) (fun _ h9 => h9) rfl rfl (okV_i (bd_sub kb_1201 (by decide))) rfl rfl (by decide) (Or.inr (Or.inl (by decide))) (fx' := [(8, 9, a0_, .int x_21), (8, 1, a0_, .ref a_20), (8, 8, a0_, .int 4)]) rfl dX8_fail_77 (fun f H locs hM_23 g => ?_)
        subst hQ
        exact W.vret hx hb hr (fun t ht hW => ⟨⟨_, rfl, ⟨4, (bd_sub kb_4 (by decide)), (g.fcts [0, 3] rfl)⟩, q3_of g hK ht hW⟩, g.2.2.1.F ht⟩) g.2.2.1.2.2 dX8_fail_80
    · have fc_13 := nlt_f c_13
      have b_24 : bd 7 4 x1_ := leL fc_13 bx1_ kb_4 (by decide)
      exact bd_no b_24 (by decide)
set_option maxHeartbeats 4000000 in
set_option maxRecDepth 100000 in
theorem r_X7_leadHere (l : Launch) (dC : Nat → ClassId) (dI : Nat → Nat → Nat) (L : List Nat) (kd : Nat → Nat) (tys : List (ClassId × FieldType)) (f0 : Nat → va_E) (sz : Nat) (hWT : WT L kd tys f0) (a0_ : Nat) (ma0_ : a0_ ∈ L) (ka0_ : kd a0_ = 7) (x1_ : Int32) : Met l yX7_leadHere (.code yX7_leadHere cX7_leadHere 2 none :: lw_g) ({ frames := 0, cells := 0, slots := 0, locals := 0 }) (va_Pc [.ref a0_, .int x1_] (P3 (dC, dI) L tys f0 sz)) (va_Qv (fun (f : Nat → va_E) => (True)) (Q3 (dC, dI) L kd tys [] [139] f0 sz) (pA L sz)) 0 0 (pA L sz) := by
  refine Met.ofW (cc := cX7_leadHere) (maxL := 2) (ret := none) (by decide) rfl ?_
  intro p e s m args below meth c s₁ B hml hv
  obtain ⟨rfl, hsz, hP, hK, hD0⟩ := hv
  have hx := B.exec
  have hb := B.bytes
  have hr := B.returns
  have hts := atoms_spec (ws := (.code yX7_leadHere cX7_leadHere 2 none :: lw_g)) B.pre
  have hown : s.vm.findClass RX7 = some m.cls := findClass_of_methodNamed B.named
  have hlocks := B.notSynchronized
  subst hsz
  have g : G3 (dC, dI) L kd tys s f0 [] [139] f0 s.heap [] [] := G3.start hP hD0 hWT Fs.nil
  have hl := lv_entry ([.ref a0_, .int x1_]) (n := 2) (Nat.le_of_ble_eq_true rfl)
  rw [lg_entry_eq]
  generalize (lg_sl ([.ref a0_, .int x1_]) ++ List.replicate (2 - (lg_sl ([.ref a0_, .int x1_])).length) Slot.unset).toArray = ls at hl ⊢
  have hl : lv_has ls 2 [(0, .ref a0_), (1, .int x1_)] := hl
  refine W_q (fun Q hQ => ?_)
  refine lv_iload_n hx hb dX7_leadHere_0 rfl (lv_at hl 1 rfl) ?_
  have kb_0 : bd 0 0 (0 : Int32) := ⟨by decide, by decide⟩
  refine lv_if_lt (tgt := 22) hx hb dX7_leadHere_1 (by decide) (fun c_1 => ?_) (fun c_1 => ?_)
  · have fc_1 := lt_f c_1
    have b_2 : bd (-2147483648) (-1) x1_ := ltL fc_1 (bdT x1_) kb_0 (by decide)
    subst hQ
    exact W.vret hx hb hr (fun t ht hW => ⟨⟨_, rfl, trivial, q3_of g hK ht hW⟩, g.2.2.1.F ht⟩) g.2.2.1.2.2 dX7_leadHere_22
  · have fc_1 := nlt_f c_1
    have b_3 : bd 0 2147483647 x1_ := leR fc_1 kb_0 (bdT x1_) (by decide)
    refine lv_iload_n hx hb dX7_leadHere_4 rfl (lv_at hl 1 rfl) ?_
    refine lv_aload_n hx hb dX7_leadHere_5 rfl (lv_at hl 0 rfl) ?_
    refine g_geti (C := RX7) (T := TX7) (N := 19) hx hb hts (mc_ inX7) hown hK g ma0_ ka0_ (by decide) rfl 6 (by decide) rfl (hts _ (List.mem_cons_of_mem _ t_644)) (fun _ h9 => h9) rfl dX7_leadHere_6 (fun x_4 bx_4 g => ?_)
    refine lv_icmp_ge (tgt := 22) hx hb dX7_leadHere_9 (by decide) (fun c_5 => ?_) (fun c_5 => ?_)
    · have fc_5 := le_f c_5
      subst hQ
      exact W.vret hx hb hr (fun t ht hW => ⟨⟨_, rfl, trivial, q3_of g hK ht hW⟩, g.2.2.1.F ht⟩) g.2.2.1.2.2 dX7_leadHere_22
    · have fc_5 := nle_f c_5
      have b_6 : bd 0 1999 x1_ := ltL fc_5 b_3 bx_4 (by decide)
      have b_7 : bd 1 2000 x_4 := ltR fc_5 b_3 bx_4 (by decide)
      refine lv_aload_n hx hb dX7_leadHere_12 rfl (lv_at hl 0 rfl) ?_
      refine g_getr (K := 139) (C := RX7) (T := TX7) (N := 19) hx hb hts (mc_ inX7) hown hK g ma0_ ka0_ (by decide) rfl 5 (by decide) rfl (hts _ (List.mem_cons_of_mem _ t_642)) (fun _ h9 => h9) rfl dX7_leadHere_13 (fun a_8 ma_8 ka_8 g => ?_)
      refine lv_iload_n hx hb dX7_leadHere_16 rfl (lv_at hl 1 rfl) ?_
      refine lv_aload_n hx hb dX7_leadHere_17 rfl (lv_at hl 0 rfl) ?_
      refine g_getk (C := RX7) (T := TX7) (N := 19) hx hb hts (mc_ inX7) hown hK g rfl 6 (by decide) rfl (hts _ (List.mem_cons_of_mem _ t_644)) (fun _ h9 => h9) 1 rfl dX7_leadHere_18 ?_
      refine g_iast hx hb hK g ma_8 ka_8 (by decide) rfl (in_bd b_6 (by decide)) (bd_sub b_7 (by decide)) (by decide) dX7_leadHere_21 (fun f H locs hM_9 g => ?_)
      subst hQ
      exact W.vret hx hb hr (fun t ht hW => ⟨⟨_, rfl, trivial, q3_of g hK ht hW⟩, g.2.2.1.F ht⟩) g.2.2.1.2.2 dX7_leadHere_22
set_option maxHeartbeats 4000000 in
set_option maxRecDepth 100000 in
theorem r_X0_closeParts (l : Launch) (dC : Nat → ClassId) (dI : Nat → Nat → Nat) (L : List Nat) (kd : Nat → Nat) (tys : List (ClassId × FieldType)) (f0 : Nat → va_E) (sz : Nat) (hWT : WT L kd tys f0) (a0_ : Nat) (ma0_ : a0_ ∈ L) (ka0_ : kd a0_ = 0) (x1_ : Int32) (q0_ : Nat) (mq0_ : q0_ ∈ L) (kq0_ : kd q0_ = 8) (q1_ : Nat) (mq1_ : q1_ ∈ L) (kq1_ : kd q1_ = 7) (hfx : Fs L kd f0 [(0, 0, a0_, .ref q0_), (0, 2, a0_, .ref q1_)]) : Met l yX0_closeParts (.code yX0_closeParts cX0_closeParts 7 none :: lw_g) ({ frames := 1, cells := 0, slots := 0, locals := 23 }) (va_Pc [.ref a0_, .int x1_] (P3 (dC, dI) L tys f0 sz)) (va_Qv (fun (f : Nat → va_E) => (True)) (Q3 (dC, dI) L kd tys [(0, 8), (0, 10), (0, 11), (0, 12), (7, 6), (8, 6), (8, 8), (8, 9)] [115, 138, 139] f0 sz) (pA L sz)) 0 0 (pA L sz) := by
  refine Met.ofW (cc := cX0_closeParts) (maxL := 7) (ret := none) (by decide) rfl ?_
  intro p e s m args below meth c s₁ B hml hv
  obtain ⟨rfl, hsz, hP, hK, hD0⟩ := hv
  have hx := B.exec
  have hb := B.bytes
  have hr := B.returns
  have hts := atoms_spec (ws := (.code yX0_closeParts cX0_closeParts 7 none :: lw_g)) B.pre
  have hown : s.vm.findClass RX0 = some m.cls := findClass_of_methodNamed B.named
  have hlocks := B.notSynchronized
  subst hsz
  have g : G3 (dC, dI) L kd tys s f0 [(0, 8), (0, 10), (0, 11), (0, 12), (7, 6), (8, 6), (8, 8), (8, 9)] [115, 138, 139] f0 s.heap [] [(0, 0, a0_, .ref q0_), (0, 2, a0_, .ref q1_)] := G3.start hP hD0 hWT hfx
  have hl := lv_entry ([.ref a0_, .int x1_]) (n := 7) (Nat.le_of_ble_eq_true rfl)
  rw [lg_entry_eq]
  generalize (lg_sl ([.ref a0_, .int x1_]) ++ List.replicate (7 - (lg_sl ([.ref a0_, .int x1_])).length) Slot.unset).toArray = ls at hl ⊢
  have hl : lv_has ls 7 [(0, .ref a0_), (1, .int x1_)] := hl
  refine W_q (fun Q hQ => ?_)
  refine lv_iconst (v := 1) hx hb dX0_closeParts_0 (by decide) ?_
  refine lv_istore_n (lv' := [(2, .int 1), (0, .ref a0_), (1, .int x1_)]) hx hb dX0_closeParts_1 rfl hl (by decide) rfl (fun ls hl => ?_)
  refine lv_iconst (v := 0) hx hb dX0_closeParts_2 (by decide) ?_
  refine lv_istore_n (lv' := [(3, .int 0), (2, .int 1), (0, .ref a0_), (1, .int x1_)]) hx hb dX0_closeParts_3 rfl hl (by decide) rfl (fun ls hl => ?_)
  have loop_1 : ∀ (n : Nat) (v4_3 : Int32) (v4_2 : Int32), bd 0 300 v4_3 → bd 0 1 v4_2 → (300 - v4_3.toInt < (n : Int)) → ∀ (f : Nat → va_E) (H : Heap) (locs : List Loc) (ls : Array Slot), G3 (dC, dI) L kd tys s f0 [(0, 8), (0, 10), (0, 11), (0, 12), (7, 6), (8, 6), (8, 8), (8, 9)] [115, 138, 139] f H locs [(0, 0, a0_, .ref q0_), (0, 2, a0_, .ref q1_)] → lv_has ls 7 [(3, .int v4_3), (2, .int v4_2), (0, .ref a0_), (1, .int x1_)] → W p l e ({ frames := 1, cells := 0, slots := 0, locals := 23 } : Room) s m [.ref a0_, .int x1_].toArray below meth c H locs 0 0 Q (F0 m 4 ls []) := by
    intro n4
    induction n4 with
    | zero =>
      intro v4_3 v4_2 bv4_3 bv4_2 hm4 f H locs ls g  hl
      exact absurd hm4 (by have h9_v4_3 := bv4_3; unfold bd at h9_v4_3; have h9_v4_2 := bv4_2; unfold bd at h9_v4_2; omega)
    | succ n4 ih4 =>
      intro v4_3 v4_2 bv4_3 bv4_2 hm4 f H locs ls g  hl
      refine lv_iload_n hx hb dX0_closeParts_4 rfl (lv_at hl 0 rfl) ?_
      refine lv_sipush (v := 300) hx hb dX0_closeParts_5 (by decide) ?_
      have kb_300 : bd 300 300 (300 : Int32) := ⟨by decide, by decide⟩
      refine lv_icmp_ge (tgt := 251) hx hb dX0_closeParts_8 (by decide) (fun c_2 => ?_) (fun c_2 => ?_)
      · have fc_2 := le_f c_2
        have b_3 : bd 300 300 v4_3 := leR fc_2 kb_300 bv4_3 (by decide)
        subst hQ
        exact W.vret hx hb hr (fun t ht hW => ⟨⟨_, rfl, trivial, q3_of g hK ht hW⟩, g.2.2.1.F ht⟩) g.2.2.1.2.2 dX0_closeParts_251
      · have fc_2 := nle_f c_2
        have b_4 : bd 0 299 v4_3 := ltL fc_2 bv4_3 kb_300 (by decide)
        refine lv_iload_n hx hb dX0_closeParts_11 rfl (lv_at hl 1 rfl) ?_
        have kb_0 : bd 0 0 (0 : Int32) := ⟨by decide, by decide⟩
        refine lv_if_eq (tgt := 251) hx hb dX0_closeParts_12 (by decide) (fun c_5 => ?_) (fun c_5 => ?_)
        · have fc_5 := eq_f c_5
          have b_6 : bd 0 0 v4_2 := eqX fc_5 bv4_2 kb_0 (by decide)
          subst hQ
          exact W.vret hx hb hr (fun t ht hW => ⟨⟨_, rfl, trivial, q3_of g hK ht hW⟩, g.2.2.1.F ht⟩) g.2.2.1.2.2 dX0_closeParts_251
        · have fc_5 := neq_f c_5
          have b_7 : bd 1 1 v4_2 := neX fc_5 bv4_2 kb_0 (by decide)
          refine lv_aload_n hx hb dX0_closeParts_15 rfl (lv_at hl 2 rfl) ?_
          refine g_geti (C := RX0) (T := TX0) (N := 14) hx hb hts (mc_ inX0) hown hK g ma0_ ka0_ (by decide) rfl 8 (by decide) rfl (hts _ (List.mem_cons_of_mem _ t_381)) (fun _ h9 => h9) rfl dX0_closeParts_16 (fun x_8 bx_8 g => ?_)
          refine lv_if_le (tgt := 251) hx hb dX0_closeParts_19 (by decide) (fun c_9 => ?_) (fun c_9 => ?_)
          · have fc_9 := le_f c_9
            have b_10 : bd 0 0 x_8 := leL fc_9 bx_8 kb_0 (by decide)
            subst hQ
            exact W.vret hx hb hr (fun t ht hW => ⟨⟨_, rfl, trivial, q3_of g hK ht hW⟩, g.2.2.1.F ht⟩) g.2.2.1.2.2 dX0_closeParts_251
          · have fc_9 := nle_f c_9
            have b_11 : bd 1 300 x_8 := ltR fc_9 kb_0 bx_8 (by decide)
            refine lv_aload_n hx hb dX0_closeParts_22 rfl (lv_at hl 2 rfl) ?_
            refine g_getr (K := 110) (C := RX0) (T := TX0) (N := 14) hx hb hts (mc_ inX0) hown hK g ma0_ ka0_ (by decide) rfl 3 (by decide) rfl (hts _ (List.mem_cons_of_mem _ t_376)) (fun _ h9 => h9) rfl dX0_closeParts_23 (fun a_12 ma_12 ka_12 g => ?_)
            refine lv_aload_n hx hb dX0_closeParts_26 rfl (lv_at hl 2 rfl) ?_
            refine g_getk (C := RX0) (T := TX0) (N := 14) hx hb hts (mc_ inX0) hown hK g rfl 8 (by decide) rfl (hts _ (List.mem_cons_of_mem _ t_381)) (fun _ h9 => h9) 1 rfl dX0_closeParts_27 ?_
            refine lv_iconst (v := 1) hx hb dX0_closeParts_30 (by decide) ?_
            have kb_1 : bd 1 1 (1 : Int32) := ⟨by decide, by decide⟩
            refine lv_isub hx hb dX0_closeParts_31 ?_
            refine lv_topi (fun y_13 ey_13 => ?_)
            have ty_13 := sub_bd ey_13 b_11 kb_1 (by decide)
            have b_14 : bd 0 299 y_13 := sub_rg ty_13 b_11 kb_1 (by decide)
            refine g_iald hx hb hK g ma_12 ka_12 (by decide) rfl (in_bd b_14 (by decide)) dX0_closeParts_32 (fun x_15 bx_15 cx_15 => ?_)
            refine lv_istore (lv' := [(4, .int x_15), (3, .int v4_3), (2, .int v4_2), (0, .ref a0_), (1, .int x1_)]) hx hb dX0_closeParts_33 hl (by decide) rfl (fun ls hl => ?_)
            refine lv_iload hx hb dX0_closeParts_35 (lv_at hl 0 rfl) ?_
            refine lv_bipush (v := 6) hx hb dX0_closeParts_37 (by decide) ?_
            have kb_6 : bd 6 6 (6 : Int32) := ⟨by decide, by decide⟩
            refine lv_icmp_eq (tgt := 49) hx hb dX0_closeParts_39 (by decide) (fun c_16 => ?_) (fun c_16 => ?_)
            · have fc_16 := eq_f c_16
              have b_17 : bd 6 6 x_15 := eqX fc_16 (bdT x_15) kb_6 (by decide)
              refine lv_iconst (v := 1) hx hb dX0_closeParts_49 (by decide) ?_
              refine lv_goto (tgt := 54) hx hb dX0_closeParts_50 (by decide) ?_
              refine lv_istore (lv' := [(5, .int 1), (4, .int x_15), (3, .int v4_3), (2, .int v4_2), (0, .ref a0_), (1, .int x1_)]) hx hb dX0_closeParts_54 hl (by decide) rfl (fun ls hl => ?_)
              refine lv_iload hx hb dX0_closeParts_56 (lv_at hl 0 rfl) ?_
              refine lv_if_ne (tgt := 70) hx hb dX0_closeParts_58 (by decide) (fun c_ => ?_) (fun c_ => absurd c_ (by decide))
              refine lv_iconst (v := 1) hx hb dX0_closeParts_70 (by decide) ?_
              refine lv_goto (tgt := 75) hx hb dX0_closeParts_71 (by decide) ?_
              refine lv_istore_n (lv' := [(2, .int 1), (5, .int 1), (4, .int x_15), (3, .int v4_3), (0, .ref a0_), (1, .int x1_)]) hx hb dX0_closeParts_75 rfl hl (by decide) rfl (fun ls hl => ?_)
              refine lv_iload_n hx hb dX0_closeParts_76 rfl (lv_at hl 0 rfl) ?_
              refine lv_if_eq (tgt := 245) hx hb dX0_closeParts_77 (by decide) (fun c_ => absurd c_ (by decide)) (fun c_ => ?_)
              refine lv_aload_n hx hb dX0_closeParts_80 rfl (lv_at hl 4 rfl) ?_
              refine lv_dup hx hb dX0_closeParts_81 rfl ?_
              refine g_getk (C := RX0) (T := TX0) (N := 14) hx hb hts (mc_ inX0) hown hK g rfl 8 (by decide) rfl (hts _ (List.mem_cons_of_mem _ t_381)) (fun _ h9 => h9) 1 rfl dX0_closeParts_82 ?_
              refine lv_iconst (v := 1) hx hb dX0_closeParts_85 (by decide) ?_
              refine lv_isub hx hb dX0_closeParts_86 ?_
              refine lv_topi (fun y_18 ey_18 => ?_)
              obtain rfl : y_13 = y_18 := ey_13.trans ey_18.symm
              refine g_put (C := RX0) (T := TX0) (N := 14) hx hb hts (mc_ inX0) tyX0 tyX0_ok nmX0 hown hK g ma0_ ka0_ (by decide) rfl 8 (by decide) (hts _ (List.mem_cons_of_mem _ t_381)) (fun _ h9 => h9) rfl rfl (okV_i (bd_sub b_14 (by decide))) rfl rfl (by decide) (Or.inr (Or.inl (by decide))) (fx' := [(0, 3, a0_, .ref a_12), (0, 0, a0_, .ref q0_), (0, 2, a0_, .ref q1_)]) rfl dX0_closeParts_87 (fun f H locs hM_19 g => ?_)
              refine lv_aload_n hx hb dX0_closeParts_90 rfl (lv_at hl 4 rfl) ?_
              refine g_calli (va_runV (As := []) (rest := []) ⟨hx, hb, hml, hown, hts⟩ (r_X0_takeHeight l dC dI L kd tys f H.size g.2.2.2.1 a0_ ma0_ ka0_) (cwV 0 hts (gV_ t_1199 t_1201 t_16 t_190 t_1202) rfl rfl rfl (by decide +kernel) ⟨(Nat.le_of_ble_eq_true rfl), (Nat.le_of_ble_eq_true rfl)⟩) (pre3V g hK ma0_ ka0_ (by decide) (q := (RX0, TX0, 14)) rfl) rfl rfl hl.1 rfl (lv_room (Nat.le_of_ble_eq_true rfl)) dX0_closeParts_91 ⟨(Nat.le_of_ble_eq_true rfl), (Nat.le_of_ble_eq_true rfl)⟩) g hK (by decide) (by decide) (fx' := [(0, 8, a0_, .int y_13), (0, 3, a0_, .ref a_12), (0, 0, a0_, .ref q0_), (0, 2, a0_, .ref q1_)]) rfl (fun r_20 fr_20 H locs hp hMr_20 g => ?_)
              obtain ⟨x_21, h_22, hF_23⟩ := hp
              have g := g.more hF_23
              refine lv_istore (lv' := [(6, .int r_20), (2, .int 1), (5, .int 1), (4, .int x_15), (3, .int v4_3), (0, .ref a0_), (1, .int x1_)]) hx hb dX0_closeParts_94 hl (by decide) rfl (fun ls hl => ?_)
              refine lv_iload hx hb dX0_closeParts_96 (lv_at hl 2 rfl) ?_
              refine lv_if_eq (tgt := 136) hx hb dX0_closeParts_98 (by decide) (fun c_ => absurd c_ (by decide)) (fun c_ => ?_)
              refine lv_aload_n hx hb dX0_closeParts_101 rfl (lv_at hl 5 rfl) ?_
              refine lv_dup hx hb dX0_closeParts_102 rfl ?_
              refine g_geti (C := RX0) (T := TX0) (N := 14) hx hb hts (mc_ inX0) hown hK g ma0_ ka0_ (by decide) rfl 11 (by decide) rfl (hts _ (List.mem_cons_of_mem _ t_384)) (fun _ h9 => h9) rfl dX0_closeParts_103 (fun x_24 bx_24 g => ?_)
              refine lv_iconst (v := 1) hx hb dX0_closeParts_106 (by decide) ?_
              refine lv_isub hx hb dX0_closeParts_107 ?_
              refine lv_topi (fun y_25 ey_25 => ?_)
              refine g_put (C := RX0) (T := TX0) (N := 14) hx hb hts (mc_ inX0) tyX0 tyX0_ok nmX0 hown hK g ma0_ ka0_ (by decide) rfl 11 (by decide) (hts _ (List.mem_cons_of_mem _ t_384)) (fun _ h9 => h9) rfl rfl (okV_i (bdT y_25)) rfl rfl (by decide) (Or.inr (Or.inl (by decide))) (fx' := [(0, 10, a0_, .int x_21), (0, 8, a0_, .int y_13), (0, 3, a0_, .ref a_12), (0, 0, a0_, .ref q0_), (0, 2, a0_, .ref q1_)]) rfl dX0_closeParts_108 (fun f H locs hM_26 g => ?_)
              refine lv_aload_n hx hb dX0_closeParts_111 rfl (lv_at hl 5 rfl) ?_
              refine g_getk (C := RX0) (T := TX0) (N := 14) hx hb hts (mc_ inX0) hown hK g rfl 2 (by decide) rfl (hts _ (List.mem_cons_of_mem _ t_375)) (fun _ h9 => h9) 5 rfl dX0_closeParts_112 ?_
              refine lv_iload hx hb dX0_closeParts_115 (lv_at hl 3 rfl) ?_
              refine lv_bipush (v := 6) hx hb dX0_closeParts_117 (by decide) ?_
              refine lv_icmp_ne (tgt := 127) hx hb dX0_closeParts_119 (by decide) (fun c_27 => ?_) (fun c_27 => ?_)
              · have fc_27 := neq_f c_27
                have b_28 : bd 7 5 x_15 := neX fc_27 b_17 kb_6 (by decide)
                exact bd_no b_28 (by decide)
              · have fc_27 := eq_f c_27
                refine lv_bipush (v := 6) hx hb dX0_closeParts_122 (by decide) ?_
                refine lv_goto (tgt := 129) hx hb dX0_closeParts_124 (by decide) ?_
                refine lv_iconst (v := 0) hx hb dX0_closeParts_129 (by decide) ?_
                refine g_callv (va_runV (As := [.int 6, .int 0]) (rest := []) ⟨hx, hb, hml, hown, hts⟩ (r_X7_emit l dC dI L kd tys f H.size g.2.2.2.1 q1_ mq1_ kq1_ 6 0) (cwV 2 hts (gV_ t_1203 t_1204 t_1205 t_191 t_1206) rfl rfl rfl (by decide +kernel) ⟨(Nat.le_of_ble_eq_true rfl), (Nat.le_of_ble_eq_true rfl)⟩) (pre3V g hK mq1_ kq1_ (by decide) (q := (RX7, TX7, 19)) rfl) rfl rfl hl.1 rfl (lv_room (Nat.le_of_ble_eq_true rfl)) dX0_closeParts_130 ⟨(Nat.le_of_ble_eq_true rfl), (Nat.le_of_ble_eq_true rfl)⟩) g hK (by decide) (by decide) (fx' := [(0, 11, a0_, .int y_25), (0, 10, a0_, .int x_21), (0, 8, a0_, .int y_13), (0, 3, a0_, .ref a_12), (0, 0, a0_, .ref q0_), (0, 2, a0_, .ref q1_)]) rfl (fun fr_29 H locs hp hMr_29 g => ?_)
                obtain ⟨x_30, h_31, hF_32⟩ := hp
                have g := g.more hF_32
                refine lv_goto (tgt := 191) hx hb dX0_closeParts_133 (by decide) ?_
                refine lv_iconst (v := 1) hx hb dX0_closeParts_191 (by decide) ?_
                refine lv_iload hx hb dX0_closeParts_192 (lv_at hl 2 rfl) ?_
                refine lv_if_eq (tgt := 202) hx hb dX0_closeParts_194 (by decide) (fun c_ => absurd c_ (by decide)) (fun c_ => ?_)
                refine lv_iload hx hb dX0_closeParts_197 (lv_at hl 0 rfl) ?_
                refine lv_goto (tgt := 211) hx hb dX0_closeParts_199 (by decide) ?_
                refine lv_iadd hx hb dX0_closeParts_211 ?_
                refine lv_topi (fun y_33 ey_33 => ?_)
                refine lv_istore (lv' := [(6, .int y_33), (2, .int 1), (5, .int 1), (4, .int x_15), (3, .int v4_3), (0, .ref a0_), (1, .int x1_)]) hx hb dX0_closeParts_212 hl (by decide) rfl (fun ls hl => ?_)
                refine lv_aload_n hx hb dX0_closeParts_214 rfl (lv_at hl 5 rfl) ?_
                refine lv_iload hx hb dX0_closeParts_215 (lv_at hl 0 rfl) ?_
                refine g_callv (va_runV (As := [.int y_33]) (rest := []) ⟨hx, hb, hml, hown, hts⟩ (r_X0_addWhole l dC dI L kd tys fr_29 H.size g.2.2.2.1 a0_ ma0_ ka0_ y_33) (cwV 1 hts (gV_ t_1211 t_1213 t_17 t_190 t_1214) rfl rfl rfl (by decide +kernel) ⟨(Nat.le_of_ble_eq_true rfl), (Nat.le_of_ble_eq_true rfl)⟩) (pre3V g hK ma0_ ka0_ (by decide) (q := (RX0, TX0, 14)) rfl) rfl rfl hl.1 rfl (lv_room (Nat.le_of_ble_eq_true rfl)) dX0_closeParts_217 ⟨(Nat.le_of_ble_eq_true rfl), (Nat.le_of_ble_eq_true rfl)⟩) g hK (by decide) (by decide) (fx' := [(7, 6, q1_, .int x_30), (0, 11, a0_, .int y_25), (0, 8, a0_, .int y_13), (0, 3, a0_, .ref a_12), (0, 0, a0_, .ref q0_), (0, 2, a0_, .ref q1_)]) rfl (fun fr_34 H locs hp hMr_34 g => ?_)
                obtain ⟨x_35, h_36, hF_37⟩ := hp
                have g := g.more hF_37
                refine lv_iload hx hb dX0_closeParts_220 (lv_at hl 0 rfl) ?_
                refine lv_bipush (v := 12) hx hb dX0_closeParts_222 (by decide) ?_
                have kb_12 : bd 12 12 (12 : Int32) := ⟨by decide, by decide⟩
                refine lv_icmp_le (tgt := 245) hx hb dX0_closeParts_224 (by decide) (fun c_38 => ?_) (fun c_38 => ?_)
                · have fc_38 := le_f c_38
                  have b_39 : bd (-2147483648) 12 y_33 := leL fc_38 (bdT y_33) kb_12 (by decide)
                  obtain ⟨y_40, ey_40⟩ : ∃ z : Int32, z = v4_3 + 1 := ⟨_, rfl⟩
                  refine lv_iinc (v := y_40) (lv' := [(3, .int y_40), (6, .int y_33), (2, .int 1), (5, .int 1), (4, .int x_15), (0, .ref a0_), (1, .int x1_)]) hx hb dX0_closeParts_245 hl (k := 4) rfl (by rw [ey_40]; rfl) (by decide) rfl (fun ls hl => ?_)
                  have ty_40 := add_bd ey_40 b_4 kb_1 (by decide)
                  have b_41 : bd 1 300 y_40 := add_rg ty_40 b_4 kb_1 (by decide)
                  refine lv_goto (tgt := 4) hx hb dX0_closeParts_248 (by decide) ?_
                  have hl9 := lv_sub hl [0, 2, 5, 6] (by rfl : lv_pick [(3, .int y_40), (6, .int y_33), (2, .int 1), (5, .int 1), (4, .int x_15), (0, .ref a0_), (1, .int x1_)] [0, 2, 5, 6] = [(3, .int y_40), (2, .int 1), (0, .ref a0_), (1, .int x1_)])
                  have g9 := g.sub (fx' := [(0, 0, a0_, .ref q0_), (0, 2, a0_, .ref q1_)]) [6, 7] rfl
                  exact ih4  y_40 1 (bd_sub b_41 (by decide)) (bd_sub kb_1 (by decide)) (by have h9_0 := b_41; unfold bd at h9_0; have h9_1 := bv4_2; unfold bd at h9_1; have h9_2 := bv4_3; unfold bd at h9_2; have h9_3 := kb_0; unfold bd at h9_3; have h9_4 := kb_1; unfold bd at h9_4; have h9_5 := kb_12; unfold bd at h9_5; have h9_6 := kb_300; unfold bd at h9_6; have h9_7 := kb_6; unfold bd at h9_7; omega) _ _ _ _ g9  hl9
                · have fc_38 := nle_f c_38
                  have b_42 : bd 13 2147483647 y_33 := ltR fc_38 kb_12 (bdT y_33) (by decide)
                  refine lv_aload_n hx hb dX0_closeParts_227 rfl (lv_at hl 5 rfl) ?_
                  refine g_getk (C := RX0) (T := TX0) (N := 14) hx hb hts (mc_ inX0) hown hK g rfl 0 (by decide) rfl (hts _ (List.mem_cons_of_mem _ t_373)) (fun _ h9 => h9) 6 rfl dX0_closeParts_228 ?_
                  refine lv_bipush (v := 7) hx hb dX0_closeParts_231 (by decide) ?_
                  refine lv_aload_n hx hb dX0_closeParts_233 rfl (lv_at hl 5 rfl) ?_
                  refine g_getr (K := 111) (C := RX0) (T := TX0) (N := 14) hx hb hts (mc_ inX0) hown hK g ma0_ ka0_ (by decide) rfl 4 (by decide) rfl (hts _ (List.mem_cons_of_mem _ t_377)) (fun _ h9 => h9) rfl dX0_closeParts_234 (fun a_43 ma_43 ka_43 g => ?_)
                  refine lv_aload_n hx hb dX0_closeParts_237 rfl (lv_at hl 5 rfl) ?_
                  refine g_getk (C := RX0) (T := TX0) (N := 14) hx hb hts (mc_ inX0) hown hK g rfl 8 (by decide) rfl (hts _ (List.mem_cons_of_mem _ t_381)) (fun _ h9 => h9) 5 rfl dX0_closeParts_238 ?_
                  refine g_iald hx hb hK g ma_43 ka_43 (by decide) rfl (in_bd b_14 (by decide)) dX0_closeParts_241 (fun x_44 bx_44 cx_44 => ?_)
                  have kb_7 : bd 7 7 (7 : Int32) := ⟨by decide, by decide⟩
                  refine g_callv (va_runV (As := [.int 7, .int x_44]) (rest := []) ⟨hx, hb, hml, hown, hts⟩ (r_X8_fail_11 l dC dI L kd tys fr_34 H.size g.2.2.2.1 q0_ mq0_ kq0_ 7 kb_7 x_44) (cwV 2 hts (gV_ t_1215 t_1107 t_1108 t_184 t_1109) rfl rfl rfl (by decide +kernel) ⟨(Nat.le_of_ble_eq_true rfl), (Nat.le_of_ble_eq_true rfl)⟩) (pre3V g hK mq0_ kq0_ (by decide) (q := (RX8, TX8, 10)) rfl) rfl rfl hl.1 rfl (lv_room (Nat.le_of_ble_eq_true rfl)) dX0_closeParts_242 ⟨(Nat.le_of_ble_eq_true rfl), (Nat.le_of_ble_eq_true rfl)⟩) g hK (by decide) (by decide) (fx' := [(0, 4, a0_, .ref a_43), (0, 12, a0_, .int 0), (0, 10, a0_, .int x_35), (7, 6, q1_, .int x_30), (0, 11, a0_, .int y_25), (0, 8, a0_, .int y_13), (0, 3, a0_, .ref a_12), (0, 0, a0_, .ref q0_), (0, 2, a0_, .ref q1_)]) rfl (fun fr_45 H locs hp hMr_45 g => ?_)
                  obtain ⟨x_46, h_47, hF_48⟩ := hp
                  have g := g.more hF_48
                  obtain ⟨y_49, ey_49⟩ : ∃ z : Int32, z = v4_3 + 1 := ⟨_, rfl⟩
                  refine lv_iinc (v := y_49) (lv' := [(3, .int y_49), (6, .int y_33), (2, .int 1), (5, .int 1), (4, .int x_15), (0, .ref a0_), (1, .int x1_)]) hx hb dX0_closeParts_245 hl (k := 4) rfl (by rw [ey_49]; rfl) (by decide) rfl (fun ls hl => ?_)
                  have ty_49 := add_bd ey_49 b_4 kb_1 (by decide)
                  have b_50 : bd 1 300 y_49 := add_rg ty_49 b_4 kb_1 (by decide)
                  refine lv_goto (tgt := 4) hx hb dX0_closeParts_248 (by decide) ?_
                  have hl9 := lv_sub hl [0, 2, 5, 6] (by rfl : lv_pick [(3, .int y_49), (6, .int y_33), (2, .int 1), (5, .int 1), (4, .int x_15), (0, .ref a0_), (1, .int x1_)] [0, 2, 5, 6] = [(3, .int y_49), (2, .int 1), (0, .ref a0_), (1, .int x1_)])
                  have g9 := g.sub (fx' := [(0, 0, a0_, .ref q0_), (0, 2, a0_, .ref q1_)]) [9, 10] rfl
                  exact ih4  y_49 1 (bd_sub b_50 (by decide)) (bd_sub kb_1 (by decide)) (by have h9_0 := b_50; unfold bd at h9_0; have h9_1 := bv4_2; unfold bd at h9_1; have h9_2 := bv4_3; unfold bd at h9_2; have h9_3 := kb_0; unfold bd at h9_3; have h9_4 := kb_1; unfold bd at h9_4; have h9_5 := kb_12; unfold bd at h9_5; have h9_6 := kb_300; unfold bd at h9_6; have h9_7 := kb_6; unfold bd at h9_7; have h9_8 := kb_7; unfold bd at h9_8; omega) _ _ _ _ g9  hl9
            · have fc_16 := neq_f c_16
              refine lv_iload hx hb dX0_closeParts_42 (lv_at hl 0 rfl) ?_
              refine lv_bipush (v := 7) hx hb dX0_closeParts_44 (by decide) ?_
              have kb_7 : bd 7 7 (7 : Int32) := ⟨by decide, by decide⟩
              refine lv_icmp_ne (tgt := 53) hx hb dX0_closeParts_46 (by decide) (fun c_51 => ?_) (fun c_51 => ?_)
              · have fc_51 := neq_f c_51
                refine lv_iconst (v := 0) hx hb dX0_closeParts_53 (by decide) ?_
                refine lv_istore (lv' := [(5, .int 0), (4, .int x_15), (3, .int v4_3), (2, .int v4_2), (0, .ref a0_), (1, .int x1_)]) hx hb dX0_closeParts_54 hl (by decide) rfl (fun ls hl => ?_)
                refine lv_iload hx hb dX0_closeParts_56 (lv_at hl 0 rfl) ?_
                refine lv_if_ne (tgt := 70) hx hb dX0_closeParts_58 (by decide) (fun c_ => absurd c_ (by decide)) (fun c_ => ?_)
                refine lv_iload hx hb dX0_closeParts_61 (lv_at hl 1 rfl) ?_
                refine g_calli (va_runS (As := [.int x_15]) (rest := []) ⟨hx, hb, hml, hown, hts⟩ (r_X0_levelOf l dC dI L kd tys f H.size g.2.2.2.1 x_15) (va_cwS 1 hts (gS_ t_1191 t_1192 t_190 t_1193) rfl rfl rfl (by decide +kernel) ⟨(Nat.le_of_ble_eq_true rfl), (Nat.le_of_ble_eq_true rfl)⟩) (pre3S g hK) rfl rfl hl.1 rfl (lv_room (Nat.le_of_ble_eq_true rfl)) dX0_closeParts_63 ⟨(Nat.le_of_ble_eq_true rfl), (Nat.le_of_ble_eq_true rfl)⟩) g hK (by decide) (by decide) (fx' := [(0, 3, a0_, .ref a_12), (0, 8, a0_, .int x_8), (0, 0, a0_, .ref q0_), (0, 2, a0_, .ref q1_)]) rfl (fun r_52 fr_52 H locs hp hMr_52 g => ?_)
                obtain ⟨h_53, -⟩ := hp
                refine lv_iload_n hx hb dX0_closeParts_66 rfl (lv_at hl 5 rfl) ?_
                refine lv_icmp_lt (tgt := 74) hx hb dX0_closeParts_67 (by decide) (fun c_54 => ?_) (fun c_54 => ?_)
                · have fc_54 := lt_f c_54
                  have b_55 : bd 1 2147483647 x1_ := ltR fc_54 h_53 (bdT x1_) (by decide)
                  refine lv_iconst (v := 0) hx hb dX0_closeParts_74 (by decide) ?_
                  refine lv_istore_n (lv' := [(2, .int 0), (5, .int 0), (4, .int x_15), (3, .int v4_3), (0, .ref a0_), (1, .int x1_)]) hx hb dX0_closeParts_75 rfl hl (by decide) rfl (fun ls hl => ?_)
                  refine lv_iload_n hx hb dX0_closeParts_76 rfl (lv_at hl 0 rfl) ?_
                  refine lv_if_eq (tgt := 245) hx hb dX0_closeParts_77 (by decide) (fun c_ => ?_) (fun c_ => absurd (by decide) c_)
                  obtain ⟨y_56, ey_56⟩ : ∃ z : Int32, z = v4_3 + 1 := ⟨_, rfl⟩
                  refine lv_iinc (v := y_56) (lv' := [(3, .int y_56), (2, .int 0), (5, .int 0), (4, .int x_15), (0, .ref a0_), (1, .int x1_)]) hx hb dX0_closeParts_245 hl (k := 3) rfl (by rw [ey_56]; rfl) (by decide) rfl (fun ls hl => ?_)
                  have ty_56 := add_bd ey_56 b_4 kb_1 (by decide)
                  have b_57 : bd 1 300 y_56 := add_rg ty_56 b_4 kb_1 (by decide)
                  refine lv_goto (tgt := 4) hx hb dX0_closeParts_248 (by decide) ?_
                  have hl9 := lv_sub hl [0, 1, 4, 5] (by rfl : lv_pick [(3, .int y_56), (2, .int 0), (5, .int 0), (4, .int x_15), (0, .ref a0_), (1, .int x1_)] [0, 1, 4, 5] = [(3, .int y_56), (2, .int 0), (0, .ref a0_), (1, .int x1_)])
                  have g9 := g.sub (fx' := [(0, 0, a0_, .ref q0_), (0, 2, a0_, .ref q1_)]) [2, 3] rfl
                  exact ih4  y_56 0 (bd_sub b_57 (by decide)) (bd_sub kb_0 (by decide)) (by have h9_0 := b_57; unfold bd at h9_0; have h9_1 := bv4_2; unfold bd at h9_1; have h9_2 := bv4_3; unfold bd at h9_2; have h9_3 := kb_0; unfold bd at h9_3; have h9_4 := kb_1; unfold bd at h9_4; have h9_5 := kb_300; unfold bd at h9_5; have h9_6 := kb_6; unfold bd at h9_6; have h9_7 := kb_7; unfold bd at h9_7; omega) _ _ _ _ g9  hl9
                · have fc_54 := nlt_f c_54
                  have b_58 : bd (-2147483648) 5 x1_ := leL fc_54 (bdT x1_) h_53 (by decide)
                  refine lv_iconst (v := 1) hx hb dX0_closeParts_70 (by decide) ?_
                  refine lv_goto (tgt := 75) hx hb dX0_closeParts_71 (by decide) ?_
                  refine lv_istore_n (lv' := [(2, .int 1), (5, .int 0), (4, .int x_15), (3, .int v4_3), (0, .ref a0_), (1, .int x1_)]) hx hb dX0_closeParts_75 rfl hl (by decide) rfl (fun ls hl => ?_)
                  refine lv_iload_n hx hb dX0_closeParts_76 rfl (lv_at hl 0 rfl) ?_
                  refine lv_if_eq (tgt := 245) hx hb dX0_closeParts_77 (by decide) (fun c_ => absurd c_ (by decide)) (fun c_ => ?_)
                  refine lv_aload_n hx hb dX0_closeParts_80 rfl (lv_at hl 4 rfl) ?_
                  refine lv_dup hx hb dX0_closeParts_81 rfl ?_
                  refine g_getk (C := RX0) (T := TX0) (N := 14) hx hb hts (mc_ inX0) hown hK g rfl 8 (by decide) rfl (hts _ (List.mem_cons_of_mem _ t_381)) (fun _ h9 => h9) 1 rfl dX0_closeParts_82 ?_
                  refine lv_iconst (v := 1) hx hb dX0_closeParts_85 (by decide) ?_
                  refine lv_isub hx hb dX0_closeParts_86 ?_
                  refine lv_topi (fun y_59 ey_59 => ?_)
                  obtain rfl : y_13 = y_59 := ey_13.trans ey_59.symm
                  refine g_put (C := RX0) (T := TX0) (N := 14) hx hb hts (mc_ inX0) tyX0 tyX0_ok nmX0 hown hK g ma0_ ka0_ (by decide) rfl 8 (by decide) (hts _ (List.mem_cons_of_mem _ t_381)) (fun _ h9 => h9) rfl rfl (okV_i (bd_sub b_14 (by decide))) rfl rfl (by decide) (Or.inr (Or.inl (by decide))) (fx' := [(0, 3, a0_, .ref a_12), (0, 0, a0_, .ref q0_), (0, 2, a0_, .ref q1_)]) rfl dX0_closeParts_87 (fun f H locs hM_60 g => ?_)
                  refine lv_aload_n hx hb dX0_closeParts_90 rfl (lv_at hl 4 rfl) ?_
                  refine g_calli (va_runV (As := []) (rest := []) ⟨hx, hb, hml, hown, hts⟩ (r_X0_takeHeight l dC dI L kd tys f H.size g.2.2.2.1 a0_ ma0_ ka0_) (cwV 0 hts (gV_ t_1199 t_1201 t_16 t_190 t_1202) rfl rfl rfl (by decide +kernel) ⟨(Nat.le_of_ble_eq_true rfl), (Nat.le_of_ble_eq_true rfl)⟩) (pre3V g hK ma0_ ka0_ (by decide) (q := (RX0, TX0, 14)) rfl) rfl rfl hl.1 rfl (lv_room (Nat.le_of_ble_eq_true rfl)) dX0_closeParts_91 ⟨(Nat.le_of_ble_eq_true rfl), (Nat.le_of_ble_eq_true rfl)⟩) g hK (by decide) (by decide) (fx' := [(0, 8, a0_, .int y_13), (0, 3, a0_, .ref a_12), (0, 0, a0_, .ref q0_), (0, 2, a0_, .ref q1_)]) rfl (fun r_61 fr_61 H locs hp hMr_61 g => ?_)
                  obtain ⟨x_62, h_63, hF_64⟩ := hp
                  have g := g.more hF_64
                  refine lv_istore (lv' := [(6, .int r_61), (2, .int 1), (5, .int 0), (4, .int x_15), (3, .int v4_3), (0, .ref a0_), (1, .int x1_)]) hx hb dX0_closeParts_94 hl (by decide) rfl (fun ls hl => ?_)
                  refine lv_iload hx hb dX0_closeParts_96 (lv_at hl 2 rfl) ?_
                  refine lv_if_eq (tgt := 136) hx hb dX0_closeParts_98 (by decide) (fun c_ => ?_) (fun c_ => absurd (by decide) c_)
                  refine lv_iload hx hb dX0_closeParts_136 (lv_at hl 3 rfl) ?_
                  refine lv_sipush (v := 205) hx hb dX0_closeParts_138 (by decide) ?_
                  have kb_205 : bd 205 205 (205 : Int32) := ⟨by decide, by decide⟩
                  refine lv_icmp_eq (tgt := 152) hx hb dX0_closeParts_141 (by decide) (fun c_65 => ?_) (fun c_65 => ?_)
                  · have fc_65 := eq_f c_65
                    have b_66 : bd 205 205 x_15 := eqX fc_65 (bdT x_15) kb_205 (by decide)
                    refine lv_aload_n hx hb dX0_closeParts_152 rfl (lv_at hl 5 rfl) ?_
                    refine g_getk (C := RX0) (T := TX0) (N := 14) hx hb hts (mc_ inX0) hown hK g rfl 2 (by decide) rfl (hts _ (List.mem_cons_of_mem _ t_375)) (fun _ h9 => h9) 4 rfl dX0_closeParts_153 ?_
                    refine lv_bipush (v := 8) hx hb dX0_closeParts_156 (by decide) ?_
                    refine lv_iconst (v := 0) hx hb dX0_closeParts_158 (by decide) ?_
                    refine g_callv (va_runV (As := [.int 8, .int 0]) (rest := []) ⟨hx, hb, hml, hown, hts⟩ (r_X7_emit l dC dI L kd tys fr_61 H.size g.2.2.2.1 q1_ mq1_ kq1_ 8 0) (cwV 2 hts (gV_ t_1203 t_1204 t_1205 t_191 t_1206) rfl rfl rfl (by decide +kernel) ⟨(Nat.le_of_ble_eq_true rfl), (Nat.le_of_ble_eq_true rfl)⟩) (pre3V g hK mq1_ kq1_ (by decide) (q := (RX7, TX7, 19)) rfl) rfl rfl hl.1 rfl (lv_room (Nat.le_of_ble_eq_true rfl)) dX0_closeParts_159 ⟨(Nat.le_of_ble_eq_true rfl), (Nat.le_of_ble_eq_true rfl)⟩) g hK (by decide) (by decide) (fx' := [(0, 10, a0_, .int x_62), (0, 8, a0_, .int y_13), (0, 3, a0_, .ref a_12), (0, 0, a0_, .ref q0_), (0, 2, a0_, .ref q1_)]) rfl (fun fr_67 H locs hp hMr_67 g => ?_)
                    obtain ⟨x_68, h_69, hF_70⟩ := hp
                    have g := g.more hF_70
                    refine lv_aload_n hx hb dX0_closeParts_162 rfl (lv_at hl 5 rfl) ?_
                    refine g_getk (C := RX0) (T := TX0) (N := 14) hx hb hts (mc_ inX0) hown hK g rfl 2 (by decide) rfl (hts _ (List.mem_cons_of_mem _ t_375)) (fun _ h9 => h9) 5 rfl dX0_closeParts_163 ?_
                    refine lv_aload_n hx hb dX0_closeParts_166 rfl (lv_at hl 5 rfl) ?_
                    refine g_getr (K := 112) (C := RX0) (T := TX0) (N := 14) hx hb hts (mc_ inX0) hown hK g ma0_ ka0_ (by decide) rfl 5 (by decide) rfl (hts _ (List.mem_cons_of_mem _ t_378)) (fun _ h9 => h9) rfl dX0_closeParts_167 (fun a_71 ma_71 ka_71 g => ?_)
                    refine lv_aload_n hx hb dX0_closeParts_170 rfl (lv_at hl 5 rfl) ?_
                    refine g_getk (C := RX0) (T := TX0) (N := 14) hx hb hts (mc_ inX0) hown hK g rfl 8 (by decide) rfl (hts _ (List.mem_cons_of_mem _ t_381)) (fun _ h9 => h9) 3 rfl dX0_closeParts_171 ?_
                    refine g_iald hx hb hK g ma_71 ka_71 (by decide) rfl (in_bd b_14 (by decide)) dX0_closeParts_174 (fun x_72 bx_72 cx_72 => ?_)
                    refine g_callv (va_runV (As := [.int x_72]) (rest := []) ⟨hx, hb, hml, hown, hts⟩ (r_X7_leadHere l dC dI L kd tys fr_67 H.size g.2.2.2.1 q1_ mq1_ kq1_ x_72) (cwV 1 hts (gV_ t_1207 t_1208 t_1209 t_191 t_1210) rfl rfl rfl (by decide +kernel) ⟨(Nat.le_of_ble_eq_true rfl), (Nat.le_of_ble_eq_true rfl)⟩) (pre3V g hK mq1_ kq1_ (by decide) (q := (RX7, TX7, 19)) rfl) rfl rfl hl.1 rfl (lv_room (Nat.le_of_ble_eq_true rfl)) dX0_closeParts_175 ⟨(Nat.le_of_ble_eq_true rfl), (Nat.le_of_ble_eq_true rfl)⟩) g hK (by decide) (by decide) (fx' := [(0, 5, a0_, .ref a_71), (7, 6, q1_, .int x_68), (0, 10, a0_, .int x_62), (0, 8, a0_, .int y_13), (0, 3, a0_, .ref a_12), (0, 0, a0_, .ref q0_), (0, 2, a0_, .ref q1_)]) rfl (fun fr_73 H locs hp hMr_73 g => ?_)
                    refine lv_goto (tgt := 191) hx hb dX0_closeParts_178 (by decide) ?_
                    refine lv_iconst (v := 1) hx hb dX0_closeParts_191 (by decide) ?_
                    refine lv_iload hx hb dX0_closeParts_192 (lv_at hl 2 rfl) ?_
                    refine lv_if_eq (tgt := 202) hx hb dX0_closeParts_194 (by decide) (fun c_ => ?_) (fun c_ => absurd (by decide) c_)
                    refine lv_iload hx hb dX0_closeParts_202 (lv_at hl 0 rfl) ?_
                    refine lv_aload_n hx hb dX0_closeParts_204 rfl (lv_at hl 5 rfl) ?_
                    refine g_calli (va_runV (As := []) (rest := [.int r_61, .int 1]) ⟨hx, hb, hml, hown, hts⟩ (r_X0_takeHeight l dC dI L kd tys fr_73 H.size g.2.2.2.1 a0_ ma0_ ka0_) (cwV 0 hts (gV_ t_1199 t_1201 t_16 t_190 t_1202) rfl rfl rfl (by decide +kernel) ⟨(Nat.le_of_ble_eq_true rfl), (Nat.le_of_ble_eq_true rfl)⟩) (pre3V g hK ma0_ ka0_ (by decide) (q := (RX0, TX0, 14)) rfl) rfl rfl hl.1 rfl (lv_room (Nat.le_of_ble_eq_true rfl)) dX0_closeParts_205 ⟨(Nat.le_of_ble_eq_true rfl), (Nat.le_of_ble_eq_true rfl)⟩) g hK (by decide) (by decide) (fx' := [(0, 5, a0_, .ref a_71), (7, 6, q1_, .int x_68), (0, 8, a0_, .int y_13), (0, 3, a0_, .ref a_12), (0, 0, a0_, .ref q0_), (0, 2, a0_, .ref q1_)]) rfl (fun r_74 fr_74 H locs hp hMr_74 g => ?_)
                    obtain ⟨x_75, h_76, hF_77⟩ := hp
                    have g := g.more hF_77
                    refine va_mmax hx hb (hml.trans hl.1.symm) hown (hts _ (List.mem_cons_of_mem _ t_1194)) (hts _ (List.mem_cons_of_mem _ t_1041)) (hts _ (List.mem_cons_of_mem _ t_204)) (hts _ (List.mem_cons_of_mem _ t_1042)) (Nat.le_of_ble_eq_true rfl) (Nat.le_of_ble_eq_true rfl) (Nat.le_of_ble_eq_true rfl) (Nat.le_of_ble_eq_true rfl) dX0_closeParts_208 ?_
                    refine lv_topi (fun y_78 ey_78 => ?_)
                    have ty_78 : y_78.toInt = max r_61.toInt r_74.toInt := by rw [ey_78]; exact mmax_ok _ _
                    have b_79 : bd (-2147483648) 2147483647 y_78 := max_rg ty_78 (bdT r_61) (bdT r_74) (by decide)
                    refine lv_iadd hx hb dX0_closeParts_211 ?_
                    refine lv_topi (fun y_80 ey_80 => ?_)
                    refine lv_istore (lv' := [(6, .int y_80), (2, .int 1), (5, .int 0), (4, .int x_15), (3, .int v4_3), (0, .ref a0_), (1, .int x1_)]) hx hb dX0_closeParts_212 hl (by decide) rfl (fun ls hl => ?_)
                    refine lv_aload_n hx hb dX0_closeParts_214 rfl (lv_at hl 5 rfl) ?_
                    refine lv_iload hx hb dX0_closeParts_215 (lv_at hl 0 rfl) ?_
                    refine g_callv (va_runV (As := [.int y_80]) (rest := []) ⟨hx, hb, hml, hown, hts⟩ (r_X0_addWhole l dC dI L kd tys fr_74 H.size g.2.2.2.1 a0_ ma0_ ka0_ y_80) (cwV 1 hts (gV_ t_1211 t_1213 t_17 t_190 t_1214) rfl rfl rfl (by decide +kernel) ⟨(Nat.le_of_ble_eq_true rfl), (Nat.le_of_ble_eq_true rfl)⟩) (pre3V g hK ma0_ ka0_ (by decide) (q := (RX0, TX0, 14)) rfl) rfl rfl hl.1 rfl (lv_room (Nat.le_of_ble_eq_true rfl)) dX0_closeParts_217 ⟨(Nat.le_of_ble_eq_true rfl), (Nat.le_of_ble_eq_true rfl)⟩) g hK (by decide) (by decide) (fx' := [(0, 5, a0_, .ref a_71), (7, 6, q1_, .int x_68), (0, 8, a0_, .int y_13), (0, 3, a0_, .ref a_12), (0, 0, a0_, .ref q0_), (0, 2, a0_, .ref q1_)]) rfl (fun fr_81 H locs hp hMr_81 g => ?_)
                    obtain ⟨x_82, h_83, hF_84⟩ := hp
                    have g := g.more hF_84
                    refine lv_iload hx hb dX0_closeParts_220 (lv_at hl 0 rfl) ?_
                    refine lv_bipush (v := 12) hx hb dX0_closeParts_222 (by decide) ?_
                    have kb_12 : bd 12 12 (12 : Int32) := ⟨by decide, by decide⟩
                    refine lv_icmp_le (tgt := 245) hx hb dX0_closeParts_224 (by decide) (fun c_85 => ?_) (fun c_85 => ?_)
                    · have fc_85 := le_f c_85
                      have b_86 : bd (-2147483648) 12 y_80 := leL fc_85 (bdT y_80) kb_12 (by decide)
                      obtain ⟨y_87, ey_87⟩ : ∃ z : Int32, z = v4_3 + 1 := ⟨_, rfl⟩
                      refine lv_iinc (v := y_87) (lv' := [(3, .int y_87), (6, .int y_80), (2, .int 1), (5, .int 0), (4, .int x_15), (0, .ref a0_), (1, .int x1_)]) hx hb dX0_closeParts_245 hl (k := 4) rfl (by rw [ey_87]; rfl) (by decide) rfl (fun ls hl => ?_)
                      have ty_87 := add_bd ey_87 b_4 kb_1 (by decide)
                      have b_88 : bd 1 300 y_87 := add_rg ty_87 b_4 kb_1 (by decide)
                      refine lv_goto (tgt := 4) hx hb dX0_closeParts_248 (by decide) ?_
                      have hl9 := lv_sub hl [0, 2, 5, 6] (by rfl : lv_pick [(3, .int y_87), (6, .int y_80), (2, .int 1), (5, .int 0), (4, .int x_15), (0, .ref a0_), (1, .int x1_)] [0, 2, 5, 6] = [(3, .int y_87), (2, .int 1), (0, .ref a0_), (1, .int x1_)])
                      have g9 := g.sub (fx' := [(0, 0, a0_, .ref q0_), (0, 2, a0_, .ref q1_)]) [6, 7] rfl
                      exact ih4  y_87 1 (bd_sub b_88 (by decide)) (bd_sub kb_1 (by decide)) (by have h9_0 := b_88; unfold bd at h9_0; have h9_1 := bv4_2; unfold bd at h9_1; have h9_2 := bv4_3; unfold bd at h9_2; have h9_3 := kb_0; unfold bd at h9_3; have h9_4 := kb_1; unfold bd at h9_4; have h9_5 := kb_12; unfold bd at h9_5; have h9_6 := kb_205; unfold bd at h9_6; have h9_7 := kb_300; unfold bd at h9_7; have h9_8 := kb_6; unfold bd at h9_8; have h9_9 := kb_7; unfold bd at h9_9; omega) _ _ _ _ g9  hl9
                    · have fc_85 := nle_f c_85
                      have b_89 : bd 13 2147483647 y_80 := ltR fc_85 kb_12 (bdT y_80) (by decide)
                      refine lv_aload_n hx hb dX0_closeParts_227 rfl (lv_at hl 5 rfl) ?_
                      refine g_getk (C := RX0) (T := TX0) (N := 14) hx hb hts (mc_ inX0) hown hK g rfl 0 (by decide) rfl (hts _ (List.mem_cons_of_mem _ t_373)) (fun _ h9 => h9) 6 rfl dX0_closeParts_228 ?_
                      refine lv_bipush (v := 7) hx hb dX0_closeParts_231 (by decide) ?_
                      refine lv_aload_n hx hb dX0_closeParts_233 rfl (lv_at hl 5 rfl) ?_
                      refine g_getr (K := 111) (C := RX0) (T := TX0) (N := 14) hx hb hts (mc_ inX0) hown hK g ma0_ ka0_ (by decide) rfl 4 (by decide) rfl (hts _ (List.mem_cons_of_mem _ t_377)) (fun _ h9 => h9) rfl dX0_closeParts_234 (fun a_90 ma_90 ka_90 g => ?_)
                      refine lv_aload_n hx hb dX0_closeParts_237 rfl (lv_at hl 5 rfl) ?_
                      refine g_getk (C := RX0) (T := TX0) (N := 14) hx hb hts (mc_ inX0) hown hK g rfl 8 (by decide) rfl (hts _ (List.mem_cons_of_mem _ t_381)) (fun _ h9 => h9) 5 rfl dX0_closeParts_238 ?_
                      refine g_iald hx hb hK g ma_90 ka_90 (by decide) rfl (in_bd b_14 (by decide)) dX0_closeParts_241 (fun x_91 bx_91 cx_91 => ?_)
                      refine g_callv (va_runV (As := [.int 7, .int x_91]) (rest := []) ⟨hx, hb, hml, hown, hts⟩ (r_X8_fail_11 l dC dI L kd tys fr_81 H.size g.2.2.2.1 q0_ mq0_ kq0_ 7 kb_7 x_91) (cwV 2 hts (gV_ t_1215 t_1107 t_1108 t_184 t_1109) rfl rfl rfl (by decide +kernel) ⟨(Nat.le_of_ble_eq_true rfl), (Nat.le_of_ble_eq_true rfl)⟩) (pre3V g hK mq0_ kq0_ (by decide) (q := (RX8, TX8, 10)) rfl) rfl rfl hl.1 rfl (lv_room (Nat.le_of_ble_eq_true rfl)) dX0_closeParts_242 ⟨(Nat.le_of_ble_eq_true rfl), (Nat.le_of_ble_eq_true rfl)⟩) g hK (by decide) (by decide) (fx' := [(0, 4, a0_, .ref a_90), (0, 12, a0_, .int 0), (0, 10, a0_, .int x_82), (0, 5, a0_, .ref a_71), (7, 6, q1_, .int x_68), (0, 8, a0_, .int y_13), (0, 3, a0_, .ref a_12), (0, 0, a0_, .ref q0_), (0, 2, a0_, .ref q1_)]) rfl (fun fr_92 H locs hp hMr_92 g => ?_)
                      obtain ⟨x_93, h_94, hF_95⟩ := hp
                      have g := g.more hF_95
                      obtain ⟨y_96, ey_96⟩ : ∃ z : Int32, z = v4_3 + 1 := ⟨_, rfl⟩
                      refine lv_iinc (v := y_96) (lv' := [(3, .int y_96), (6, .int y_80), (2, .int 1), (5, .int 0), (4, .int x_15), (0, .ref a0_), (1, .int x1_)]) hx hb dX0_closeParts_245 hl (k := 4) rfl (by rw [ey_96]; rfl) (by decide) rfl (fun ls hl => ?_)
                      have ty_96 := add_bd ey_96 b_4 kb_1 (by decide)
                      have b_97 : bd 1 300 y_96 := add_rg ty_96 b_4 kb_1 (by decide)
                      refine lv_goto (tgt := 4) hx hb dX0_closeParts_248 (by decide) ?_
                      have hl9 := lv_sub hl [0, 2, 5, 6] (by rfl : lv_pick [(3, .int y_96), (6, .int y_80), (2, .int 1), (5, .int 0), (4, .int x_15), (0, .ref a0_), (1, .int x1_)] [0, 2, 5, 6] = [(3, .int y_96), (2, .int 1), (0, .ref a0_), (1, .int x1_)])
                      have g9 := g.sub (fx' := [(0, 0, a0_, .ref q0_), (0, 2, a0_, .ref q1_)]) [9, 10] rfl
                      exact ih4  y_96 1 (bd_sub b_97 (by decide)) (bd_sub kb_1 (by decide)) (by have h9_0 := b_97; unfold bd at h9_0; have h9_1 := bv4_2; unfold bd at h9_1; have h9_2 := bv4_3; unfold bd at h9_2; have h9_3 := kb_0; unfold bd at h9_3; have h9_4 := kb_1; unfold bd at h9_4; have h9_5 := kb_12; unfold bd at h9_5; have h9_6 := kb_205; unfold bd at h9_6; have h9_7 := kb_300; unfold bd at h9_7; have h9_8 := kb_6; unfold bd at h9_8; have h9_9 := kb_7; unfold bd at h9_9; omega) _ _ _ _ g9  hl9
                  · have fc_65 := neq_f c_65
                    refine lv_iload hx hb dX0_closeParts_144 (lv_at hl 3 rfl) ?_
                    refine lv_sipush (v := 206) hx hb dX0_closeParts_146 (by decide) ?_
                    have kb_206 : bd 206 206 (206 : Int32) := ⟨by decide, by decide⟩
                    refine lv_icmp_ne (tgt := 181) hx hb dX0_closeParts_149 (by decide) (fun c_98 => ?_) (fun c_98 => ?_)
                    · have fc_98 := neq_f c_98
                      refine lv_aload_n hx hb dX0_closeParts_181 rfl (lv_at hl 5 rfl) ?_
                      refine g_getk (C := RX0) (T := TX0) (N := 14) hx hb hts (mc_ inX0) hown hK g rfl 2 (by decide) rfl (hts _ (List.mem_cons_of_mem _ t_375)) (fun _ h9 => h9) 4 rfl dX0_closeParts_182 ?_
                      refine lv_iload hx hb dX0_closeParts_185 (lv_at hl 3 rfl) ?_
                      refine lv_iconst (v := 0) hx hb dX0_closeParts_187 (by decide) ?_
                      refine g_callv (va_runV (As := [.int x_15, .int 0]) (rest := []) ⟨hx, hb, hml, hown, hts⟩ (r_X7_emit l dC dI L kd tys fr_61 H.size g.2.2.2.1 q1_ mq1_ kq1_ x_15 0) (cwV 2 hts (gV_ t_1203 t_1204 t_1205 t_191 t_1206) rfl rfl rfl (by decide +kernel) ⟨(Nat.le_of_ble_eq_true rfl), (Nat.le_of_ble_eq_true rfl)⟩) (pre3V g hK mq1_ kq1_ (by decide) (q := (RX7, TX7, 19)) rfl) rfl rfl hl.1 rfl (lv_room (Nat.le_of_ble_eq_true rfl)) dX0_closeParts_188 ⟨(Nat.le_of_ble_eq_true rfl), (Nat.le_of_ble_eq_true rfl)⟩) g hK (by decide) (by decide) (fx' := [(0, 10, a0_, .int x_62), (0, 8, a0_, .int y_13), (0, 3, a0_, .ref a_12), (0, 0, a0_, .ref q0_), (0, 2, a0_, .ref q1_)]) rfl (fun fr_99 H locs hp hMr_99 g => ?_)
                      obtain ⟨x_100, h_101, hF_102⟩ := hp
                      have g := g.more hF_102
                      refine lv_iconst (v := 1) hx hb dX0_closeParts_191 (by decide) ?_
                      refine lv_iload hx hb dX0_closeParts_192 (lv_at hl 2 rfl) ?_
                      refine lv_if_eq (tgt := 202) hx hb dX0_closeParts_194 (by decide) (fun c_ => ?_) (fun c_ => absurd (by decide) c_)
                      refine lv_iload hx hb dX0_closeParts_202 (lv_at hl 0 rfl) ?_
                      refine lv_aload_n hx hb dX0_closeParts_204 rfl (lv_at hl 5 rfl) ?_
                      refine g_calli (va_runV (As := []) (rest := [.int r_61, .int 1]) ⟨hx, hb, hml, hown, hts⟩ (r_X0_takeHeight l dC dI L kd tys fr_99 H.size g.2.2.2.1 a0_ ma0_ ka0_) (cwV 0 hts (gV_ t_1199 t_1201 t_16 t_190 t_1202) rfl rfl rfl (by decide +kernel) ⟨(Nat.le_of_ble_eq_true rfl), (Nat.le_of_ble_eq_true rfl)⟩) (pre3V g hK ma0_ ka0_ (by decide) (q := (RX0, TX0, 14)) rfl) rfl rfl hl.1 rfl (lv_room (Nat.le_of_ble_eq_true rfl)) dX0_closeParts_205 ⟨(Nat.le_of_ble_eq_true rfl), (Nat.le_of_ble_eq_true rfl)⟩) g hK (by decide) (by decide) (fx' := [(7, 6, q1_, .int x_100), (0, 8, a0_, .int y_13), (0, 3, a0_, .ref a_12), (0, 0, a0_, .ref q0_), (0, 2, a0_, .ref q1_)]) rfl (fun r_103 fr_103 H locs hp hMr_103 g => ?_)
                      obtain ⟨x_104, h_105, hF_106⟩ := hp
                      have g := g.more hF_106
                      refine va_mmax hx hb (hml.trans hl.1.symm) hown (hts _ (List.mem_cons_of_mem _ t_1194)) (hts _ (List.mem_cons_of_mem _ t_1041)) (hts _ (List.mem_cons_of_mem _ t_204)) (hts _ (List.mem_cons_of_mem _ t_1042)) (Nat.le_of_ble_eq_true rfl) (Nat.le_of_ble_eq_true rfl) (Nat.le_of_ble_eq_true rfl) (Nat.le_of_ble_eq_true rfl) dX0_closeParts_208 ?_
                      refine lv_topi (fun y_107 ey_107 => ?_)
                      have ty_107 : y_107.toInt = max r_61.toInt r_103.toInt := by rw [ey_107]; exact mmax_ok _ _
                      have b_108 : bd (-2147483648) 2147483647 y_107 := max_rg ty_107 (bdT r_61) (bdT r_103) (by decide)
                      refine lv_iadd hx hb dX0_closeParts_211 ?_
                      refine lv_topi (fun y_109 ey_109 => ?_)
                      refine lv_istore (lv' := [(6, .int y_109), (2, .int 1), (5, .int 0), (4, .int x_15), (3, .int v4_3), (0, .ref a0_), (1, .int x1_)]) hx hb dX0_closeParts_212 hl (by decide) rfl (fun ls hl => ?_)
                      refine lv_aload_n hx hb dX0_closeParts_214 rfl (lv_at hl 5 rfl) ?_
                      refine lv_iload hx hb dX0_closeParts_215 (lv_at hl 0 rfl) ?_
                      refine g_callv (va_runV (As := [.int y_109]) (rest := []) ⟨hx, hb, hml, hown, hts⟩ (r_X0_addWhole l dC dI L kd tys fr_103 H.size g.2.2.2.1 a0_ ma0_ ka0_ y_109) (cwV 1 hts (gV_ t_1211 t_1213 t_17 t_190 t_1214) rfl rfl rfl (by decide +kernel) ⟨(Nat.le_of_ble_eq_true rfl), (Nat.le_of_ble_eq_true rfl)⟩) (pre3V g hK ma0_ ka0_ (by decide) (q := (RX0, TX0, 14)) rfl) rfl rfl hl.1 rfl (lv_room (Nat.le_of_ble_eq_true rfl)) dX0_closeParts_217 ⟨(Nat.le_of_ble_eq_true rfl), (Nat.le_of_ble_eq_true rfl)⟩) g hK (by decide) (by decide) (fx' := [(7, 6, q1_, .int x_100), (0, 8, a0_, .int y_13), (0, 3, a0_, .ref a_12), (0, 0, a0_, .ref q0_), (0, 2, a0_, .ref q1_)]) rfl (fun fr_110 H locs hp hMr_110 g => ?_)
                      obtain ⟨x_111, h_112, hF_113⟩ := hp
                      have g := g.more hF_113
                      refine lv_iload hx hb dX0_closeParts_220 (lv_at hl 0 rfl) ?_
                      refine lv_bipush (v := 12) hx hb dX0_closeParts_222 (by decide) ?_
                      have kb_12 : bd 12 12 (12 : Int32) := ⟨by decide, by decide⟩
                      refine lv_icmp_le (tgt := 245) hx hb dX0_closeParts_224 (by decide) (fun c_114 => ?_) (fun c_114 => ?_)
                      · have fc_114 := le_f c_114
                        have b_115 : bd (-2147483648) 12 y_109 := leL fc_114 (bdT y_109) kb_12 (by decide)
                        obtain ⟨y_116, ey_116⟩ : ∃ z : Int32, z = v4_3 + 1 := ⟨_, rfl⟩
                        refine lv_iinc (v := y_116) (lv' := [(3, .int y_116), (6, .int y_109), (2, .int 1), (5, .int 0), (4, .int x_15), (0, .ref a0_), (1, .int x1_)]) hx hb dX0_closeParts_245 hl (k := 4) rfl (by rw [ey_116]; rfl) (by decide) rfl (fun ls hl => ?_)
                        have ty_116 := add_bd ey_116 b_4 kb_1 (by decide)
                        have b_117 : bd 1 300 y_116 := add_rg ty_116 b_4 kb_1 (by decide)
                        refine lv_goto (tgt := 4) hx hb dX0_closeParts_248 (by decide) ?_
                        have hl9 := lv_sub hl [0, 2, 5, 6] (by rfl : lv_pick [(3, .int y_116), (6, .int y_109), (2, .int 1), (5, .int 0), (4, .int x_15), (0, .ref a0_), (1, .int x1_)] [0, 2, 5, 6] = [(3, .int y_116), (2, .int 1), (0, .ref a0_), (1, .int x1_)])
                        have g9 := g.sub (fx' := [(0, 0, a0_, .ref q0_), (0, 2, a0_, .ref q1_)]) [5, 6] rfl
                        exact ih4  y_116 1 (bd_sub b_117 (by decide)) (bd_sub kb_1 (by decide)) (by have h9_0 := b_117; unfold bd at h9_0; have h9_1 := bv4_2; unfold bd at h9_1; have h9_2 := bv4_3; unfold bd at h9_2; have h9_3 := kb_0; unfold bd at h9_3; have h9_4 := kb_1; unfold bd at h9_4; have h9_5 := kb_12; unfold bd at h9_5; have h9_6 := kb_205; unfold bd at h9_6; have h9_7 := kb_206; unfold bd at h9_7; have h9_8 := kb_300; unfold bd at h9_8; have h9_9 := kb_6; unfold bd at h9_9; have h9_10 := kb_7; unfold bd at h9_10; omega) _ _ _ _ g9  hl9
                      · have fc_114 := nle_f c_114
                        have b_118 : bd 13 2147483647 y_109 := ltR fc_114 kb_12 (bdT y_109) (by decide)
                        refine lv_aload_n hx hb dX0_closeParts_227 rfl (lv_at hl 5 rfl) ?_
                        refine g_getk (C := RX0) (T := TX0) (N := 14) hx hb hts (mc_ inX0) hown hK g rfl 0 (by decide) rfl (hts _ (List.mem_cons_of_mem _ t_373)) (fun _ h9 => h9) 5 rfl dX0_closeParts_228 ?_
                        refine lv_bipush (v := 7) hx hb dX0_closeParts_231 (by decide) ?_
                        refine lv_aload_n hx hb dX0_closeParts_233 rfl (lv_at hl 5 rfl) ?_
                        refine g_getr (K := 111) (C := RX0) (T := TX0) (N := 14) hx hb hts (mc_ inX0) hown hK g ma0_ ka0_ (by decide) rfl 4 (by decide) rfl (hts _ (List.mem_cons_of_mem _ t_377)) (fun _ h9 => h9) rfl dX0_closeParts_234 (fun a_119 ma_119 ka_119 g => ?_)
                        refine lv_aload_n hx hb dX0_closeParts_237 rfl (lv_at hl 5 rfl) ?_
                        refine g_getk (C := RX0) (T := TX0) (N := 14) hx hb hts (mc_ inX0) hown hK g rfl 8 (by decide) rfl (hts _ (List.mem_cons_of_mem _ t_381)) (fun _ h9 => h9) 4 rfl dX0_closeParts_238 ?_
                        refine g_iald hx hb hK g ma_119 ka_119 (by decide) rfl (in_bd b_14 (by decide)) dX0_closeParts_241 (fun x_120 bx_120 cx_120 => ?_)
                        refine g_callv (va_runV (As := [.int 7, .int x_120]) (rest := []) ⟨hx, hb, hml, hown, hts⟩ (r_X8_fail_11 l dC dI L kd tys fr_110 H.size g.2.2.2.1 q0_ mq0_ kq0_ 7 kb_7 x_120) (cwV 2 hts (gV_ t_1215 t_1107 t_1108 t_184 t_1109) rfl rfl rfl (by decide +kernel) ⟨(Nat.le_of_ble_eq_true rfl), (Nat.le_of_ble_eq_true rfl)⟩) (pre3V g hK mq0_ kq0_ (by decide) (q := (RX8, TX8, 10)) rfl) rfl rfl hl.1 rfl (lv_room (Nat.le_of_ble_eq_true rfl)) dX0_closeParts_242 ⟨(Nat.le_of_ble_eq_true rfl), (Nat.le_of_ble_eq_true rfl)⟩) g hK (by decide) (by decide) (fx' := [(0, 4, a0_, .ref a_119), (0, 12, a0_, .int 0), (0, 10, a0_, .int x_111), (7, 6, q1_, .int x_100), (0, 8, a0_, .int y_13), (0, 3, a0_, .ref a_12), (0, 0, a0_, .ref q0_), (0, 2, a0_, .ref q1_)]) rfl (fun fr_121 H locs hp hMr_121 g => ?_)
                        obtain ⟨x_122, h_123, hF_124⟩ := hp
                        have g := g.more hF_124
                        obtain ⟨y_125, ey_125⟩ : ∃ z : Int32, z = v4_3 + 1 := ⟨_, rfl⟩
                        refine lv_iinc (v := y_125) (lv' := [(3, .int y_125), (6, .int y_109), (2, .int 1), (5, .int 0), (4, .int x_15), (0, .ref a0_), (1, .int x1_)]) hx hb dX0_closeParts_245 hl (k := 4) rfl (by rw [ey_125]; rfl) (by decide) rfl (fun ls hl => ?_)
                        have ty_125 := add_bd ey_125 b_4 kb_1 (by decide)
                        have b_126 : bd 1 300 y_125 := add_rg ty_125 b_4 kb_1 (by decide)
                        refine lv_goto (tgt := 4) hx hb dX0_closeParts_248 (by decide) ?_
                        have hl9 := lv_sub hl [0, 2, 5, 6] (by rfl : lv_pick [(3, .int y_125), (6, .int y_109), (2, .int 1), (5, .int 0), (4, .int x_15), (0, .ref a0_), (1, .int x1_)] [0, 2, 5, 6] = [(3, .int y_125), (2, .int 1), (0, .ref a0_), (1, .int x1_)])
                        have g9 := g.sub (fx' := [(0, 0, a0_, .ref q0_), (0, 2, a0_, .ref q1_)]) [8, 9] rfl
                        exact ih4  y_125 1 (bd_sub b_126 (by decide)) (bd_sub kb_1 (by decide)) (by have h9_0 := b_126; unfold bd at h9_0; have h9_1 := bv4_2; unfold bd at h9_1; have h9_2 := bv4_3; unfold bd at h9_2; have h9_3 := kb_0; unfold bd at h9_3; have h9_4 := kb_1; unfold bd at h9_4; have h9_5 := kb_12; unfold bd at h9_5; have h9_6 := kb_205; unfold bd at h9_6; have h9_7 := kb_206; unfold bd at h9_7; have h9_8 := kb_300; unfold bd at h9_8; have h9_9 := kb_6; unfold bd at h9_9; have h9_10 := kb_7; unfold bd at h9_10; omega) _ _ _ _ g9  hl9
                    · have fc_98 := eq_f c_98
                      have b_127 : bd 206 206 x_15 := eqX fc_98 (bdT x_15) kb_206 (by decide)
                      refine lv_aload_n hx hb dX0_closeParts_152 rfl (lv_at hl 5 rfl) ?_
                      refine g_getk (C := RX0) (T := TX0) (N := 14) hx hb hts (mc_ inX0) hown hK g rfl 2 (by decide) rfl (hts _ (List.mem_cons_of_mem _ t_375)) (fun _ h9 => h9) 4 rfl dX0_closeParts_153 ?_
                      refine lv_bipush (v := 8) hx hb dX0_closeParts_156 (by decide) ?_
                      refine lv_iconst (v := 0) hx hb dX0_closeParts_158 (by decide) ?_
                      refine g_callv (va_runV (As := [.int 8, .int 0]) (rest := []) ⟨hx, hb, hml, hown, hts⟩ (r_X7_emit l dC dI L kd tys fr_61 H.size g.2.2.2.1 q1_ mq1_ kq1_ 8 0) (cwV 2 hts (gV_ t_1203 t_1204 t_1205 t_191 t_1206) rfl rfl rfl (by decide +kernel) ⟨(Nat.le_of_ble_eq_true rfl), (Nat.le_of_ble_eq_true rfl)⟩) (pre3V g hK mq1_ kq1_ (by decide) (q := (RX7, TX7, 19)) rfl) rfl rfl hl.1 rfl (lv_room (Nat.le_of_ble_eq_true rfl)) dX0_closeParts_159 ⟨(Nat.le_of_ble_eq_true rfl), (Nat.le_of_ble_eq_true rfl)⟩) g hK (by decide) (by decide) (fx' := [(0, 10, a0_, .int x_62), (0, 8, a0_, .int y_13), (0, 3, a0_, .ref a_12), (0, 0, a0_, .ref q0_), (0, 2, a0_, .ref q1_)]) rfl (fun fr_128 H locs hp hMr_128 g => ?_)
                      obtain ⟨x_129, h_130, hF_131⟩ := hp
                      have g := g.more hF_131
                      refine lv_aload_n hx hb dX0_closeParts_162 rfl (lv_at hl 5 rfl) ?_
                      refine g_getk (C := RX0) (T := TX0) (N := 14) hx hb hts (mc_ inX0) hown hK g rfl 2 (by decide) rfl (hts _ (List.mem_cons_of_mem _ t_375)) (fun _ h9 => h9) 5 rfl dX0_closeParts_163 ?_
                      refine lv_aload_n hx hb dX0_closeParts_166 rfl (lv_at hl 5 rfl) ?_
                      refine g_getr (K := 112) (C := RX0) (T := TX0) (N := 14) hx hb hts (mc_ inX0) hown hK g ma0_ ka0_ (by decide) rfl 5 (by decide) rfl (hts _ (List.mem_cons_of_mem _ t_378)) (fun _ h9 => h9) rfl dX0_closeParts_167 (fun a_132 ma_132 ka_132 g => ?_)
                      refine lv_aload_n hx hb dX0_closeParts_170 rfl (lv_at hl 5 rfl) ?_
                      refine g_getk (C := RX0) (T := TX0) (N := 14) hx hb hts (mc_ inX0) hown hK g rfl 8 (by decide) rfl (hts _ (List.mem_cons_of_mem _ t_381)) (fun _ h9 => h9) 3 rfl dX0_closeParts_171 ?_
                      refine g_iald hx hb hK g ma_132 ka_132 (by decide) rfl (in_bd b_14 (by decide)) dX0_closeParts_174 (fun x_133 bx_133 cx_133 => ?_)
                      refine g_callv (va_runV (As := [.int x_133]) (rest := []) ⟨hx, hb, hml, hown, hts⟩ (r_X7_leadHere l dC dI L kd tys fr_128 H.size g.2.2.2.1 q1_ mq1_ kq1_ x_133) (cwV 1 hts (gV_ t_1207 t_1208 t_1209 t_191 t_1210) rfl rfl rfl (by decide +kernel) ⟨(Nat.le_of_ble_eq_true rfl), (Nat.le_of_ble_eq_true rfl)⟩) (pre3V g hK mq1_ kq1_ (by decide) (q := (RX7, TX7, 19)) rfl) rfl rfl hl.1 rfl (lv_room (Nat.le_of_ble_eq_true rfl)) dX0_closeParts_175 ⟨(Nat.le_of_ble_eq_true rfl), (Nat.le_of_ble_eq_true rfl)⟩) g hK (by decide) (by decide) (fx' := [(0, 5, a0_, .ref a_132), (7, 6, q1_, .int x_129), (0, 10, a0_, .int x_62), (0, 8, a0_, .int y_13), (0, 3, a0_, .ref a_12), (0, 0, a0_, .ref q0_), (0, 2, a0_, .ref q1_)]) rfl (fun fr_134 H locs hp hMr_134 g => ?_)
                      refine lv_goto (tgt := 191) hx hb dX0_closeParts_178 (by decide) ?_
                      refine lv_iconst (v := 1) hx hb dX0_closeParts_191 (by decide) ?_
                      refine lv_iload hx hb dX0_closeParts_192 (lv_at hl 2 rfl) ?_
                      refine lv_if_eq (tgt := 202) hx hb dX0_closeParts_194 (by decide) (fun c_ => ?_) (fun c_ => absurd (by decide) c_)
                      refine lv_iload hx hb dX0_closeParts_202 (lv_at hl 0 rfl) ?_
                      refine lv_aload_n hx hb dX0_closeParts_204 rfl (lv_at hl 5 rfl) ?_
                      refine g_calli (va_runV (As := []) (rest := [.int r_61, .int 1]) ⟨hx, hb, hml, hown, hts⟩ (r_X0_takeHeight l dC dI L kd tys fr_134 H.size g.2.2.2.1 a0_ ma0_ ka0_) (cwV 0 hts (gV_ t_1199 t_1201 t_16 t_190 t_1202) rfl rfl rfl (by decide +kernel) ⟨(Nat.le_of_ble_eq_true rfl), (Nat.le_of_ble_eq_true rfl)⟩) (pre3V g hK ma0_ ka0_ (by decide) (q := (RX0, TX0, 14)) rfl) rfl rfl hl.1 rfl (lv_room (Nat.le_of_ble_eq_true rfl)) dX0_closeParts_205 ⟨(Nat.le_of_ble_eq_true rfl), (Nat.le_of_ble_eq_true rfl)⟩) g hK (by decide) (by decide) (fx' := [(0, 5, a0_, .ref a_132), (7, 6, q1_, .int x_129), (0, 8, a0_, .int y_13), (0, 3, a0_, .ref a_12), (0, 0, a0_, .ref q0_), (0, 2, a0_, .ref q1_)]) rfl (fun r_135 fr_135 H locs hp hMr_135 g => ?_)
                      obtain ⟨x_136, h_137, hF_138⟩ := hp
                      have g := g.more hF_138
                      refine va_mmax hx hb (hml.trans hl.1.symm) hown (hts _ (List.mem_cons_of_mem _ t_1194)) (hts _ (List.mem_cons_of_mem _ t_1041)) (hts _ (List.mem_cons_of_mem _ t_204)) (hts _ (List.mem_cons_of_mem _ t_1042)) (Nat.le_of_ble_eq_true rfl) (Nat.le_of_ble_eq_true rfl) (Nat.le_of_ble_eq_true rfl) (Nat.le_of_ble_eq_true rfl) dX0_closeParts_208 ?_
                      refine lv_topi (fun y_139 ey_139 => ?_)
                      have ty_139 : y_139.toInt = max r_61.toInt r_135.toInt := by rw [ey_139]; exact mmax_ok _ _
                      have b_140 : bd (-2147483648) 2147483647 y_139 := max_rg ty_139 (bdT r_61) (bdT r_135) (by decide)
                      refine lv_iadd hx hb dX0_closeParts_211 ?_
                      refine lv_topi (fun y_141 ey_141 => ?_)
                      refine lv_istore (lv' := [(6, .int y_141), (2, .int 1), (5, .int 0), (4, .int x_15), (3, .int v4_3), (0, .ref a0_), (1, .int x1_)]) hx hb dX0_closeParts_212 hl (by decide) rfl (fun ls hl => ?_)
                      refine lv_aload_n hx hb dX0_closeParts_214 rfl (lv_at hl 5 rfl) ?_
                      refine lv_iload hx hb dX0_closeParts_215 (lv_at hl 0 rfl) ?_
                      refine g_callv (va_runV (As := [.int y_141]) (rest := []) ⟨hx, hb, hml, hown, hts⟩ (r_X0_addWhole l dC dI L kd tys fr_135 H.size g.2.2.2.1 a0_ ma0_ ka0_ y_141) (cwV 1 hts (gV_ t_1211 t_1213 t_17 t_190 t_1214) rfl rfl rfl (by decide +kernel) ⟨(Nat.le_of_ble_eq_true rfl), (Nat.le_of_ble_eq_true rfl)⟩) (pre3V g hK ma0_ ka0_ (by decide) (q := (RX0, TX0, 14)) rfl) rfl rfl hl.1 rfl (lv_room (Nat.le_of_ble_eq_true rfl)) dX0_closeParts_217 ⟨(Nat.le_of_ble_eq_true rfl), (Nat.le_of_ble_eq_true rfl)⟩) g hK (by decide) (by decide) (fx' := [(0, 5, a0_, .ref a_132), (7, 6, q1_, .int x_129), (0, 8, a0_, .int y_13), (0, 3, a0_, .ref a_12), (0, 0, a0_, .ref q0_), (0, 2, a0_, .ref q1_)]) rfl (fun fr_142 H locs hp hMr_142 g => ?_)
                      obtain ⟨x_143, h_144, hF_145⟩ := hp
                      have g := g.more hF_145
                      refine lv_iload hx hb dX0_closeParts_220 (lv_at hl 0 rfl) ?_
                      refine lv_bipush (v := 12) hx hb dX0_closeParts_222 (by decide) ?_
                      have kb_12 : bd 12 12 (12 : Int32) := ⟨by decide, by decide⟩
                      refine lv_icmp_le (tgt := 245) hx hb dX0_closeParts_224 (by decide) (fun c_146 => ?_) (fun c_146 => ?_)
                      · have fc_146 := le_f c_146
                        have b_147 : bd (-2147483648) 12 y_141 := leL fc_146 (bdT y_141) kb_12 (by decide)
                        obtain ⟨y_148, ey_148⟩ : ∃ z : Int32, z = v4_3 + 1 := ⟨_, rfl⟩
                        refine lv_iinc (v := y_148) (lv' := [(3, .int y_148), (6, .int y_141), (2, .int 1), (5, .int 0), (4, .int x_15), (0, .ref a0_), (1, .int x1_)]) hx hb dX0_closeParts_245 hl (k := 4) rfl (by rw [ey_148]; rfl) (by decide) rfl (fun ls hl => ?_)
                        have ty_148 := add_bd ey_148 b_4 kb_1 (by decide)
                        have b_149 : bd 1 300 y_148 := add_rg ty_148 b_4 kb_1 (by decide)
                        refine lv_goto (tgt := 4) hx hb dX0_closeParts_248 (by decide) ?_
                        have hl9 := lv_sub hl [0, 2, 5, 6] (by rfl : lv_pick [(3, .int y_148), (6, .int y_141), (2, .int 1), (5, .int 0), (4, .int x_15), (0, .ref a0_), (1, .int x1_)] [0, 2, 5, 6] = [(3, .int y_148), (2, .int 1), (0, .ref a0_), (1, .int x1_)])
                        have g9 := g.sub (fx' := [(0, 0, a0_, .ref q0_), (0, 2, a0_, .ref q1_)]) [6, 7] rfl
                        exact ih4  y_148 1 (bd_sub b_149 (by decide)) (bd_sub kb_1 (by decide)) (by have h9_0 := b_149; unfold bd at h9_0; have h9_1 := bv4_2; unfold bd at h9_1; have h9_2 := bv4_3; unfold bd at h9_2; have h9_3 := kb_0; unfold bd at h9_3; have h9_4 := kb_1; unfold bd at h9_4; have h9_5 := kb_12; unfold bd at h9_5; have h9_6 := kb_205; unfold bd at h9_6; have h9_7 := kb_206; unfold bd at h9_7; have h9_8 := kb_300; unfold bd at h9_8; have h9_9 := kb_6; unfold bd at h9_9; have h9_10 := kb_7; unfold bd at h9_10; omega) _ _ _ _ g9  hl9
                      · have fc_146 := nle_f c_146
                        have b_150 : bd 13 2147483647 y_141 := ltR fc_146 kb_12 (bdT y_141) (by decide)
                        refine lv_aload_n hx hb dX0_closeParts_227 rfl (lv_at hl 5 rfl) ?_
                        refine g_getk (C := RX0) (T := TX0) (N := 14) hx hb hts (mc_ inX0) hown hK g rfl 0 (by decide) rfl (hts _ (List.mem_cons_of_mem _ t_373)) (fun _ h9 => h9) 6 rfl dX0_closeParts_228 ?_
                        refine lv_bipush (v := 7) hx hb dX0_closeParts_231 (by decide) ?_
                        refine lv_aload_n hx hb dX0_closeParts_233 rfl (lv_at hl 5 rfl) ?_
                        refine g_getr (K := 111) (C := RX0) (T := TX0) (N := 14) hx hb hts (mc_ inX0) hown hK g ma0_ ka0_ (by decide) rfl 4 (by decide) rfl (hts _ (List.mem_cons_of_mem _ t_377)) (fun _ h9 => h9) rfl dX0_closeParts_234 (fun a_151 ma_151 ka_151 g => ?_)
                        refine lv_aload_n hx hb dX0_closeParts_237 rfl (lv_at hl 5 rfl) ?_
                        refine g_getk (C := RX0) (T := TX0) (N := 14) hx hb hts (mc_ inX0) hown hK g rfl 8 (by decide) rfl (hts _ (List.mem_cons_of_mem _ t_381)) (fun _ h9 => h9) 5 rfl dX0_closeParts_238 ?_
                        refine g_iald hx hb hK g ma_151 ka_151 (by decide) rfl (in_bd b_14 (by decide)) dX0_closeParts_241 (fun x_152 bx_152 cx_152 => ?_)
                        refine g_callv (va_runV (As := [.int 7, .int x_152]) (rest := []) ⟨hx, hb, hml, hown, hts⟩ (r_X8_fail_11 l dC dI L kd tys fr_142 H.size g.2.2.2.1 q0_ mq0_ kq0_ 7 kb_7 x_152) (cwV 2 hts (gV_ t_1215 t_1107 t_1108 t_184 t_1109) rfl rfl rfl (by decide +kernel) ⟨(Nat.le_of_ble_eq_true rfl), (Nat.le_of_ble_eq_true rfl)⟩) (pre3V g hK mq0_ kq0_ (by decide) (q := (RX8, TX8, 10)) rfl) rfl rfl hl.1 rfl (lv_room (Nat.le_of_ble_eq_true rfl)) dX0_closeParts_242 ⟨(Nat.le_of_ble_eq_true rfl), (Nat.le_of_ble_eq_true rfl)⟩) g hK (by decide) (by decide) (fx' := [(0, 4, a0_, .ref a_151), (0, 12, a0_, .int 0), (0, 10, a0_, .int x_143), (0, 5, a0_, .ref a_132), (7, 6, q1_, .int x_129), (0, 8, a0_, .int y_13), (0, 3, a0_, .ref a_12), (0, 0, a0_, .ref q0_), (0, 2, a0_, .ref q1_)]) rfl (fun fr_153 H locs hp hMr_153 g => ?_)
                        obtain ⟨x_154, h_155, hF_156⟩ := hp
                        have g := g.more hF_156
                        obtain ⟨y_157, ey_157⟩ : ∃ z : Int32, z = v4_3 + 1 := ⟨_, rfl⟩
                        refine lv_iinc (v := y_157) (lv' := [(3, .int y_157), (6, .int y_141), (2, .int 1), (5, .int 0), (4, .int x_15), (0, .ref a0_), (1, .int x1_)]) hx hb dX0_closeParts_245 hl (k := 4) rfl (by rw [ey_157]; rfl) (by decide) rfl (fun ls hl => ?_)
                        have ty_157 := add_bd ey_157 b_4 kb_1 (by decide)
                        have b_158 : bd 1 300 y_157 := add_rg ty_157 b_4 kb_1 (by decide)
                        refine lv_goto (tgt := 4) hx hb dX0_closeParts_248 (by decide) ?_
                        have hl9 := lv_sub hl [0, 2, 5, 6] (by rfl : lv_pick [(3, .int y_157), (6, .int y_141), (2, .int 1), (5, .int 0), (4, .int x_15), (0, .ref a0_), (1, .int x1_)] [0, 2, 5, 6] = [(3, .int y_157), (2, .int 1), (0, .ref a0_), (1, .int x1_)])
                        have g9 := g.sub (fx' := [(0, 0, a0_, .ref q0_), (0, 2, a0_, .ref q1_)]) [9, 10] rfl
                        exact ih4  y_157 1 (bd_sub b_158 (by decide)) (bd_sub kb_1 (by decide)) (by have h9_0 := b_158; unfold bd at h9_0; have h9_1 := bv4_2; unfold bd at h9_1; have h9_2 := bv4_3; unfold bd at h9_2; have h9_3 := kb_0; unfold bd at h9_3; have h9_4 := kb_1; unfold bd at h9_4; have h9_5 := kb_12; unfold bd at h9_5; have h9_6 := kb_205; unfold bd at h9_6; have h9_7 := kb_206; unfold bd at h9_7; have h9_8 := kb_300; unfold bd at h9_8; have h9_9 := kb_6; unfold bd at h9_9; have h9_10 := kb_7; unfold bd at h9_10; omega) _ _ _ _ g9  hl9
              · have fc_51 := eq_f c_51
                have b_159 : bd 7 7 x_15 := eqX fc_51 (bdT x_15) kb_7 (by decide)
                refine lv_iconst (v := 1) hx hb dX0_closeParts_49 (by decide) ?_
                refine lv_goto (tgt := 54) hx hb dX0_closeParts_50 (by decide) ?_
                refine lv_istore (lv' := [(5, .int 1), (4, .int x_15), (3, .int v4_3), (2, .int v4_2), (0, .ref a0_), (1, .int x1_)]) hx hb dX0_closeParts_54 hl (by decide) rfl (fun ls hl => ?_)
                refine lv_iload hx hb dX0_closeParts_56 (lv_at hl 0 rfl) ?_
                refine lv_if_ne (tgt := 70) hx hb dX0_closeParts_58 (by decide) (fun c_ => ?_) (fun c_ => absurd c_ (by decide))
                refine lv_iconst (v := 1) hx hb dX0_closeParts_70 (by decide) ?_
                refine lv_goto (tgt := 75) hx hb dX0_closeParts_71 (by decide) ?_
                refine lv_istore_n (lv' := [(2, .int 1), (5, .int 1), (4, .int x_15), (3, .int v4_3), (0, .ref a0_), (1, .int x1_)]) hx hb dX0_closeParts_75 rfl hl (by decide) rfl (fun ls hl => ?_)
                refine lv_iload_n hx hb dX0_closeParts_76 rfl (lv_at hl 0 rfl) ?_
                refine lv_if_eq (tgt := 245) hx hb dX0_closeParts_77 (by decide) (fun c_ => absurd c_ (by decide)) (fun c_ => ?_)
                refine lv_aload_n hx hb dX0_closeParts_80 rfl (lv_at hl 4 rfl) ?_
                refine lv_dup hx hb dX0_closeParts_81 rfl ?_
                refine g_getk (C := RX0) (T := TX0) (N := 14) hx hb hts (mc_ inX0) hown hK g rfl 8 (by decide) rfl (hts _ (List.mem_cons_of_mem _ t_381)) (fun _ h9 => h9) 1 rfl dX0_closeParts_82 ?_
                refine lv_iconst (v := 1) hx hb dX0_closeParts_85 (by decide) ?_
                refine lv_isub hx hb dX0_closeParts_86 ?_
                refine lv_topi (fun y_160 ey_160 => ?_)
                obtain rfl : y_13 = y_160 := ey_13.trans ey_160.symm
                refine g_put (C := RX0) (T := TX0) (N := 14) hx hb hts (mc_ inX0) tyX0 tyX0_ok nmX0 hown hK g ma0_ ka0_ (by decide) rfl 8 (by decide) (hts _ (List.mem_cons_of_mem _ t_381)) (fun _ h9 => h9) rfl rfl (okV_i (bd_sub b_14 (by decide))) rfl rfl (by decide) (Or.inr (Or.inl (by decide))) (fx' := [(0, 3, a0_, .ref a_12), (0, 0, a0_, .ref q0_), (0, 2, a0_, .ref q1_)]) rfl dX0_closeParts_87 (fun f H locs hM_161 g => ?_)
                refine lv_aload_n hx hb dX0_closeParts_90 rfl (lv_at hl 4 rfl) ?_
                refine g_calli (va_runV (As := []) (rest := []) ⟨hx, hb, hml, hown, hts⟩ (r_X0_takeHeight l dC dI L kd tys f H.size g.2.2.2.1 a0_ ma0_ ka0_) (cwV 0 hts (gV_ t_1199 t_1201 t_16 t_190 t_1202) rfl rfl rfl (by decide +kernel) ⟨(Nat.le_of_ble_eq_true rfl), (Nat.le_of_ble_eq_true rfl)⟩) (pre3V g hK ma0_ ka0_ (by decide) (q := (RX0, TX0, 14)) rfl) rfl rfl hl.1 rfl (lv_room (Nat.le_of_ble_eq_true rfl)) dX0_closeParts_91 ⟨(Nat.le_of_ble_eq_true rfl), (Nat.le_of_ble_eq_true rfl)⟩) g hK (by decide) (by decide) (fx' := [(0, 8, a0_, .int y_13), (0, 3, a0_, .ref a_12), (0, 0, a0_, .ref q0_), (0, 2, a0_, .ref q1_)]) rfl (fun r_162 fr_162 H locs hp hMr_162 g => ?_)
                obtain ⟨x_163, h_164, hF_165⟩ := hp
                have g := g.more hF_165
                refine lv_istore (lv' := [(6, .int r_162), (2, .int 1), (5, .int 1), (4, .int x_15), (3, .int v4_3), (0, .ref a0_), (1, .int x1_)]) hx hb dX0_closeParts_94 hl (by decide) rfl (fun ls hl => ?_)
                refine lv_iload hx hb dX0_closeParts_96 (lv_at hl 2 rfl) ?_
                refine lv_if_eq (tgt := 136) hx hb dX0_closeParts_98 (by decide) (fun c_ => absurd c_ (by decide)) (fun c_ => ?_)
                refine lv_aload_n hx hb dX0_closeParts_101 rfl (lv_at hl 5 rfl) ?_
                refine lv_dup hx hb dX0_closeParts_102 rfl ?_
                refine g_geti (C := RX0) (T := TX0) (N := 14) hx hb hts (mc_ inX0) hown hK g ma0_ ka0_ (by decide) rfl 11 (by decide) rfl (hts _ (List.mem_cons_of_mem _ t_384)) (fun _ h9 => h9) rfl dX0_closeParts_103 (fun x_166 bx_166 g => ?_)
                refine lv_iconst (v := 1) hx hb dX0_closeParts_106 (by decide) ?_
                refine lv_isub hx hb dX0_closeParts_107 ?_
                refine lv_topi (fun y_167 ey_167 => ?_)
                refine g_put (C := RX0) (T := TX0) (N := 14) hx hb hts (mc_ inX0) tyX0 tyX0_ok nmX0 hown hK g ma0_ ka0_ (by decide) rfl 11 (by decide) (hts _ (List.mem_cons_of_mem _ t_384)) (fun _ h9 => h9) rfl rfl (okV_i (bdT y_167)) rfl rfl (by decide) (Or.inr (Or.inl (by decide))) (fx' := [(0, 10, a0_, .int x_163), (0, 8, a0_, .int y_13), (0, 3, a0_, .ref a_12), (0, 0, a0_, .ref q0_), (0, 2, a0_, .ref q1_)]) rfl dX0_closeParts_108 (fun f H locs hM_168 g => ?_)
                refine lv_aload_n hx hb dX0_closeParts_111 rfl (lv_at hl 5 rfl) ?_
                refine g_getk (C := RX0) (T := TX0) (N := 14) hx hb hts (mc_ inX0) hown hK g rfl 2 (by decide) rfl (hts _ (List.mem_cons_of_mem _ t_375)) (fun _ h9 => h9) 5 rfl dX0_closeParts_112 ?_
                refine lv_iload hx hb dX0_closeParts_115 (lv_at hl 3 rfl) ?_
                refine lv_bipush (v := 6) hx hb dX0_closeParts_117 (by decide) ?_
                refine lv_icmp_ne (tgt := 127) hx hb dX0_closeParts_119 (by decide) (fun c_169 => ?_) (fun c_169 => ?_)
                · have fc_169 := neq_f c_169
                  refine lv_bipush (v := 7) hx hb dX0_closeParts_127 (by decide) ?_
                  refine lv_iconst (v := 0) hx hb dX0_closeParts_129 (by decide) ?_
                  refine g_callv (va_runV (As := [.int 7, .int 0]) (rest := []) ⟨hx, hb, hml, hown, hts⟩ (r_X7_emit l dC dI L kd tys f H.size g.2.2.2.1 q1_ mq1_ kq1_ 7 0) (cwV 2 hts (gV_ t_1203 t_1204 t_1205 t_191 t_1206) rfl rfl rfl (by decide +kernel) ⟨(Nat.le_of_ble_eq_true rfl), (Nat.le_of_ble_eq_true rfl)⟩) (pre3V g hK mq1_ kq1_ (by decide) (q := (RX7, TX7, 19)) rfl) rfl rfl hl.1 rfl (lv_room (Nat.le_of_ble_eq_true rfl)) dX0_closeParts_130 ⟨(Nat.le_of_ble_eq_true rfl), (Nat.le_of_ble_eq_true rfl)⟩) g hK (by decide) (by decide) (fx' := [(0, 11, a0_, .int y_167), (0, 10, a0_, .int x_163), (0, 8, a0_, .int y_13), (0, 3, a0_, .ref a_12), (0, 0, a0_, .ref q0_), (0, 2, a0_, .ref q1_)]) rfl (fun fr_170 H locs hp hMr_170 g => ?_)
                  obtain ⟨x_171, h_172, hF_173⟩ := hp
                  have g := g.more hF_173
                  refine lv_goto (tgt := 191) hx hb dX0_closeParts_133 (by decide) ?_
                  refine lv_iconst (v := 1) hx hb dX0_closeParts_191 (by decide) ?_
                  refine lv_iload hx hb dX0_closeParts_192 (lv_at hl 2 rfl) ?_
                  refine lv_if_eq (tgt := 202) hx hb dX0_closeParts_194 (by decide) (fun c_ => absurd c_ (by decide)) (fun c_ => ?_)
                  refine lv_iload hx hb dX0_closeParts_197 (lv_at hl 0 rfl) ?_
                  refine lv_goto (tgt := 211) hx hb dX0_closeParts_199 (by decide) ?_
                  refine lv_iadd hx hb dX0_closeParts_211 ?_
                  refine lv_topi (fun y_174 ey_174 => ?_)
                  refine lv_istore (lv' := [(6, .int y_174), (2, .int 1), (5, .int 1), (4, .int x_15), (3, .int v4_3), (0, .ref a0_), (1, .int x1_)]) hx hb dX0_closeParts_212 hl (by decide) rfl (fun ls hl => ?_)
                  refine lv_aload_n hx hb dX0_closeParts_214 rfl (lv_at hl 5 rfl) ?_
                  refine lv_iload hx hb dX0_closeParts_215 (lv_at hl 0 rfl) ?_
                  refine g_callv (va_runV (As := [.int y_174]) (rest := []) ⟨hx, hb, hml, hown, hts⟩ (r_X0_addWhole l dC dI L kd tys fr_170 H.size g.2.2.2.1 a0_ ma0_ ka0_ y_174) (cwV 1 hts (gV_ t_1211 t_1213 t_17 t_190 t_1214) rfl rfl rfl (by decide +kernel) ⟨(Nat.le_of_ble_eq_true rfl), (Nat.le_of_ble_eq_true rfl)⟩) (pre3V g hK ma0_ ka0_ (by decide) (q := (RX0, TX0, 14)) rfl) rfl rfl hl.1 rfl (lv_room (Nat.le_of_ble_eq_true rfl)) dX0_closeParts_217 ⟨(Nat.le_of_ble_eq_true rfl), (Nat.le_of_ble_eq_true rfl)⟩) g hK (by decide) (by decide) (fx' := [(7, 6, q1_, .int x_171), (0, 11, a0_, .int y_167), (0, 8, a0_, .int y_13), (0, 3, a0_, .ref a_12), (0, 0, a0_, .ref q0_), (0, 2, a0_, .ref q1_)]) rfl (fun fr_175 H locs hp hMr_175 g => ?_)
                  obtain ⟨x_176, h_177, hF_178⟩ := hp
                  have g := g.more hF_178
                  refine lv_iload hx hb dX0_closeParts_220 (lv_at hl 0 rfl) ?_
                  refine lv_bipush (v := 12) hx hb dX0_closeParts_222 (by decide) ?_
                  have kb_12 : bd 12 12 (12 : Int32) := ⟨by decide, by decide⟩
                  refine lv_icmp_le (tgt := 245) hx hb dX0_closeParts_224 (by decide) (fun c_179 => ?_) (fun c_179 => ?_)
                  · have fc_179 := le_f c_179
                    have b_180 : bd (-2147483648) 12 y_174 := leL fc_179 (bdT y_174) kb_12 (by decide)
                    obtain ⟨y_181, ey_181⟩ : ∃ z : Int32, z = v4_3 + 1 := ⟨_, rfl⟩
                    refine lv_iinc (v := y_181) (lv' := [(3, .int y_181), (6, .int y_174), (2, .int 1), (5, .int 1), (4, .int x_15), (0, .ref a0_), (1, .int x1_)]) hx hb dX0_closeParts_245 hl (k := 4) rfl (by rw [ey_181]; rfl) (by decide) rfl (fun ls hl => ?_)
                    have ty_181 := add_bd ey_181 b_4 kb_1 (by decide)
                    have b_182 : bd 1 300 y_181 := add_rg ty_181 b_4 kb_1 (by decide)
                    refine lv_goto (tgt := 4) hx hb dX0_closeParts_248 (by decide) ?_
                    have hl9 := lv_sub hl [0, 2, 5, 6] (by rfl : lv_pick [(3, .int y_181), (6, .int y_174), (2, .int 1), (5, .int 1), (4, .int x_15), (0, .ref a0_), (1, .int x1_)] [0, 2, 5, 6] = [(3, .int y_181), (2, .int 1), (0, .ref a0_), (1, .int x1_)])
                    have g9 := g.sub (fx' := [(0, 0, a0_, .ref q0_), (0, 2, a0_, .ref q1_)]) [6, 7] rfl
                    exact ih4  y_181 1 (bd_sub b_182 (by decide)) (bd_sub kb_1 (by decide)) (by have h9_0 := b_182; unfold bd at h9_0; have h9_1 := bv4_2; unfold bd at h9_1; have h9_2 := bv4_3; unfold bd at h9_2; have h9_3 := kb_0; unfold bd at h9_3; have h9_4 := kb_1; unfold bd at h9_4; have h9_5 := kb_12; unfold bd at h9_5; have h9_6 := kb_300; unfold bd at h9_6; have h9_7 := kb_6; unfold bd at h9_7; have h9_8 := kb_7; unfold bd at h9_8; omega) _ _ _ _ g9  hl9
                  · have fc_179 := nle_f c_179
                    have b_183 : bd 13 2147483647 y_174 := ltR fc_179 kb_12 (bdT y_174) (by decide)
                    refine lv_aload_n hx hb dX0_closeParts_227 rfl (lv_at hl 5 rfl) ?_
                    refine g_getk (C := RX0) (T := TX0) (N := 14) hx hb hts (mc_ inX0) hown hK g rfl 0 (by decide) rfl (hts _ (List.mem_cons_of_mem _ t_373)) (fun _ h9 => h9) 6 rfl dX0_closeParts_228 ?_
                    refine lv_bipush (v := 7) hx hb dX0_closeParts_231 (by decide) ?_
                    refine lv_aload_n hx hb dX0_closeParts_233 rfl (lv_at hl 5 rfl) ?_
                    refine g_getr (K := 111) (C := RX0) (T := TX0) (N := 14) hx hb hts (mc_ inX0) hown hK g ma0_ ka0_ (by decide) rfl 4 (by decide) rfl (hts _ (List.mem_cons_of_mem _ t_377)) (fun _ h9 => h9) rfl dX0_closeParts_234 (fun a_184 ma_184 ka_184 g => ?_)
                    refine lv_aload_n hx hb dX0_closeParts_237 rfl (lv_at hl 5 rfl) ?_
                    refine g_getk (C := RX0) (T := TX0) (N := 14) hx hb hts (mc_ inX0) hown hK g rfl 8 (by decide) rfl (hts _ (List.mem_cons_of_mem _ t_381)) (fun _ h9 => h9) 5 rfl dX0_closeParts_238 ?_
                    refine g_iald hx hb hK g ma_184 ka_184 (by decide) rfl (in_bd b_14 (by decide)) dX0_closeParts_241 (fun x_185 bx_185 cx_185 => ?_)
                    refine g_callv (va_runV (As := [.int 7, .int x_185]) (rest := []) ⟨hx, hb, hml, hown, hts⟩ (r_X8_fail_11 l dC dI L kd tys fr_175 H.size g.2.2.2.1 q0_ mq0_ kq0_ 7 kb_7 x_185) (cwV 2 hts (gV_ t_1215 t_1107 t_1108 t_184 t_1109) rfl rfl rfl (by decide +kernel) ⟨(Nat.le_of_ble_eq_true rfl), (Nat.le_of_ble_eq_true rfl)⟩) (pre3V g hK mq0_ kq0_ (by decide) (q := (RX8, TX8, 10)) rfl) rfl rfl hl.1 rfl (lv_room (Nat.le_of_ble_eq_true rfl)) dX0_closeParts_242 ⟨(Nat.le_of_ble_eq_true rfl), (Nat.le_of_ble_eq_true rfl)⟩) g hK (by decide) (by decide) (fx' := [(0, 4, a0_, .ref a_184), (0, 12, a0_, .int 0), (0, 10, a0_, .int x_176), (7, 6, q1_, .int x_171), (0, 11, a0_, .int y_167), (0, 8, a0_, .int y_13), (0, 3, a0_, .ref a_12), (0, 0, a0_, .ref q0_), (0, 2, a0_, .ref q1_)]) rfl (fun fr_186 H locs hp hMr_186 g => ?_)
                    obtain ⟨x_187, h_188, hF_189⟩ := hp
                    have g := g.more hF_189
                    obtain ⟨y_190, ey_190⟩ : ∃ z : Int32, z = v4_3 + 1 := ⟨_, rfl⟩
                    refine lv_iinc (v := y_190) (lv' := [(3, .int y_190), (6, .int y_174), (2, .int 1), (5, .int 1), (4, .int x_15), (0, .ref a0_), (1, .int x1_)]) hx hb dX0_closeParts_245 hl (k := 4) rfl (by rw [ey_190]; rfl) (by decide) rfl (fun ls hl => ?_)
                    have ty_190 := add_bd ey_190 b_4 kb_1 (by decide)
                    have b_191 : bd 1 300 y_190 := add_rg ty_190 b_4 kb_1 (by decide)
                    refine lv_goto (tgt := 4) hx hb dX0_closeParts_248 (by decide) ?_
                    have hl9 := lv_sub hl [0, 2, 5, 6] (by rfl : lv_pick [(3, .int y_190), (6, .int y_174), (2, .int 1), (5, .int 1), (4, .int x_15), (0, .ref a0_), (1, .int x1_)] [0, 2, 5, 6] = [(3, .int y_190), (2, .int 1), (0, .ref a0_), (1, .int x1_)])
                    have g9 := g.sub (fx' := [(0, 0, a0_, .ref q0_), (0, 2, a0_, .ref q1_)]) [9, 10] rfl
                    exact ih4  y_190 1 (bd_sub b_191 (by decide)) (bd_sub kb_1 (by decide)) (by have h9_0 := b_191; unfold bd at h9_0; have h9_1 := bv4_2; unfold bd at h9_1; have h9_2 := bv4_3; unfold bd at h9_2; have h9_3 := kb_0; unfold bd at h9_3; have h9_4 := kb_1; unfold bd at h9_4; have h9_5 := kb_12; unfold bd at h9_5; have h9_6 := kb_300; unfold bd at h9_6; have h9_7 := kb_6; unfold bd at h9_7; have h9_8 := kb_7; unfold bd at h9_8; omega) _ _ _ _ g9  hl9
                · have fc_169 := eq_f c_169
                  have b_192 : bd 7 6 x_15 := eqX fc_169 b_159 kb_6 (by decide)
                  exact bd_no b_192 (by decide)
  have kb_0 : bd 0 0 (0 : Int32) := ⟨by decide, by decide⟩
  have kb_1 : bd 1 1 (1 : Int32) := ⟨by decide, by decide⟩
  have hl9 := lv_sub hl [0, 1, 2, 3] (by rfl : lv_pick [(3, .int 0), (2, .int 1), (0, .ref a0_), (1, .int x1_)] [0, 1, 2, 3] = [(3, .int 0), (2, .int 1), (0, .ref a0_), (1, .int x1_)])
  have g9 := g.sub (fx' := [(0, 0, a0_, .ref q0_), (0, 2, a0_, .ref q1_)]) [0, 1] rfl
  exact loop_1 (603) 0 1 (bd_sub kb_0 (by decide)) (bd_sub kb_1 (by decide)) (by have h9_0 := kb_0; unfold bd at h9_0; have h9_1 := kb_1; unfold bd at h9_1; omega) _ _ _ _ g9  hl9
set_option maxHeartbeats 4000000 in
set_option maxRecDepth 100000 in
theorem r_X1_readyToAsk (l : Launch) (dC : Nat → ClassId) (dI : Nat → Nat → Nat) (L : List Nat) (kd : Nat → Nat) (tys : List (ClassId × FieldType)) (f0 : Nat → va_E) (sz : Nat) (hWT : WT L kd tys f0) (a0_ : Nat) (ma0_ : a0_ ∈ L) (ka0_ : kd a0_ = 1) (x1_ : Int32) (x2_ : Int32) : Met l yX1_readyToAsk (.code yX1_readyToAsk cX1_readyToAsk 3 none :: lw_g) ({ frames := 0, cells := 0, slots := 0, locals := 0 }) (va_Pc [.ref a0_, .int x1_, .int x2_] (P3 (dC, dI) L tys f0 sz)) (va_Qv (fun (f : Nat → va_E) => (Fs L kd f [(1, 12, a0_, .int 0), (1, 5, a0_, .int 1)])) (Q3 (dC, dI) L kd tys [(1, 5), (1, 6), (1, 12), (1, 13)] [] f0 sz) (pA L sz)) 0 0 (pA L sz) := by
  refine Met.ofW (cc := cX1_readyToAsk) (maxL := 3) (ret := none) (by decide) rfl ?_
  intro p e s m args below meth c s₁ B hml hv
  obtain ⟨rfl, hsz, hP, hK, hD0⟩ := hv
  have hx := B.exec
  have hb := B.bytes
  have hr := B.returns
  have hts := atoms_spec (ws := (.code yX1_readyToAsk cX1_readyToAsk 3 none :: lw_g)) B.pre
  have hown : s.vm.findClass RX1 = some m.cls := findClass_of_methodNamed B.named
  have hlocks := B.notSynchronized
  subst hsz
  have g : G3 (dC, dI) L kd tys s f0 [(1, 5), (1, 6), (1, 12), (1, 13)] [] f0 s.heap [] [] := G3.start hP hD0 hWT Fs.nil
  have hl := lv_entry ([.ref a0_, .int x1_, .int x2_]) (n := 3) (Nat.le_of_ble_eq_true rfl)
  rw [lg_entry_eq]
  generalize (lg_sl ([.ref a0_, .int x1_, .int x2_]) ++ List.replicate (3 - (lg_sl ([.ref a0_, .int x1_, .int x2_])).length) Slot.unset).toArray = ls at hl ⊢
  have hl : lv_has ls 3 [(0, .ref a0_), (1, .int x1_), (2, .int x2_)] := hl
  refine W_q (fun Q hQ => ?_)
  refine lv_aload_n hx hb dX1_readyToAsk_0 rfl (lv_at hl 0 rfl) ?_
  refine lv_iconst (v := 1) hx hb dX1_readyToAsk_1 (by decide) ?_
  have kb_1 : bd 1 1 (1 : Int32) := ⟨by decide, by decide⟩
  refine g_put (C := RX1) (T := TX1) (N := 18) hx hb hts (mc_ inX1) tyX1 tyX1_ok nmX1 hown hK g ma0_ ka0_ (by decide) rfl 5 (by decide) (hts _ (List.mem_cons_of_mem _ t_740)) (fun _ h9 => h9) rfl rfl (okV_i (bd_sub kb_1 (by decide))) rfl rfl (by decide) (Or.inr (Or.inl (by decide))) (fx' := []) rfl dX1_readyToAsk_2 (fun f H locs hM_1 g => ?_)
  refine lv_aload_n hx hb dX1_readyToAsk_5 rfl (lv_at hl 0 rfl) ?_
  refine lv_iload_n hx hb dX1_readyToAsk_6 rfl (lv_at hl 2 rfl) ?_
  refine g_put (C := RX1) (T := TX1) (N := 18) hx hb hts (mc_ inX1) tyX1 tyX1_ok nmX1 hown hK g ma0_ ka0_ (by decide) rfl 6 (by decide) (hts _ (List.mem_cons_of_mem _ t_741)) (fun _ h9 => h9) rfl rfl (okV_i (bdT x2_)) rfl rfl (by decide) (Or.inr (Or.inl (by decide))) (fx' := [(1, 5, a0_, .int 1)]) rfl dX1_readyToAsk_7 (fun f H locs hM_2 g => ?_)
  refine lv_aload_n hx hb dX1_readyToAsk_10 rfl (lv_at hl 0 rfl) ?_
  refine lv_iconst (v := 0) hx hb dX1_readyToAsk_11 (by decide) ?_
  have kb_0 : bd 0 0 (0 : Int32) := ⟨by decide, by decide⟩
  refine g_put (C := RX1) (T := TX1) (N := 18) hx hb hts (mc_ inX1) tyX1 tyX1_ok nmX1 hown hK g ma0_ ka0_ (by decide) rfl 12 (by decide) (hts _ (List.mem_cons_of_mem _ t_747)) (fun _ h9 => h9) rfl rfl (okV_i (bd_sub kb_0 (by decide))) rfl rfl (by decide) (Or.inr (Or.inl (by decide))) (fx' := [(1, 6, a0_, .int x2_), (1, 5, a0_, .int 1)]) rfl dX1_readyToAsk_12 (fun f H locs hM_3 g => ?_)
  refine lv_aload_n hx hb dX1_readyToAsk_15 rfl (lv_at hl 0 rfl) ?_
  refine lv_iload_n hx hb dX1_readyToAsk_16 rfl (lv_at hl 1 rfl) ?_
  refine g_put (C := RX1) (T := TX1) (N := 18) hx hb hts (mc_ inX1) tyX1 tyX1_ok nmX1 hown hK g ma0_ ka0_ (by decide) rfl 13 (by decide) (hts _ (List.mem_cons_of_mem _ t_748)) (fun _ h9 => h9) rfl rfl (okV_i (bdT x1_)) rfl rfl (by decide) (Or.inr (Or.inl (by decide))) (fx' := [(1, 12, a0_, .int 0), (1, 6, a0_, .int x2_), (1, 5, a0_, .int 1)]) rfl dX1_readyToAsk_17 (fun f H locs hM_4 g => ?_)
  subst hQ
  exact W.vret hx hb hr (fun t ht hW => ⟨⟨_, rfl, (g.fcts [1, 3] rfl), q3_of g hK ht hW⟩, g.2.2.1.F ht⟩) g.2.2.1.2.2 dX1_readyToAsk_20
