set_option maxHeartbeats 4000000 in
set_option maxRecDepth 100000 in
theorem r_X2_readArguments_2 (l : Launch) (dC : Nat → ClassId) (dI : Nat → Nat → Nat) (L : List Nat) (kd : Nat → Nat) (tys : List (ClassId × FieldType)) (f0 : Nat → va_E) (sz : Nat) (hWT : WT L kd tys f0) (a0_ : Nat) (ma0_ : a0_ ∈ L) (ka0_ : kd a0_ = 2) (q0_ : Nat) (mq0_ : q0_ ∈ L) (kq0_ : kd q0_ = 8) (q1_ : Nat) (mq1_ : q1_ ∈ L) (kq1_ : kd q1_ = 5) (q2_ : Nat) (mq2_ : q2_ ∈ L) (kq2_ : kd q2_ = 0) (q3_ : Nat) (mq3_ : q3_ ∈ L) (kq3_ : kd q3_ = 7) (q7_ : Nat) (mq7_ : q7_ ∈ L) (kq7_ : kd q7_ = 9) (y0_ : Int32) (by0_ : bd 17 18 y0_) (y1_ : Int32) (by1_ : bd 0 0 y1_) (T_ : Nat) (J_ : Int32 → Prop) (hGcq3_ : cOK f0 q3_) (hGdq3_ : dOK L kd f0 q3_ T_) (hGsq3_ : jS f0 q3_ J_) (hGeq2_ : eOK f0 q2_) (hfx : Fs L kd f0 [(2, 0, a0_, .ref q0_), (2, 1, a0_, .ref q1_), (2, 2, a0_, .ref q2_), (2, 3, a0_, .ref q3_), (0, 0, q2_, .ref q0_), (0, 1, q2_, .ref q1_), (5, 0, q1_, .ref q3_), (5, 1, q1_, .ref q7_), (2, 12, a0_, .int y0_), (8, 8, q0_, .int y1_)]) : Met l yX2_readArguments (.code yX2_readArguments cX2_readArguments 6 none :: lw_g) ({ frames := 4, cells := 0, slots := 0, locals := 97 }) (va_Pc [.ref a0_] (P3 (dC, dI) L tys f0 sz)) (va_Qv (fun (f : Nat → va_E) => (cOK f q3_ ∧ dOK L kd f q3_ T_ ∧ jS f q3_ J_ ∧ eOK f q2_ ∧ ∃ z0_ : Int32, bd 1 1201 z0_ ∧ Fs L kd f [(8, 6, q0_, .int z0_), (8, 8, q0_, .int y1_)]) ∨ (dOK L kd f q3_ T_ ∧ eOK f q2_ ∧ ∃ z0_ : Int32, bd 1201 1201 z0_ ∧ ∃ z1_ : Int32, bd 1 7 z1_ ∧ Fs L kd f [(8, 6, q0_, .int z0_), (8, 8, q0_, .int z1_)])) (Q3 (dC, dI) L kd tys [(0, 2), (0, 8), (0, 10), (0, 11), (0, 12), (0, 13), (7, 6), (7, 18), (8, 6), (8, 8), (8, 9)] [110, 111, 112, 113, 114, 115, 138, 139] f0 sz) (pA L sz)) 0 0 (pA L sz) := by
  refine Met.ofW (cc := cX2_readArguments) (maxL := 6) (ret := none) (by decide) rfl ?_
  intro p e s m args below meth c s₁ B hml hv
  obtain ⟨rfl, hsz, hP, hK, hD0⟩ := hv
  have hx := B.exec
  have hb := B.bytes
  have hr := B.returns
  have hts := atoms_spec (ws := (.code yX2_readArguments cX2_readArguments 6 none :: lw_g)) B.pre
  have hown : s.vm.findClass RX2 = some m.cls := findClass_of_methodNamed B.named
  have hlocks := B.notSynchronized
  subst hsz
  have g : G3 (dC, dI) L kd tys s f0 [(0, 2), (0, 8), (0, 10), (0, 11), (0, 12), (0, 13), (7, 6), (7, 18), (8, 6), (8, 8), (8, 9)] [110, 111, 112, 113, 114, 115, 138, 139] f0 s.heap [] [(2, 0, a0_, .ref q0_), (2, 1, a0_, .ref q1_), (2, 2, a0_, .ref q2_), (2, 3, a0_, .ref q3_), (0, 0, q2_, .ref q0_), (0, 1, q2_, .ref q1_), (5, 0, q1_, .ref q3_), (5, 1, q1_, .ref q7_), (2, 12, a0_, .int y0_), (8, 8, q0_, .int y1_)] := G3.start hP hD0 hWT hfx
  have hl := lv_entry ([.ref a0_]) (n := 6) (Nat.le_of_ble_eq_true rfl)
  rw [lg_entry_eq]
  generalize (lg_sl ([.ref a0_]) ++ List.replicate (6 - (lg_sl ([.ref a0_])).length) Slot.unset).toArray = ls at hl ⊢
  have hl : lv_has ls 6 [(0, .ref a0_)] := hl
  refine W_q (fun Q hQ => ?_)
  refine lv_aload_n hx hb dX2_readArguments_0 rfl (lv_at hl 0 rfl) ?_
  refine g_getk (C := RX2) (T := TX2) (N := 16) hx hb hts (mc_ inX2) hown hK g rfl 0 (by decide) rfl (hts _ (List.mem_cons_of_mem _ t_416)) (fun _ h9 => h9) 0 rfl dX2_readArguments_1 ?_
  have go_ := g
  refine g_calli (va_runV (As := []) (rest := []) ⟨hx, hb, hml, hown, hts⟩ (r_X8_place l dC dI L kd tys f0 s.heap.size g.2.2.2.1 q0_ mq0_ kq0_) (cwV 0 hts (gV_ t_1110 t_1111 t_1112 t_184 t_1113) rfl rfl rfl (by decide +kernel) ⟨(Nat.le_of_ble_eq_true rfl), (Nat.le_of_ble_eq_true rfl)⟩) (pre3V g hK mq0_ kq0_ (by decide) (q := (RX8, TX8, 10)) rfl) rfl rfl hl.1 rfl (lv_room (Nat.le_of_ble_eq_true rfl)) dX2_readArguments_4 ⟨(Nat.le_of_ble_eq_true rfl), (Nat.le_of_ble_eq_true rfl)⟩) g hK (by decide) (by decide) (fx' := [(2, 0, a0_, .ref q0_), (2, 1, a0_, .ref q1_), (2, 2, a0_, .ref q2_), (2, 3, a0_, .ref q3_), (0, 0, q2_, .ref q0_), (0, 1, q2_, .ref q1_), (5, 0, q1_, .ref q3_), (5, 1, q1_, .ref q7_), (2, 12, a0_, .int y0_), (8, 8, q0_, .int y1_)]) rfl (fun r_1 fr_1 H locs hp hMr_1 g => ?_)
  have hG_2 := cOK.frame hMr_1 go_.2.2.2.1 mq3_ kq3_ (by decide) (by decide) hGcq3_
  have hG_3 := dOK.frame hMr_1 go_.2.2.2.1 mq3_ kq3_ (by decide) (by decide) hGdq3_
  have hG_4 := jS.frame hMr_1 go_.2.2.2.1 mq3_ kq3_ (by decide) (by decide) hGsq3_
  have hG_5 := eOK.frame hMr_1 go_.2.2.2.1 mq2_ kq2_ (by decide) (by decide) hGeq2_
  refine lv_istore_n (lv' := [(1, .int r_1), (0, .ref a0_)]) hx hb dX2_readArguments_7 rfl hl (by decide) rfl (fun ls hl => ?_)
  refine lv_aload_n hx hb dX2_readArguments_8 rfl (lv_at hl 1 rfl) ?_
  refine g_getk (C := RX2) (T := TX2) (N := 16) hx hb hts (mc_ inX2) hown hK g rfl 0 (by decide) rfl (hts _ (List.mem_cons_of_mem _ t_416)) (fun _ h9 => h9) 0 rfl dX2_readArguments_9 ?_
  refine lv_bipush (v := 40) hx hb dX2_readArguments_12 (by decide) ?_
  have go_ := g
  refine g_callv (va_runV (As := [.int 40]) (rest := []) ⟨hx, hb, hml, hown, hts⟩ (r_X8_take l dC dI L kd tys fr_1 H.size g.2.2.2.1 q0_ mq0_ kq0_ 40 y1_ by1_ (g.fcts [9] rfl)) (cwV 1 hts (gV_ t_1098 t_1099 t_1100 t_184 t_1101) rfl rfl rfl (by decide +kernel) ⟨(Nat.le_of_ble_eq_true rfl), (Nat.le_of_ble_eq_true rfl)⟩) (pre3V g hK mq0_ kq0_ (by decide) (q := (RX8, TX8, 10)) rfl) rfl rfl hl.1 rfl (lv_room (Nat.le_of_ble_eq_true rfl)) dX2_readArguments_14 ⟨(Nat.le_of_ble_eq_true rfl), (Nat.le_of_ble_eq_true rfl)⟩) g hK (by decide) (by decide) (fx' := [(2, 0, a0_, .ref q0_), (2, 1, a0_, .ref q1_), (2, 2, a0_, .ref q2_), (2, 3, a0_, .ref q3_), (0, 0, q2_, .ref q0_), (0, 1, q2_, .ref q1_), (5, 0, q1_, .ref q3_), (5, 1, q1_, .ref q7_), (2, 12, a0_, .int y0_)]) rfl (fun fr_6 H locs hp hMr_6 g => ?_)
  rcases hp with ⟨x_7, h_8, hF_9⟩ | ⟨x_10, h_11, hF_12⟩
  · have hG_13 := cOK.frame hMr_6 go_.2.2.2.1 mq3_ kq3_ (by decide) (by decide) hG_2
    have hG_14 := dOK.frame hMr_6 go_.2.2.2.1 mq3_ kq3_ (by decide) (by decide) hG_3
    have hG_15 := jS.frame hMr_6 go_.2.2.2.1 mq3_ kq3_ (by decide) (by decide) hG_4
    have hG_16 := eOK.frame hMr_6 go_.2.2.2.1 mq2_ kq2_ (by decide) (by decide) hG_5
    have g := g.more hF_9
    refine lv_aload_n hx hb dX2_readArguments_17 rfl (lv_at hl 1 rfl) ?_
    refine g_geti (C := RX2) (T := TX2) (N := 16) hx hb hts (mc_ inX2) hown hK g ma0_ ka0_ (by decide) rfl 14 (by decide) rfl (hts _ (List.mem_cons_of_mem _ t_430)) (fun _ h9 => h9) rfl dX2_readArguments_18 (fun x_17 bx_17 g => ?_)
    have kb_0 : bd 0 0 (0 : Int32) := ⟨by decide, by decide⟩
    refine lv_if_ne (tgt := 46) hx hb dX2_readArguments_21 (by decide) (fun c_18 => ?_) (fun c_18 => ?_)
    · have fc_18 := neq_f c_18
      refine lv_iconst (v := 0) hx hb dX2_readArguments_46 (by decide) ?_
      refine lv_istore_n (lv' := [(2, .int 0), (1, .int r_1), (0, .ref a0_)]) hx hb dX2_readArguments_47 rfl hl (by decide) rfl (fun ls hl => ?_)
      refine lv_aload_n hx hb dX2_readArguments_48 rfl (lv_at hl 2 rfl) ?_
      refine g_getk (C := RX2) (T := TX2) (N := 16) hx hb hts (mc_ inX2) hown hK g rfl 0 (by decide) rfl (hts _ (List.mem_cons_of_mem _ t_416)) (fun _ h9 => h9) 3 rfl dX2_readArguments_49 ?_
      have go_ := g
      refine g_calli (va_runV (As := []) (rest := []) ⟨hx, hb, hml, hown, hts⟩ (r_X8_kind l dC dI L kd tys fr_6 H.size g.2.2.2.1 q0_ mq0_ kq0_) (cwV 0 hts (gV_ t_1118 t_1119 t_1120 t_184 t_1121) rfl rfl rfl (by decide +kernel) ⟨(Nat.le_of_ble_eq_true rfl), (Nat.le_of_ble_eq_true rfl)⟩) (pre3V g hK mq0_ kq0_ (by decide) (q := (RX8, TX8, 10)) rfl) rfl rfl hl.1 rfl (lv_room (Nat.le_of_ble_eq_true rfl)) dX2_readArguments_52 ⟨(Nat.le_of_ble_eq_true rfl), (Nat.le_of_ble_eq_true rfl)⟩) g hK (by decide) (by decide) (fx' := [(2, 14, a0_, .int x_17), (8, 6, q0_, .int x_7), (8, 8, q0_, .int y1_), (2, 0, a0_, .ref q0_), (2, 1, a0_, .ref q1_), (2, 2, a0_, .ref q2_), (2, 3, a0_, .ref q3_), (0, 0, q2_, .ref q0_), (0, 1, q2_, .ref q1_), (5, 0, q1_, .ref q3_), (5, 1, q1_, .ref q7_), (2, 12, a0_, .int y0_)]) rfl (fun r_19 fr_19 H locs hp hMr_19 g => ?_)
      have hG_20 := cOK.frame hMr_19 go_.2.2.2.1 mq3_ kq3_ (by decide) (by decide) hG_13
      have hG_21 := dOK.frame hMr_19 go_.2.2.2.1 mq3_ kq3_ (by decide) (by decide) hG_14
      have hG_22 := jS.frame hMr_19 go_.2.2.2.1 mq3_ kq3_ (by decide) (by decide) hG_15
      have hG_23 := eOK.frame hMr_19 go_.2.2.2.1 mq2_ kq2_ (by decide) (by decide) hG_16
      refine lv_bipush (v := 41) hx hb dX2_readArguments_55 (by decide) ?_
      have kb_41 : bd 41 41 (41 : Int32) := ⟨by decide, by decide⟩
      refine lv_icmp_eq (tgt := 64) hx hb dX2_readArguments_57 (by decide) (fun c_24 => ?_) (fun c_24 => ?_)
      · have fc_24 := eq_f c_24
        have b_25 : bd 41 41 r_19 := eqX fc_24 (bdT r_19) kb_41 (by decide)
        refine lv_iconst (v := 0) hx hb dX2_readArguments_64 (by decide) ?_
        refine lv_istore_n (lv' := [(3, .int 0), (2, .int 0), (1, .int r_1), (0, .ref a0_)]) hx hb dX2_readArguments_65 rfl hl (by decide) rfl (fun ls hl => ?_)
        refine lv_iconst (v := 0) hx hb dX2_readArguments_66 (by decide) ?_
        refine lv_istore (lv' := [(4, .int 0), (3, .int 0), (2, .int 0), (1, .int r_1), (0, .ref a0_)]) hx hb dX2_readArguments_67 hl (by decide) rfl (fun ls hl => ?_)
        refine lv_iload hx hb dX2_readArguments_69 (lv_at hl 0 rfl) ?_
        refine lv_iconst (v := 3) hx hb dX2_readArguments_71 (by decide) ?_
        refine lv_icmp_gt (tgt := 162) hx hb dX2_readArguments_72 (by decide) (fun c_ => absurd c_ (by decide)) (fun c_ => ?_)
        refine lv_iload_n hx hb dX2_readArguments_75 rfl (lv_at hl 1 rfl) ?_
        refine lv_if_eq (tgt := 162) hx hb dX2_readArguments_76 (by decide) (fun c_ => ?_) (fun c_ => absurd (by decide) c_)
        refine lv_aload_n hx hb dX2_readArguments_162 rfl (lv_at hl 4 rfl) ?_
        refine g_getk (C := RX2) (T := TX2) (N := 16) hx hb hts (mc_ inX2) hown hK g rfl 0 (by decide) rfl (hts _ (List.mem_cons_of_mem _ t_416)) (fun _ h9 => h9) 3 rfl dX2_readArguments_163 ?_
        have go_ := g
        refine g_calli (va_runV (As := []) (rest := []) ⟨hx, hb, hml, hown, hts⟩ (r_X8_place l dC dI L kd tys fr_19 H.size g.2.2.2.1 q0_ mq0_ kq0_) (cwV 0 hts (gV_ t_1110 t_1111 t_1112 t_184 t_1113) rfl rfl rfl (by decide +kernel) ⟨(Nat.le_of_ble_eq_true rfl), (Nat.le_of_ble_eq_true rfl)⟩) (pre3V g hK mq0_ kq0_ (by decide) (q := (RX8, TX8, 10)) rfl) rfl rfl hl.1 rfl (lv_room (Nat.le_of_ble_eq_true rfl)) dX2_readArguments_166 ⟨(Nat.le_of_ble_eq_true rfl), (Nat.le_of_ble_eq_true rfl)⟩) g hK (by decide) (by decide) (fx' := [(2, 14, a0_, .int x_17), (8, 6, q0_, .int x_7), (8, 8, q0_, .int y1_), (2, 0, a0_, .ref q0_), (2, 1, a0_, .ref q1_), (2, 2, a0_, .ref q2_), (2, 3, a0_, .ref q3_), (0, 0, q2_, .ref q0_), (0, 1, q2_, .ref q1_), (5, 0, q1_, .ref q3_), (5, 1, q1_, .ref q7_), (2, 12, a0_, .int y0_)]) rfl (fun r_26 fr_26 H locs hp hMr_26 g => ?_)
        have hG_27 := cOK.frame hMr_26 go_.2.2.2.1 mq3_ kq3_ (by decide) (by decide) hG_20
        have hG_28 := dOK.frame hMr_26 go_.2.2.2.1 mq3_ kq3_ (by decide) (by decide) hG_21
        have hG_29 := jS.frame hMr_26 go_.2.2.2.1 mq3_ kq3_ (by decide) (by decide) hG_22
        have hG_30 := eOK.frame hMr_26 go_.2.2.2.1 mq2_ kq2_ (by decide) (by decide) hG_23
        refine lv_istore (lv' := [(4, .int r_26), (3, .int 0), (2, .int 0), (1, .int r_1), (0, .ref a0_)]) hx hb dX2_readArguments_169 hl (by decide) rfl (fun ls hl => ?_)
        refine lv_aload_n hx hb dX2_readArguments_171 rfl (lv_at hl 4 rfl) ?_
        refine g_getk (C := RX2) (T := TX2) (N := 16) hx hb hts (mc_ inX2) hown hK g rfl 0 (by decide) rfl (hts _ (List.mem_cons_of_mem _ t_416)) (fun _ h9 => h9) 3 rfl dX2_readArguments_172 ?_
        refine lv_bipush (v := 41) hx hb dX2_readArguments_175 (by decide) ?_
        have go_ := g
        refine g_callv (va_runV (As := [.int 41]) (rest := []) ⟨hx, hb, hml, hown, hts⟩ (r_X8_take l dC dI L kd tys fr_26 H.size g.2.2.2.1 q0_ mq0_ kq0_ 41 y1_ by1_ (g.fcts [2] rfl)) (cwV 1 hts (gV_ t_1098 t_1099 t_1100 t_184 t_1101) rfl rfl rfl (by decide +kernel) ⟨(Nat.le_of_ble_eq_true rfl), (Nat.le_of_ble_eq_true rfl)⟩) (pre3V g hK mq0_ kq0_ (by decide) (q := (RX8, TX8, 10)) rfl) rfl rfl hl.1 rfl (lv_room (Nat.le_of_ble_eq_true rfl)) dX2_readArguments_177 ⟨(Nat.le_of_ble_eq_true rfl), (Nat.le_of_ble_eq_true rfl)⟩) g hK (by decide) (by decide) (fx' := [(2, 14, a0_, .int x_17), (2, 0, a0_, .ref q0_), (2, 1, a0_, .ref q1_), (2, 2, a0_, .ref q2_), (2, 3, a0_, .ref q3_), (0, 0, q2_, .ref q0_), (0, 1, q2_, .ref q1_), (5, 0, q1_, .ref q3_), (5, 1, q1_, .ref q7_), (2, 12, a0_, .int y0_)]) rfl (fun fr_31 H locs hp hMr_31 g => ?_)
        rcases hp with ⟨x_32, h_33, hF_34⟩ | ⟨x_35, h_36, hF_37⟩
        · have hG_38 := cOK.frame hMr_31 go_.2.2.2.1 mq3_ kq3_ (by decide) (by decide) hG_27
          have hG_39 := dOK.frame hMr_31 go_.2.2.2.1 mq3_ kq3_ (by decide) (by decide) hG_28
          have hG_40 := jS.frame hMr_31 go_.2.2.2.1 mq3_ kq3_ (by decide) (by decide) hG_29
          have hG_41 := eOK.frame hMr_31 go_.2.2.2.1 mq2_ kq2_ (by decide) (by decide) hG_30
          have g := g.more hF_34
          refine lv_iload_n hx hb dX2_readArguments_180 rfl (lv_at hl 2 rfl) ?_
          refine lv_aload_n hx hb dX2_readArguments_181 rfl (lv_at hl 4 rfl) ?_
          refine g_getk (C := RX2) (T := TX2) (N := 16) hx hb hts (mc_ inX2) hown hK g rfl 14 (by decide) rfl (hts _ (List.mem_cons_of_mem _ t_430)) (fun _ h9 => h9) 2 rfl dX2_readArguments_182 ?_
          refine lv_icmp_ge (tgt := 199) hx hb dX2_readArguments_185 (by decide) (fun c_42 => ?_) (fun c_42 => ?_)
          · have fc_42 := le_f c_42
            have b_43 : bd (-2147483648) 0 x_17 := leL fc_42 (bdT x_17) kb_0 (by decide)
            refine lv_aload_n hx hb dX2_readArguments_199 rfl (lv_at hl 4 rfl) ?_
            refine g_getk (C := RX2) (T := TX2) (N := 16) hx hb hts (mc_ inX2) hown hK g rfl 3 (by decide) rfl (hts _ (List.mem_cons_of_mem _ t_419)) (fun _ h9 => h9) 6 rfl dX2_readArguments_200 ?_
            refine lv_aload_n hx hb dX2_readArguments_203 rfl (lv_at hl 4 rfl) ?_
            refine g_getk (C := RX2) (T := TX2) (N := 16) hx hb hts (mc_ inX2) hown hK g rfl 12 (by decide) rfl (hts _ (List.mem_cons_of_mem _ t_428)) (fun _ h9 => h9) 11 rfl dX2_readArguments_204 ?_
            refine lv_aload_n hx hb dX2_readArguments_207 rfl (lv_at hl 4 rfl) ?_
            refine g_geti (C := RX2) (T := TX2) (N := 16) hx hb hts (mc_ inX2) hown hK g ma0_ ka0_ (by decide) rfl 13 (by decide) rfl (hts _ (List.mem_cons_of_mem _ t_429)) (fun _ h9 => h9) rfl dX2_readArguments_208 (fun x_44 bx_44 g => ?_)
            obtain ⟨a_45, ma_45, ka_45, g⟩ := g_factr g mq3_ kq3_ (by decide) 4 rfl
            obtain ⟨a_46, ma_46, ka_46, g⟩ := g_factr g mq3_ kq3_ (by decide) 5 rfl
            obtain ⟨x_47, bx_47, g⟩ := g_facti g mq3_ kq3_ (by decide) 6 rfl
            have go_ := g
            refine g_callv (va_runV (As := [.int y0_, .int x_44]) (rest := []) ⟨hx, hb, hml, hown, hts⟩ (r_X7_emitN l dC dI L kd tys fr_31 H.size g.2.2.2.1 q3_ mq3_ kq3_ a_45 ma_45 ka_45 a_46 ma_46 ka_46 x_47 bx_47 T_ hG_39 y0_ x_44 (fun j9 => jOK fr_31 q3_ j9) hG_38 (fun _ h9 => h9) ⟨(fun h9 => ⟨(by have h9_0 := b_25; unfold bd at h9_0; have h9_1 := b_43; unfold bd at h9_1; have h9_2 := h_33; unfold bd at h9_2; have h9_3 := bx_44; unfold bd at h9_3; have h9_4 := bx_47; unfold bd at h9_4; have h9_5 := h_8; unfold bd at h9_5; have h9_6 := by0_; unfold bd at h9_6; have h9_7 := by1_; unfold bd at h9_7; have h8_0 := kb_0; unfold bd at h8_0; have h8_1 := kb_41; unfold bd at h8_1; omega), (by have h9_0 := b_25; unfold bd at h9_0; have h9_1 := b_43; unfold bd at h9_1; have h9_2 := h_33; unfold bd at h9_2; have h9_3 := bx_44; unfold bd at h9_3; have h9_4 := bx_47; unfold bd at h9_4; have h9_5 := h_8; unfold bd at h9_5; have h9_6 := by0_; unfold bd at h9_6; have h9_7 := by1_; unfold bd at h9_7; have h8_0 := kb_0; unfold bd at h8_0; have h8_1 := kb_41; unfold bd at h8_1; omega)⟩), (fun h9 => ⟨(by have h9_0 := b_25; unfold bd at h9_0; have h9_1 := b_43; unfold bd at h9_1; have h9_2 := h_33; unfold bd at h9_2; have h9_3 := bx_44; unfold bd at h9_3; have h9_4 := bx_47; unfold bd at h9_4; have h9_5 := h_8; unfold bd at h9_5; have h9_6 := by0_; unfold bd at h9_6; have h9_7 := by1_; unfold bd at h9_7; have h8_0 := kb_0; unfold bd at h8_0; have h8_1 := kb_41; unfold bd at h8_1; omega), (by have h9_0 := b_25; unfold bd at h9_0; have h9_1 := b_43; unfold bd at h9_1; have h9_2 := h_33; unfold bd at h9_2; have h9_3 := bx_44; unfold bd at h9_3; have h9_4 := bx_47; unfold bd at h9_4; have h9_5 := h_8; unfold bd at h9_5; have h9_6 := by0_; unfold bd at h9_6; have h9_7 := by1_; unfold bd at h9_7; have h8_0 := kb_0; unfold bd at h8_0; have h8_1 := kb_41; unfold bd at h8_1; omega)⟩), (fun h9 => ⟨(by have h9_0 := b_25; unfold bd at h9_0; have h9_1 := b_43; unfold bd at h9_1; have h9_2 := h_33; unfold bd at h9_2; have h9_3 := bx_44; unfold bd at h9_3; have h9_4 := bx_47; unfold bd at h9_4; have h9_5 := h_8; unfold bd at h9_5; have h9_6 := by0_; unfold bd at h9_6; have h9_7 := by1_; unfold bd at h9_7; have h8_0 := kb_0; unfold bd at h8_0; have h8_1 := kb_41; unfold bd at h8_1; omega), (by have h9_0 := b_25; unfold bd at h9_0; have h9_1 := b_43; unfold bd at h9_1; have h9_2 := h_33; unfold bd at h9_2; have h9_3 := bx_44; unfold bd at h9_3; have h9_4 := bx_47; unfold bd at h9_4; have h9_5 := h_8; unfold bd at h9_5; have h9_6 := by0_; unfold bd at h9_6; have h9_7 := by1_; unfold bd at h9_7; have h8_0 := kb_0; unfold bd at h8_0; have h8_1 := kb_41; unfold bd at h8_1; omega)⟩)⟩ (g.fcts [2, 1, 0] rfl)) (cwV 2 hts (gV_ t_1301 t_1204 t_1205 t_191 t_1206) rfl rfl rfl (by decide +kernel) ⟨(Nat.le_of_ble_eq_true rfl), (Nat.le_of_ble_eq_true rfl)⟩) (pre3V g hK mq3_ kq3_ (by decide) (q := (RX7, TX7, 19)) rfl) rfl rfl hl.1 rfl (lv_room (Nat.le_of_ble_eq_true rfl)) dX2_readArguments_211 ⟨(Nat.le_of_ble_eq_true rfl), (Nat.le_of_ble_eq_true rfl)⟩) g hK (by decide) (by decide) (fx' := [(7, 5, q3_, .ref a_46), (7, 4, q3_, .ref a_45), (2, 13, a0_, .int x_44), (8, 6, q0_, .int x_32), (8, 8, q0_, .int y1_), (2, 14, a0_, .int x_17), (2, 0, a0_, .ref q0_), (2, 1, a0_, .ref q1_), (2, 2, a0_, .ref q2_), (2, 3, a0_, .ref q3_), (0, 0, q2_, .ref q0_), (0, 1, q2_, .ref q1_), (5, 0, q1_, .ref q3_), (5, 1, q1_, .ref q7_), (2, 12, a0_, .int y0_)]) rfl (fun fr_48 H locs hp hMr_48 g => ?_)
            obtain ⟨hG_49, hG_50, hG_51, hx_52, x_53, h_54, hF_55⟩ := hp
            have hG_56 := eOK.frame hMr_48 go_.2.2.2.1 mq2_ kq2_ (by decide) (by decide) hG_41
            have g := g.more hF_55
            have hs_57 := jS.mv hG_40 hG_51
            refine lv_aload_n hx hb dX2_readArguments_214 rfl (lv_at hl 4 rfl) ?_
            refine g_getk (C := RX2) (T := TX2) (N := 16) hx hb hts (mc_ inX2) hown hK g rfl 3 (by decide) rfl (hts _ (List.mem_cons_of_mem _ t_419)) (fun _ h9 => h9) 10 rfl dX2_readArguments_215 ?_
            refine lv_bipush (v := 22) hx hb dX2_readArguments_218 (by decide) ?_
            refine lv_iconst (v := 0) hx hb dX2_readArguments_220 (by decide) ?_
            have kb_22 : bd 22 22 (22 : Int32) := ⟨by decide, by decide⟩
            have go_ := g
            refine g_callv (va_runV (As := [.int 22, .int 0]) (rest := []) ⟨hx, hb, hml, hown, hts⟩ (r_X7_emitN l dC dI L kd tys fr_48 H.size g.2.2.2.1 q3_ mq3_ kq3_ a_45 ma_45 ka_45 a_46 ma_46 ka_46 x_53 h_54 T_ hG_49 (22 : Int32) (0 : Int32) (fun j9 => jOK fr_48 q3_ j9) hG_50 (fun _ h9 => h9) ⟨(fun h9 => ⟨(by have h9_0 := b_25; unfold bd at h9_0; have h9_1 := b_43; unfold bd at h9_1; have h9_2 := h_33; unfold bd at h9_2; have h9_3 := bx_44; unfold bd at h9_3; have h9_4 := bx_47; unfold bd at h9_4; have h9_5 := h_54; unfold bd at h9_5; have h9_6 := h_8; unfold bd at h9_6; have h9_7 := by0_; unfold bd at h9_7; have h9_8 := by1_; unfold bd at h9_8; have h8_0 := kb_0; unfold bd at h8_0; have h8_1 := kb_22; unfold bd at h8_1; have h8_2 := kb_41; unfold bd at h8_2; omega), (by have h9_0 := b_25; unfold bd at h9_0; have h9_1 := b_43; unfold bd at h9_1; have h9_2 := h_33; unfold bd at h9_2; have h9_3 := bx_44; unfold bd at h9_3; have h9_4 := bx_47; unfold bd at h9_4; have h9_5 := h_54; unfold bd at h9_5; have h9_6 := h_8; unfold bd at h9_6; have h9_7 := by0_; unfold bd at h9_7; have h9_8 := by1_; unfold bd at h9_8; have h8_0 := kb_0; unfold bd at h8_0; have h8_1 := kb_22; unfold bd at h8_1; have h8_2 := kb_41; unfold bd at h8_2; omega)⟩), (fun h9 => ⟨(by have h9_0 := b_25; unfold bd at h9_0; have h9_1 := b_43; unfold bd at h9_1; have h9_2 := h_33; unfold bd at h9_2; have h9_3 := bx_44; unfold bd at h9_3; have h9_4 := bx_47; unfold bd at h9_4; have h9_5 := h_54; unfold bd at h9_5; have h9_6 := h_8; unfold bd at h9_6; have h9_7 := by0_; unfold bd at h9_7; have h9_8 := by1_; unfold bd at h9_8; have h8_0 := kb_0; unfold bd at h8_0; have h8_1 := kb_22; unfold bd at h8_1; have h8_2 := kb_41; unfold bd at h8_2; omega), (by have h9_0 := b_25; unfold bd at h9_0; have h9_1 := b_43; unfold bd at h9_1; have h9_2 := h_33; unfold bd at h9_2; have h9_3 := bx_44; unfold bd at h9_3; have h9_4 := bx_47; unfold bd at h9_4; have h9_5 := h_54; unfold bd at h9_5; have h9_6 := h_8; unfold bd at h9_6; have h9_7 := by0_; unfold bd at h9_7; have h9_8 := by1_; unfold bd at h9_8; have h8_0 := kb_0; unfold bd at h8_0; have h8_1 := kb_22; unfold bd at h8_1; have h8_2 := kb_41; unfold bd at h8_2; omega)⟩), (fun h9 => ⟨(by have h9_0 := b_25; unfold bd at h9_0; have h9_1 := b_43; unfold bd at h9_1; have h9_2 := h_33; unfold bd at h9_2; have h9_3 := bx_44; unfold bd at h9_3; have h9_4 := bx_47; unfold bd at h9_4; have h9_5 := h_54; unfold bd at h9_5; have h9_6 := h_8; unfold bd at h9_6; have h9_7 := by0_; unfold bd at h9_7; have h9_8 := by1_; unfold bd at h9_8; have h8_0 := kb_0; unfold bd at h8_0; have h8_1 := kb_22; unfold bd at h8_1; have h8_2 := kb_41; unfold bd at h8_2; omega), (by have h9_0 := b_25; unfold bd at h9_0; have h9_1 := b_43; unfold bd at h9_1; have h9_2 := h_33; unfold bd at h9_2; have h9_3 := bx_44; unfold bd at h9_3; have h9_4 := bx_47; unfold bd at h9_4; have h9_5 := h_54; unfold bd at h9_5; have h9_6 := h_8; unfold bd at h9_6; have h9_7 := by0_; unfold bd at h9_7; have h9_8 := by1_; unfold bd at h9_8; have h8_0 := kb_0; unfold bd at h8_0; have h8_1 := kb_22; unfold bd at h8_1; have h8_2 := kb_41; unfold bd at h8_2; omega)⟩)⟩ (g.fcts [2, 1, 0] rfl)) (cwV 2 hts (gV_ t_1301 t_1204 t_1205 t_191 t_1206) rfl rfl rfl (by decide +kernel) ⟨(Nat.le_of_ble_eq_true rfl), (Nat.le_of_ble_eq_true rfl)⟩) (pre3V g hK mq3_ kq3_ (by decide) (q := (RX7, TX7, 19)) rfl) rfl rfl hl.1 rfl (lv_room (Nat.le_of_ble_eq_true rfl)) dX2_readArguments_221 ⟨(Nat.le_of_ble_eq_true rfl), (Nat.le_of_ble_eq_true rfl)⟩) g hK (by decide) (by decide) (fx' := [(7, 5, q3_, .ref a_46), (7, 4, q3_, .ref a_45), (2, 13, a0_, .int x_44), (8, 6, q0_, .int x_32), (8, 8, q0_, .int y1_), (2, 14, a0_, .int x_17), (2, 0, a0_, .ref q0_), (2, 1, a0_, .ref q1_), (2, 2, a0_, .ref q2_), (2, 3, a0_, .ref q3_), (0, 0, q2_, .ref q0_), (0, 1, q2_, .ref q1_), (5, 0, q1_, .ref q3_), (5, 1, q1_, .ref q7_), (2, 12, a0_, .int y0_)]) rfl (fun fr_58 H locs hp hMr_58 g => ?_)
            obtain ⟨hG_59, hG_60, hG_61, hx_62, x_63, h_64, hF_65⟩ := hp
            have hG_66 := eOK.frame hMr_58 go_.2.2.2.1 mq2_ kq2_ (by decide) (by decide) hG_56
            have g := g.more hF_65
            have hs_67 := jS.mv hs_57 hG_61
            refine lv_aload_n hx hb dX2_readArguments_224 rfl (lv_at hl 4 rfl) ?_
            refine g_getk (C := RX2) (T := TX2) (N := 16) hx hb hts (mc_ inX2) hown hK g rfl 0 (by decide) rfl (hts _ (List.mem_cons_of_mem _ t_416)) (fun _ h9 => h9) 7 rfl dX2_readArguments_225 ?_
            refine lv_bipush (v := 59) hx hb dX2_readArguments_228 (by decide) ?_
            have go_ := g
            refine g_callv (va_runV (As := [.int 59]) (rest := []) ⟨hx, hb, hml, hown, hts⟩ (r_X8_take l dC dI L kd tys fr_58 H.size g.2.2.2.1 q0_ mq0_ kq0_ 59 y1_ by1_ (g.fcts [5] rfl)) (cwV 1 hts (gV_ t_1098 t_1099 t_1100 t_184 t_1101) rfl rfl rfl (by decide +kernel) ⟨(Nat.le_of_ble_eq_true rfl), (Nat.le_of_ble_eq_true rfl)⟩) (pre3V g hK mq0_ kq0_ (by decide) (q := (RX8, TX8, 10)) rfl) rfl rfl hl.1 rfl (lv_room (Nat.le_of_ble_eq_true rfl)) dX2_readArguments_230 ⟨(Nat.le_of_ble_eq_true rfl), (Nat.le_of_ble_eq_true rfl)⟩) g hK (by decide) (by decide) (fx' := [(7, 6, q3_, .int x_63), (7, 5, q3_, .ref a_46), (7, 4, q3_, .ref a_45), (2, 13, a0_, .int x_44), (2, 14, a0_, .int x_17), (2, 0, a0_, .ref q0_), (2, 1, a0_, .ref q1_), (2, 2, a0_, .ref q2_), (2, 3, a0_, .ref q3_), (0, 0, q2_, .ref q0_), (0, 1, q2_, .ref q1_), (5, 0, q1_, .ref q3_), (5, 1, q1_, .ref q7_), (2, 12, a0_, .int y0_)]) rfl (fun fr_68 H locs hp hMr_68 g => ?_)
            rcases hp with ⟨x_69, h_70, hF_71⟩ | ⟨x_72, h_73, hF_74⟩
            · have hG_75 := cOK.frame hMr_68 go_.2.2.2.1 mq3_ kq3_ (by decide) (by decide) hG_60
              have hG_76 := dOK.frame hMr_68 go_.2.2.2.1 mq3_ kq3_ (by decide) (by decide) hG_59
              have hG_77 := jS.frame hMr_68 go_.2.2.2.1 mq3_ kq3_ (by decide) (by decide) hs_67
              have hG_78 := eOK.frame hMr_68 go_.2.2.2.1 mq2_ kq2_ (by decide) (by decide) hG_66
              have g := g.more hF_71
              subst hQ
              exact W.vret hx hb hr (fun t ht hW => ⟨⟨_, rfl, Or.inl ⟨hG_75, hG_76, hG_77, hG_78, x_69, h_70, (g.fcts [0, 1] rfl)⟩, q3_of g hK ht hW⟩, g.2.2.1.F ht⟩) g.2.2.1.2.2 dX2_readArguments_233
            · have hG_79 := cOK.frame hMr_68 go_.2.2.2.1 mq3_ kq3_ (by decide) (by decide) hG_60
              have hG_80 := dOK.frame hMr_68 go_.2.2.2.1 mq3_ kq3_ (by decide) (by decide) hG_59
              have hG_81 := jS.frame hMr_68 go_.2.2.2.1 mq3_ kq3_ (by decide) (by decide) hs_67
              have hG_82 := eOK.frame hMr_68 go_.2.2.2.1 mq2_ kq2_ (by decide) (by decide) hG_66
              have g := g.more hF_74
              have kb_1201 : bd 1201 1201 (1201 : Int32) := ⟨by decide, by decide⟩
              subst hQ
              exact W.vret hx hb hr (fun t ht hW => ⟨⟨_, rfl, Or.inr (⟨hG_80, hG_82, 1201, kb_1201, x_72, h_73, (g.fcts [0, 1] rfl)⟩), q3_of g hK ht hW⟩, g.2.2.1.F ht⟩) g.2.2.1.2.2 dX2_readArguments_233
          · have fc_42 := nle_f c_42
            have b_83 : bd 1 2147483647 x_17 := ltR fc_42 kb_0 (bdT x_17) (by decide)
            refine lv_aload_n hx hb dX2_readArguments_188 rfl (lv_at hl 4 rfl) ?_
            refine g_getk (C := RX2) (T := TX2) (N := 16) hx hb hts (mc_ inX2) hown hK g rfl 0 (by decide) rfl (hts _ (List.mem_cons_of_mem _ t_416)) (fun _ h9 => h9) 3 rfl dX2_readArguments_189 ?_
            refine lv_bipush (v := 6) hx hb dX2_readArguments_192 (by decide) ?_
            refine lv_iload hx hb dX2_readArguments_194 (lv_at hl 0 rfl) ?_
            have kb_6 : bd 6 6 (6 : Int32) := ⟨by decide, by decide⟩
            have go_ := g
            refine g_callv (va_runV (As := [.int 6, .int r_26]) (rest := []) ⟨hx, hb, hml, hown, hts⟩ (r_X8_fail l dC dI L kd tys fr_31 H.size g.2.2.2.1 q0_ mq0_ kq0_ 6 (bd_sub kb_6 (by decide)) r_26 y1_ by1_ (g.fcts [1] rfl)) (cwV 2 hts (gV_ t_1122 t_1107 t_1108 t_184 t_1109) rfl rfl rfl (by decide +kernel) ⟨(Nat.le_of_ble_eq_true rfl), (Nat.le_of_ble_eq_true rfl)⟩) (pre3V g hK mq0_ kq0_ (by decide) (q := (RX8, TX8, 10)) rfl) rfl rfl hl.1 rfl (lv_room (Nat.le_of_ble_eq_true rfl)) dX2_readArguments_196 ⟨(Nat.le_of_ble_eq_true rfl), (Nat.le_of_ble_eq_true rfl)⟩) g hK (by decide) (by decide) (fx' := [(2, 14, a0_, .int x_17), (2, 0, a0_, .ref q0_), (2, 1, a0_, .ref q1_), (2, 2, a0_, .ref q2_), (2, 3, a0_, .ref q3_), (0, 0, q2_, .ref q0_), (0, 1, q2_, .ref q1_), (5, 0, q1_, .ref q3_), (5, 1, q1_, .ref q7_), (2, 12, a0_, .int y0_)]) rfl (fun fr_84 H locs hp hMr_84 g => ?_)
            obtain ⟨x_85, h_86, hF_87⟩ := hp
            have hG_88 := cOK.frame hMr_84 go_.2.2.2.1 mq3_ kq3_ (by decide) (by decide) hG_38
            have hG_89 := dOK.frame hMr_84 go_.2.2.2.1 mq3_ kq3_ (by decide) (by decide) hG_39
            have hG_90 := jS.frame hMr_84 go_.2.2.2.1 mq3_ kq3_ (by decide) (by decide) hG_40
            have hG_91 := eOK.frame hMr_84 go_.2.2.2.1 mq2_ kq2_ (by decide) (by decide) hG_41
            have g := g.more hF_87
            refine lv_aload_n hx hb dX2_readArguments_199 rfl (lv_at hl 4 rfl) ?_
            refine g_getk (C := RX2) (T := TX2) (N := 16) hx hb hts (mc_ inX2) hown hK g rfl 3 (by decide) rfl (hts _ (List.mem_cons_of_mem _ t_419)) (fun _ h9 => h9) 6 rfl dX2_readArguments_200 ?_
            refine lv_aload_n hx hb dX2_readArguments_203 rfl (lv_at hl 4 rfl) ?_
            refine g_getk (C := RX2) (T := TX2) (N := 16) hx hb hts (mc_ inX2) hown hK g rfl 12 (by decide) rfl (hts _ (List.mem_cons_of_mem _ t_428)) (fun _ h9 => h9) 11 rfl dX2_readArguments_204 ?_
            refine lv_aload_n hx hb dX2_readArguments_207 rfl (lv_at hl 4 rfl) ?_
            refine g_geti (C := RX2) (T := TX2) (N := 16) hx hb hts (mc_ inX2) hown hK g ma0_ ka0_ (by decide) rfl 13 (by decide) rfl (hts _ (List.mem_cons_of_mem _ t_429)) (fun _ h9 => h9) rfl dX2_readArguments_208 (fun x_92 bx_92 g => ?_)
            obtain ⟨a_93, ma_93, ka_93, g⟩ := g_factr g mq3_ kq3_ (by decide) 4 rfl
            obtain ⟨a_94, ma_94, ka_94, g⟩ := g_factr g mq3_ kq3_ (by decide) 5 rfl
            obtain ⟨x_95, bx_95, g⟩ := g_facti g mq3_ kq3_ (by decide) 6 rfl
            have go_ := g
            refine g_callv (va_runV (As := [.int y0_, .int x_92]) (rest := []) ⟨hx, hb, hml, hown, hts⟩ (r_X7_emitF l dC dI L kd tys fr_84 H.size g.2.2.2.1 q3_ mq3_ kq3_ a_93 ma_93 ka_93 a_94 ma_94 ka_94 x_95 bx_95 T_ hG_89 y0_ x_92 (g.fcts [2, 1, 0] rfl)) (cwV 2 hts (gV_ t_1301 t_1204 t_1205 t_191 t_1206) rfl rfl rfl (by decide +kernel) ⟨(Nat.le_of_ble_eq_true rfl), (Nat.le_of_ble_eq_true rfl)⟩) (pre3V g hK mq3_ kq3_ (by decide) (q := (RX7, TX7, 19)) rfl) rfl rfl hl.1 rfl (lv_room (Nat.le_of_ble_eq_true rfl)) dX2_readArguments_211 ⟨(Nat.le_of_ble_eq_true rfl), (Nat.le_of_ble_eq_true rfl)⟩) g hK (by decide) (by decide) (fx' := [(7, 5, q3_, .ref a_94), (7, 4, q3_, .ref a_93), (2, 13, a0_, .int x_92), (8, 6, q0_, .int 1201), (8, 8, q0_, .int x_85), (2, 14, a0_, .int x_17), (2, 0, a0_, .ref q0_), (2, 1, a0_, .ref q1_), (2, 2, a0_, .ref q2_), (2, 3, a0_, .ref q3_), (0, 0, q2_, .ref q0_), (0, 1, q2_, .ref q1_), (5, 0, q1_, .ref q3_), (5, 1, q1_, .ref q7_), (2, 12, a0_, .int y0_)]) rfl (fun fr_96 H locs hp hMr_96 g => ?_)
            obtain ⟨hG_97, x_98, h_99, hF_100⟩ := hp
            have hG_101 := eOK.frame hMr_96 go_.2.2.2.1 mq2_ kq2_ (by decide) (by decide) hG_91
            have g := g.more hF_100
            refine lv_aload_n hx hb dX2_readArguments_214 rfl (lv_at hl 4 rfl) ?_
            refine g_getk (C := RX2) (T := TX2) (N := 16) hx hb hts (mc_ inX2) hown hK g rfl 3 (by decide) rfl (hts _ (List.mem_cons_of_mem _ t_419)) (fun _ h9 => h9) 10 rfl dX2_readArguments_215 ?_
            refine lv_bipush (v := 22) hx hb dX2_readArguments_218 (by decide) ?_
            refine lv_iconst (v := 0) hx hb dX2_readArguments_220 (by decide) ?_
            have go_ := g
            refine g_callv (va_runV (As := [.int 22, .int 0]) (rest := []) ⟨hx, hb, hml, hown, hts⟩ (r_X7_emitF l dC dI L kd tys fr_96 H.size g.2.2.2.1 q3_ mq3_ kq3_ a_93 ma_93 ka_93 a_94 ma_94 ka_94 x_98 h_99 T_ hG_97 (22 : Int32) (0 : Int32) (g.fcts [2, 1, 0] rfl)) (cwV 2 hts (gV_ t_1301 t_1204 t_1205 t_191 t_1206) rfl rfl rfl (by decide +kernel) ⟨(Nat.le_of_ble_eq_true rfl), (Nat.le_of_ble_eq_true rfl)⟩) (pre3V g hK mq3_ kq3_ (by decide) (q := (RX7, TX7, 19)) rfl) rfl rfl hl.1 rfl (lv_room (Nat.le_of_ble_eq_true rfl)) dX2_readArguments_221 ⟨(Nat.le_of_ble_eq_true rfl), (Nat.le_of_ble_eq_true rfl)⟩) g hK (by decide) (by decide) (fx' := [(7, 5, q3_, .ref a_94), (7, 4, q3_, .ref a_93), (2, 13, a0_, .int x_92), (8, 6, q0_, .int 1201), (8, 8, q0_, .int x_85), (2, 14, a0_, .int x_17), (2, 0, a0_, .ref q0_), (2, 1, a0_, .ref q1_), (2, 2, a0_, .ref q2_), (2, 3, a0_, .ref q3_), (0, 0, q2_, .ref q0_), (0, 1, q2_, .ref q1_), (5, 0, q1_, .ref q3_), (5, 1, q1_, .ref q7_), (2, 12, a0_, .int y0_)]) rfl (fun fr_102 H locs hp hMr_102 g => ?_)
            obtain ⟨hG_103, x_104, h_105, hF_106⟩ := hp
            have hG_107 := eOK.frame hMr_102 go_.2.2.2.1 mq2_ kq2_ (by decide) (by decide) hG_101
            have g := g.more hF_106
            refine lv_aload_n hx hb dX2_readArguments_224 rfl (lv_at hl 4 rfl) ?_
            refine g_getk (C := RX2) (T := TX2) (N := 16) hx hb hts (mc_ inX2) hown hK g rfl 0 (by decide) rfl (hts _ (List.mem_cons_of_mem _ t_416)) (fun _ h9 => h9) 7 rfl dX2_readArguments_225 ?_
            refine lv_bipush (v := 59) hx hb dX2_readArguments_228 (by decide) ?_
            have kb_1201 : bd 1201 1201 (1201 : Int32) := ⟨by decide, by decide⟩
            have go_ := g
            refine g_callv (va_runV (As := [.int 59]) (rest := []) ⟨hx, hb, hml, hown, hts⟩ (r_X8_take_2 l dC dI L kd tys fr_102 H.size g.2.2.2.1 q0_ mq0_ kq0_ 59 1201 kb_1201 x_85 h_86 (g.fcts [4, 5] rfl)) (cwV 1 hts (gV_ t_1098 t_1099 t_1100 t_184 t_1101) rfl rfl rfl (by decide +kernel) ⟨(Nat.le_of_ble_eq_true rfl), (Nat.le_of_ble_eq_true rfl)⟩) (pre3V g hK mq0_ kq0_ (by decide) (q := (RX8, TX8, 10)) rfl) rfl rfl hl.1 rfl (lv_room (Nat.le_of_ble_eq_true rfl)) dX2_readArguments_230 ⟨(Nat.le_of_ble_eq_true rfl), (Nat.le_of_ble_eq_true rfl)⟩) g hK (by decide) (by decide) (fx' := [(7, 6, q3_, .int x_104), (7, 5, q3_, .ref a_94), (7, 4, q3_, .ref a_93), (2, 13, a0_, .int x_92), (8, 8, q0_, .int x_85), (2, 14, a0_, .int x_17), (2, 0, a0_, .ref q0_), (2, 1, a0_, .ref q1_), (2, 2, a0_, .ref q2_), (2, 3, a0_, .ref q3_), (0, 0, q2_, .ref q0_), (0, 1, q2_, .ref q1_), (5, 0, q1_, .ref q3_), (5, 1, q1_, .ref q7_), (2, 12, a0_, .int y0_)]) rfl (fun fr_108 H locs hp hMr_108 g => ?_)
            obtain ⟨x_109, h_110, hF_111⟩ := hp
            have hG_112 := dOK.frame hMr_108 go_.2.2.2.1 mq3_ kq3_ (by decide) (by decide) hG_103
            have hG_113 := eOK.frame hMr_108 go_.2.2.2.1 mq2_ kq2_ (by decide) (by decide) hG_107
            have g := g.more hF_111
            subst hQ
            exact W.vret hx hb hr (fun t ht hW => ⟨⟨_, rfl, Or.inr (⟨hG_112, hG_113, x_109, h_110, x_85, h_86, (g.fcts [0, 5] rfl)⟩), q3_of g hK ht hW⟩, g.2.2.1.F ht⟩) g.2.2.1.2.2 dX2_readArguments_233
        · have hG_114 := cOK.frame hMr_31 go_.2.2.2.1 mq3_ kq3_ (by decide) (by decide) hG_27
          have hG_115 := dOK.frame hMr_31 go_.2.2.2.1 mq3_ kq3_ (by decide) (by decide) hG_28
          have hG_116 := jS.frame hMr_31 go_.2.2.2.1 mq3_ kq3_ (by decide) (by decide) hG_29
          have hG_117 := eOK.frame hMr_31 go_.2.2.2.1 mq2_ kq2_ (by decide) (by decide) hG_30
          have g := g.more hF_37
          refine lv_iload_n hx hb dX2_readArguments_180 rfl (lv_at hl 2 rfl) ?_
          refine lv_aload_n hx hb dX2_readArguments_181 rfl (lv_at hl 4 rfl) ?_
          refine g_getk (C := RX2) (T := TX2) (N := 16) hx hb hts (mc_ inX2) hown hK g rfl 14 (by decide) rfl (hts _ (List.mem_cons_of_mem _ t_430)) (fun _ h9 => h9) 2 rfl dX2_readArguments_182 ?_
          refine lv_icmp_ge (tgt := 199) hx hb dX2_readArguments_185 (by decide) (fun c_118 => ?_) (fun c_118 => ?_)
          · have fc_118 := le_f c_118
            have b_119 : bd (-2147483648) 0 x_17 := leL fc_118 (bdT x_17) kb_0 (by decide)
            refine lv_aload_n hx hb dX2_readArguments_199 rfl (lv_at hl 4 rfl) ?_
            refine g_getk (C := RX2) (T := TX2) (N := 16) hx hb hts (mc_ inX2) hown hK g rfl 3 (by decide) rfl (hts _ (List.mem_cons_of_mem _ t_419)) (fun _ h9 => h9) 6 rfl dX2_readArguments_200 ?_
            refine lv_aload_n hx hb dX2_readArguments_203 rfl (lv_at hl 4 rfl) ?_
            refine g_getk (C := RX2) (T := TX2) (N := 16) hx hb hts (mc_ inX2) hown hK g rfl 12 (by decide) rfl (hts _ (List.mem_cons_of_mem _ t_428)) (fun _ h9 => h9) 11 rfl dX2_readArguments_204 ?_
            refine lv_aload_n hx hb dX2_readArguments_207 rfl (lv_at hl 4 rfl) ?_
            refine g_geti (C := RX2) (T := TX2) (N := 16) hx hb hts (mc_ inX2) hown hK g ma0_ ka0_ (by decide) rfl 13 (by decide) rfl (hts _ (List.mem_cons_of_mem _ t_429)) (fun _ h9 => h9) rfl dX2_readArguments_208 (fun x_120 bx_120 g => ?_)
            obtain ⟨a_121, ma_121, ka_121, g⟩ := g_factr g mq3_ kq3_ (by decide) 4 rfl
            obtain ⟨a_122, ma_122, ka_122, g⟩ := g_factr g mq3_ kq3_ (by decide) 5 rfl
            obtain ⟨x_123, bx_123, g⟩ := g_facti g mq3_ kq3_ (by decide) 6 rfl
            have go_ := g
            refine g_callv (va_runV (As := [.int y0_, .int x_120]) (rest := []) ⟨hx, hb, hml, hown, hts⟩ (r_X7_emitF l dC dI L kd tys fr_31 H.size g.2.2.2.1 q3_ mq3_ kq3_ a_121 ma_121 ka_121 a_122 ma_122 ka_122 x_123 bx_123 T_ hG_115 y0_ x_120 (g.fcts [2, 1, 0] rfl)) (cwV 2 hts (gV_ t_1301 t_1204 t_1205 t_191 t_1206) rfl rfl rfl (by decide +kernel) ⟨(Nat.le_of_ble_eq_true rfl), (Nat.le_of_ble_eq_true rfl)⟩) (pre3V g hK mq3_ kq3_ (by decide) (q := (RX7, TX7, 19)) rfl) rfl rfl hl.1 rfl (lv_room (Nat.le_of_ble_eq_true rfl)) dX2_readArguments_211 ⟨(Nat.le_of_ble_eq_true rfl), (Nat.le_of_ble_eq_true rfl)⟩) g hK (by decide) (by decide) (fx' := [(7, 5, q3_, .ref a_122), (7, 4, q3_, .ref a_121), (2, 13, a0_, .int x_120), (8, 6, q0_, .int 1201), (8, 8, q0_, .int x_35), (2, 14, a0_, .int x_17), (2, 0, a0_, .ref q0_), (2, 1, a0_, .ref q1_), (2, 2, a0_, .ref q2_), (2, 3, a0_, .ref q3_), (0, 0, q2_, .ref q0_), (0, 1, q2_, .ref q1_), (5, 0, q1_, .ref q3_), (5, 1, q1_, .ref q7_), (2, 12, a0_, .int y0_)]) rfl (fun fr_124 H locs hp hMr_124 g => ?_)
            obtain ⟨hG_125, x_126, h_127, hF_128⟩ := hp
            have hG_129 := eOK.frame hMr_124 go_.2.2.2.1 mq2_ kq2_ (by decide) (by decide) hG_117
            have g := g.more hF_128
            refine lv_aload_n hx hb dX2_readArguments_214 rfl (lv_at hl 4 rfl) ?_
            refine g_getk (C := RX2) (T := TX2) (N := 16) hx hb hts (mc_ inX2) hown hK g rfl 3 (by decide) rfl (hts _ (List.mem_cons_of_mem _ t_419)) (fun _ h9 => h9) 10 rfl dX2_readArguments_215 ?_
            refine lv_bipush (v := 22) hx hb dX2_readArguments_218 (by decide) ?_
            refine lv_iconst (v := 0) hx hb dX2_readArguments_220 (by decide) ?_
            have go_ := g
            refine g_callv (va_runV (As := [.int 22, .int 0]) (rest := []) ⟨hx, hb, hml, hown, hts⟩ (r_X7_emitF l dC dI L kd tys fr_124 H.size g.2.2.2.1 q3_ mq3_ kq3_ a_121 ma_121 ka_121 a_122 ma_122 ka_122 x_126 h_127 T_ hG_125 (22 : Int32) (0 : Int32) (g.fcts [2, 1, 0] rfl)) (cwV 2 hts (gV_ t_1301 t_1204 t_1205 t_191 t_1206) rfl rfl rfl (by decide +kernel) ⟨(Nat.le_of_ble_eq_true rfl), (Nat.le_of_ble_eq_true rfl)⟩) (pre3V g hK mq3_ kq3_ (by decide) (q := (RX7, TX7, 19)) rfl) rfl rfl hl.1 rfl (lv_room (Nat.le_of_ble_eq_true rfl)) dX2_readArguments_221 ⟨(Nat.le_of_ble_eq_true rfl), (Nat.le_of_ble_eq_true rfl)⟩) g hK (by decide) (by decide) (fx' := [(7, 5, q3_, .ref a_122), (7, 4, q3_, .ref a_121), (2, 13, a0_, .int x_120), (8, 6, q0_, .int 1201), (8, 8, q0_, .int x_35), (2, 14, a0_, .int x_17), (2, 0, a0_, .ref q0_), (2, 1, a0_, .ref q1_), (2, 2, a0_, .ref q2_), (2, 3, a0_, .ref q3_), (0, 0, q2_, .ref q0_), (0, 1, q2_, .ref q1_), (5, 0, q1_, .ref q3_), (5, 1, q1_, .ref q7_), (2, 12, a0_, .int y0_)]) rfl (fun fr_130 H locs hp hMr_130 g => ?_)
            obtain ⟨hG_131, x_132, h_133, hF_134⟩ := hp
            have hG_135 := eOK.frame hMr_130 go_.2.2.2.1 mq2_ kq2_ (by decide) (by decide) hG_129
            have g := g.more hF_134
            refine lv_aload_n hx hb dX2_readArguments_224 rfl (lv_at hl 4 rfl) ?_
            refine g_getk (C := RX2) (T := TX2) (N := 16) hx hb hts (mc_ inX2) hown hK g rfl 0 (by decide) rfl (hts _ (List.mem_cons_of_mem _ t_416)) (fun _ h9 => h9) 7 rfl dX2_readArguments_225 ?_
            refine lv_bipush (v := 59) hx hb dX2_readArguments_228 (by decide) ?_
            have kb_1201 : bd 1201 1201 (1201 : Int32) := ⟨by decide, by decide⟩
            have go_ := g
            refine g_callv (va_runV (As := [.int 59]) (rest := []) ⟨hx, hb, hml, hown, hts⟩ (r_X8_take_2 l dC dI L kd tys fr_130 H.size g.2.2.2.1 q0_ mq0_ kq0_ 59 1201 kb_1201 x_35 h_36 (g.fcts [4, 5] rfl)) (cwV 1 hts (gV_ t_1098 t_1099 t_1100 t_184 t_1101) rfl rfl rfl (by decide +kernel) ⟨(Nat.le_of_ble_eq_true rfl), (Nat.le_of_ble_eq_true rfl)⟩) (pre3V g hK mq0_ kq0_ (by decide) (q := (RX8, TX8, 10)) rfl) rfl rfl hl.1 rfl (lv_room (Nat.le_of_ble_eq_true rfl)) dX2_readArguments_230 ⟨(Nat.le_of_ble_eq_true rfl), (Nat.le_of_ble_eq_true rfl)⟩) g hK (by decide) (by decide) (fx' := [(7, 6, q3_, .int x_132), (7, 5, q3_, .ref a_122), (7, 4, q3_, .ref a_121), (2, 13, a0_, .int x_120), (8, 8, q0_, .int x_35), (2, 14, a0_, .int x_17), (2, 0, a0_, .ref q0_), (2, 1, a0_, .ref q1_), (2, 2, a0_, .ref q2_), (2, 3, a0_, .ref q3_), (0, 0, q2_, .ref q0_), (0, 1, q2_, .ref q1_), (5, 0, q1_, .ref q3_), (5, 1, q1_, .ref q7_), (2, 12, a0_, .int y0_)]) rfl (fun fr_136 H locs hp hMr_136 g => ?_)
            obtain ⟨x_137, h_138, hF_139⟩ := hp
            have hG_140 := dOK.frame hMr_136 go_.2.2.2.1 mq3_ kq3_ (by decide) (by decide) hG_131
            have hG_141 := eOK.frame hMr_136 go_.2.2.2.1 mq2_ kq2_ (by decide) (by decide) hG_135
            have g := g.more hF_139
            subst hQ
            exact W.vret hx hb hr (fun t ht hW => ⟨⟨_, rfl, Or.inr (⟨hG_140, hG_141, x_137, h_138, x_35, h_36, (g.fcts [0, 5] rfl)⟩), q3_of g hK ht hW⟩, g.2.2.1.F ht⟩) g.2.2.1.2.2 dX2_readArguments_233
          · have fc_118 := nle_f c_118
            have b_142 : bd 1 2147483647 x_17 := ltR fc_118 kb_0 (bdT x_17) (by decide)
            refine lv_aload_n hx hb dX2_readArguments_188 rfl (lv_at hl 4 rfl) ?_
            refine g_getk (C := RX2) (T := TX2) (N := 16) hx hb hts (mc_ inX2) hown hK g rfl 0 (by decide) rfl (hts _ (List.mem_cons_of_mem _ t_416)) (fun _ h9 => h9) 3 rfl dX2_readArguments_189 ?_
            refine lv_bipush (v := 6) hx hb dX2_readArguments_192 (by decide) ?_
            refine lv_iload hx hb dX2_readArguments_194 (lv_at hl 0 rfl) ?_
            have kb_6 : bd 6 6 (6 : Int32) := ⟨by decide, by decide⟩
            have go_ := g
            refine g_callv (va_runV (As := [.int 6, .int r_26]) (rest := []) ⟨hx, hb, hml, hown, hts⟩ (r_X8_fail_2 l dC dI L kd tys fr_31 H.size g.2.2.2.1 q0_ mq0_ kq0_ 6 (bd_sub kb_6 (by decide)) r_26 x_35 h_36 (g.fcts [1] rfl)) (cwV 2 hts (gV_ t_1122 t_1107 t_1108 t_184 t_1109) rfl rfl rfl (by decide +kernel) ⟨(Nat.le_of_ble_eq_true rfl), (Nat.le_of_ble_eq_true rfl)⟩) (pre3V g hK mq0_ kq0_ (by decide) (q := (RX8, TX8, 10)) rfl) rfl rfl hl.1 rfl (lv_room (Nat.le_of_ble_eq_true rfl)) dX2_readArguments_196 ⟨(Nat.le_of_ble_eq_true rfl), (Nat.le_of_ble_eq_true rfl)⟩) g hK (by decide) (by decide) (fx' := [(8, 8, q0_, .int x_35), (2, 14, a0_, .int x_17), (2, 0, a0_, .ref q0_), (2, 1, a0_, .ref q1_), (2, 2, a0_, .ref q2_), (2, 3, a0_, .ref q3_), (0, 0, q2_, .ref q0_), (0, 1, q2_, .ref q1_), (5, 0, q1_, .ref q3_), (5, 1, q1_, .ref q7_), (2, 12, a0_, .int y0_)]) rfl (fun fr_143 H locs hp hMr_143 g => ?_)
            have hF_144 := hp
            have hG_145 := cOK.frame hMr_143 go_.2.2.2.1 mq3_ kq3_ (by decide) (by decide) hG_114
            have hG_146 := dOK.frame hMr_143 go_.2.2.2.1 mq3_ kq3_ (by decide) (by decide) hG_115
            have hG_147 := jS.frame hMr_143 go_.2.2.2.1 mq3_ kq3_ (by decide) (by decide) hG_116
            have hG_148 := eOK.frame hMr_143 go_.2.2.2.1 mq2_ kq2_ (by decide) (by decide) hG_117
            have g := g.more hF_144
            refine lv_aload_n hx hb dX2_readArguments_199 rfl (lv_at hl 4 rfl) ?_
            refine g_getk (C := RX2) (T := TX2) (N := 16) hx hb hts (mc_ inX2) hown hK g rfl 3 (by decide) rfl (hts _ (List.mem_cons_of_mem _ t_419)) (fun _ h9 => h9) 6 rfl dX2_readArguments_200 ?_
            refine lv_aload_n hx hb dX2_readArguments_203 rfl (lv_at hl 4 rfl) ?_
            refine g_getk (C := RX2) (T := TX2) (N := 16) hx hb hts (mc_ inX2) hown hK g rfl 12 (by decide) rfl (hts _ (List.mem_cons_of_mem _ t_428)) (fun _ h9 => h9) 11 rfl dX2_readArguments_204 ?_
            refine lv_aload_n hx hb dX2_readArguments_207 rfl (lv_at hl 4 rfl) ?_
            refine g_geti (C := RX2) (T := TX2) (N := 16) hx hb hts (mc_ inX2) hown hK g ma0_ ka0_ (by decide) rfl 13 (by decide) rfl (hts _ (List.mem_cons_of_mem _ t_429)) (fun _ h9 => h9) rfl dX2_readArguments_208 (fun x_149 bx_149 g => ?_)
            obtain ⟨a_150, ma_150, ka_150, g⟩ := g_factr g mq3_ kq3_ (by decide) 4 rfl
            obtain ⟨a_151, ma_151, ka_151, g⟩ := g_factr g mq3_ kq3_ (by decide) 5 rfl
            obtain ⟨x_152, bx_152, g⟩ := g_facti g mq3_ kq3_ (by decide) 6 rfl
            have go_ := g
            refine g_callv (va_runV (As := [.int y0_, .int x_149]) (rest := []) ⟨hx, hb, hml, hown, hts⟩ (r_X7_emitF l dC dI L kd tys fr_143 H.size g.2.2.2.1 q3_ mq3_ kq3_ a_150 ma_150 ka_150 a_151 ma_151 ka_151 x_152 bx_152 T_ hG_146 y0_ x_149 (g.fcts [2, 1, 0] rfl)) (cwV 2 hts (gV_ t_1301 t_1204 t_1205 t_191 t_1206) rfl rfl rfl (by decide +kernel) ⟨(Nat.le_of_ble_eq_true rfl), (Nat.le_of_ble_eq_true rfl)⟩) (pre3V g hK mq3_ kq3_ (by decide) (q := (RX7, TX7, 19)) rfl) rfl rfl hl.1 rfl (lv_room (Nat.le_of_ble_eq_true rfl)) dX2_readArguments_211 ⟨(Nat.le_of_ble_eq_true rfl), (Nat.le_of_ble_eq_true rfl)⟩) g hK (by decide) (by decide) (fx' := [(7, 5, q3_, .ref a_151), (7, 4, q3_, .ref a_150), (2, 13, a0_, .int x_149), (8, 6, q0_, .int 1201), (8, 8, q0_, .int x_35), (2, 14, a0_, .int x_17), (2, 0, a0_, .ref q0_), (2, 1, a0_, .ref q1_), (2, 2, a0_, .ref q2_), (2, 3, a0_, .ref q3_), (0, 0, q2_, .ref q0_), (0, 1, q2_, .ref q1_), (5, 0, q1_, .ref q3_), (5, 1, q1_, .ref q7_), (2, 12, a0_, .int y0_)]) rfl (fun fr_153 H locs hp hMr_153 g => ?_)
            obtain ⟨hG_154, x_155, h_156, hF_157⟩ := hp
            have hG_158 := eOK.frame hMr_153 go_.2.2.2.1 mq2_ kq2_ (by decide) (by decide) hG_148
            have g := g.more hF_157
            refine lv_aload_n hx hb dX2_readArguments_214 rfl (lv_at hl 4 rfl) ?_
            refine g_getk (C := RX2) (T := TX2) (N := 16) hx hb hts (mc_ inX2) hown hK g rfl 3 (by decide) rfl (hts _ (List.mem_cons_of_mem _ t_419)) (fun _ h9 => h9) 10 rfl dX2_readArguments_215 ?_
            refine lv_bipush (v := 22) hx hb dX2_readArguments_218 (by decide) ?_
            refine lv_iconst (v := 0) hx hb dX2_readArguments_220 (by decide) ?_
            have go_ := g
            refine g_callv (va_runV (As := [.int 22, .int 0]) (rest := []) ⟨hx, hb, hml, hown, hts⟩ (r_X7_emitF l dC dI L kd tys fr_153 H.size g.2.2.2.1 q3_ mq3_ kq3_ a_150 ma_150 ka_150 a_151 ma_151 ka_151 x_155 h_156 T_ hG_154 (22 : Int32) (0 : Int32) (g.fcts [2, 1, 0] rfl)) (cwV 2 hts (gV_ t_1301 t_1204 t_1205 t_191 t_1206) rfl rfl rfl (by decide +kernel) ⟨(Nat.le_of_ble_eq_true rfl), (Nat.le_of_ble_eq_true rfl)⟩) (pre3V g hK mq3_ kq3_ (by decide) (q := (RX7, TX7, 19)) rfl) rfl rfl hl.1 rfl (lv_room (Nat.le_of_ble_eq_true rfl)) dX2_readArguments_221 ⟨(Nat.le_of_ble_eq_true rfl), (Nat.le_of_ble_eq_true rfl)⟩) g hK (by decide) (by decide) (fx' := [(7, 5, q3_, .ref a_151), (7, 4, q3_, .ref a_150), (2, 13, a0_, .int x_149), (8, 6, q0_, .int 1201), (8, 8, q0_, .int x_35), (2, 14, a0_, .int x_17), (2, 0, a0_, .ref q0_), (2, 1, a0_, .ref q1_), (2, 2, a0_, .ref q2_), (2, 3, a0_, .ref q3_), (0, 0, q2_, .ref q0_), (0, 1, q2_, .ref q1_), (5, 0, q1_, .ref q3_), (5, 1, q1_, .ref q7_), (2, 12, a0_, .int y0_)]) rfl (fun fr_159 H locs hp hMr_159 g => ?_)
            obtain ⟨hG_160, x_161, h_162, hF_163⟩ := hp
            have hG_164 := eOK.frame hMr_159 go_.2.2.2.1 mq2_ kq2_ (by decide) (by decide) hG_158
            have g := g.more hF_163
            refine lv_aload_n hx hb dX2_readArguments_224 rfl (lv_at hl 4 rfl) ?_
            refine g_getk (C := RX2) (T := TX2) (N := 16) hx hb hts (mc_ inX2) hown hK g rfl 0 (by decide) rfl (hts _ (List.mem_cons_of_mem _ t_416)) (fun _ h9 => h9) 7 rfl dX2_readArguments_225 ?_
            refine lv_bipush (v := 59) hx hb dX2_readArguments_228 (by decide) ?_
            have kb_1201 : bd 1201 1201 (1201 : Int32) := ⟨by decide, by decide⟩
            have go_ := g
            refine g_callv (va_runV (As := [.int 59]) (rest := []) ⟨hx, hb, hml, hown, hts⟩ (r_X8_take_2 l dC dI L kd tys fr_159 H.size g.2.2.2.1 q0_ mq0_ kq0_ 59 1201 kb_1201 x_35 h_36 (g.fcts [4, 5] rfl)) (cwV 1 hts (gV_ t_1098 t_1099 t_1100 t_184 t_1101) rfl rfl rfl (by decide +kernel) ⟨(Nat.le_of_ble_eq_true rfl), (Nat.le_of_ble_eq_true rfl)⟩) (pre3V g hK mq0_ kq0_ (by decide) (q := (RX8, TX8, 10)) rfl) rfl rfl hl.1 rfl (lv_room (Nat.le_of_ble_eq_true rfl)) dX2_readArguments_230 ⟨(Nat.le_of_ble_eq_true rfl), (Nat.le_of_ble_eq_true rfl)⟩) g hK (by decide) (by decide) (fx' := [(7, 6, q3_, .int x_161), (7, 5, q3_, .ref a_151), (7, 4, q3_, .ref a_150), (2, 13, a0_, .int x_149), (8, 8, q0_, .int x_35), (2, 14, a0_, .int x_17), (2, 0, a0_, .ref q0_), (2, 1, a0_, .ref q1_), (2, 2, a0_, .ref q2_), (2, 3, a0_, .ref q3_), (0, 0, q2_, .ref q0_), (0, 1, q2_, .ref q1_), (5, 0, q1_, .ref q3_), (5, 1, q1_, .ref q7_), (2, 12, a0_, .int y0_)]) rfl (fun fr_165 H locs hp hMr_165 g => ?_)
            obtain ⟨x_166, h_167, hF_168⟩ := hp
            have hG_169 := dOK.frame hMr_165 go_.2.2.2.1 mq3_ kq3_ (by decide) (by decide) hG_160
            have hG_170 := eOK.frame hMr_165 go_.2.2.2.1 mq2_ kq2_ (by decide) (by decide) hG_164
            have g := g.more hF_168
            subst hQ
            exact W.vret hx hb hr (fun t ht hW => ⟨⟨_, rfl, Or.inr (⟨hG_169, hG_170, x_166, h_167, x_35, h_36, (g.fcts [0, 5] rfl)⟩), q3_of g hK ht hW⟩, g.2.2.1.F ht⟩) g.2.2.1.2.2 dX2_readArguments_233
      · have fc_24 := neq_f c_24
        refine lv_iconst (v := 1) hx hb dX2_readArguments_60 (by decide) ?_
        refine lv_goto (tgt := 65) hx hb dX2_readArguments_61 (by decide) ?_
        refine lv_istore_n (lv' := [(3, .int 1), (2, .int 0), (1, .int r_1), (0, .ref a0_)]) hx hb dX2_readArguments_65 rfl hl (by decide) rfl (fun ls hl => ?_)
        refine lv_iconst (v := 0) hx hb dX2_readArguments_66 (by decide) ?_
        refine lv_istore (lv' := [(4, .int 0), (3, .int 1), (2, .int 0), (1, .int r_1), (0, .ref a0_)]) hx hb dX2_readArguments_67 hl (by decide) rfl (fun ls hl => ?_)
        have loop_171 : ∀ (n : Nat) (v69_4 : Int32) (v69_3 : Int32) (v69_2 : Int32), bd 0 4 v69_4 → bd 0 1 v69_3 → (4 - v69_4.toInt < (n : Int)) → ∀ (f : Nat → va_E) (H : Heap) (locs : List Loc) (ls : Array Slot), G3 (dC, dI) L kd tys s f0 [(0, 2), (0, 8), (0, 10), (0, 11), (0, 12), (0, 13), (7, 6), (7, 18), (8, 6), (8, 8), (8, 9)] [110, 111, 112, 113, 114, 115, 138, 139] f H locs [(2, 14, a0_, .int x_17), (8, 8, q0_, .int y1_), (2, 0, a0_, .ref q0_), (2, 1, a0_, .ref q1_), (2, 2, a0_, .ref q2_), (2, 3, a0_, .ref q3_), (0, 0, q2_, .ref q0_), (0, 1, q2_, .ref q1_), (5, 0, q1_, .ref q3_), (5, 1, q1_, .ref q7_), (2, 12, a0_, .int y0_)] → cOK f q3_ → dOK L kd f q3_ T_ → jS f q3_ J_ → eOK f q2_ → lv_has ls 6 [(4, .int v69_4), (3, .int v69_3), (2, .int v69_2), (1, .int r_1), (0, .ref a0_)] → W p l e ({ frames := 4, cells := 0, slots := 0, locals := 97 } : Room) s m [.ref a0_].toArray below meth c H locs 0 0 Q (F0 m 69 ls []) := by
          intro n69
          induction n69 with
          | zero =>
            intro v69_4 v69_3 v69_2 bv69_4 bv69_3  hm69 f H locs ls g hG69_c_q3_ hG69_d_q3_ hG69_s_q3_ hG69_e_q2_ hl
            exact absurd hm69 (by have h9_v69_4 := bv69_4; unfold bd at h9_v69_4; have h9_v69_3 := bv69_3; unfold bd at h9_v69_3; have h9_v69_2 := bdT v69_2; unfold bd at h9_v69_2; omega)
          | succ n69 ih69 =>
            intro v69_4 v69_3 v69_2 bv69_4 bv69_3  hm69 f H locs ls g hG69_c_q3_ hG69_d_q3_ hG69_s_q3_ hG69_e_q2_ hl
            refine lv_iload hx hb dX2_readArguments_69 (lv_at hl 0 rfl) ?_
            refine lv_iconst (v := 3) hx hb dX2_readArguments_71 (by decide) ?_
            have kb_3 : bd 3 3 (3 : Int32) := ⟨by decide, by decide⟩
            refine lv_icmp_gt (tgt := 162) hx hb dX2_readArguments_72 (by decide) (fun c_172 => ?_) (fun c_172 => ?_)
            · have fc_172 := lt_f c_172
              have b_173 : bd 4 4 v69_4 := ltR fc_172 kb_3 bv69_4 (by decide)
              refine lv_aload_n hx hb dX2_readArguments_162 rfl (lv_at hl 4 rfl) ?_
              refine g_getk (C := RX2) (T := TX2) (N := 16) hx hb hts (mc_ inX2) hown hK g rfl 0 (by decide) rfl (hts _ (List.mem_cons_of_mem _ t_416)) (fun _ h9 => h9) 2 rfl dX2_readArguments_163 ?_
              have go_ := g
              refine g_calli (va_runV (As := []) (rest := []) ⟨hx, hb, hml, hown, hts⟩ (r_X8_place l dC dI L kd tys f H.size g.2.2.2.1 q0_ mq0_ kq0_) (cwV 0 hts (gV_ t_1110 t_1111 t_1112 t_184 t_1113) rfl rfl rfl (by decide +kernel) ⟨(Nat.le_of_ble_eq_true rfl), (Nat.le_of_ble_eq_true rfl)⟩) (pre3V g hK mq0_ kq0_ (by decide) (q := (RX8, TX8, 10)) rfl) rfl rfl hl.1 rfl (lv_room (Nat.le_of_ble_eq_true rfl)) dX2_readArguments_166 ⟨(Nat.le_of_ble_eq_true rfl), (Nat.le_of_ble_eq_true rfl)⟩) g hK (by decide) (by decide) (fx' := [(2, 14, a0_, .int x_17), (8, 8, q0_, .int y1_), (2, 0, a0_, .ref q0_), (2, 1, a0_, .ref q1_), (2, 2, a0_, .ref q2_), (2, 3, a0_, .ref q3_), (0, 0, q2_, .ref q0_), (0, 1, q2_, .ref q1_), (5, 0, q1_, .ref q3_), (5, 1, q1_, .ref q7_), (2, 12, a0_, .int y0_)]) rfl (fun r_174 fr_174 H locs hp hMr_174 g => ?_)
              have hG_175 := cOK.frame hMr_174 go_.2.2.2.1 mq3_ kq3_ (by decide) (by decide) hG69_c_q3_
              have hG_176 := dOK.frame hMr_174 go_.2.2.2.1 mq3_ kq3_ (by decide) (by decide) hG69_d_q3_
              have hG_177 := jS.frame hMr_174 go_.2.2.2.1 mq3_ kq3_ (by decide) (by decide) hG69_s_q3_
              have hG_178 := eOK.frame hMr_174 go_.2.2.2.1 mq2_ kq2_ (by decide) (by decide) hG69_e_q2_
              refine lv_istore (lv' := [(4, .int r_174), (3, .int v69_3), (2, .int v69_2), (1, .int r_1), (0, .ref a0_)]) hx hb dX2_readArguments_169 hl (by decide) rfl (fun ls hl => ?_)
              refine lv_aload_n hx hb dX2_readArguments_171 rfl (lv_at hl 4 rfl) ?_
              refine g_getk (C := RX2) (T := TX2) (N := 16) hx hb hts (mc_ inX2) hown hK g rfl 0 (by decide) rfl (hts _ (List.mem_cons_of_mem _ t_416)) (fun _ h9 => h9) 2 rfl dX2_readArguments_172 ?_
              refine lv_bipush (v := 41) hx hb dX2_readArguments_175 (by decide) ?_
              have go_ := g
              refine g_callv (va_runV (As := [.int 41]) (rest := []) ⟨hx, hb, hml, hown, hts⟩ (r_X8_take l dC dI L kd tys fr_174 H.size g.2.2.2.1 q0_ mq0_ kq0_ 41 y1_ by1_ (g.fcts [1] rfl)) (cwV 1 hts (gV_ t_1098 t_1099 t_1100 t_184 t_1101) rfl rfl rfl (by decide +kernel) ⟨(Nat.le_of_ble_eq_true rfl), (Nat.le_of_ble_eq_true rfl)⟩) (pre3V g hK mq0_ kq0_ (by decide) (q := (RX8, TX8, 10)) rfl) rfl rfl hl.1 rfl (lv_room (Nat.le_of_ble_eq_true rfl)) dX2_readArguments_177 ⟨(Nat.le_of_ble_eq_true rfl), (Nat.le_of_ble_eq_true rfl)⟩) g hK (by decide) (by decide) (fx' := [(2, 14, a0_, .int x_17), (2, 0, a0_, .ref q0_), (2, 1, a0_, .ref q1_), (2, 2, a0_, .ref q2_), (2, 3, a0_, .ref q3_), (0, 0, q2_, .ref q0_), (0, 1, q2_, .ref q1_), (5, 0, q1_, .ref q3_), (5, 1, q1_, .ref q7_), (2, 12, a0_, .int y0_)]) rfl (fun fr_179 H locs hp hMr_179 g => ?_)
              rcases hp with ⟨x_180, h_181, hF_182⟩ | ⟨x_183, h_184, hF_185⟩
              · have hG_186 := cOK.frame hMr_179 go_.2.2.2.1 mq3_ kq3_ (by decide) (by decide) hG_175
                have hG_187 := dOK.frame hMr_179 go_.2.2.2.1 mq3_ kq3_ (by decide) (by decide) hG_176
                have hG_188 := jS.frame hMr_179 go_.2.2.2.1 mq3_ kq3_ (by decide) (by decide) hG_177
                have hG_189 := eOK.frame hMr_179 go_.2.2.2.1 mq2_ kq2_ (by decide) (by decide) hG_178
                have g := g.more hF_182
                refine lv_iload_n hx hb dX2_readArguments_180 rfl (lv_at hl 2 rfl) ?_
                refine lv_aload_n hx hb dX2_readArguments_181 rfl (lv_at hl 4 rfl) ?_
                refine g_getk (C := RX2) (T := TX2) (N := 16) hx hb hts (mc_ inX2) hown hK g rfl 14 (by decide) rfl (hts _ (List.mem_cons_of_mem _ t_430)) (fun _ h9 => h9) 2 rfl dX2_readArguments_182 ?_
                refine lv_icmp_ge (tgt := 199) hx hb dX2_readArguments_185 (by decide) (fun c_190 => ?_) (fun c_190 => ?_)
                · have fc_190 := le_f c_190
                  refine lv_aload_n hx hb dX2_readArguments_199 rfl (lv_at hl 4 rfl) ?_
                  refine g_getk (C := RX2) (T := TX2) (N := 16) hx hb hts (mc_ inX2) hown hK g rfl 3 (by decide) rfl (hts _ (List.mem_cons_of_mem _ t_419)) (fun _ h9 => h9) 6 rfl dX2_readArguments_200 ?_
                  refine lv_aload_n hx hb dX2_readArguments_203 rfl (lv_at hl 4 rfl) ?_
                  refine g_getk (C := RX2) (T := TX2) (N := 16) hx hb hts (mc_ inX2) hown hK g rfl 12 (by decide) rfl (hts _ (List.mem_cons_of_mem _ t_428)) (fun _ h9 => h9) 11 rfl dX2_readArguments_204 ?_
                  refine lv_aload_n hx hb dX2_readArguments_207 rfl (lv_at hl 4 rfl) ?_
                  refine g_geti (C := RX2) (T := TX2) (N := 16) hx hb hts (mc_ inX2) hown hK g ma0_ ka0_ (by decide) rfl 13 (by decide) rfl (hts _ (List.mem_cons_of_mem _ t_429)) (fun _ h9 => h9) rfl dX2_readArguments_208 (fun x_191 bx_191 g => ?_)
                  obtain ⟨a_192, ma_192, ka_192, g⟩ := g_factr g mq3_ kq3_ (by decide) 4 rfl
                  obtain ⟨a_193, ma_193, ka_193, g⟩ := g_factr g mq3_ kq3_ (by decide) 5 rfl
                  obtain ⟨x_194, bx_194, g⟩ := g_facti g mq3_ kq3_ (by decide) 6 rfl
                  have go_ := g
                  refine g_callv (va_runV (As := [.int y0_, .int x_191]) (rest := []) ⟨hx, hb, hml, hown, hts⟩ (r_X7_emitN l dC dI L kd tys fr_179 H.size g.2.2.2.1 q3_ mq3_ kq3_ a_192 ma_192 ka_192 a_193 ma_193 ka_193 x_194 bx_194 T_ hG_187 y0_ x_191 (fun j9 => jOK fr_179 q3_ j9) hG_186 (fun _ h9 => h9) ⟨(fun h9 => ⟨(by have h9_0 := bv69_3; unfold bd at h9_0; have h9_1 := b_173; unfold bd at h9_1; have h9_2 := h_181; unfold bd at h9_2; have h9_3 := bx_191; unfold bd at h9_3; have h9_4 := bx_194; unfold bd at h9_4; have h9_5 := h_8; unfold bd at h9_5; have h9_6 := by0_; unfold bd at h9_6; have h9_7 := by1_; unfold bd at h9_7; have h8_0 := kb_0; unfold bd at h8_0; have h8_1 := kb_3; unfold bd at h8_1; have h8_2 := kb_41; unfold bd at h8_2; omega), (by have h9_0 := bv69_3; unfold bd at h9_0; have h9_1 := b_173; unfold bd at h9_1; have h9_2 := h_181; unfold bd at h9_2; have h9_3 := bx_191; unfold bd at h9_3; have h9_4 := bx_194; unfold bd at h9_4; have h9_5 := h_8; unfold bd at h9_5; have h9_6 := by0_; unfold bd at h9_6; have h9_7 := by1_; unfold bd at h9_7; have h8_0 := kb_0; unfold bd at h8_0; have h8_1 := kb_3; unfold bd at h8_1; have h8_2 := kb_41; unfold bd at h8_2; omega)⟩), (fun h9 => ⟨(by have h9_0 := bv69_3; unfold bd at h9_0; have h9_1 := b_173; unfold bd at h9_1; have h9_2 := h_181; unfold bd at h9_2; have h9_3 := bx_191; unfold bd at h9_3; have h9_4 := bx_194; unfold bd at h9_4; have h9_5 := h_8; unfold bd at h9_5; have h9_6 := by0_; unfold bd at h9_6; have h9_7 := by1_; unfold bd at h9_7; have h8_0 := kb_0; unfold bd at h8_0; have h8_1 := kb_3; unfold bd at h8_1; have h8_2 := kb_41; unfold bd at h8_2; omega), (by have h9_0 := bv69_3; unfold bd at h9_0; have h9_1 := b_173; unfold bd at h9_1; have h9_2 := h_181; unfold bd at h9_2; have h9_3 := bx_191; unfold bd at h9_3; have h9_4 := bx_194; unfold bd at h9_4; have h9_5 := h_8; unfold bd at h9_5; have h9_6 := by0_; unfold bd at h9_6; have h9_7 := by1_; unfold bd at h9_7; have h8_0 := kb_0; unfold bd at h8_0; have h8_1 := kb_3; unfold bd at h8_1; have h8_2 := kb_41; unfold bd at h8_2; omega)⟩), (fun h9 => ⟨(by have h9_0 := bv69_3; unfold bd at h9_0; have h9_1 := b_173; unfold bd at h9_1; have h9_2 := h_181; unfold bd at h9_2; have h9_3 := bx_191; unfold bd at h9_3; have h9_4 := bx_194; unfold bd at h9_4; have h9_5 := h_8; unfold bd at h9_5; have h9_6 := by0_; unfold bd at h9_6; have h9_7 := by1_; unfold bd at h9_7; have h8_0 := kb_0; unfold bd at h8_0; have h8_1 := kb_3; unfold bd at h8_1; have h8_2 := kb_41; unfold bd at h8_2; omega), (by have h9_0 := bv69_3; unfold bd at h9_0; have h9_1 := b_173; unfold bd at h9_1; have h9_2 := h_181; unfold bd at h9_2; have h9_3 := bx_191; unfold bd at h9_3; have h9_4 := bx_194; unfold bd at h9_4; have h9_5 := h_8; unfold bd at h9_5; have h9_6 := by0_; unfold bd at h9_6; have h9_7 := by1_; unfold bd at h9_7; have h8_0 := kb_0; unfold bd at h8_0; have h8_1 := kb_3; unfold bd at h8_1; have h8_2 := kb_41; unfold bd at h8_2; omega)⟩)⟩ (g.fcts [2, 1, 0] rfl)) (cwV 2 hts (gV_ t_1301 t_1204 t_1205 t_191 t_1206) rfl rfl rfl (by decide +kernel) ⟨(Nat.le_of_ble_eq_true rfl), (Nat.le_of_ble_eq_true rfl)⟩) (pre3V g hK mq3_ kq3_ (by decide) (q := (RX7, TX7, 19)) rfl) rfl rfl hl.1 rfl (lv_room (Nat.le_of_ble_eq_true rfl)) dX2_readArguments_211 ⟨(Nat.le_of_ble_eq_true rfl), (Nat.le_of_ble_eq_true rfl)⟩) g hK (by decide) (by decide) (fx' := [(7, 5, q3_, .ref a_193), (7, 4, q3_, .ref a_192), (2, 13, a0_, .int x_191), (8, 6, q0_, .int x_180), (8, 8, q0_, .int y1_), (2, 14, a0_, .int x_17), (2, 0, a0_, .ref q0_), (2, 1, a0_, .ref q1_), (2, 2, a0_, .ref q2_), (2, 3, a0_, .ref q3_), (0, 0, q2_, .ref q0_), (0, 1, q2_, .ref q1_), (5, 0, q1_, .ref q3_), (5, 1, q1_, .ref q7_), (2, 12, a0_, .int y0_)]) rfl (fun fr_195 H locs hp hMr_195 g => ?_)
                  obtain ⟨hG_196, hG_197, hG_198, hx_199, x_200, h_201, hF_202⟩ := hp
                  have hG_203 := eOK.frame hMr_195 go_.2.2.2.1 mq2_ kq2_ (by decide) (by decide) hG_189
                  have g := g.more hF_202
                  have hs_204 := jS.mv hG_188 hG_198
                  refine lv_aload_n hx hb dX2_readArguments_214 rfl (lv_at hl 4 rfl) ?_
                  refine g_getk (C := RX2) (T := TX2) (N := 16) hx hb hts (mc_ inX2) hown hK g rfl 3 (by decide) rfl (hts _ (List.mem_cons_of_mem _ t_419)) (fun _ h9 => h9) 10 rfl dX2_readArguments_215 ?_
                  refine lv_bipush (v := 22) hx hb dX2_readArguments_218 (by decide) ?_
                  refine lv_iconst (v := 0) hx hb dX2_readArguments_220 (by decide) ?_
                  have kb_22 : bd 22 22 (22 : Int32) := ⟨by decide, by decide⟩
                  have go_ := g
                  refine g_callv (va_runV (As := [.int 22, .int 0]) (rest := []) ⟨hx, hb, hml, hown, hts⟩ (r_X7_emitN l dC dI L kd tys fr_195 H.size g.2.2.2.1 q3_ mq3_ kq3_ a_192 ma_192 ka_192 a_193 ma_193 ka_193 x_200 h_201 T_ hG_196 (22 : Int32) (0 : Int32) (fun j9 => jOK fr_195 q3_ j9) hG_197 (fun _ h9 => h9) ⟨(fun h9 => ⟨(by have h9_0 := bv69_3; unfold bd at h9_0; have h9_1 := b_173; unfold bd at h9_1; have h9_2 := h_181; unfold bd at h9_2; have h9_3 := bx_191; unfold bd at h9_3; have h9_4 := bx_194; unfold bd at h9_4; have h9_5 := h_201; unfold bd at h9_5; have h9_6 := h_8; unfold bd at h9_6; have h9_7 := by0_; unfold bd at h9_7; have h9_8 := by1_; unfold bd at h9_8; have h8_0 := kb_0; unfold bd at h8_0; have h8_1 := kb_22; unfold bd at h8_1; have h8_2 := kb_3; unfold bd at h8_2; have h8_3 := kb_41; unfold bd at h8_3; omega), (by have h9_0 := bv69_3; unfold bd at h9_0; have h9_1 := b_173; unfold bd at h9_1; have h9_2 := h_181; unfold bd at h9_2; have h9_3 := bx_191; unfold bd at h9_3; have h9_4 := bx_194; unfold bd at h9_4; have h9_5 := h_201; unfold bd at h9_5; have h9_6 := h_8; unfold bd at h9_6; have h9_7 := by0_; unfold bd at h9_7; have h9_8 := by1_; unfold bd at h9_8; have h8_0 := kb_0; unfold bd at h8_0; have h8_1 := kb_22; unfold bd at h8_1; have h8_2 := kb_3; unfold bd at h8_2; have h8_3 := kb_41; unfold bd at h8_3; omega)⟩), (fun h9 => ⟨(by have h9_0 := bv69_3; unfold bd at h9_0; have h9_1 := b_173; unfold bd at h9_1; have h9_2 := h_181; unfold bd at h9_2; have h9_3 := bx_191; unfold bd at h9_3; have h9_4 := bx_194; unfold bd at h9_4; have h9_5 := h_201; unfold bd at h9_5; have h9_6 := h_8; unfold bd at h9_6; have h9_7 := by0_; unfold bd at h9_7; have h9_8 := by1_; unfold bd at h9_8; have h8_0 := kb_0; unfold bd at h8_0; have h8_1 := kb_22; unfold bd at h8_1; have h8_2 := kb_3; unfold bd at h8_2; have h8_3 := kb_41; unfold bd at h8_3; omega), (by have h9_0 := bv69_3; unfold bd at h9_0; have h9_1 := b_173; unfold bd at h9_1; have h9_2 := h_181; unfold bd at h9_2; have h9_3 := bx_191; unfold bd at h9_3; have h9_4 := bx_194; unfold bd at h9_4; have h9_5 := h_201; unfold bd at h9_5; have h9_6 := h_8; unfold bd at h9_6; have h9_7 := by0_; unfold bd at h9_7; have h9_8 := by1_; unfold bd at h9_8; have h8_0 := kb_0; unfold bd at h8_0; have h8_1 := kb_22; unfold bd at h8_1; have h8_2 := kb_3; unfold bd at h8_2; have h8_3 := kb_41; unfold bd at h8_3; omega)⟩), (fun h9 => ⟨(by have h9_0 := bv69_3; unfold bd at h9_0; have h9_1 := b_173; unfold bd at h9_1; have h9_2 := h_181; unfold bd at h9_2; have h9_3 := bx_191; unfold bd at h9_3; have h9_4 := bx_194; unfold bd at h9_4; have h9_5 := h_201; unfold bd at h9_5; have h9_6 := h_8; unfold bd at h9_6; have h9_7 := by0_; unfold bd at h9_7; have h9_8 := by1_; unfold bd at h9_8; have h8_0 := kb_0; unfold bd at h8_0; have h8_1 := kb_22; unfold bd at h8_1; have h8_2 := kb_3; unfold bd at h8_2; have h8_3 := kb_41; unfold bd at h8_3; omega), (by have h9_0 := bv69_3; unfold bd at h9_0; have h9_1 := b_173; unfold bd at h9_1; have h9_2 := h_181; unfold bd at h9_2; have h9_3 := bx_191; unfold bd at h9_3; have h9_4 := bx_194; unfold bd at h9_4; have h9_5 := h_201; unfold bd at h9_5; have h9_6 := h_8; unfold bd at h9_6; have h9_7 := by0_; unfold bd at h9_7; have h9_8 := by1_; unfold bd at h9_8; have h8_0 := kb_0; unfold bd at h8_0; have h8_1 := kb_22; unfold bd at h8_1; have h8_2 := kb_3; unfold bd at h8_2; have h8_3 := kb_41; unfold bd at h8_3; omega)⟩)⟩ (g.fcts [2, 1, 0] rfl)) (cwV 2 hts (gV_ t_1301 t_1204 t_1205 t_191 t_1206) rfl rfl rfl (by decide +kernel) ⟨(Nat.le_of_ble_eq_true rfl), (Nat.le_of_ble_eq_true rfl)⟩) (pre3V g hK mq3_ kq3_ (by decide) (q := (RX7, TX7, 19)) rfl) rfl rfl hl.1 rfl (lv_room (Nat.le_of_ble_eq_true rfl)) dX2_readArguments_221 ⟨(Nat.le_of_ble_eq_true rfl), (Nat.le_of_ble_eq_true rfl)⟩) g hK (by decide) (by decide) (fx' := [(7, 5, q3_, .ref a_193), (7, 4, q3_, .ref a_192), (2, 13, a0_, .int x_191), (8, 6, q0_, .int x_180), (8, 8, q0_, .int y1_), (2, 14, a0_, .int x_17), (2, 0, a0_, .ref q0_), (2, 1, a0_, .ref q1_), (2, 2, a0_, .ref q2_), (2, 3, a0_, .ref q3_), (0, 0, q2_, .ref q0_), (0, 1, q2_, .ref q1_), (5, 0, q1_, .ref q3_), (5, 1, q1_, .ref q7_), (2, 12, a0_, .int y0_)]) rfl (fun fr_205 H locs hp hMr_205 g => ?_)
                  obtain ⟨hG_206, hG_207, hG_208, hx_209, x_210, h_211, hF_212⟩ := hp
                  have hG_213 := eOK.frame hMr_205 go_.2.2.2.1 mq2_ kq2_ (by decide) (by decide) hG_203
                  have g := g.more hF_212
                  have hs_214 := jS.mv hs_204 hG_208
                  refine lv_aload_n hx hb dX2_readArguments_224 rfl (lv_at hl 4 rfl) ?_
                  refine g_getk (C := RX2) (T := TX2) (N := 16) hx hb hts (mc_ inX2) hown hK g rfl 0 (by decide) rfl (hts _ (List.mem_cons_of_mem _ t_416)) (fun _ h9 => h9) 7 rfl dX2_readArguments_225 ?_
                  refine lv_bipush (v := 59) hx hb dX2_readArguments_228 (by decide) ?_
                  have go_ := g
                  refine g_callv (va_runV (As := [.int 59]) (rest := []) ⟨hx, hb, hml, hown, hts⟩ (r_X8_take l dC dI L kd tys fr_205 H.size g.2.2.2.1 q0_ mq0_ kq0_ 59 y1_ by1_ (g.fcts [5] rfl)) (cwV 1 hts (gV_ t_1098 t_1099 t_1100 t_184 t_1101) rfl rfl rfl (by decide +kernel) ⟨(Nat.le_of_ble_eq_true rfl), (Nat.le_of_ble_eq_true rfl)⟩) (pre3V g hK mq0_ kq0_ (by decide) (q := (RX8, TX8, 10)) rfl) rfl rfl hl.1 rfl (lv_room (Nat.le_of_ble_eq_true rfl)) dX2_readArguments_230 ⟨(Nat.le_of_ble_eq_true rfl), (Nat.le_of_ble_eq_true rfl)⟩) g hK (by decide) (by decide) (fx' := [(7, 6, q3_, .int x_210), (7, 5, q3_, .ref a_193), (7, 4, q3_, .ref a_192), (2, 13, a0_, .int x_191), (2, 14, a0_, .int x_17), (2, 0, a0_, .ref q0_), (2, 1, a0_, .ref q1_), (2, 2, a0_, .ref q2_), (2, 3, a0_, .ref q3_), (0, 0, q2_, .ref q0_), (0, 1, q2_, .ref q1_), (5, 0, q1_, .ref q3_), (5, 1, q1_, .ref q7_), (2, 12, a0_, .int y0_)]) rfl (fun fr_215 H locs hp hMr_215 g => ?_)
                  rcases hp with ⟨x_216, h_217, hF_218⟩ | ⟨x_219, h_220, hF_221⟩
                  · have hG_222 := cOK.frame hMr_215 go_.2.2.2.1 mq3_ kq3_ (by decide) (by decide) hG_207
                    have hG_223 := dOK.frame hMr_215 go_.2.2.2.1 mq3_ kq3_ (by decide) (by decide) hG_206
                    have hG_224 := jS.frame hMr_215 go_.2.2.2.1 mq3_ kq3_ (by decide) (by decide) hs_214
                    have hG_225 := eOK.frame hMr_215 go_.2.2.2.1 mq2_ kq2_ (by decide) (by decide) hG_213
                    have g := g.more hF_218
                    subst hQ
                    exact W.vret hx hb hr (fun t ht hW => ⟨⟨_, rfl, Or.inl ⟨hG_222, hG_223, hG_224, hG_225, x_216, h_217, (g.fcts [0, 1] rfl)⟩, q3_of g hK ht hW⟩, g.2.2.1.F ht⟩) g.2.2.1.2.2 dX2_readArguments_233
                  · have hG_226 := cOK.frame hMr_215 go_.2.2.2.1 mq3_ kq3_ (by decide) (by decide) hG_207
                    have hG_227 := dOK.frame hMr_215 go_.2.2.2.1 mq3_ kq3_ (by decide) (by decide) hG_206
                    have hG_228 := jS.frame hMr_215 go_.2.2.2.1 mq3_ kq3_ (by decide) (by decide) hs_214
                    have hG_229 := eOK.frame hMr_215 go_.2.2.2.1 mq2_ kq2_ (by decide) (by decide) hG_213
                    have g := g.more hF_221
                    have kb_1201 : bd 1201 1201 (1201 : Int32) := ⟨by decide, by decide⟩
                    subst hQ
                    exact W.vret hx hb hr (fun t ht hW => ⟨⟨_, rfl, Or.inr (⟨hG_227, hG_229, 1201, kb_1201, x_219, h_220, (g.fcts [0, 1] rfl)⟩), q3_of g hK ht hW⟩, g.2.2.1.F ht⟩) g.2.2.1.2.2 dX2_readArguments_233
                · have fc_190 := nle_f c_190
                  have b_230 : bd (-2147483648) 2147483646 v69_2 := ltL fc_190 (bdT v69_2) (bdT x_17) (by decide)
                  have b_231 : bd (-2147483647) 2147483647 x_17 := ltR fc_190 (bdT v69_2) (bdT x_17) (by decide)
                  refine lv_aload_n hx hb dX2_readArguments_188 rfl (lv_at hl 4 rfl) ?_
                  refine g_getk (C := RX2) (T := TX2) (N := 16) hx hb hts (mc_ inX2) hown hK g rfl 0 (by decide) rfl (hts _ (List.mem_cons_of_mem _ t_416)) (fun _ h9 => h9) 3 rfl dX2_readArguments_189 ?_
                  refine lv_bipush (v := 6) hx hb dX2_readArguments_192 (by decide) ?_
                  refine lv_iload hx hb dX2_readArguments_194 (lv_at hl 0 rfl) ?_
                  have kb_6 : bd 6 6 (6 : Int32) := ⟨by decide, by decide⟩
                  have go_ := g
                  refine g_callv (va_runV (As := [.int 6, .int r_174]) (rest := []) ⟨hx, hb, hml, hown, hts⟩ (r_X8_fail l dC dI L kd tys fr_179 H.size g.2.2.2.1 q0_ mq0_ kq0_ 6 (bd_sub kb_6 (by decide)) r_174 y1_ by1_ (g.fcts [1] rfl)) (cwV 2 hts (gV_ t_1122 t_1107 t_1108 t_184 t_1109) rfl rfl rfl (by decide +kernel) ⟨(Nat.le_of_ble_eq_true rfl), (Nat.le_of_ble_eq_true rfl)⟩) (pre3V g hK mq0_ kq0_ (by decide) (q := (RX8, TX8, 10)) rfl) rfl rfl hl.1 rfl (lv_room (Nat.le_of_ble_eq_true rfl)) dX2_readArguments_196 ⟨(Nat.le_of_ble_eq_true rfl), (Nat.le_of_ble_eq_true rfl)⟩) g hK (by decide) (by decide) (fx' := [(2, 14, a0_, .int x_17), (2, 0, a0_, .ref q0_), (2, 1, a0_, .ref q1_), (2, 2, a0_, .ref q2_), (2, 3, a0_, .ref q3_), (0, 0, q2_, .ref q0_), (0, 1, q2_, .ref q1_), (5, 0, q1_, .ref q3_), (5, 1, q1_, .ref q7_), (2, 12, a0_, .int y0_)]) rfl (fun fr_232 H locs hp hMr_232 g => ?_)
                  obtain ⟨x_233, h_234, hF_235⟩ := hp
                  have hG_236 := cOK.frame hMr_232 go_.2.2.2.1 mq3_ kq3_ (by decide) (by decide) hG_186
                  have hG_237 := dOK.frame hMr_232 go_.2.2.2.1 mq3_ kq3_ (by decide) (by decide) hG_187
                  have hG_238 := jS.frame hMr_232 go_.2.2.2.1 mq3_ kq3_ (by decide) (by decide) hG_188
                  have hG_239 := eOK.frame hMr_232 go_.2.2.2.1 mq2_ kq2_ (by decide) (by decide) hG_189
                  have g := g.more hF_235
                  refine lv_aload_n hx hb dX2_readArguments_199 rfl (lv_at hl 4 rfl) ?_
                  refine g_getk (C := RX2) (T := TX2) (N := 16) hx hb hts (mc_ inX2) hown hK g rfl 3 (by decide) rfl (hts _ (List.mem_cons_of_mem _ t_419)) (fun _ h9 => h9) 6 rfl dX2_readArguments_200 ?_
                  refine lv_aload_n hx hb dX2_readArguments_203 rfl (lv_at hl 4 rfl) ?_
                  refine g_getk (C := RX2) (T := TX2) (N := 16) hx hb hts (mc_ inX2) hown hK g rfl 12 (by decide) rfl (hts _ (List.mem_cons_of_mem _ t_428)) (fun _ h9 => h9) 11 rfl dX2_readArguments_204 ?_
                  refine lv_aload_n hx hb dX2_readArguments_207 rfl (lv_at hl 4 rfl) ?_
                  refine g_geti (C := RX2) (T := TX2) (N := 16) hx hb hts (mc_ inX2) hown hK g ma0_ ka0_ (by decide) rfl 13 (by decide) rfl (hts _ (List.mem_cons_of_mem _ t_429)) (fun _ h9 => h9) rfl dX2_readArguments_208 (fun x_240 bx_240 g => ?_)
                  obtain ⟨a_241, ma_241, ka_241, g⟩ := g_factr g mq3_ kq3_ (by decide) 4 rfl
                  obtain ⟨a_242, ma_242, ka_242, g⟩ := g_factr g mq3_ kq3_ (by decide) 5 rfl
                  obtain ⟨x_243, bx_243, g⟩ := g_facti g mq3_ kq3_ (by decide) 6 rfl
                  have go_ := g
                  refine g_callv (va_runV (As := [.int y0_, .int x_240]) (rest := []) ⟨hx, hb, hml, hown, hts⟩ (r_X7_emitF l dC dI L kd tys fr_232 H.size g.2.2.2.1 q3_ mq3_ kq3_ a_241 ma_241 ka_241 a_242 ma_242 ka_242 x_243 bx_243 T_ hG_237 y0_ x_240 (g.fcts [2, 1, 0] rfl)) (cwV 2 hts (gV_ t_1301 t_1204 t_1205 t_191 t_1206) rfl rfl rfl (by decide +kernel) ⟨(Nat.le_of_ble_eq_true rfl), (Nat.le_of_ble_eq_true rfl)⟩) (pre3V g hK mq3_ kq3_ (by decide) (q := (RX7, TX7, 19)) rfl) rfl rfl hl.1 rfl (lv_room (Nat.le_of_ble_eq_true rfl)) dX2_readArguments_211 ⟨(Nat.le_of_ble_eq_true rfl), (Nat.le_of_ble_eq_true rfl)⟩) g hK (by decide) (by decide) (fx' := [(7, 5, q3_, .ref a_242), (7, 4, q3_, .ref a_241), (2, 13, a0_, .int x_240), (8, 6, q0_, .int 1201), (8, 8, q0_, .int x_233), (2, 14, a0_, .int x_17), (2, 0, a0_, .ref q0_), (2, 1, a0_, .ref q1_), (2, 2, a0_, .ref q2_), (2, 3, a0_, .ref q3_), (0, 0, q2_, .ref q0_), (0, 1, q2_, .ref q1_), (5, 0, q1_, .ref q3_), (5, 1, q1_, .ref q7_), (2, 12, a0_, .int y0_)]) rfl (fun fr_244 H locs hp hMr_244 g => ?_)
                  obtain ⟨hG_245, x_246, h_247, hF_248⟩ := hp
                  have hG_249 := eOK.frame hMr_244 go_.2.2.2.1 mq2_ kq2_ (by decide) (by decide) hG_239
                  have g := g.more hF_248
                  refine lv_aload_n hx hb dX2_readArguments_214 rfl (lv_at hl 4 rfl) ?_
                  refine g_getk (C := RX2) (T := TX2) (N := 16) hx hb hts (mc_ inX2) hown hK g rfl 3 (by decide) rfl (hts _ (List.mem_cons_of_mem _ t_419)) (fun _ h9 => h9) 10 rfl dX2_readArguments_215 ?_
                  refine lv_bipush (v := 22) hx hb dX2_readArguments_218 (by decide) ?_
                  refine lv_iconst (v := 0) hx hb dX2_readArguments_220 (by decide) ?_
                  have go_ := g
                  refine g_callv (va_runV (As := [.int 22, .int 0]) (rest := []) ⟨hx, hb, hml, hown, hts⟩ (r_X7_emitF l dC dI L kd tys fr_244 H.size g.2.2.2.1 q3_ mq3_ kq3_ a_241 ma_241 ka_241 a_242 ma_242 ka_242 x_246 h_247 T_ hG_245 (22 : Int32) (0 : Int32) (g.fcts [2, 1, 0] rfl)) (cwV 2 hts (gV_ t_1301 t_1204 t_1205 t_191 t_1206) rfl rfl rfl (by decide +kernel) ⟨(Nat.le_of_ble_eq_true rfl), (Nat.le_of_ble_eq_true rfl)⟩) (pre3V g hK mq3_ kq3_ (by decide) (q := (RX7, TX7, 19)) rfl) rfl rfl hl.1 rfl (lv_room (Nat.le_of_ble_eq_true rfl)) dX2_readArguments_221 ⟨(Nat.le_of_ble_eq_true rfl), (Nat.le_of_ble_eq_true rfl)⟩) g hK (by decide) (by decide) (fx' := [(7, 5, q3_, .ref a_242), (7, 4, q3_, .ref a_241), (2, 13, a0_, .int x_240), (8, 6, q0_, .int 1201), (8, 8, q0_, .int x_233), (2, 14, a0_, .int x_17), (2, 0, a0_, .ref q0_), (2, 1, a0_, .ref q1_), (2, 2, a0_, .ref q2_), (2, 3, a0_, .ref q3_), (0, 0, q2_, .ref q0_), (0, 1, q2_, .ref q1_), (5, 0, q1_, .ref q3_), (5, 1, q1_, .ref q7_), (2, 12, a0_, .int y0_)]) rfl (fun fr_250 H locs hp hMr_250 g => ?_)
                  obtain ⟨hG_251, x_252, h_253, hF_254⟩ := hp
                  have hG_255 := eOK.frame hMr_250 go_.2.2.2.1 mq2_ kq2_ (by decide) (by decide) hG_249
                  have g := g.more hF_254
                  refine lv_aload_n hx hb dX2_readArguments_224 rfl (lv_at hl 4 rfl) ?_
                  refine g_getk (C := RX2) (T := TX2) (N := 16) hx hb hts (mc_ inX2) hown hK g rfl 0 (by decide) rfl (hts _ (List.mem_cons_of_mem _ t_416)) (fun _ h9 => h9) 7 rfl dX2_readArguments_225 ?_
                  refine lv_bipush (v := 59) hx hb dX2_readArguments_228 (by decide) ?_
                  have kb_1201 : bd 1201 1201 (1201 : Int32) := ⟨by decide, by decide⟩
                  have go_ := g
                  refine g_callv (va_runV (As := [.int 59]) (rest := []) ⟨hx, hb, hml, hown, hts⟩ (r_X8_take_2 l dC dI L kd tys fr_250 H.size g.2.2.2.1 q0_ mq0_ kq0_ 59 1201 kb_1201 x_233 h_234 (g.fcts [4, 5] rfl)) (cwV 1 hts (gV_ t_1098 t_1099 t_1100 t_184 t_1101) rfl rfl rfl (by decide +kernel) ⟨(Nat.le_of_ble_eq_true rfl), (Nat.le_of_ble_eq_true rfl)⟩) (pre3V g hK mq0_ kq0_ (by decide) (q := (RX8, TX8, 10)) rfl) rfl rfl hl.1 rfl (lv_room (Nat.le_of_ble_eq_true rfl)) dX2_readArguments_230 ⟨(Nat.le_of_ble_eq_true rfl), (Nat.le_of_ble_eq_true rfl)⟩) g hK (by decide) (by decide) (fx' := [(7, 6, q3_, .int x_252), (7, 5, q3_, .ref a_242), (7, 4, q3_, .ref a_241), (2, 13, a0_, .int x_240), (8, 8, q0_, .int x_233), (2, 14, a0_, .int x_17), (2, 0, a0_, .ref q0_), (2, 1, a0_, .ref q1_), (2, 2, a0_, .ref q2_), (2, 3, a0_, .ref q3_), (0, 0, q2_, .ref q0_), (0, 1, q2_, .ref q1_), (5, 0, q1_, .ref q3_), (5, 1, q1_, .ref q7_), (2, 12, a0_, .int y0_)]) rfl (fun fr_256 H locs hp hMr_256 g => ?_)
                  obtain ⟨x_257, h_258, hF_259⟩ := hp
                  have hG_260 := dOK.frame hMr_256 go_.2.2.2.1 mq3_ kq3_ (by decide) (by decide) hG_251
                  have hG_261 := eOK.frame hMr_256 go_.2.2.2.1 mq2_ kq2_ (by decide) (by decide) hG_255
                  have g := g.more hF_259
                  subst hQ
                  exact W.vret hx hb hr (fun t ht hW => ⟨⟨_, rfl, Or.inr (⟨hG_260, hG_261, x_257, h_258, x_233, h_234, (g.fcts [0, 5] rfl)⟩), q3_of g hK ht hW⟩, g.2.2.1.F ht⟩) g.2.2.1.2.2 dX2_readArguments_233
              · have hG_262 := cOK.frame hMr_179 go_.2.2.2.1 mq3_ kq3_ (by decide) (by decide) hG_175
                have hG_263 := dOK.frame hMr_179 go_.2.2.2.1 mq3_ kq3_ (by decide) (by decide) hG_176
                have hG_264 := jS.frame hMr_179 go_.2.2.2.1 mq3_ kq3_ (by decide) (by decide) hG_177
                have hG_265 := eOK.frame hMr_179 go_.2.2.2.1 mq2_ kq2_ (by decide) (by decide) hG_178
                have g := g.more hF_185
                refine lv_iload_n hx hb dX2_readArguments_180 rfl (lv_at hl 2 rfl) ?_
                refine lv_aload_n hx hb dX2_readArguments_181 rfl (lv_at hl 4 rfl) ?_
                refine g_getk (C := RX2) (T := TX2) (N := 16) hx hb hts (mc_ inX2) hown hK g rfl 14 (by decide) rfl (hts _ (List.mem_cons_of_mem _ t_430)) (fun _ h9 => h9) 2 rfl dX2_readArguments_182 ?_
                refine lv_icmp_ge (tgt := 199) hx hb dX2_readArguments_185 (by decide) (fun c_266 => ?_) (fun c_266 => ?_)
                · have fc_266 := le_f c_266
                  refine lv_aload_n hx hb dX2_readArguments_199 rfl (lv_at hl 4 rfl) ?_
                  refine g_getk (C := RX2) (T := TX2) (N := 16) hx hb hts (mc_ inX2) hown hK g rfl 3 (by decide) rfl (hts _ (List.mem_cons_of_mem _ t_419)) (fun _ h9 => h9) 6 rfl dX2_readArguments_200 ?_
                  refine lv_aload_n hx hb dX2_readArguments_203 rfl (lv_at hl 4 rfl) ?_
                  refine g_getk (C := RX2) (T := TX2) (N := 16) hx hb hts (mc_ inX2) hown hK g rfl 12 (by decide) rfl (hts _ (List.mem_cons_of_mem _ t_428)) (fun _ h9 => h9) 11 rfl dX2_readArguments_204 ?_
                  refine lv_aload_n hx hb dX2_readArguments_207 rfl (lv_at hl 4 rfl) ?_
                  refine g_geti (C := RX2) (T := TX2) (N := 16) hx hb hts (mc_ inX2) hown hK g ma0_ ka0_ (by decide) rfl 13 (by decide) rfl (hts _ (List.mem_cons_of_mem _ t_429)) (fun _ h9 => h9) rfl dX2_readArguments_208 (fun x_267 bx_267 g => ?_)
                  obtain ⟨a_268, ma_268, ka_268, g⟩ := g_factr g mq3_ kq3_ (by decide) 4 rfl
                  obtain ⟨a_269, ma_269, ka_269, g⟩ := g_factr g mq3_ kq3_ (by decide) 5 rfl
                  obtain ⟨x_270, bx_270, g⟩ := g_facti g mq3_ kq3_ (by decide) 6 rfl
                  have go_ := g
                  refine g_callv (va_runV (As := [.int y0_, .int x_267]) (rest := []) ⟨hx, hb, hml, hown, hts⟩ (r_X7_emitF l dC dI L kd tys fr_179 H.size g.2.2.2.1 q3_ mq3_ kq3_ a_268 ma_268 ka_268 a_269 ma_269 ka_269 x_270 bx_270 T_ hG_263 y0_ x_267 (g.fcts [2, 1, 0] rfl)) (cwV 2 hts (gV_ t_1301 t_1204 t_1205 t_191 t_1206) rfl rfl rfl (by decide +kernel) ⟨(Nat.le_of_ble_eq_true rfl), (Nat.le_of_ble_eq_true rfl)⟩) (pre3V g hK mq3_ kq3_ (by decide) (q := (RX7, TX7, 19)) rfl) rfl rfl hl.1 rfl (lv_room (Nat.le_of_ble_eq_true rfl)) dX2_readArguments_211 ⟨(Nat.le_of_ble_eq_true rfl), (Nat.le_of_ble_eq_true rfl)⟩) g hK (by decide) (by decide) (fx' := [(7, 5, q3_, .ref a_269), (7, 4, q3_, .ref a_268), (2, 13, a0_, .int x_267), (8, 6, q0_, .int 1201), (8, 8, q0_, .int x_183), (2, 14, a0_, .int x_17), (2, 0, a0_, .ref q0_), (2, 1, a0_, .ref q1_), (2, 2, a0_, .ref q2_), (2, 3, a0_, .ref q3_), (0, 0, q2_, .ref q0_), (0, 1, q2_, .ref q1_), (5, 0, q1_, .ref q3_), (5, 1, q1_, .ref q7_), (2, 12, a0_, .int y0_)]) rfl (fun fr_271 H locs hp hMr_271 g => ?_)
                  obtain ⟨hG_272, x_273, h_274, hF_275⟩ := hp
                  have hG_276 := eOK.frame hMr_271 go_.2.2.2.1 mq2_ kq2_ (by decide) (by decide) hG_265
                  have g := g.more hF_275
                  refine lv_aload_n hx hb dX2_readArguments_214 rfl (lv_at hl 4 rfl) ?_
                  refine g_getk (C := RX2) (T := TX2) (N := 16) hx hb hts (mc_ inX2) hown hK g rfl 3 (by decide) rfl (hts _ (List.mem_cons_of_mem _ t_419)) (fun _ h9 => h9) 10 rfl dX2_readArguments_215 ?_
                  refine lv_bipush (v := 22) hx hb dX2_readArguments_218 (by decide) ?_
                  refine lv_iconst (v := 0) hx hb dX2_readArguments_220 (by decide) ?_
                  have go_ := g
                  refine g_callv (va_runV (As := [.int 22, .int 0]) (rest := []) ⟨hx, hb, hml, hown, hts⟩ (r_X7_emitF l dC dI L kd tys fr_271 H.size g.2.2.2.1 q3_ mq3_ kq3_ a_268 ma_268 ka_268 a_269 ma_269 ka_269 x_273 h_274 T_ hG_272 (22 : Int32) (0 : Int32) (g.fcts [2, 1, 0] rfl)) (cwV 2 hts (gV_ t_1301 t_1204 t_1205 t_191 t_1206) rfl rfl rfl (by decide +kernel) ⟨(Nat.le_of_ble_eq_true rfl), (Nat.le_of_ble_eq_true rfl)⟩) (pre3V g hK mq3_ kq3_ (by decide) (q := (RX7, TX7, 19)) rfl) rfl rfl hl.1 rfl (lv_room (Nat.le_of_ble_eq_true rfl)) dX2_readArguments_221 ⟨(Nat.le_of_ble_eq_true rfl), (Nat.le_of_ble_eq_true rfl)⟩) g hK (by decide) (by decide) (fx' := [(7, 5, q3_, .ref a_269), (7, 4, q3_, .ref a_268), (2, 13, a0_, .int x_267), (8, 6, q0_, .int 1201), (8, 8, q0_, .int x_183), (2, 14, a0_, .int x_17), (2, 0, a0_, .ref q0_), (2, 1, a0_, .ref q1_), (2, 2, a0_, .ref q2_), (2, 3, a0_, .ref q3_), (0, 0, q2_, .ref q0_), (0, 1, q2_, .ref q1_), (5, 0, q1_, .ref q3_), (5, 1, q1_, .ref q7_), (2, 12, a0_, .int y0_)]) rfl (fun fr_277 H locs hp hMr_277 g => ?_)
                  obtain ⟨hG_278, x_279, h_280, hF_281⟩ := hp
                  have hG_282 := eOK.frame hMr_277 go_.2.2.2.1 mq2_ kq2_ (by decide) (by decide) hG_276
                  have g := g.more hF_281
                  refine lv_aload_n hx hb dX2_readArguments_224 rfl (lv_at hl 4 rfl) ?_
                  refine g_getk (C := RX2) (T := TX2) (N := 16) hx hb hts (mc_ inX2) hown hK g rfl 0 (by decide) rfl (hts _ (List.mem_cons_of_mem _ t_416)) (fun _ h9 => h9) 7 rfl dX2_readArguments_225 ?_
                  refine lv_bipush (v := 59) hx hb dX2_readArguments_228 (by decide) ?_
                  have kb_1201 : bd 1201 1201 (1201 : Int32) := ⟨by decide, by decide⟩
                  have go_ := g
                  refine g_callv (va_runV (As := [.int 59]) (rest := []) ⟨hx, hb, hml, hown, hts⟩ (r_X8_take_2 l dC dI L kd tys fr_277 H.size g.2.2.2.1 q0_ mq0_ kq0_ 59 1201 kb_1201 x_183 h_184 (g.fcts [4, 5] rfl)) (cwV 1 hts (gV_ t_1098 t_1099 t_1100 t_184 t_1101) rfl rfl rfl (by decide +kernel) ⟨(Nat.le_of_ble_eq_true rfl), (Nat.le_of_ble_eq_true rfl)⟩) (pre3V g hK mq0_ kq0_ (by decide) (q := (RX8, TX8, 10)) rfl) rfl rfl hl.1 rfl (lv_room (Nat.le_of_ble_eq_true rfl)) dX2_readArguments_230 ⟨(Nat.le_of_ble_eq_true rfl), (Nat.le_of_ble_eq_true rfl)⟩) g hK (by decide) (by decide) (fx' := [(7, 6, q3_, .int x_279), (7, 5, q3_, .ref a_269), (7, 4, q3_, .ref a_268), (2, 13, a0_, .int x_267), (8, 8, q0_, .int x_183), (2, 14, a0_, .int x_17), (2, 0, a0_, .ref q0_), (2, 1, a0_, .ref q1_), (2, 2, a0_, .ref q2_), (2, 3, a0_, .ref q3_), (0, 0, q2_, .ref q0_), (0, 1, q2_, .ref q1_), (5, 0, q1_, .ref q3_), (5, 1, q1_, .ref q7_), (2, 12, a0_, .int y0_)]) rfl (fun fr_283 H locs hp hMr_283 g => ?_)
                  obtain ⟨x_284, h_285, hF_286⟩ := hp
                  have hG_287 := dOK.frame hMr_283 go_.2.2.2.1 mq3_ kq3_ (by decide) (by decide) hG_278
                  have hG_288 := eOK.frame hMr_283 go_.2.2.2.1 mq2_ kq2_ (by decide) (by decide) hG_282
                  have g := g.more hF_286
                  subst hQ
                  exact W.vret hx hb hr (fun t ht hW => ⟨⟨_, rfl, Or.inr (⟨hG_287, hG_288, x_284, h_285, x_183, h_184, (g.fcts [0, 5] rfl)⟩), q3_of g hK ht hW⟩, g.2.2.1.F ht⟩) g.2.2.1.2.2 dX2_readArguments_233
                · have fc_266 := nle_f c_266
                  have b_289 : bd (-2147483648) 2147483646 v69_2 := ltL fc_266 (bdT v69_2) (bdT x_17) (by decide)
                  have b_290 : bd (-2147483647) 2147483647 x_17 := ltR fc_266 (bdT v69_2) (bdT x_17) (by decide)
                  refine lv_aload_n hx hb dX2_readArguments_188 rfl (lv_at hl 4 rfl) ?_
                  refine g_getk (C := RX2) (T := TX2) (N := 16) hx hb hts (mc_ inX2) hown hK g rfl 0 (by decide) rfl (hts _ (List.mem_cons_of_mem _ t_416)) (fun _ h9 => h9) 3 rfl dX2_readArguments_189 ?_
                  refine lv_bipush (v := 6) hx hb dX2_readArguments_192 (by decide) ?_
                  refine lv_iload hx hb dX2_readArguments_194 (lv_at hl 0 rfl) ?_
                  have kb_6 : bd 6 6 (6 : Int32) := ⟨by decide, by decide⟩
                  have go_ := g
                  refine g_callv (va_runV (As := [.int 6, .int r_174]) (rest := []) ⟨hx, hb, hml, hown, hts⟩ (r_X8_fail_2 l dC dI L kd tys fr_179 H.size g.2.2.2.1 q0_ mq0_ kq0_ 6 (bd_sub kb_6 (by decide)) r_174 x_183 h_184 (g.fcts [1] rfl)) (cwV 2 hts (gV_ t_1122 t_1107 t_1108 t_184 t_1109) rfl rfl rfl (by decide +kernel) ⟨(Nat.le_of_ble_eq_true rfl), (Nat.le_of_ble_eq_true rfl)⟩) (pre3V g hK mq0_ kq0_ (by decide) (q := (RX8, TX8, 10)) rfl) rfl rfl hl.1 rfl (lv_room (Nat.le_of_ble_eq_true rfl)) dX2_readArguments_196 ⟨(Nat.le_of_ble_eq_true rfl), (Nat.le_of_ble_eq_true rfl)⟩) g hK (by decide) (by decide) (fx' := [(8, 8, q0_, .int x_183), (2, 14, a0_, .int x_17), (2, 0, a0_, .ref q0_), (2, 1, a0_, .ref q1_), (2, 2, a0_, .ref q2_), (2, 3, a0_, .ref q3_), (0, 0, q2_, .ref q0_), (0, 1, q2_, .ref q1_), (5, 0, q1_, .ref q3_), (5, 1, q1_, .ref q7_), (2, 12, a0_, .int y0_)]) rfl (fun fr_291 H locs hp hMr_291 g => ?_)
                  have hF_292 := hp
                  have hG_293 := cOK.frame hMr_291 go_.2.2.2.1 mq3_ kq3_ (by decide) (by decide) hG_262
                  have hG_294 := dOK.frame hMr_291 go_.2.2.2.1 mq3_ kq3_ (by decide) (by decide) hG_263
                  have hG_295 := jS.frame hMr_291 go_.2.2.2.1 mq3_ kq3_ (by decide) (by decide) hG_264
                  have hG_296 := eOK.frame hMr_291 go_.2.2.2.1 mq2_ kq2_ (by decide) (by decide) hG_265
                  have g := g.more hF_292
                  refine lv_aload_n hx hb dX2_readArguments_199 rfl (lv_at hl 4 rfl) ?_
                  refine g_getk (C := RX2) (T := TX2) (N := 16) hx hb hts (mc_ inX2) hown hK g rfl 3 (by decide) rfl (hts _ (List.mem_cons_of_mem _ t_419)) (fun _ h9 => h9) 6 rfl dX2_readArguments_200 ?_
                  refine lv_aload_n hx hb dX2_readArguments_203 rfl (lv_at hl 4 rfl) ?_
                  refine g_getk (C := RX2) (T := TX2) (N := 16) hx hb hts (mc_ inX2) hown hK g rfl 12 (by decide) rfl (hts _ (List.mem_cons_of_mem _ t_428)) (fun _ h9 => h9) 11 rfl dX2_readArguments_204 ?_
                  refine lv_aload_n hx hb dX2_readArguments_207 rfl (lv_at hl 4 rfl) ?_
                  refine g_geti (C := RX2) (T := TX2) (N := 16) hx hb hts (mc_ inX2) hown hK g ma0_ ka0_ (by decide) rfl 13 (by decide) rfl (hts _ (List.mem_cons_of_mem _ t_429)) (fun _ h9 => h9) rfl dX2_readArguments_208 (fun x_297 bx_297 g => ?_)
                  obtain ⟨a_298, ma_298, ka_298, g⟩ := g_factr g mq3_ kq3_ (by decide) 4 rfl
                  obtain ⟨a_299, ma_299, ka_299, g⟩ := g_factr g mq3_ kq3_ (by decide) 5 rfl
                  obtain ⟨x_300, bx_300, g⟩ := g_facti g mq3_ kq3_ (by decide) 6 rfl
                  have go_ := g
                  refine g_callv (va_runV (As := [.int y0_, .int x_297]) (rest := []) ⟨hx, hb, hml, hown, hts⟩ (r_X7_emitF l dC dI L kd tys fr_291 H.size g.2.2.2.1 q3_ mq3_ kq3_ a_298 ma_298 ka_298 a_299 ma_299 ka_299 x_300 bx_300 T_ hG_294 y0_ x_297 (g.fcts [2, 1, 0] rfl)) (cwV 2 hts (gV_ t_1301 t_1204 t_1205 t_191 t_1206) rfl rfl rfl (by decide +kernel) ⟨(Nat.le_of_ble_eq_true rfl), (Nat.le_of_ble_eq_true rfl)⟩) (pre3V g hK mq3_ kq3_ (by decide) (q := (RX7, TX7, 19)) rfl) rfl rfl hl.1 rfl (lv_room (Nat.le_of_ble_eq_true rfl)) dX2_readArguments_211 ⟨(Nat.le_of_ble_eq_true rfl), (Nat.le_of_ble_eq_true rfl)⟩) g hK (by decide) (by decide) (fx' := [(7, 5, q3_, .ref a_299), (7, 4, q3_, .ref a_298), (2, 13, a0_, .int x_297), (8, 6, q0_, .int 1201), (8, 8, q0_, .int x_183), (2, 14, a0_, .int x_17), (2, 0, a0_, .ref q0_), (2, 1, a0_, .ref q1_), (2, 2, a0_, .ref q2_), (2, 3, a0_, .ref q3_), (0, 0, q2_, .ref q0_), (0, 1, q2_, .ref q1_), (5, 0, q1_, .ref q3_), (5, 1, q1_, .ref q7_), (2, 12, a0_, .int y0_)]) rfl (fun fr_301 H locs hp hMr_301 g => ?_)
                  obtain ⟨hG_302, x_303, h_304, hF_305⟩ := hp
                  have hG_306 := eOK.frame hMr_301 go_.2.2.2.1 mq2_ kq2_ (by decide) (by decide) hG_296
                  have g := g.more hF_305
                  refine lv_aload_n hx hb dX2_readArguments_214 rfl (lv_at hl 4 rfl) ?_
                  refine g_getk (C := RX2) (T := TX2) (N := 16) hx hb hts (mc_ inX2) hown hK g rfl 3 (by decide) rfl (hts _ (List.mem_cons_of_mem _ t_419)) (fun _ h9 => h9) 10 rfl dX2_readArguments_215 ?_
                  refine lv_bipush (v := 22) hx hb dX2_readArguments_218 (by decide) ?_
                  refine lv_iconst (v := 0) hx hb dX2_readArguments_220 (by decide) ?_
                  have go_ := g
                  refine g_callv (va_runV (As := [.int 22, .int 0]) (rest := []) ⟨hx, hb, hml, hown, hts⟩ (r_X7_emitF l dC dI L kd tys fr_301 H.size g.2.2.2.1 q3_ mq3_ kq3_ a_298 ma_298 ka_298 a_299 ma_299 ka_299 x_303 h_304 T_ hG_302 (22 : Int32) (0 : Int32) (g.fcts [2, 1, 0] rfl)) (cwV 2 hts (gV_ t_1301 t_1204 t_1205 t_191 t_1206) rfl rfl rfl (by decide +kernel) ⟨(Nat.le_of_ble_eq_true rfl), (Nat.le_of_ble_eq_true rfl)⟩) (pre3V g hK mq3_ kq3_ (by decide) (q := (RX7, TX7, 19)) rfl) rfl rfl hl.1 rfl (lv_room (Nat.le_of_ble_eq_true rfl)) dX2_readArguments_221 ⟨(Nat.le_of_ble_eq_true rfl), (Nat.le_of_ble_eq_true rfl)⟩) g hK (by decide) (by decide) (fx' := [(7, 5, q3_, .ref a_299), (7, 4, q3_, .ref a_298), (2, 13, a0_, .int x_297), (8, 6, q0_, .int 1201), (8, 8, q0_, .int x_183), (2, 14, a0_, .int x_17), (2, 0, a0_, .ref q0_), (2, 1, a0_, .ref q1_), (2, 2, a0_, .ref q2_), (2, 3, a0_, .ref q3_), (0, 0, q2_, .ref q0_), (0, 1, q2_, .ref q1_), (5, 0, q1_, .ref q3_), (5, 1, q1_, .ref q7_), (2, 12, a0_, .int y0_)]) rfl (fun fr_307 H locs hp hMr_307 g => ?_)
                  obtain ⟨hG_308, x_309, h_310, hF_311⟩ := hp
                  have hG_312 := eOK.frame hMr_307 go_.2.2.2.1 mq2_ kq2_ (by decide) (by decide) hG_306
                  have g := g.more hF_311
                  refine lv_aload_n hx hb dX2_readArguments_224 rfl (lv_at hl 4 rfl) ?_
                  refine g_getk (C := RX2) (T := TX2) (N := 16) hx hb hts (mc_ inX2) hown hK g rfl 0 (by decide) rfl (hts _ (List.mem_cons_of_mem _ t_416)) (fun _ h9 => h9) 7 rfl dX2_readArguments_225 ?_
                  refine lv_bipush (v := 59) hx hb dX2_readArguments_228 (by decide) ?_
                  have kb_1201 : bd 1201 1201 (1201 : Int32) := ⟨by decide, by decide⟩
                  have go_ := g
                  refine g_callv (va_runV (As := [.int 59]) (rest := []) ⟨hx, hb, hml, hown, hts⟩ (r_X8_take_2 l dC dI L kd tys fr_307 H.size g.2.2.2.1 q0_ mq0_ kq0_ 59 1201 kb_1201 x_183 h_184 (g.fcts [4, 5] rfl)) (cwV 1 hts (gV_ t_1098 t_1099 t_1100 t_184 t_1101) rfl rfl rfl (by decide +kernel) ⟨(Nat.le_of_ble_eq_true rfl), (Nat.le_of_ble_eq_true rfl)⟩) (pre3V g hK mq0_ kq0_ (by decide) (q := (RX8, TX8, 10)) rfl) rfl rfl hl.1 rfl (lv_room (Nat.le_of_ble_eq_true rfl)) dX2_readArguments_230 ⟨(Nat.le_of_ble_eq_true rfl), (Nat.le_of_ble_eq_true rfl)⟩) g hK (by decide) (by decide) (fx' := [(7, 6, q3_, .int x_309), (7, 5, q3_, .ref a_299), (7, 4, q3_, .ref a_298), (2, 13, a0_, .int x_297), (8, 8, q0_, .int x_183), (2, 14, a0_, .int x_17), (2, 0, a0_, .ref q0_), (2, 1, a0_, .ref q1_), (2, 2, a0_, .ref q2_), (2, 3, a0_, .ref q3_), (0, 0, q2_, .ref q0_), (0, 1, q2_, .ref q1_), (5, 0, q1_, .ref q3_), (5, 1, q1_, .ref q7_), (2, 12, a0_, .int y0_)]) rfl (fun fr_313 H locs hp hMr_313 g => ?_)
                  obtain ⟨x_314, h_315, hF_316⟩ := hp
                  have hG_317 := dOK.frame hMr_313 go_.2.2.2.1 mq3_ kq3_ (by decide) (by decide) hG_308
                  have hG_318 := eOK.frame hMr_313 go_.2.2.2.1 mq2_ kq2_ (by decide) (by decide) hG_312
                  have g := g.more hF_316
                  subst hQ
                  exact W.vret hx hb hr (fun t ht hW => ⟨⟨_, rfl, Or.inr (⟨hG_317, hG_318, x_314, h_315, x_183, h_184, (g.fcts [0, 5] rfl)⟩), q3_of g hK ht hW⟩, g.2.2.1.F ht⟩) g.2.2.1.2.2 dX2_readArguments_233
            · have fc_172 := nlt_f c_172
              have b_319 : bd 0 3 v69_4 := leL fc_172 bv69_4 kb_3 (by decide)
              refine lv_iload_n hx hb dX2_readArguments_75 rfl (lv_at hl 1 rfl) ?_
              refine lv_if_eq (tgt := 162) hx hb dX2_readArguments_76 (by decide) (fun c_320 => ?_) (fun c_320 => ?_)
              · have fc_320 := eq_f c_320
                have b_321 : bd 0 0 v69_3 := eqX fc_320 bv69_3 kb_0 (by decide)
                refine lv_aload_n hx hb dX2_readArguments_162 rfl (lv_at hl 4 rfl) ?_
                refine g_getk (C := RX2) (T := TX2) (N := 16) hx hb hts (mc_ inX2) hown hK g rfl 0 (by decide) rfl (hts _ (List.mem_cons_of_mem _ t_416)) (fun _ h9 => h9) 2 rfl dX2_readArguments_163 ?_
                have go_ := g
                refine g_calli (va_runV (As := []) (rest := []) ⟨hx, hb, hml, hown, hts⟩ (r_X8_place l dC dI L kd tys f H.size g.2.2.2.1 q0_ mq0_ kq0_) (cwV 0 hts (gV_ t_1110 t_1111 t_1112 t_184 t_1113) rfl rfl rfl (by decide +kernel) ⟨(Nat.le_of_ble_eq_true rfl), (Nat.le_of_ble_eq_true rfl)⟩) (pre3V g hK mq0_ kq0_ (by decide) (q := (RX8, TX8, 10)) rfl) rfl rfl hl.1 rfl (lv_room (Nat.le_of_ble_eq_true rfl)) dX2_readArguments_166 ⟨(Nat.le_of_ble_eq_true rfl), (Nat.le_of_ble_eq_true rfl)⟩) g hK (by decide) (by decide) (fx' := [(2, 14, a0_, .int x_17), (8, 8, q0_, .int y1_), (2, 0, a0_, .ref q0_), (2, 1, a0_, .ref q1_), (2, 2, a0_, .ref q2_), (2, 3, a0_, .ref q3_), (0, 0, q2_, .ref q0_), (0, 1, q2_, .ref q1_), (5, 0, q1_, .ref q3_), (5, 1, q1_, .ref q7_), (2, 12, a0_, .int y0_)]) rfl (fun r_322 fr_322 H locs hp hMr_322 g => ?_)
                have hG_323 := cOK.frame hMr_322 go_.2.2.2.1 mq3_ kq3_ (by decide) (by decide) hG69_c_q3_
                have hG_324 := dOK.frame hMr_322 go_.2.2.2.1 mq3_ kq3_ (by decide) (by decide) hG69_d_q3_
                have hG_325 := jS.frame hMr_322 go_.2.2.2.1 mq3_ kq3_ (by decide) (by decide) hG69_s_q3_
                have hG_326 := eOK.frame hMr_322 go_.2.2.2.1 mq2_ kq2_ (by decide) (by decide) hG69_e_q2_
                refine lv_istore (lv' := [(4, .int r_322), (3, .int v69_3), (2, .int v69_2), (1, .int r_1), (0, .ref a0_)]) hx hb dX2_readArguments_169 hl (by decide) rfl (fun ls hl => ?_)
                refine lv_aload_n hx hb dX2_readArguments_171 rfl (lv_at hl 4 rfl) ?_
                refine g_getk (C := RX2) (T := TX2) (N := 16) hx hb hts (mc_ inX2) hown hK g rfl 0 (by decide) rfl (hts _ (List.mem_cons_of_mem _ t_416)) (fun _ h9 => h9) 2 rfl dX2_readArguments_172 ?_
                refine lv_bipush (v := 41) hx hb dX2_readArguments_175 (by decide) ?_
                have go_ := g
                refine g_callv (va_runV (As := [.int 41]) (rest := []) ⟨hx, hb, hml, hown, hts⟩ (r_X8_take l dC dI L kd tys fr_322 H.size g.2.2.2.1 q0_ mq0_ kq0_ 41 y1_ by1_ (g.fcts [1] rfl)) (cwV 1 hts (gV_ t_1098 t_1099 t_1100 t_184 t_1101) rfl rfl rfl (by decide +kernel) ⟨(Nat.le_of_ble_eq_true rfl), (Nat.le_of_ble_eq_true rfl)⟩) (pre3V g hK mq0_ kq0_ (by decide) (q := (RX8, TX8, 10)) rfl) rfl rfl hl.1 rfl (lv_room (Nat.le_of_ble_eq_true rfl)) dX2_readArguments_177 ⟨(Nat.le_of_ble_eq_true rfl), (Nat.le_of_ble_eq_true rfl)⟩) g hK (by decide) (by decide) (fx' := [(2, 14, a0_, .int x_17), (2, 0, a0_, .ref q0_), (2, 1, a0_, .ref q1_), (2, 2, a0_, .ref q2_), (2, 3, a0_, .ref q3_), (0, 0, q2_, .ref q0_), (0, 1, q2_, .ref q1_), (5, 0, q1_, .ref q3_), (5, 1, q1_, .ref q7_), (2, 12, a0_, .int y0_)]) rfl (fun fr_327 H locs hp hMr_327 g => ?_)
                rcases hp with ⟨x_328, h_329, hF_330⟩ | ⟨x_331, h_332, hF_333⟩
                · have hG_334 := cOK.frame hMr_327 go_.2.2.2.1 mq3_ kq3_ (by decide) (by decide) hG_323
                  have hG_335 := dOK.frame hMr_327 go_.2.2.2.1 mq3_ kq3_ (by decide) (by decide) hG_324
                  have hG_336 := jS.frame hMr_327 go_.2.2.2.1 mq3_ kq3_ (by decide) (by decide) hG_325
                  have hG_337 := eOK.frame hMr_327 go_.2.2.2.1 mq2_ kq2_ (by decide) (by decide) hG_326
                  have g := g.more hF_330
                  refine lv_iload_n hx hb dX2_readArguments_180 rfl (lv_at hl 2 rfl) ?_
                  refine lv_aload_n hx hb dX2_readArguments_181 rfl (lv_at hl 4 rfl) ?_
                  refine g_getk (C := RX2) (T := TX2) (N := 16) hx hb hts (mc_ inX2) hown hK g rfl 14 (by decide) rfl (hts _ (List.mem_cons_of_mem _ t_430)) (fun _ h9 => h9) 2 rfl dX2_readArguments_182 ?_
                  refine lv_icmp_ge (tgt := 199) hx hb dX2_readArguments_185 (by decide) (fun c_338 => ?_) (fun c_338 => ?_)
                  · have fc_338 := le_f c_338
                    refine lv_aload_n hx hb dX2_readArguments_199 rfl (lv_at hl 4 rfl) ?_
                    refine g_getk (C := RX2) (T := TX2) (N := 16) hx hb hts (mc_ inX2) hown hK g rfl 3 (by decide) rfl (hts _ (List.mem_cons_of_mem _ t_419)) (fun _ h9 => h9) 6 rfl dX2_readArguments_200 ?_
                    refine lv_aload_n hx hb dX2_readArguments_203 rfl (lv_at hl 4 rfl) ?_
                    refine g_getk (C := RX2) (T := TX2) (N := 16) hx hb hts (mc_ inX2) hown hK g rfl 12 (by decide) rfl (hts _ (List.mem_cons_of_mem _ t_428)) (fun _ h9 => h9) 11 rfl dX2_readArguments_204 ?_
                    refine lv_aload_n hx hb dX2_readArguments_207 rfl (lv_at hl 4 rfl) ?_
                    refine g_geti (C := RX2) (T := TX2) (N := 16) hx hb hts (mc_ inX2) hown hK g ma0_ ka0_ (by decide) rfl 13 (by decide) rfl (hts _ (List.mem_cons_of_mem _ t_429)) (fun _ h9 => h9) rfl dX2_readArguments_208 (fun x_339 bx_339 g => ?_)
                    obtain ⟨a_340, ma_340, ka_340, g⟩ := g_factr g mq3_ kq3_ (by decide) 4 rfl
                    obtain ⟨a_341, ma_341, ka_341, g⟩ := g_factr g mq3_ kq3_ (by decide) 5 rfl
                    obtain ⟨x_342, bx_342, g⟩ := g_facti g mq3_ kq3_ (by decide) 6 rfl
                    have go_ := g
                    refine g_callv (va_runV (As := [.int y0_, .int x_339]) (rest := []) ⟨hx, hb, hml, hown, hts⟩ (r_X7_emitN l dC dI L kd tys fr_327 H.size g.2.2.2.1 q3_ mq3_ kq3_ a_340 ma_340 ka_340 a_341 ma_341 ka_341 x_342 bx_342 T_ hG_335 y0_ x_339 (fun j9 => jOK fr_327 q3_ j9) hG_334 (fun _ h9 => h9) ⟨(fun h9 => ⟨(by have h9_0 := b_321; unfold bd at h9_0; have h9_1 := b_319; unfold bd at h9_1; have h9_2 := h_329; unfold bd at h9_2; have h9_3 := bx_339; unfold bd at h9_3; have h9_4 := bx_342; unfold bd at h9_4; have h9_5 := h_8; unfold bd at h9_5; have h9_6 := by0_; unfold bd at h9_6; have h9_7 := by1_; unfold bd at h9_7; have h8_0 := kb_0; unfold bd at h8_0; have h8_1 := kb_3; unfold bd at h8_1; have h8_2 := kb_41; unfold bd at h8_2; omega), (by have h9_0 := b_321; unfold bd at h9_0; have h9_1 := b_319; unfold bd at h9_1; have h9_2 := h_329; unfold bd at h9_2; have h9_3 := bx_339; unfold bd at h9_3; have h9_4 := bx_342; unfold bd at h9_4; have h9_5 := h_8; unfold bd at h9_5; have h9_6 := by0_; unfold bd at h9_6; have h9_7 := by1_; unfold bd at h9_7; have h8_0 := kb_0; unfold bd at h8_0; have h8_1 := kb_3; unfold bd at h8_1; have h8_2 := kb_41; unfold bd at h8_2; omega)⟩), (fun h9 => ⟨(by have h9_0 := b_321; unfold bd at h9_0; have h9_1 := b_319; unfold bd at h9_1; have h9_2 := h_329; unfold bd at h9_2; have h9_3 := bx_339; unfold bd at h9_3; have h9_4 := bx_342; unfold bd at h9_4; have h9_5 := h_8; unfold bd at h9_5; have h9_6 := by0_; unfold bd at h9_6; have h9_7 := by1_; unfold bd at h9_7; have h8_0 := kb_0; unfold bd at h8_0; have h8_1 := kb_3; unfold bd at h8_1; have h8_2 := kb_41; unfold bd at h8_2; omega), (by have h9_0 := b_321; unfold bd at h9_0; have h9_1 := b_319; unfold bd at h9_1; have h9_2 := h_329; unfold bd at h9_2; have h9_3 := bx_339; unfold bd at h9_3; have h9_4 := bx_342; unfold bd at h9_4; have h9_5 := h_8; unfold bd at h9_5; have h9_6 := by0_; unfold bd at h9_6; have h9_7 := by1_; unfold bd at h9_7; have h8_0 := kb_0; unfold bd at h8_0; have h8_1 := kb_3; unfold bd at h8_1; have h8_2 := kb_41; unfold bd at h8_2; omega)⟩), (fun h9 => ⟨(by have h9_0 := b_321; unfold bd at h9_0; have h9_1 := b_319; unfold bd at h9_1; have h9_2 := h_329; unfold bd at h9_2; have h9_3 := bx_339; unfold bd at h9_3; have h9_4 := bx_342; unfold bd at h9_4; have h9_5 := h_8; unfold bd at h9_5; have h9_6 := by0_; unfold bd at h9_6; have h9_7 := by1_; unfold bd at h9_7; have h8_0 := kb_0; unfold bd at h8_0; have h8_1 := kb_3; unfold bd at h8_1; have h8_2 := kb_41; unfold bd at h8_2; omega), (by have h9_0 := b_321; unfold bd at h9_0; have h9_1 := b_319; unfold bd at h9_1; have h9_2 := h_329; unfold bd at h9_2; have h9_3 := bx_339; unfold bd at h9_3; have h9_4 := bx_342; unfold bd at h9_4; have h9_5 := h_8; unfold bd at h9_5; have h9_6 := by0_; unfold bd at h9_6; have h9_7 := by1_; unfold bd at h9_7; have h8_0 := kb_0; unfold bd at h8_0; have h8_1 := kb_3; unfold bd at h8_1; have h8_2 := kb_41; unfold bd at h8_2; omega)⟩)⟩ (g.fcts [2, 1, 0] rfl)) (cwV 2 hts (gV_ t_1301 t_1204 t_1205 t_191 t_1206) rfl rfl rfl (by decide +kernel) ⟨(Nat.le_of_ble_eq_true rfl), (Nat.le_of_ble_eq_true rfl)⟩) (pre3V g hK mq3_ kq3_ (by decide) (q := (RX7, TX7, 19)) rfl) rfl rfl hl.1 rfl (lv_room (Nat.le_of_ble_eq_true rfl)) dX2_readArguments_211 ⟨(Nat.le_of_ble_eq_true rfl), (Nat.le_of_ble_eq_true rfl)⟩) g hK (by decide) (by decide) (fx' := [(7, 5, q3_, .ref a_341), (7, 4, q3_, .ref a_340), (2, 13, a0_, .int x_339), (8, 6, q0_, .int x_328), (8, 8, q0_, .int y1_), (2, 14, a0_, .int x_17), (2, 0, a0_, .ref q0_), (2, 1, a0_, .ref q1_), (2, 2, a0_, .ref q2_), (2, 3, a0_, .ref q3_), (0, 0, q2_, .ref q0_), (0, 1, q2_, .ref q1_), (5, 0, q1_, .ref q3_), (5, 1, q1_, .ref q7_), (2, 12, a0_, .int y0_)]) rfl (fun fr_343 H locs hp hMr_343 g => ?_)
                    obtain ⟨hG_344, hG_345, hG_346, hx_347, x_348, h_349, hF_350⟩ := hp
                    have hG_351 := eOK.frame hMr_343 go_.2.2.2.1 mq2_ kq2_ (by decide) (by decide) hG_337
                    have g := g.more hF_350
                    have hs_352 := jS.mv hG_336 hG_346
                    refine lv_aload_n hx hb dX2_readArguments_214 rfl (lv_at hl 4 rfl) ?_
                    refine g_getk (C := RX2) (T := TX2) (N := 16) hx hb hts (mc_ inX2) hown hK g rfl 3 (by decide) rfl (hts _ (List.mem_cons_of_mem _ t_419)) (fun _ h9 => h9) 10 rfl dX2_readArguments_215 ?_
                    refine lv_bipush (v := 22) hx hb dX2_readArguments_218 (by decide) ?_
                    refine lv_iconst (v := 0) hx hb dX2_readArguments_220 (by decide) ?_
                    have kb_22 : bd 22 22 (22 : Int32) := ⟨by decide, by decide⟩
                    have go_ := g
                    refine g_callv (va_runV (As := [.int 22, .int 0]) (rest := []) ⟨hx, hb, hml, hown, hts⟩ (r_X7_emitN l dC dI L kd tys fr_343 H.size g.2.2.2.1 q3_ mq3_ kq3_ a_340 ma_340 ka_340 a_341 ma_341 ka_341 x_348 h_349 T_ hG_344 (22 : Int32) (0 : Int32) (fun j9 => jOK fr_343 q3_ j9) hG_345 (fun _ h9 => h9) ⟨(fun h9 => ⟨(by have h9_0 := b_321; unfold bd at h9_0; have h9_1 := b_319; unfold bd at h9_1; have h9_2 := h_329; unfold bd at h9_2; have h9_3 := bx_339; unfold bd at h9_3; have h9_4 := bx_342; unfold bd at h9_4; have h9_5 := h_349; unfold bd at h9_5; have h9_6 := h_8; unfold bd at h9_6; have h9_7 := by0_; unfold bd at h9_7; have h9_8 := by1_; unfold bd at h9_8; have h8_0 := kb_0; unfold bd at h8_0; have h8_1 := kb_22; unfold bd at h8_1; have h8_2 := kb_3; unfold bd at h8_2; have h8_3 := kb_41; unfold bd at h8_3; omega), (by have h9_0 := b_321; unfold bd at h9_0; have h9_1 := b_319; unfold bd at h9_1; have h9_2 := h_329; unfold bd at h9_2; have h9_3 := bx_339; unfold bd at h9_3; have h9_4 := bx_342; unfold bd at h9_4; have h9_5 := h_349; unfold bd at h9_5; have h9_6 := h_8; unfold bd at h9_6; have h9_7 := by0_; unfold bd at h9_7; have h9_8 := by1_; unfold bd at h9_8; have h8_0 := kb_0; unfold bd at h8_0; have h8_1 := kb_22; unfold bd at h8_1; have h8_2 := kb_3; unfold bd at h8_2; have h8_3 := kb_41; unfold bd at h8_3; omega)⟩), (fun h9 => ⟨(by have h9_0 := b_321; unfold bd at h9_0; have h9_1 := b_319; unfold bd at h9_1; have h9_2 := h_329; unfold bd at h9_2; have h9_3 := bx_339; unfold bd at h9_3; have h9_4 := bx_342; unfold bd at h9_4; have h9_5 := h_349; unfold bd at h9_5; have h9_6 := h_8; unfold bd at h9_6; have h9_7 := by0_; unfold bd at h9_7; have h9_8 := by1_; unfold bd at h9_8; have h8_0 := kb_0; unfold bd at h8_0; have h8_1 := kb_22; unfold bd at h8_1; have h8_2 := kb_3; unfold bd at h8_2; have h8_3 := kb_41; unfold bd at h8_3; omega), (by have h9_0 := b_321; unfold bd at h9_0; have h9_1 := b_319; unfold bd at h9_1; have h9_2 := h_329; unfold bd at h9_2; have h9_3 := bx_339; unfold bd at h9_3; have h9_4 := bx_342; unfold bd at h9_4; have h9_5 := h_349; unfold bd at h9_5; have h9_6 := h_8; unfold bd at h9_6; have h9_7 := by0_; unfold bd at h9_7; have h9_8 := by1_; unfold bd at h9_8; have h8_0 := kb_0; unfold bd at h8_0; have h8_1 := kb_22; unfold bd at h8_1; have h8_2 := kb_3; unfold bd at h8_2; have h8_3 := kb_41; unfold bd at h8_3; omega)⟩), (fun h9 => ⟨(by have h9_0 := b_321; unfold bd at h9_0; have h9_1 := b_319; unfold bd at h9_1; have h9_2 := h_329; unfold bd at h9_2; have h9_3 := bx_339; unfold bd at h9_3; have h9_4 := bx_342; unfold bd at h9_4; have h9_5 := h_349; unfold bd at h9_5; have h9_6 := h_8; unfold bd at h9_6; have h9_7 := by0_; unfold bd at h9_7; have h9_8 := by1_; unfold bd at h9_8; have h8_0 := kb_0; unfold bd at h8_0; have h8_1 := kb_22; unfold bd at h8_1; have h8_2 := kb_3; unfold bd at h8_2; have h8_3 := kb_41; unfold bd at h8_3; omega), (by have h9_0 := b_321; unfold bd at h9_0; have h9_1 := b_319; unfold bd at h9_1; have h9_2 := h_329; unfold bd at h9_2; have h9_3 := bx_339; unfold bd at h9_3; have h9_4 := bx_342; unfold bd at h9_4; have h9_5 := h_349; unfold bd at h9_5; have h9_6 := h_8; unfold bd at h9_6; have h9_7 := by0_; unfold bd at h9_7; have h9_8 := by1_; unfold bd at h9_8; have h8_0 := kb_0; unfold bd at h8_0; have h8_1 := kb_22; unfold bd at h8_1; have h8_2 := kb_3; unfold bd at h8_2; have h8_3 := kb_41; unfold bd at h8_3; omega)⟩)⟩ (g.fcts [2, 1, 0] rfl)) (cwV 2 hts (gV_ t_1301 t_1204 t_1205 t_191 t_1206) rfl rfl rfl (by decide +kernel) ⟨(Nat.le_of_ble_eq_true rfl), (Nat.le_of_ble_eq_true rfl)⟩) (pre3V g hK mq3_ kq3_ (by decide) (q := (RX7, TX7, 19)) rfl) rfl rfl hl.1 rfl (lv_room (Nat.le_of_ble_eq_true rfl)) dX2_readArguments_221 ⟨(Nat.le_of_ble_eq_true rfl), (Nat.le_of_ble_eq_true rfl)⟩) g hK (by decide) (by decide) (fx' := [(7, 5, q3_, .ref a_341), (7, 4, q3_, .ref a_340), (2, 13, a0_, .int x_339), (8, 6, q0_, .int x_328), (8, 8, q0_, .int y1_), (2, 14, a0_, .int x_17), (2, 0, a0_, .ref q0_), (2, 1, a0_, .ref q1_), (2, 2, a0_, .ref q2_), (2, 3, a0_, .ref q3_), (0, 0, q2_, .ref q0_), (0, 1, q2_, .ref q1_), (5, 0, q1_, .ref q3_), (5, 1, q1_, .ref q7_), (2, 12, a0_, .int y0_)]) rfl (fun fr_353 H locs hp hMr_353 g => ?_)
                    obtain ⟨hG_354, hG_355, hG_356, hx_357, x_358, h_359, hF_360⟩ := hp
                    have hG_361 := eOK.frame hMr_353 go_.2.2.2.1 mq2_ kq2_ (by decide) (by decide) hG_351
                    have g := g.more hF_360
                    have hs_362 := jS.mv hs_352 hG_356
                    refine lv_aload_n hx hb dX2_readArguments_224 rfl (lv_at hl 4 rfl) ?_
                    refine g_getk (C := RX2) (T := TX2) (N := 16) hx hb hts (mc_ inX2) hown hK g rfl 0 (by decide) rfl (hts _ (List.mem_cons_of_mem _ t_416)) (fun _ h9 => h9) 7 rfl dX2_readArguments_225 ?_
                    refine lv_bipush (v := 59) hx hb dX2_readArguments_228 (by decide) ?_
                    have go_ := g
                    refine g_callv (va_runV (As := [.int 59]) (rest := []) ⟨hx, hb, hml, hown, hts⟩ (r_X8_take l dC dI L kd tys fr_353 H.size g.2.2.2.1 q0_ mq0_ kq0_ 59 y1_ by1_ (g.fcts [5] rfl)) (cwV 1 hts (gV_ t_1098 t_1099 t_1100 t_184 t_1101) rfl rfl rfl (by decide +kernel) ⟨(Nat.le_of_ble_eq_true rfl), (Nat.le_of_ble_eq_true rfl)⟩) (pre3V g hK mq0_ kq0_ (by decide) (q := (RX8, TX8, 10)) rfl) rfl rfl hl.1 rfl (lv_room (Nat.le_of_ble_eq_true rfl)) dX2_readArguments_230 ⟨(Nat.le_of_ble_eq_true rfl), (Nat.le_of_ble_eq_true rfl)⟩) g hK (by decide) (by decide) (fx' := [(7, 6, q3_, .int x_358), (7, 5, q3_, .ref a_341), (7, 4, q3_, .ref a_340), (2, 13, a0_, .int x_339), (2, 14, a0_, .int x_17), (2, 0, a0_, .ref q0_), (2, 1, a0_, .ref q1_), (2, 2, a0_, .ref q2_), (2, 3, a0_, .ref q3_), (0, 0, q2_, .ref q0_), (0, 1, q2_, .ref q1_), (5, 0, q1_, .ref q3_), (5, 1, q1_, .ref q7_), (2, 12, a0_, .int y0_)]) rfl (fun fr_363 H locs hp hMr_363 g => ?_)
                    rcases hp with ⟨x_364, h_365, hF_366⟩ | ⟨x_367, h_368, hF_369⟩
                    · have hG_370 := cOK.frame hMr_363 go_.2.2.2.1 mq3_ kq3_ (by decide) (by decide) hG_355
                      have hG_371 := dOK.frame hMr_363 go_.2.2.2.1 mq3_ kq3_ (by decide) (by decide) hG_354
                      have hG_372 := jS.frame hMr_363 go_.2.2.2.1 mq3_ kq3_ (by decide) (by decide) hs_362
                      have hG_373 := eOK.frame hMr_363 go_.2.2.2.1 mq2_ kq2_ (by decide) (by decide) hG_361
                      have g := g.more hF_366
                      subst hQ
                      exact W.vret hx hb hr (fun t ht hW => ⟨⟨_, rfl, Or.inl ⟨hG_370, hG_371, hG_372, hG_373, x_364, h_365, (g.fcts [0, 1] rfl)⟩, q3_of g hK ht hW⟩, g.2.2.1.F ht⟩) g.2.2.1.2.2 dX2_readArguments_233
                    · have hG_374 := cOK.frame hMr_363 go_.2.2.2.1 mq3_ kq3_ (by decide) (by decide) hG_355
                      have hG_375 := dOK.frame hMr_363 go_.2.2.2.1 mq3_ kq3_ (by decide) (by decide) hG_354
                      have hG_376 := jS.frame hMr_363 go_.2.2.2.1 mq3_ kq3_ (by decide) (by decide) hs_362
                      have hG_377 := eOK.frame hMr_363 go_.2.2.2.1 mq2_ kq2_ (by decide) (by decide) hG_361
                      have g := g.more hF_369
                      have kb_1201 : bd 1201 1201 (1201 : Int32) := ⟨by decide, by decide⟩
                      subst hQ
                      exact W.vret hx hb hr (fun t ht hW => ⟨⟨_, rfl, Or.inr (⟨hG_375, hG_377, 1201, kb_1201, x_367, h_368, (g.fcts [0, 1] rfl)⟩), q3_of g hK ht hW⟩, g.2.2.1.F ht⟩) g.2.2.1.2.2 dX2_readArguments_233
                  · have fc_338 := nle_f c_338
                    have b_378 : bd (-2147483648) 2147483646 v69_2 := ltL fc_338 (bdT v69_2) (bdT x_17) (by decide)
                    have b_379 : bd (-2147483647) 2147483647 x_17 := ltR fc_338 (bdT v69_2) (bdT x_17) (by decide)
                    refine lv_aload_n hx hb dX2_readArguments_188 rfl (lv_at hl 4 rfl) ?_
                    refine g_getk (C := RX2) (T := TX2) (N := 16) hx hb hts (mc_ inX2) hown hK g rfl 0 (by decide) rfl (hts _ (List.mem_cons_of_mem _ t_416)) (fun _ h9 => h9) 3 rfl dX2_readArguments_189 ?_
                    refine lv_bipush (v := 6) hx hb dX2_readArguments_192 (by decide) ?_
                    refine lv_iload hx hb dX2_readArguments_194 (lv_at hl 0 rfl) ?_
                    have kb_6 : bd 6 6 (6 : Int32) := ⟨by decide, by decide⟩
                    have go_ := g
                    refine g_callv (va_runV (As := [.int 6, .int r_322]) (rest := []) ⟨hx, hb, hml, hown, hts⟩ (r_X8_fail l dC dI L kd tys fr_327 H.size g.2.2.2.1 q0_ mq0_ kq0_ 6 (bd_sub kb_6 (by decide)) r_322 y1_ by1_ (g.fcts [1] rfl)) (cwV 2 hts (gV_ t_1122 t_1107 t_1108 t_184 t_1109) rfl rfl rfl (by decide +kernel) ⟨(Nat.le_of_ble_eq_true rfl), (Nat.le_of_ble_eq_true rfl)⟩) (pre3V g hK mq0_ kq0_ (by decide) (q := (RX8, TX8, 10)) rfl) rfl rfl hl.1 rfl (lv_room (Nat.le_of_ble_eq_true rfl)) dX2_readArguments_196 ⟨(Nat.le_of_ble_eq_true rfl), (Nat.le_of_ble_eq_true rfl)⟩) g hK (by decide) (by decide) (fx' := [(2, 14, a0_, .int x_17), (2, 0, a0_, .ref q0_), (2, 1, a0_, .ref q1_), (2, 2, a0_, .ref q2_), (2, 3, a0_, .ref q3_), (0, 0, q2_, .ref q0_), (0, 1, q2_, .ref q1_), (5, 0, q1_, .ref q3_), (5, 1, q1_, .ref q7_), (2, 12, a0_, .int y0_)]) rfl (fun fr_380 H locs hp hMr_380 g => ?_)
                    obtain ⟨x_381, h_382, hF_383⟩ := hp
                    have hG_384 := cOK.frame hMr_380 go_.2.2.2.1 mq3_ kq3_ (by decide) (by decide) hG_334
                    have hG_385 := dOK.frame hMr_380 go_.2.2.2.1 mq3_ kq3_ (by decide) (by decide) hG_335
                    have hG_386 := jS.frame hMr_380 go_.2.2.2.1 mq3_ kq3_ (by decide) (by decide) hG_336
                    have hG_387 := eOK.frame hMr_380 go_.2.2.2.1 mq2_ kq2_ (by decide) (by decide) hG_337
                    have g := g.more hF_383
                    refine lv_aload_n hx hb dX2_readArguments_199 rfl (lv_at hl 4 rfl) ?_
                    refine g_getk (C := RX2) (T := TX2) (N := 16) hx hb hts (mc_ inX2) hown hK g rfl 3 (by decide) rfl (hts _ (List.mem_cons_of_mem _ t_419)) (fun _ h9 => h9) 6 rfl dX2_readArguments_200 ?_
                    refine lv_aload_n hx hb dX2_readArguments_203 rfl (lv_at hl 4 rfl) ?_
                    refine g_getk (C := RX2) (T := TX2) (N := 16) hx hb hts (mc_ inX2) hown hK g rfl 12 (by decide) rfl (hts _ (List.mem_cons_of_mem _ t_428)) (fun _ h9 => h9) 11 rfl dX2_readArguments_204 ?_
                    refine lv_aload_n hx hb dX2_readArguments_207 rfl (lv_at hl 4 rfl) ?_
                    refine g_geti (C := RX2) (T := TX2) (N := 16) hx hb hts (mc_ inX2) hown hK g ma0_ ka0_ (by decide) rfl 13 (by decide) rfl (hts _ (List.mem_cons_of_mem _ t_429)) (fun _ h9 => h9) rfl dX2_readArguments_208 (fun x_388 bx_388 g => ?_)
                    obtain ⟨a_389, ma_389, ka_389, g⟩ := g_factr g mq3_ kq3_ (by decide) 4 rfl
                    obtain ⟨a_390, ma_390, ka_390, g⟩ := g_factr g mq3_ kq3_ (by decide) 5 rfl
                    obtain ⟨x_391, bx_391, g⟩ := g_facti g mq3_ kq3_ (by decide) 6 rfl
                    have go_ := g
                    refine g_callv (va_runV (As := [.int y0_, .int x_388]) (rest := []) ⟨hx, hb, hml, hown, hts⟩ (r_X7_emitF l dC dI L kd tys fr_380 H.size g.2.2.2.1 q3_ mq3_ kq3_ a_389 ma_389 ka_389 a_390 ma_390 ka_390 x_391 bx_391 T_ hG_385 y0_ x_388 (g.fcts [2, 1, 0] rfl)) (cwV 2 hts (gV_ t_1301 t_1204 t_1205 t_191 t_1206) rfl rfl rfl (by decide +kernel) ⟨(Nat.le_of_ble_eq_true rfl), (Nat.le_of_ble_eq_true rfl)⟩) (pre3V g hK mq3_ kq3_ (by decide) (q := (RX7, TX7, 19)) rfl) rfl rfl hl.1 rfl (lv_room (Nat.le_of_ble_eq_true rfl)) dX2_readArguments_211 ⟨(Nat.le_of_ble_eq_true rfl), (Nat.le_of_ble_eq_true rfl)⟩) g hK (by decide) (by decide) (fx' := [(7, 5, q3_, .ref a_390), (7, 4, q3_, .ref a_389), (2, 13, a0_, .int x_388), (8, 6, q0_, .int 1201), (8, 8, q0_, .int x_381), (2, 14, a0_, .int x_17), (2, 0, a0_, .ref q0_), (2, 1, a0_, .ref q1_), (2, 2, a0_, .ref q2_), (2, 3, a0_, .ref q3_), (0, 0, q2_, .ref q0_), (0, 1, q2_, .ref q1_), (5, 0, q1_, .ref q3_), (5, 1, q1_, .ref q7_), (2, 12, a0_, .int y0_)]) rfl (fun fr_392 H locs hp hMr_392 g => ?_)
                    obtain ⟨hG_393, x_394, h_395, hF_396⟩ := hp
                    have hG_397 := eOK.frame hMr_392 go_.2.2.2.1 mq2_ kq2_ (by decide) (by decide) hG_387
                    have g := g.more hF_396
                    refine lv_aload_n hx hb dX2_readArguments_214 rfl (lv_at hl 4 rfl) ?_
                    refine g_getk (C := RX2) (T := TX2) (N := 16) hx hb hts (mc_ inX2) hown hK g rfl 3 (by decide) rfl (hts _ (List.mem_cons_of_mem _ t_419)) (fun _ h9 => h9) 10 rfl dX2_readArguments_215 ?_
                    refine lv_bipush (v := 22) hx hb dX2_readArguments_218 (by decide) ?_
                    refine lv_iconst (v := 0) hx hb dX2_readArguments_220 (by decide) ?_
                    have go_ := g
                    refine g_callv (va_runV (As := [.int 22, .int 0]) (rest := []) ⟨hx, hb, hml, hown, hts⟩ (r_X7_emitF l dC dI L kd tys fr_392 H.size g.2.2.2.1 q3_ mq3_ kq3_ a_389 ma_389 ka_389 a_390 ma_390 ka_390 x_394 h_395 T_ hG_393 (22 : Int32) (0 : Int32) (g.fcts [2, 1, 0] rfl)) (cwV 2 hts (gV_ t_1301 t_1204 t_1205 t_191 t_1206) rfl rfl rfl (by decide +kernel) ⟨(Nat.le_of_ble_eq_true rfl), (Nat.le_of_ble_eq_true rfl)⟩) (pre3V g hK mq3_ kq3_ (by decide) (q := (RX7, TX7, 19)) rfl) rfl rfl hl.1 rfl (lv_room (Nat.le_of_ble_eq_true rfl)) dX2_readArguments_221 ⟨(Nat.le_of_ble_eq_true rfl), (Nat.le_of_ble_eq_true rfl)⟩) g hK (by decide) (by decide) (fx' := [(7, 5, q3_, .ref a_390), (7, 4, q3_, .ref a_389), (2, 13, a0_, .int x_388), (8, 6, q0_, .int 1201), (8, 8, q0_, .int x_381), (2, 14, a0_, .int x_17), (2, 0, a0_, .ref q0_), (2, 1, a0_, .ref q1_), (2, 2, a0_, .ref q2_), (2, 3, a0_, .ref q3_), (0, 0, q2_, .ref q0_), (0, 1, q2_, .ref q1_), (5, 0, q1_, .ref q3_), (5, 1, q1_, .ref q7_), (2, 12, a0_, .int y0_)]) rfl (fun fr_398 H locs hp hMr_398 g => ?_)
                    obtain ⟨hG_399, x_400, h_401, hF_402⟩ := hp
                    have hG_403 := eOK.frame hMr_398 go_.2.2.2.1 mq2_ kq2_ (by decide) (by decide) hG_397
                    have g := g.more hF_402
                    refine lv_aload_n hx hb dX2_readArguments_224 rfl (lv_at hl 4 rfl) ?_
                    refine g_getk (C := RX2) (T := TX2) (N := 16) hx hb hts (mc_ inX2) hown hK g rfl 0 (by decide) rfl (hts _ (List.mem_cons_of_mem _ t_416)) (fun _ h9 => h9) 7 rfl dX2_readArguments_225 ?_
                    refine lv_bipush (v := 59) hx hb dX2_readArguments_228 (by decide) ?_
                    have kb_1201 : bd 1201 1201 (1201 : Int32) := ⟨by decide, by decide⟩
                    have go_ := g
                    refine g_callv (va_runV (As := [.int 59]) (rest := []) ⟨hx, hb, hml, hown, hts⟩ (r_X8_take_2 l dC dI L kd tys fr_398 H.size g.2.2.2.1 q0_ mq0_ kq0_ 59 1201 kb_1201 x_381 h_382 (g.fcts [4, 5] rfl)) (cwV 1 hts (gV_ t_1098 t_1099 t_1100 t_184 t_1101) rfl rfl rfl (by decide +kernel) ⟨(Nat.le_of_ble_eq_true rfl), (Nat.le_of_ble_eq_true rfl)⟩) (pre3V g hK mq0_ kq0_ (by decide) (q := (RX8, TX8, 10)) rfl) rfl rfl hl.1 rfl (lv_room (Nat.le_of_ble_eq_true rfl)) dX2_readArguments_230 ⟨(Nat.le_of_ble_eq_true rfl), (Nat.le_of_ble_eq_true rfl)⟩) g hK (by decide) (by decide) (fx' := [(7, 6, q3_, .int x_400), (7, 5, q3_, .ref a_390), (7, 4, q3_, .ref a_389), (2, 13, a0_, .int x_388), (8, 8, q0_, .int x_381), (2, 14, a0_, .int x_17), (2, 0, a0_, .ref q0_), (2, 1, a0_, .ref q1_), (2, 2, a0_, .ref q2_), (2, 3, a0_, .ref q3_), (0, 0, q2_, .ref q0_), (0, 1, q2_, .ref q1_), (5, 0, q1_, .ref q3_), (5, 1, q1_, .ref q7_), (2, 12, a0_, .int y0_)]) rfl (fun fr_404 H locs hp hMr_404 g => ?_)
                    obtain ⟨x_405, h_406, hF_407⟩ := hp
                    have hG_408 := dOK.frame hMr_404 go_.2.2.2.1 mq3_ kq3_ (by decide) (by decide) hG_399
                    have hG_409 := eOK.frame hMr_404 go_.2.2.2.1 mq2_ kq2_ (by decide) (by decide) hG_403
                    have g := g.more hF_407
                    subst hQ
                    exact W.vret hx hb hr (fun t ht hW => ⟨⟨_, rfl, Or.inr (⟨hG_408, hG_409, x_405, h_406, x_381, h_382, (g.fcts [0, 5] rfl)⟩), q3_of g hK ht hW⟩, g.2.2.1.F ht⟩) g.2.2.1.2.2 dX2_readArguments_233
                · have hG_410 := cOK.frame hMr_327 go_.2.2.2.1 mq3_ kq3_ (by decide) (by decide) hG_323
                  have hG_411 := dOK.frame hMr_327 go_.2.2.2.1 mq3_ kq3_ (by decide) (by decide) hG_324
                  have hG_412 := jS.frame hMr_327 go_.2.2.2.1 mq3_ kq3_ (by decide) (by decide) hG_325
                  have hG_413 := eOK.frame hMr_327 go_.2.2.2.1 mq2_ kq2_ (by decide) (by decide) hG_326
                  have g := g.more hF_333
                  refine lv_iload_n hx hb dX2_readArguments_180 rfl (lv_at hl 2 rfl) ?_
                  refine lv_aload_n hx hb dX2_readArguments_181 rfl (lv_at hl 4 rfl) ?_
                  refine g_getk (C := RX2) (T := TX2) (N := 16) hx hb hts (mc_ inX2) hown hK g rfl 14 (by decide) rfl (hts _ (List.mem_cons_of_mem _ t_430)) (fun _ h9 => h9) 2 rfl dX2_readArguments_182 ?_
                  refine lv_icmp_ge (tgt := 199) hx hb dX2_readArguments_185 (by decide) (fun c_414 => ?_) (fun c_414 => ?_)
                  · have fc_414 := le_f c_414
                    refine lv_aload_n hx hb dX2_readArguments_199 rfl (lv_at hl 4 rfl) ?_
                    refine g_getk (C := RX2) (T := TX2) (N := 16) hx hb hts (mc_ inX2) hown hK g rfl 3 (by decide) rfl (hts _ (List.mem_cons_of_mem _ t_419)) (fun _ h9 => h9) 6 rfl dX2_readArguments_200 ?_
                    refine lv_aload_n hx hb dX2_readArguments_203 rfl (lv_at hl 4 rfl) ?_
                    refine g_getk (C := RX2) (T := TX2) (N := 16) hx hb hts (mc_ inX2) hown hK g rfl 12 (by decide) rfl (hts _ (List.mem_cons_of_mem _ t_428)) (fun _ h9 => h9) 11 rfl dX2_readArguments_204 ?_
                    refine lv_aload_n hx hb dX2_readArguments_207 rfl (lv_at hl 4 rfl) ?_
                    refine g_geti (C := RX2) (T := TX2) (N := 16) hx hb hts (mc_ inX2) hown hK g ma0_ ka0_ (by decide) rfl 13 (by decide) rfl (hts _ (List.mem_cons_of_mem _ t_429)) (fun _ h9 => h9) rfl dX2_readArguments_208 (fun x_415 bx_415 g => ?_)
                    obtain ⟨a_416, ma_416, ka_416, g⟩ := g_factr g mq3_ kq3_ (by decide) 4 rfl
                    obtain ⟨a_417, ma_417, ka_417, g⟩ := g_factr g mq3_ kq3_ (by decide) 5 rfl
                    obtain ⟨x_418, bx_418, g⟩ := g_facti g mq3_ kq3_ (by decide) 6 rfl
                    have go_ := g
                    refine g_callv (va_runV (As := [.int y0_, .int x_415]) (rest := []) ⟨hx, hb, hml, hown, hts⟩ (r_X7_emitF l dC dI L kd tys fr_327 H.size g.2.2.2.1 q3_ mq3_ kq3_ a_416 ma_416 ka_416 a_417 ma_417 ka_417 x_418 bx_418 T_ hG_411 y0_ x_415 (g.fcts [2, 1, 0] rfl)) (cwV 2 hts (gV_ t_1301 t_1204 t_1205 t_191 t_1206) rfl rfl rfl (by decide +kernel) ⟨(Nat.le_of_ble_eq_true rfl), (Nat.le_of_ble_eq_true rfl)⟩) (pre3V g hK mq3_ kq3_ (by decide) (q := (RX7, TX7, 19)) rfl) rfl rfl hl.1 rfl (lv_room (Nat.le_of_ble_eq_true rfl)) dX2_readArguments_211 ⟨(Nat.le_of_ble_eq_true rfl), (Nat.le_of_ble_eq_true rfl)⟩) g hK (by decide) (by decide) (fx' := [(7, 5, q3_, .ref a_417), (7, 4, q3_, .ref a_416), (2, 13, a0_, .int x_415), (8, 6, q0_, .int 1201), (8, 8, q0_, .int x_331), (2, 14, a0_, .int x_17), (2, 0, a0_, .ref q0_), (2, 1, a0_, .ref q1_), (2, 2, a0_, .ref q2_), (2, 3, a0_, .ref q3_), (0, 0, q2_, .ref q0_), (0, 1, q2_, .ref q1_), (5, 0, q1_, .ref q3_), (5, 1, q1_, .ref q7_), (2, 12, a0_, .int y0_)]) rfl (fun fr_419 H locs hp hMr_419 g => ?_)
                    obtain ⟨hG_420, x_421, h_422, hF_423⟩ := hp
                    have hG_424 := eOK.frame hMr_419 go_.2.2.2.1 mq2_ kq2_ (by decide) (by decide) hG_413
                    have g := g.more hF_423
                    refine lv_aload_n hx hb dX2_readArguments_214 rfl (lv_at hl 4 rfl) ?_
                    refine g_getk (C := RX2) (T := TX2) (N := 16) hx hb hts (mc_ inX2) hown hK g rfl 3 (by decide) rfl (hts _ (List.mem_cons_of_mem _ t_419)) (fun _ h9 => h9) 10 rfl dX2_readArguments_215 ?_
                    refine lv_bipush (v := 22) hx hb dX2_readArguments_218 (by decide) ?_
                    refine lv_iconst (v := 0) hx hb dX2_readArguments_220 (by decide) ?_
                    have go_ := g
                    refine g_callv (va_runV (As := [.int 22, .int 0]) (rest := []) ⟨hx, hb, hml, hown, hts⟩ (r_X7_emitF l dC dI L kd tys fr_419 H.size g.2.2.2.1 q3_ mq3_ kq3_ a_416 ma_416 ka_416 a_417 ma_417 ka_417 x_421 h_422 T_ hG_420 (22 : Int32) (0 : Int32) (g.fcts [2, 1, 0] rfl)) (cwV 2 hts (gV_ t_1301 t_1204 t_1205 t_191 t_1206) rfl rfl rfl (by decide +kernel) ⟨(Nat.le_of_ble_eq_true rfl), (Nat.le_of_ble_eq_true rfl)⟩) (pre3V g hK mq3_ kq3_ (by decide) (q := (RX7, TX7, 19)) rfl) rfl rfl hl.1 rfl (lv_room (Nat.le_of_ble_eq_true rfl)) dX2_readArguments_221 ⟨(Nat.le_of_ble_eq_true rfl), (Nat.le_of_ble_eq_true rfl)⟩) g hK (by decide) (by decide) (fx' := [(7, 5, q3_, .ref a_417), (7, 4, q3_, .ref a_416), (2, 13, a0_, .int x_415), (8, 6, q0_, .int 1201), (8, 8, q0_, .int x_331), (2, 14, a0_, .int x_17), (2, 0, a0_, .ref q0_), (2, 1, a0_, .ref q1_), (2, 2, a0_, .ref q2_), (2, 3, a0_, .ref q3_), (0, 0, q2_, .ref q0_), (0, 1, q2_, .ref q1_), (5, 0, q1_, .ref q3_), (5, 1, q1_, .ref q7_), (2, 12, a0_, .int y0_)]) rfl (fun fr_425 H locs hp hMr_425 g => ?_)
                    obtain ⟨hG_426, x_427, h_428, hF_429⟩ := hp
                    have hG_430 := eOK.frame hMr_425 go_.2.2.2.1 mq2_ kq2_ (by decide) (by decide) hG_424
                    have g := g.more hF_429
                    refine lv_aload_n hx hb dX2_readArguments_224 rfl (lv_at hl 4 rfl) ?_
                    refine g_getk (C := RX2) (T := TX2) (N := 16) hx hb hts (mc_ inX2) hown hK g rfl 0 (by decide) rfl (hts _ (List.mem_cons_of_mem _ t_416)) (fun _ h9 => h9) 7 rfl dX2_readArguments_225 ?_
                    refine lv_bipush (v := 59) hx hb dX2_readArguments_228 (by decide) ?_
                    have kb_1201 : bd 1201 1201 (1201 : Int32) := ⟨by decide, by decide⟩
                    have go_ := g
                    refine g_callv (va_runV (As := [.int 59]) (rest := []) ⟨hx, hb, hml, hown, hts⟩ (r_X8_take_2 l dC dI L kd tys fr_425 H.size g.2.2.2.1 q0_ mq0_ kq0_ 59 1201 kb_1201 x_331 h_332 (g.fcts [4, 5] rfl)) (cwV 1 hts (gV_ t_1098 t_1099 t_1100 t_184 t_1101) rfl rfl rfl (by decide +kernel) ⟨(Nat.le_of_ble_eq_true rfl), (Nat.le_of_ble_eq_true rfl)⟩) (pre3V g hK mq0_ kq0_ (by decide) (q := (RX8, TX8, 10)) rfl) rfl rfl hl.1 rfl (lv_room (Nat.le_of_ble_eq_true rfl)) dX2_readArguments_230 ⟨(Nat.le_of_ble_eq_true rfl), (Nat.le_of_ble_eq_true rfl)⟩) g hK (by decide) (by decide) (fx' := [(7, 6, q3_, .int x_427), (7, 5, q3_, .ref a_417), (7, 4, q3_, .ref a_416), (2, 13, a0_, .int x_415), (8, 8, q0_, .int x_331), (2, 14, a0_, .int x_17), (2, 0, a0_, .ref q0_), (2, 1, a0_, .ref q1_), (2, 2, a0_, .ref q2_), (2, 3, a0_, .ref q3_), (0, 0, q2_, .ref q0_), (0, 1, q2_, .ref q1_), (5, 0, q1_, .ref q3_), (5, 1, q1_, .ref q7_), (2, 12, a0_, .int y0_)]) rfl (fun fr_431 H locs hp hMr_431 g => ?_)
                    obtain ⟨x_432, h_433, hF_434⟩ := hp
                    have hG_435 := dOK.frame hMr_431 go_.2.2.2.1 mq3_ kq3_ (by decide) (by decide) hG_426
                    have hG_436 := eOK.frame hMr_431 go_.2.2.2.1 mq2_ kq2_ (by decide) (by decide) hG_430
                    have g := g.more hF_434
                    subst hQ
                    exact W.vret hx hb hr (fun t ht hW => ⟨⟨_, rfl, Or.inr (⟨hG_435, hG_436, x_432, h_433, x_331, h_332, (g.fcts [0, 5] rfl)⟩), q3_of g hK ht hW⟩, g.2.2.1.F ht⟩) g.2.2.1.2.2 dX2_readArguments_233
                  · have fc_414 := nle_f c_414
                    have b_437 : bd (-2147483648) 2147483646 v69_2 := ltL fc_414 (bdT v69_2) (bdT x_17) (by decide)
                    have b_438 : bd (-2147483647) 2147483647 x_17 := ltR fc_414 (bdT v69_2) (bdT x_17) (by decide)
                    refine lv_aload_n hx hb dX2_readArguments_188 rfl (lv_at hl 4 rfl) ?_
                    refine g_getk (C := RX2) (T := TX2) (N := 16) hx hb hts (mc_ inX2) hown hK g rfl 0 (by decide) rfl (hts _ (List.mem_cons_of_mem _ t_416)) (fun _ h9 => h9) 3 rfl dX2_readArguments_189 ?_
                    refine lv_bipush (v := 6) hx hb dX2_readArguments_192 (by decide) ?_
                    refine lv_iload hx hb dX2_readArguments_194 (lv_at hl 0 rfl) ?_
                    have kb_6 : bd 6 6 (6 : Int32) := ⟨by decide, by decide⟩
                    have go_ := g
                    refine g_callv (va_runV (As := [.int 6, .int r_322]) (rest := []) ⟨hx, hb, hml, hown, hts⟩ (r_X8_fail_2 l dC dI L kd tys fr_327 H.size g.2.2.2.1 q0_ mq0_ kq0_ 6 (bd_sub kb_6 (by decide)) r_322 x_331 h_332 (g.fcts [1] rfl)) (cwV 2 hts (gV_ t_1122 t_1107 t_1108 t_184 t_1109) rfl rfl rfl (by decide +kernel) ⟨(Nat.le_of_ble_eq_true rfl), (Nat.le_of_ble_eq_true rfl)⟩) (pre3V g hK mq0_ kq0_ (by decide) (q := (RX8, TX8, 10)) rfl) rfl rfl hl.1 rfl (lv_room (Nat.le_of_ble_eq_true rfl)) dX2_readArguments_196 ⟨(Nat.le_of_ble_eq_true rfl), (Nat.le_of_ble_eq_true rfl)⟩) g hK (by decide) (by decide) (fx' := [(8, 8, q0_, .int x_331), (2, 14, a0_, .int x_17), (2, 0, a0_, .ref q0_), (2, 1, a0_, .ref q1_), (2, 2, a0_, .ref q2_), (2, 3, a0_, .ref q3_), (0, 0, q2_, .ref q0_), (0, 1, q2_, .ref q1_), (5, 0, q1_, .ref q3_), (5, 1, q1_, .ref q7_), (2, 12, a0_, .int y0_)]) rfl (fun fr_439 H locs hp hMr_439 g => ?_)
                    have hF_440 := hp
                    have hG_441 := cOK.frame hMr_439 go_.2.2.2.1 mq3_ kq3_ (by decide) (by decide) hG_410
                    have hG_442 := dOK.frame hMr_439 go_.2.2.2.1 mq3_ kq3_ (by decide) (by decide) hG_411
                    have hG_443 := jS.frame hMr_439 go_.2.2.2.1 mq3_ kq3_ (by decide) (by decide) hG_412
                    have hG_444 := eOK.frame hMr_439 go_.2.2.2.1 mq2_ kq2_ (by decide) (by decide) hG_413
                    have g := g.more hF_440
                    refine lv_aload_n hx hb dX2_readArguments_199 rfl (lv_at hl 4 rfl) ?_
                    refine g_getk (C := RX2) (T := TX2) (N := 16) hx hb hts (mc_ inX2) hown hK g rfl 3 (by decide) rfl (hts _ (List.mem_cons_of_mem _ t_419)) (fun _ h9 => h9) 6 rfl dX2_readArguments_200 ?_
                    refine lv_aload_n hx hb dX2_readArguments_203 rfl (lv_at hl 4 rfl) ?_
                    refine g_getk (C := RX2) (T := TX2) (N := 16) hx hb hts (mc_ inX2) hown hK g rfl 12 (by decide) rfl (hts _ (List.mem_cons_of_mem _ t_428)) (fun _ h9 => h9) 11 rfl dX2_readArguments_204 ?_
                    refine lv_aload_n hx hb dX2_readArguments_207 rfl (lv_at hl 4 rfl) ?_
                    refine g_geti (C := RX2) (T := TX2) (N := 16) hx hb hts (mc_ inX2) hown hK g ma0_ ka0_ (by decide) rfl 13 (by decide) rfl (hts _ (List.mem_cons_of_mem _ t_429)) (fun _ h9 => h9) rfl dX2_readArguments_208 (fun x_445 bx_445 g => ?_)
                    obtain ⟨a_446, ma_446, ka_446, g⟩ := g_factr g mq3_ kq3_ (by decide) 4 rfl
                    obtain ⟨a_447, ma_447, ka_447, g⟩ := g_factr g mq3_ kq3_ (by decide) 5 rfl
                    obtain ⟨x_448, bx_448, g⟩ := g_facti g mq3_ kq3_ (by decide) 6 rfl
                    have go_ := g
                    refine g_callv (va_runV (As := [.int y0_, .int x_445]) (rest := []) ⟨hx, hb, hml, hown, hts⟩ (r_X7_emitF l dC dI L kd tys fr_439 H.size g.2.2.2.1 q3_ mq3_ kq3_ a_446 ma_446 ka_446 a_447 ma_447 ka_447 x_448 bx_448 T_ hG_442 y0_ x_445 (g.fcts [2, 1, 0] rfl)) (cwV 2 hts (gV_ t_1301 t_1204 t_1205 t_191 t_1206) rfl rfl rfl (by decide +kernel) ⟨(Nat.le_of_ble_eq_true rfl), (Nat.le_of_ble_eq_true rfl)⟩) (pre3V g hK mq3_ kq3_ (by decide) (q := (RX7, TX7, 19)) rfl) rfl rfl hl.1 rfl (lv_room (Nat.le_of_ble_eq_true rfl)) dX2_readArguments_211 ⟨(Nat.le_of_ble_eq_true rfl), (Nat.le_of_ble_eq_true rfl)⟩) g hK (by decide) (by decide) (fx' := [(7, 5, q3_, .ref a_447), (7, 4, q3_, .ref a_446), (2, 13, a0_, .int x_445), (8, 6, q0_, .int 1201), (8, 8, q0_, .int x_331), (2, 14, a0_, .int x_17), (2, 0, a0_, .ref q0_), (2, 1, a0_, .ref q1_), (2, 2, a0_, .ref q2_), (2, 3, a0_, .ref q3_), (0, 0, q2_, .ref q0_), (0, 1, q2_, .ref q1_), (5, 0, q1_, .ref q3_), (5, 1, q1_, .ref q7_), (2, 12, a0_, .int y0_)]) rfl (fun fr_449 H locs hp hMr_449 g => ?_)
                    obtain ⟨hG_450, x_451, h_452, hF_453⟩ := hp
                    have hG_454 := eOK.frame hMr_449 go_.2.2.2.1 mq2_ kq2_ (by decide) (by decide) hG_444
                    have g := g.more hF_453
                    refine lv_aload_n hx hb dX2_readArguments_214 rfl (lv_at hl 4 rfl) ?_
                    refine g_getk (C := RX2) (T := TX2) (N := 16) hx hb hts (mc_ inX2) hown hK g rfl 3 (by decide) rfl (hts _ (List.mem_cons_of_mem _ t_419)) (fun _ h9 => h9) 10 rfl dX2_readArguments_215 ?_
                    refine lv_bipush (v := 22) hx hb dX2_readArguments_218 (by decide) ?_
                    refine lv_iconst (v := 0) hx hb dX2_readArguments_220 (by decide) ?_
                    have go_ := g
                    refine g_callv (va_runV (As := [.int 22, .int 0]) (rest := []) ⟨hx, hb, hml, hown, hts⟩ (r_X7_emitF l dC dI L kd tys fr_449 H.size g.2.2.2.1 q3_ mq3_ kq3_ a_446 ma_446 ka_446 a_447 ma_447 ka_447 x_451 h_452 T_ hG_450 (22 : Int32) (0 : Int32) (g.fcts [2, 1, 0] rfl)) (cwV 2 hts (gV_ t_1301 t_1204 t_1205 t_191 t_1206) rfl rfl rfl (by decide +kernel) ⟨(Nat.le_of_ble_eq_true rfl), (Nat.le_of_ble_eq_true rfl)⟩) (pre3V g hK mq3_ kq3_ (by decide) (q := (RX7, TX7, 19)) rfl) rfl rfl hl.1 rfl (lv_room (Nat.le_of_ble_eq_true rfl)) dX2_readArguments_221 ⟨(Nat.le_of_ble_eq_true rfl), (Nat.le_of_ble_eq_true rfl)⟩) g hK (by decide) (by decide) (fx' := [(7, 5, q3_, .ref a_447), (7, 4, q3_, .ref a_446), (2, 13, a0_, .int x_445), (8, 6, q0_, .int 1201), (8, 8, q0_, .int x_331), (2, 14, a0_, .int x_17), (2, 0, a0_, .ref q0_), (2, 1, a0_, .ref q1_), (2, 2, a0_, .ref q2_), (2, 3, a0_, .ref q3_), (0, 0, q2_, .ref q0_), (0, 1, q2_, .ref q1_), (5, 0, q1_, .ref q3_), (5, 1, q1_, .ref q7_), (2, 12, a0_, .int y0_)]) rfl (fun fr_455 H locs hp hMr_455 g => ?_)
                    obtain ⟨hG_456, x_457, h_458, hF_459⟩ := hp
                    have hG_460 := eOK.frame hMr_455 go_.2.2.2.1 mq2_ kq2_ (by decide) (by decide) hG_454
                    have g := g.more hF_459
                    refine lv_aload_n hx hb dX2_readArguments_224 rfl (lv_at hl 4 rfl) ?_
                    refine g_getk (C := RX2) (T := TX2) (N := 16) hx hb hts (mc_ inX2) hown hK g rfl 0 (by decide) rfl (hts _ (List.mem_cons_of_mem _ t_416)) (fun _ h9 => h9) 7 rfl dX2_readArguments_225 ?_
                    refine lv_bipush (v := 59) hx hb dX2_readArguments_228 (by decide) ?_
                    have kb_1201 : bd 1201 1201 (1201 : Int32) := ⟨by decide, by decide⟩
                    have go_ := g
                    refine g_callv (va_runV (As := [.int 59]) (rest := []) ⟨hx, hb, hml, hown, hts⟩ (r_X8_take_2 l dC dI L kd tys fr_455 H.size g.2.2.2.1 q0_ mq0_ kq0_ 59 1201 kb_1201 x_331 h_332 (g.fcts [4, 5] rfl)) (cwV 1 hts (gV_ t_1098 t_1099 t_1100 t_184 t_1101) rfl rfl rfl (by decide +kernel) ⟨(Nat.le_of_ble_eq_true rfl), (Nat.le_of_ble_eq_true rfl)⟩) (pre3V g hK mq0_ kq0_ (by decide) (q := (RX8, TX8, 10)) rfl) rfl rfl hl.1 rfl (lv_room (Nat.le_of_ble_eq_true rfl)) dX2_readArguments_230 ⟨(Nat.le_of_ble_eq_true rfl), (Nat.le_of_ble_eq_true rfl)⟩) g hK (by decide) (by decide) (fx' := [(7, 6, q3_, .int x_457), (7, 5, q3_, .ref a_447), (7, 4, q3_, .ref a_446), (2, 13, a0_, .int x_445), (8, 8, q0_, .int x_331), (2, 14, a0_, .int x_17), (2, 0, a0_, .ref q0_), (2, 1, a0_, .ref q1_), (2, 2, a0_, .ref q2_), (2, 3, a0_, .ref q3_), (0, 0, q2_, .ref q0_), (0, 1, q2_, .ref q1_), (5, 0, q1_, .ref q3_), (5, 1, q1_, .ref q7_), (2, 12, a0_, .int y0_)]) rfl (fun fr_461 H locs hp hMr_461 g => ?_)
                    obtain ⟨x_462, h_463, hF_464⟩ := hp
                    have hG_465 := dOK.frame hMr_461 go_.2.2.2.1 mq3_ kq3_ (by decide) (by decide) hG_456
                    have hG_466 := eOK.frame hMr_461 go_.2.2.2.1 mq2_ kq2_ (by decide) (by decide) hG_460
                    have g := g.more hF_464
                    subst hQ
                    exact W.vret hx hb hr (fun t ht hW => ⟨⟨_, rfl, Or.inr (⟨hG_465, hG_466, x_462, h_463, x_331, h_332, (g.fcts [0, 5] rfl)⟩), q3_of g hK ht hW⟩, g.2.2.1.F ht⟩) g.2.2.1.2.2 dX2_readArguments_233
              · have fc_320 := neq_f c_320
                have b_467 : bd 1 1 v69_3 := neX fc_320 bv69_3 kb_0 (by decide)
                refine lv_aload_n hx hb dX2_readArguments_79 rfl (lv_at hl 4 rfl) ?_
                refine g_getk (C := RX2) (T := TX2) (N := 16) hx hb hts (mc_ inX2) hown hK g rfl 0 (by decide) rfl (hts _ (List.mem_cons_of_mem _ t_416)) (fun _ h9 => h9) 2 rfl dX2_readArguments_80 ?_
                refine g_getk (C := RX8) (T := TX8) (N := 10) hx hb hts (mc_ inX8) hown hK g rfl 8 (by decide) rfl (hts _ (List.mem_cons_of_mem _ t_294)) (fun _ h9 => h9) 1 rfl dX2_readArguments_83 ?_
                refine lv_if_ne (tgt := 162) hx hb dX2_readArguments_86 (by decide) (fun c_468 => ?_) (fun c_468 => ?_)
                · have fc_468 := neq_f c_468
                  have b_469 : bd 1 (-1) y1_ := neX fc_468 by1_ kb_0 (by decide)
                  exact bd_no b_469 (by decide)
                · have fc_468 := eq_f c_468
                  refine lv_aload_n hx hb dX2_readArguments_89 rfl (lv_at hl 4 rfl) ?_
                  refine g_getk (C := RX2) (T := TX2) (N := 16) hx hb hts (mc_ inX2) hown hK g rfl 2 (by decide) rfl (hts _ (List.mem_cons_of_mem _ t_418)) (fun _ h9 => h9) 4 rfl dX2_readArguments_90 ?_
                  have go_ := g
                  refine g_callv (va_runV (As := []) (rest := []) ⟨hx, hb, hml, hown, hts⟩ (r_X0_read l dC dI L kd tys f H.size g.2.2.2.1 q2_ mq2_ kq2_ q0_ mq0_ kq0_ q1_ mq1_ kq1_ q3_ mq3_ kq3_ q7_ mq7_ kq7_ y1_ by1_ T_ (fun j9 => jOK f q3_ j9) hG69_e_q2_ hG69_c_q3_ hG69_d_q3_ (fun _ h9 => h9) (g.fcts [6, 7, 8, 9, 1] rfl)) (cwV 0 hts (gV_ t_1182 t_1183 t_1184 t_190 t_1185) rfl rfl rfl (by decide +kernel) ⟨(Nat.le_of_ble_eq_true rfl), (Nat.le_of_ble_eq_true rfl)⟩) (pre3V g hK mq2_ kq2_ (by decide) (q := (RX0, TX0, 14)) rfl) rfl rfl hl.1 rfl (lv_room (Nat.le_of_ble_eq_true rfl)) dX2_readArguments_93 ⟨(Nat.le_of_ble_eq_true rfl), (Nat.le_of_ble_eq_true rfl)⟩) g hK (by decide) (by decide) (fx' := [(2, 14, a0_, .int x_17), (2, 0, a0_, .ref q0_), (2, 1, a0_, .ref q1_), (2, 2, a0_, .ref q2_), (2, 3, a0_, .ref q3_), (0, 0, q2_, .ref q0_), (0, 1, q2_, .ref q1_), (5, 0, q1_, .ref q3_), (5, 1, q1_, .ref q7_), (2, 12, a0_, .int y0_)]) rfl (fun fr_470 H locs hp hMr_470 g => ?_)
                  rcases hp with ⟨hG_471, hG_472, hG_473, hG_474, hF_475⟩ | ⟨hG_476, hG_477, x_478, h_479, x_480, h_481, hF_482⟩
                  · have g := g.more hF_475
                    have hs_483 := jS.mv hG69_s_q3_ hG_474
                    have kb_1 : bd 1 1 (1 : Int32) := ⟨by decide, by decide⟩
                    obtain ⟨y_484, ey_484⟩ : ∃ z : Int32, z = v69_2 + 1 := ⟨_, rfl⟩
                    refine lv_iinc (v := y_484) (lv' := [(2, .int y_484), (4, .int v69_4), (3, .int v69_3), (1, .int r_1), (0, .ref a0_)]) hx hb dX2_readArguments_96 hl (k := 2) rfl (by rw [ey_484]; rfl) (by decide) rfl (fun ls hl => ?_)
                    refine lv_aload_n hx hb dX2_readArguments_99 rfl (lv_at hl 4 rfl) ?_
                    refine g_getk (C := RX2) (T := TX2) (N := 16) hx hb hts (mc_ inX2) hown hK g rfl 0 (by decide) rfl (hts _ (List.mem_cons_of_mem _ t_416)) (fun _ h9 => h9) 3 rfl dX2_readArguments_100 ?_
                    have go_ := g
                    refine g_calli (va_runV (As := []) (rest := []) ⟨hx, hb, hml, hown, hts⟩ (r_X8_kind l dC dI L kd tys fr_470 H.size g.2.2.2.1 q0_ mq0_ kq0_) (cwV 0 hts (gV_ t_1118 t_1119 t_1120 t_184 t_1121) rfl rfl rfl (by decide +kernel) ⟨(Nat.le_of_ble_eq_true rfl), (Nat.le_of_ble_eq_true rfl)⟩) (pre3V g hK mq0_ kq0_ (by decide) (q := (RX8, TX8, 10)) rfl) rfl rfl hl.1 rfl (lv_room (Nat.le_of_ble_eq_true rfl)) dX2_readArguments_103 ⟨(Nat.le_of_ble_eq_true rfl), (Nat.le_of_ble_eq_true rfl)⟩) g hK (by decide) (by decide) (fx' := [(0, 2, q2_, .ref q3_), (8, 8, q0_, .int y1_), (2, 14, a0_, .int x_17), (2, 0, a0_, .ref q0_), (2, 1, a0_, .ref q1_), (2, 2, a0_, .ref q2_), (2, 3, a0_, .ref q3_), (0, 0, q2_, .ref q0_), (0, 1, q2_, .ref q1_), (5, 0, q1_, .ref q3_), (5, 1, q1_, .ref q7_), (2, 12, a0_, .int y0_)]) rfl (fun r_485 fr_485 H locs hp hMr_485 g => ?_)
                    have hG_486 := cOK.frame hMr_485 go_.2.2.2.1 mq3_ kq3_ (by decide) (by decide) hG_472
                    have hG_487 := dOK.frame hMr_485 go_.2.2.2.1 mq3_ kq3_ (by decide) (by decide) hG_473
                    have hG_488 := jS.frame hMr_485 go_.2.2.2.1 mq3_ kq3_ (by decide) (by decide) hs_483
                    have hG_489 := eOK.frame hMr_485 go_.2.2.2.1 mq2_ kq2_ (by decide) (by decide) hG_471
                    refine lv_bipush (v := 44) hx hb dX2_readArguments_106 (by decide) ?_
                    have kb_44 : bd 44 44 (44 : Int32) := ⟨by decide, by decide⟩
                    refine lv_icmp_ne (tgt := 115) hx hb dX2_readArguments_108 (by decide) (fun c_490 => ?_) (fun c_490 => ?_)
                    · have fc_490 := neq_f c_490
                      refine lv_iconst (v := 0) hx hb dX2_readArguments_115 (by decide) ?_
                      refine lv_istore_n (lv' := [(3, .int 0), (2, .int y_484), (4, .int v69_4), (1, .int r_1), (0, .ref a0_)]) hx hb dX2_readArguments_116 rfl hl (by decide) rfl (fun ls hl => ?_)
                      refine lv_iload_n hx hb dX2_readArguments_117 rfl (lv_at hl 0 rfl) ?_
                      refine lv_if_eq (tgt := 156) hx hb dX2_readArguments_118 (by decide) (fun c_ => ?_) (fun c_ => absurd (by decide) c_)
                      obtain ⟨y_491, ey_491⟩ : ∃ z : Int32, z = v69_4 + 1 := ⟨_, rfl⟩
                      refine lv_iinc (v := y_491) (lv' := [(4, .int y_491), (3, .int 0), (2, .int y_484), (1, .int r_1), (0, .ref a0_)]) hx hb dX2_readArguments_156 hl (k := 2) rfl (by rw [ey_491]; rfl) (by decide) rfl (fun ls hl => ?_)
                      have ty_491 := add_bd ey_491 b_319 kb_1 (by decide)
                      have b_492 : bd 1 4 y_491 := add_rg ty_491 b_319 kb_1 (by decide)
                      refine lv_goto (tgt := 69) hx hb dX2_readArguments_159 (by decide) ?_
                      have hl9 := lv_sub hl [0, 1, 2, 3, 4] (by rfl : lv_pick [(4, .int y_491), (3, .int 0), (2, .int y_484), (1, .int r_1), (0, .ref a0_)] [0, 1, 2, 3, 4] = [(4, .int y_491), (3, .int 0), (2, .int y_484), (1, .int r_1), (0, .ref a0_)])
                      have g9 := g.sub (fx' := [(2, 14, a0_, .int x_17), (8, 8, q0_, .int y1_), (2, 0, a0_, .ref q0_), (2, 1, a0_, .ref q1_), (2, 2, a0_, .ref q2_), (2, 3, a0_, .ref q3_), (0, 0, q2_, .ref q0_), (0, 1, q2_, .ref q1_), (5, 0, q1_, .ref q3_), (5, 1, q1_, .ref q7_), (2, 12, a0_, .int y0_)]) [2, 1, 3, 4, 5, 6, 7, 8, 9, 10, 11] rfl
                      exact ih69  y_491 0 y_484 (bd_sub b_492 (by decide)) (bd_sub kb_0 (by decide)) (by have h9_0 := b_492; unfold bd at h9_0; have h9_1 := bdT v69_2; unfold bd at h9_1; have h9_2 := bdT y_484; unfold bd at h9_2; have h9_3 := bv69_3; unfold bd at h9_3; have h9_4 := bv69_4; unfold bd at h9_4; have h9_5 := kb_0; unfold bd at h9_5; have h9_6 := kb_1; unfold bd at h9_6; have h9_7 := kb_3; unfold bd at h9_7; have h9_8 := kb_41; unfold bd at h9_8; have h9_9 := kb_44; unfold bd at h9_9; omega) _ _ _ _ g9 hG_486 hG_487 hG_488 hG_489 hl9
                    · have fc_490 := eq_f c_490
                      have b_493 : bd 44 44 r_485 := eqX fc_490 (bdT r_485) kb_44 (by decide)
                      refine lv_iconst (v := 1) hx hb dX2_readArguments_111 (by decide) ?_
                      refine lv_goto (tgt := 116) hx hb dX2_readArguments_112 (by decide) ?_
                      refine lv_istore_n (lv' := [(3, .int 1), (2, .int y_484), (4, .int v69_4), (1, .int r_1), (0, .ref a0_)]) hx hb dX2_readArguments_116 rfl hl (by decide) rfl (fun ls hl => ?_)
                      refine lv_iload_n hx hb dX2_readArguments_117 rfl (lv_at hl 0 rfl) ?_
                      refine lv_if_eq (tgt := 156) hx hb dX2_readArguments_118 (by decide) (fun c_ => absurd c_ (by decide)) (fun c_ => ?_)
                      refine lv_aload_n hx hb dX2_readArguments_121 rfl (lv_at hl 4 rfl) ?_
                      refine g_getk (C := RX2) (T := TX2) (N := 16) hx hb hts (mc_ inX2) hown hK g rfl 0 (by decide) rfl (hts _ (List.mem_cons_of_mem _ t_416)) (fun _ h9 => h9) 3 rfl dX2_readArguments_122 ?_
                      have go_ := g
                      refine g_calli (va_runV (As := []) (rest := []) ⟨hx, hb, hml, hown, hts⟩ (r_X8_place l dC dI L kd tys fr_485 H.size g.2.2.2.1 q0_ mq0_ kq0_) (cwV 0 hts (gV_ t_1110 t_1111 t_1112 t_184 t_1113) rfl rfl rfl (by decide +kernel) ⟨(Nat.le_of_ble_eq_true rfl), (Nat.le_of_ble_eq_true rfl)⟩) (pre3V g hK mq0_ kq0_ (by decide) (q := (RX8, TX8, 10)) rfl) rfl rfl hl.1 rfl (lv_room (Nat.le_of_ble_eq_true rfl)) dX2_readArguments_125 ⟨(Nat.le_of_ble_eq_true rfl), (Nat.le_of_ble_eq_true rfl)⟩) g hK (by decide) (by decide) (fx' := [(0, 2, q2_, .ref q3_), (8, 8, q0_, .int y1_), (2, 14, a0_, .int x_17), (2, 0, a0_, .ref q0_), (2, 1, a0_, .ref q1_), (2, 2, a0_, .ref q2_), (2, 3, a0_, .ref q3_), (0, 0, q2_, .ref q0_), (0, 1, q2_, .ref q1_), (5, 0, q1_, .ref q3_), (5, 1, q1_, .ref q7_), (2, 12, a0_, .int y0_)]) rfl (fun r_494 fr_494 H locs hp hMr_494 g => ?_)
                      have hG_495 := cOK.frame hMr_494 go_.2.2.2.1 mq3_ kq3_ (by decide) (by decide) hG_486
                      have hG_496 := dOK.frame hMr_494 go_.2.2.2.1 mq3_ kq3_ (by decide) (by decide) hG_487
                      have hG_497 := jS.frame hMr_494 go_.2.2.2.1 mq3_ kq3_ (by decide) (by decide) hG_488
                      have hG_498 := eOK.frame hMr_494 go_.2.2.2.1 mq2_ kq2_ (by decide) (by decide) hG_489
                      refine lv_istore (lv' := [(5, .int r_494), (3, .int 1), (2, .int y_484), (4, .int v69_4), (1, .int r_1), (0, .ref a0_)]) hx hb dX2_readArguments_128 hl (by decide) rfl (fun ls hl => ?_)
                      refine lv_aload_n hx hb dX2_readArguments_130 rfl (lv_at hl 5 rfl) ?_
                      refine g_getk (C := RX2) (T := TX2) (N := 16) hx hb hts (mc_ inX2) hown hK g rfl 0 (by decide) rfl (hts _ (List.mem_cons_of_mem _ t_416)) (fun _ h9 => h9) 3 rfl dX2_readArguments_131 ?_
                      have go_ := g
                      refine g_callv (va_runV (As := []) (rest := []) ⟨hx, hb, hml, hown, hts⟩ (r_X8_next l dC dI L kd tys fr_494 H.size g.2.2.2.1 q0_ mq0_ kq0_) (cwV 0 hts (gV_ t_1131 t_1103 t_1104 t_184 t_1105) rfl rfl rfl (by decide +kernel) ⟨(Nat.le_of_ble_eq_true rfl), (Nat.le_of_ble_eq_true rfl)⟩) (pre3V g hK mq0_ kq0_ (by decide) (q := (RX8, TX8, 10)) rfl) rfl rfl hl.1 rfl (lv_room (Nat.le_of_ble_eq_true rfl)) dX2_readArguments_134 ⟨(Nat.le_of_ble_eq_true rfl), (Nat.le_of_ble_eq_true rfl)⟩) g hK (by decide) (by decide) (fx' := [(0, 2, q2_, .ref q3_), (8, 8, q0_, .int y1_), (2, 14, a0_, .int x_17), (2, 0, a0_, .ref q0_), (2, 1, a0_, .ref q1_), (2, 2, a0_, .ref q2_), (2, 3, a0_, .ref q3_), (0, 0, q2_, .ref q0_), (0, 1, q2_, .ref q1_), (5, 0, q1_, .ref q3_), (5, 1, q1_, .ref q7_), (2, 12, a0_, .int y0_)]) rfl (fun fr_499 H locs hp hMr_499 g => ?_)
                      obtain ⟨x_500, h_501, hF_502⟩ := hp
                      have hG_503 := cOK.frame hMr_499 go_.2.2.2.1 mq3_ kq3_ (by decide) (by decide) hG_495
                      have hG_504 := dOK.frame hMr_499 go_.2.2.2.1 mq3_ kq3_ (by decide) (by decide) hG_496
                      have hG_505 := jS.frame hMr_499 go_.2.2.2.1 mq3_ kq3_ (by decide) (by decide) hG_497
                      have hG_506 := eOK.frame hMr_499 go_.2.2.2.1 mq2_ kq2_ (by decide) (by decide) hG_498
                      have g := g.more hF_502
                      refine lv_iload_n hx hb dX2_readArguments_137 rfl (lv_at hl 2 rfl) ?_
                      refine lv_aload_n hx hb dX2_readArguments_138 rfl (lv_at hl 5 rfl) ?_
                      refine g_getk (C := RX2) (T := TX2) (N := 16) hx hb hts (mc_ inX2) hown hK g rfl 14 (by decide) rfl (hts _ (List.mem_cons_of_mem _ t_430)) (fun _ h9 => h9) 3 rfl dX2_readArguments_139 ?_
                      refine lv_icmp_lt (tgt := 156) hx hb dX2_readArguments_142 (by decide) (fun c_507 => ?_) (fun c_507 => ?_)
                      · have fc_507 := lt_f c_507
                        have b_508 : bd (-2147483648) 2147483646 y_484 := ltL fc_507 (bdT y_484) (bdT x_17) (by decide)
                        have b_509 : bd (-2147483647) 2147483647 x_17 := ltR fc_507 (bdT y_484) (bdT x_17) (by decide)
                        obtain ⟨y_510, ey_510⟩ : ∃ z : Int32, z = v69_4 + 1 := ⟨_, rfl⟩
                        refine lv_iinc (v := y_510) (lv' := [(4, .int y_510), (5, .int r_494), (3, .int 1), (2, .int y_484), (1, .int r_1), (0, .ref a0_)]) hx hb dX2_readArguments_156 hl (k := 3) rfl (by rw [ey_510]; rfl) (by decide) rfl (fun ls hl => ?_)
                        have ty_510 := add_bd ey_510 b_319 kb_1 (by decide)
                        have b_511 : bd 1 4 y_510 := add_rg ty_510 b_319 kb_1 (by decide)
                        refine lv_goto (tgt := 69) hx hb dX2_readArguments_159 (by decide) ?_
                        have hl9 := lv_sub hl [0, 2, 3, 4, 5] (by rfl : lv_pick [(4, .int y_510), (5, .int r_494), (3, .int 1), (2, .int y_484), (1, .int r_1), (0, .ref a0_)] [0, 2, 3, 4, 5] = [(4, .int y_510), (3, .int 1), (2, .int y_484), (1, .int r_1), (0, .ref a0_)])
                        have g9 := g.sub (fx' := [(2, 14, a0_, .int x_17), (8, 8, q0_, .int y1_), (2, 0, a0_, .ref q0_), (2, 1, a0_, .ref q1_), (2, 2, a0_, .ref q2_), (2, 3, a0_, .ref q3_), (0, 0, q2_, .ref q0_), (0, 1, q2_, .ref q1_), (5, 0, q1_, .ref q3_), (5, 1, q1_, .ref q7_), (2, 12, a0_, .int y0_)]) [3, 2, 4, 5, 6, 7, 8, 9, 10, 11, 12] rfl
                        exact ih69  y_510 1 y_484 (bd_sub b_511 (by decide)) (bd_sub kb_1 (by decide)) (by have h9_0 := b_508; unfold bd at h9_0; have h9_1 := b_511; unfold bd at h9_1; have h9_2 := bdT v69_2; unfold bd at h9_2; have h9_3 := bv69_3; unfold bd at h9_3; have h9_4 := bv69_4; unfold bd at h9_4; have h9_5 := h_501; unfold bd at h9_5; have h9_6 := kb_0; unfold bd at h9_6; have h9_7 := kb_1; unfold bd at h9_7; have h9_8 := kb_3; unfold bd at h9_8; have h9_9 := kb_41; unfold bd at h9_9; have h9_10 := kb_44; unfold bd at h9_10; omega) _ _ _ _ g9 hG_503 hG_504 hG_505 hG_506 hl9
                      · have fc_507 := nlt_f c_507
                        refine lv_aload_n hx hb dX2_readArguments_145 rfl (lv_at hl 5 rfl) ?_
                        refine g_getk (C := RX2) (T := TX2) (N := 16) hx hb hts (mc_ inX2) hown hK g rfl 0 (by decide) rfl (hts _ (List.mem_cons_of_mem _ t_416)) (fun _ h9 => h9) 4 rfl dX2_readArguments_146 ?_
                        refine lv_bipush (v := 6) hx hb dX2_readArguments_149 (by decide) ?_
                        refine lv_iload hx hb dX2_readArguments_151 (lv_at hl 0 rfl) ?_
                        have kb_6 : bd 6 6 (6 : Int32) := ⟨by decide, by decide⟩
                        have go_ := g
                        refine g_callv (va_runV (As := [.int 6, .int r_494]) (rest := []) ⟨hx, hb, hml, hown, hts⟩ (r_X8_fail l dC dI L kd tys fr_499 H.size g.2.2.2.1 q0_ mq0_ kq0_ 6 (bd_sub kb_6 (by decide)) r_494 y1_ by1_ (g.fcts [2] rfl)) (cwV 2 hts (gV_ t_1122 t_1107 t_1108 t_184 t_1109) rfl rfl rfl (by decide +kernel) ⟨(Nat.le_of_ble_eq_true rfl), (Nat.le_of_ble_eq_true rfl)⟩) (pre3V g hK mq0_ kq0_ (by decide) (q := (RX8, TX8, 10)) rfl) rfl rfl hl.1 rfl (lv_room (Nat.le_of_ble_eq_true rfl)) dX2_readArguments_153 ⟨(Nat.le_of_ble_eq_true rfl), (Nat.le_of_ble_eq_true rfl)⟩) g hK (by decide) (by decide) (fx' := [(0, 2, q2_, .ref q3_), (2, 14, a0_, .int x_17), (2, 0, a0_, .ref q0_), (2, 1, a0_, .ref q1_), (2, 2, a0_, .ref q2_), (2, 3, a0_, .ref q3_), (0, 0, q2_, .ref q0_), (0, 1, q2_, .ref q1_), (5, 0, q1_, .ref q3_), (5, 1, q1_, .ref q7_), (2, 12, a0_, .int y0_)]) rfl (fun fr_512 H locs hp hMr_512 g => ?_)
                        obtain ⟨x_513, h_514, hF_515⟩ := hp
                        have hG_516 := cOK.frame hMr_512 go_.2.2.2.1 mq3_ kq3_ (by decide) (by decide) hG_503
                        have hG_517 := dOK.frame hMr_512 go_.2.2.2.1 mq3_ kq3_ (by decide) (by decide) hG_504
                        have hG_518 := jS.frame hMr_512 go_.2.2.2.1 mq3_ kq3_ (by decide) (by decide) hG_505
                        have hG_519 := eOK.frame hMr_512 go_.2.2.2.1 mq2_ kq2_ (by decide) (by decide) hG_506
                        have g := g.more hF_515
                        obtain ⟨y_520, ey_520⟩ : ∃ z : Int32, z = v69_4 + 1 := ⟨_, rfl⟩
                        refine lv_iinc (v := y_520) (lv' := [(4, .int y_520), (5, .int r_494), (3, .int 1), (2, .int y_484), (1, .int r_1), (0, .ref a0_)]) hx hb dX2_readArguments_156 hl (k := 3) rfl (by rw [ey_520]; rfl) (by decide) rfl (fun ls hl => ?_)
                        have ty_520 := add_bd ey_520 b_319 kb_1 (by decide)
                        have b_521 : bd 1 4 y_520 := add_rg ty_520 b_319 kb_1 (by decide)
                        refine lv_goto (tgt := 69) hx hb dX2_readArguments_159 (by decide) ?_
                        refine lv_iload hx hb dX2_readArguments_69 (lv_at hl 0 rfl) ?_
                        refine lv_iconst (v := 3) hx hb dX2_readArguments_71 (by decide) ?_
                        refine lv_icmp_gt (tgt := 162) hx hb dX2_readArguments_72 (by decide) (fun c_522 => ?_) (fun c_522 => ?_)
                        · have fc_522 := lt_f c_522
                          have b_523 : bd 4 4 y_520 := ltR fc_522 kb_3 b_521 (by decide)
                          have b_524 : bd 3 3 v69_4 := add_inv ty_520 b_523 b_319 kb_1 (by decide)
                          refine lv_aload_n hx hb dX2_readArguments_162 rfl (lv_at hl 5 rfl) ?_
                          refine g_getk (C := RX2) (T := TX2) (N := 16) hx hb hts (mc_ inX2) hown hK g rfl 0 (by decide) rfl (hts _ (List.mem_cons_of_mem _ t_416)) (fun _ h9 => h9) 4 rfl dX2_readArguments_163 ?_
                          have go_ := g
                          refine g_calli (va_runV (As := []) (rest := []) ⟨hx, hb, hml, hown, hts⟩ (r_X8_place l dC dI L kd tys fr_512 H.size g.2.2.2.1 q0_ mq0_ kq0_) (cwV 0 hts (gV_ t_1110 t_1111 t_1112 t_184 t_1113) rfl rfl rfl (by decide +kernel) ⟨(Nat.le_of_ble_eq_true rfl), (Nat.le_of_ble_eq_true rfl)⟩) (pre3V g hK mq0_ kq0_ (by decide) (q := (RX8, TX8, 10)) rfl) rfl rfl hl.1 rfl (lv_room (Nat.le_of_ble_eq_true rfl)) dX2_readArguments_166 ⟨(Nat.le_of_ble_eq_true rfl), (Nat.le_of_ble_eq_true rfl)⟩) g hK (by decide) (by decide) (fx' := [(8, 6, q0_, .int 1201), (8, 8, q0_, .int x_513), (0, 2, q2_, .ref q3_), (2, 14, a0_, .int x_17), (2, 0, a0_, .ref q0_), (2, 1, a0_, .ref q1_), (2, 2, a0_, .ref q2_), (2, 3, a0_, .ref q3_), (0, 0, q2_, .ref q0_), (0, 1, q2_, .ref q1_), (5, 0, q1_, .ref q3_), (5, 1, q1_, .ref q7_), (2, 12, a0_, .int y0_)]) rfl (fun r_525 fr_525 H locs hp hMr_525 g => ?_)
                          have hG_526 := cOK.frame hMr_525 go_.2.2.2.1 mq3_ kq3_ (by decide) (by decide) hG_516
                          have hG_527 := dOK.frame hMr_525 go_.2.2.2.1 mq3_ kq3_ (by decide) (by decide) hG_517
                          have hG_528 := jS.frame hMr_525 go_.2.2.2.1 mq3_ kq3_ (by decide) (by decide) hG_518
                          have hG_529 := eOK.frame hMr_525 go_.2.2.2.1 mq2_ kq2_ (by decide) (by decide) hG_519
                          refine lv_istore (lv' := [(4, .int r_525), (5, .int r_494), (3, .int 1), (2, .int y_484), (1, .int r_1), (0, .ref a0_)]) hx hb dX2_readArguments_169 hl (by decide) rfl (fun ls hl => ?_)
                          refine lv_aload_n hx hb dX2_readArguments_171 rfl (lv_at hl 5 rfl) ?_
                          refine g_getk (C := RX2) (T := TX2) (N := 16) hx hb hts (mc_ inX2) hown hK g rfl 0 (by decide) rfl (hts _ (List.mem_cons_of_mem _ t_416)) (fun _ h9 => h9) 4 rfl dX2_readArguments_172 ?_
                          refine lv_bipush (v := 41) hx hb dX2_readArguments_175 (by decide) ?_
                          have kb_1201 : bd 1201 1201 (1201 : Int32) := ⟨by decide, by decide⟩
                          have go_ := g
                          refine g_callv (va_runV (As := [.int 41]) (rest := []) ⟨hx, hb, hml, hown, hts⟩ (r_X8_take_2 l dC dI L kd tys fr_525 H.size g.2.2.2.1 q0_ mq0_ kq0_ 41 1201 kb_1201 x_513 h_514 (g.fcts [0, 1] rfl)) (cwV 1 hts (gV_ t_1098 t_1099 t_1100 t_184 t_1101) rfl rfl rfl (by decide +kernel) ⟨(Nat.le_of_ble_eq_true rfl), (Nat.le_of_ble_eq_true rfl)⟩) (pre3V g hK mq0_ kq0_ (by decide) (q := (RX8, TX8, 10)) rfl) rfl rfl hl.1 rfl (lv_room (Nat.le_of_ble_eq_true rfl)) dX2_readArguments_177 ⟨(Nat.le_of_ble_eq_true rfl), (Nat.le_of_ble_eq_true rfl)⟩) g hK (by decide) (by decide) (fx' := [(8, 8, q0_, .int x_513), (0, 2, q2_, .ref q3_), (2, 14, a0_, .int x_17), (2, 0, a0_, .ref q0_), (2, 1, a0_, .ref q1_), (2, 2, a0_, .ref q2_), (2, 3, a0_, .ref q3_), (0, 0, q2_, .ref q0_), (0, 1, q2_, .ref q1_), (5, 0, q1_, .ref q3_), (5, 1, q1_, .ref q7_), (2, 12, a0_, .int y0_)]) rfl (fun fr_530 H locs hp hMr_530 g => ?_)
                          obtain ⟨x_531, h_532, hF_533⟩ := hp
                          have hG_534 := cOK.frame hMr_530 go_.2.2.2.1 mq3_ kq3_ (by decide) (by decide) hG_526
                          have hG_535 := dOK.frame hMr_530 go_.2.2.2.1 mq3_ kq3_ (by decide) (by decide) hG_527
                          have hG_536 := jS.frame hMr_530 go_.2.2.2.1 mq3_ kq3_ (by decide) (by decide) hG_528
                          have hG_537 := eOK.frame hMr_530 go_.2.2.2.1 mq2_ kq2_ (by decide) (by decide) hG_529
                          have g := g.more hF_533
                          refine lv_iload_n hx hb dX2_readArguments_180 rfl (lv_at hl 3 rfl) ?_
                          refine lv_aload_n hx hb dX2_readArguments_181 rfl (lv_at hl 5 rfl) ?_
                          refine g_getk (C := RX2) (T := TX2) (N := 16) hx hb hts (mc_ inX2) hown hK g rfl 14 (by decide) rfl (hts _ (List.mem_cons_of_mem _ t_430)) (fun _ h9 => h9) 3 rfl dX2_readArguments_182 ?_
                          refine lv_icmp_ge (tgt := 199) hx hb dX2_readArguments_185 (by decide) (fun c_538 => ?_) (fun c_538 => ?_)
                          · have fc_538 := le_f c_538
                            refine lv_aload_n hx hb dX2_readArguments_199 rfl (lv_at hl 5 rfl) ?_
                            refine g_getk (C := RX2) (T := TX2) (N := 16) hx hb hts (mc_ inX2) hown hK g rfl 3 (by decide) rfl (hts _ (List.mem_cons_of_mem _ t_419)) (fun _ h9 => h9) 7 rfl dX2_readArguments_200 ?_
                            refine lv_aload_n hx hb dX2_readArguments_203 rfl (lv_at hl 5 rfl) ?_
                            refine g_getk (C := RX2) (T := TX2) (N := 16) hx hb hts (mc_ inX2) hown hK g rfl 12 (by decide) rfl (hts _ (List.mem_cons_of_mem _ t_428)) (fun _ h9 => h9) 12 rfl dX2_readArguments_204 ?_
                            refine lv_aload_n hx hb dX2_readArguments_207 rfl (lv_at hl 5 rfl) ?_
                            refine g_geti (C := RX2) (T := TX2) (N := 16) hx hb hts (mc_ inX2) hown hK g ma0_ ka0_ (by decide) rfl 13 (by decide) rfl (hts _ (List.mem_cons_of_mem _ t_429)) (fun _ h9 => h9) rfl dX2_readArguments_208 (fun x_539 bx_539 g => ?_)
                            obtain ⟨a_540, ma_540, ka_540, g⟩ := g_factr g mq3_ kq3_ (by decide) 4 rfl
                            obtain ⟨a_541, ma_541, ka_541, g⟩ := g_factr g mq3_ kq3_ (by decide) 5 rfl
                            obtain ⟨x_542, bx_542, g⟩ := g_facti g mq3_ kq3_ (by decide) 6 rfl
                            have go_ := g
                            refine g_callv (va_runV (As := [.int y0_, .int x_539]) (rest := []) ⟨hx, hb, hml, hown, hts⟩ (r_X7_emitF l dC dI L kd tys fr_530 H.size g.2.2.2.1 q3_ mq3_ kq3_ a_540 ma_540 ka_540 a_541 ma_541 ka_541 x_542 bx_542 T_ hG_535 y0_ x_539 (g.fcts [2, 1, 0] rfl)) (cwV 2 hts (gV_ t_1301 t_1204 t_1205 t_191 t_1206) rfl rfl rfl (by decide +kernel) ⟨(Nat.le_of_ble_eq_true rfl), (Nat.le_of_ble_eq_true rfl)⟩) (pre3V g hK mq3_ kq3_ (by decide) (q := (RX7, TX7, 19)) rfl) rfl rfl hl.1 rfl (lv_room (Nat.le_of_ble_eq_true rfl)) dX2_readArguments_211 ⟨(Nat.le_of_ble_eq_true rfl), (Nat.le_of_ble_eq_true rfl)⟩) g hK (by decide) (by decide) (fx' := [(7, 5, q3_, .ref a_541), (7, 4, q3_, .ref a_540), (2, 13, a0_, .int x_539), (8, 6, q0_, .int x_531), (8, 8, q0_, .int x_513), (0, 2, q2_, .ref q3_), (2, 14, a0_, .int x_17), (2, 0, a0_, .ref q0_), (2, 1, a0_, .ref q1_), (2, 2, a0_, .ref q2_), (2, 3, a0_, .ref q3_), (0, 0, q2_, .ref q0_), (0, 1, q2_, .ref q1_), (5, 0, q1_, .ref q3_), (5, 1, q1_, .ref q7_), (2, 12, a0_, .int y0_)]) rfl (fun fr_543 H locs hp hMr_543 g => ?_)
                            obtain ⟨hG_544, x_545, h_546, hF_547⟩ := hp
                            have hG_548 := eOK.frame hMr_543 go_.2.2.2.1 mq2_ kq2_ (by decide) (by decide) hG_537
                            have g := g.more hF_547
                            refine lv_aload_n hx hb dX2_readArguments_214 rfl (lv_at hl 5 rfl) ?_
                            refine g_getk (C := RX2) (T := TX2) (N := 16) hx hb hts (mc_ inX2) hown hK g rfl 3 (by decide) rfl (hts _ (List.mem_cons_of_mem _ t_419)) (fun _ h9 => h9) 11 rfl dX2_readArguments_215 ?_
                            refine lv_bipush (v := 22) hx hb dX2_readArguments_218 (by decide) ?_
                            refine lv_iconst (v := 0) hx hb dX2_readArguments_220 (by decide) ?_
                            have go_ := g
                            refine g_callv (va_runV (As := [.int 22, .int 0]) (rest := []) ⟨hx, hb, hml, hown, hts⟩ (r_X7_emitF l dC dI L kd tys fr_543 H.size g.2.2.2.1 q3_ mq3_ kq3_ a_540 ma_540 ka_540 a_541 ma_541 ka_541 x_545 h_546 T_ hG_544 (22 : Int32) (0 : Int32) (g.fcts [2, 1, 0] rfl)) (cwV 2 hts (gV_ t_1301 t_1204 t_1205 t_191 t_1206) rfl rfl rfl (by decide +kernel) ⟨(Nat.le_of_ble_eq_true rfl), (Nat.le_of_ble_eq_true rfl)⟩) (pre3V g hK mq3_ kq3_ (by decide) (q := (RX7, TX7, 19)) rfl) rfl rfl hl.1 rfl (lv_room (Nat.le_of_ble_eq_true rfl)) dX2_readArguments_221 ⟨(Nat.le_of_ble_eq_true rfl), (Nat.le_of_ble_eq_true rfl)⟩) g hK (by decide) (by decide) (fx' := [(7, 5, q3_, .ref a_541), (7, 4, q3_, .ref a_540), (2, 13, a0_, .int x_539), (8, 6, q0_, .int x_531), (8, 8, q0_, .int x_513), (0, 2, q2_, .ref q3_), (2, 14, a0_, .int x_17), (2, 0, a0_, .ref q0_), (2, 1, a0_, .ref q1_), (2, 2, a0_, .ref q2_), (2, 3, a0_, .ref q3_), (0, 0, q2_, .ref q0_), (0, 1, q2_, .ref q1_), (5, 0, q1_, .ref q3_), (5, 1, q1_, .ref q7_), (2, 12, a0_, .int y0_)]) rfl (fun fr_549 H locs hp hMr_549 g => ?_)
                            obtain ⟨hG_550, x_551, h_552, hF_553⟩ := hp
                            have hG_554 := eOK.frame hMr_549 go_.2.2.2.1 mq2_ kq2_ (by decide) (by decide) hG_548
                            have g := g.more hF_553
                            refine lv_aload_n hx hb dX2_readArguments_224 rfl (lv_at hl 5 rfl) ?_
                            refine g_getk (C := RX2) (T := TX2) (N := 16) hx hb hts (mc_ inX2) hown hK g rfl 0 (by decide) rfl (hts _ (List.mem_cons_of_mem _ t_416)) (fun _ h9 => h9) 8 rfl dX2_readArguments_225 ?_
                            refine lv_bipush (v := 59) hx hb dX2_readArguments_228 (by decide) ?_
                            have go_ := g
                            refine g_callv (va_runV (As := [.int 59]) (rest := []) ⟨hx, hb, hml, hown, hts⟩ (r_X8_take_2 l dC dI L kd tys fr_549 H.size g.2.2.2.1 q0_ mq0_ kq0_ 59 x_531 h_532 x_513 h_514 (g.fcts [4, 5] rfl)) (cwV 1 hts (gV_ t_1098 t_1099 t_1100 t_184 t_1101) rfl rfl rfl (by decide +kernel) ⟨(Nat.le_of_ble_eq_true rfl), (Nat.le_of_ble_eq_true rfl)⟩) (pre3V g hK mq0_ kq0_ (by decide) (q := (RX8, TX8, 10)) rfl) rfl rfl hl.1 rfl (lv_room (Nat.le_of_ble_eq_true rfl)) dX2_readArguments_230 ⟨(Nat.le_of_ble_eq_true rfl), (Nat.le_of_ble_eq_true rfl)⟩) g hK (by decide) (by decide) (fx' := [(7, 6, q3_, .int x_551), (7, 5, q3_, .ref a_541), (7, 4, q3_, .ref a_540), (2, 13, a0_, .int x_539), (8, 8, q0_, .int x_513), (0, 2, q2_, .ref q3_), (2, 14, a0_, .int x_17), (2, 0, a0_, .ref q0_), (2, 1, a0_, .ref q1_), (2, 2, a0_, .ref q2_), (2, 3, a0_, .ref q3_), (0, 0, q2_, .ref q0_), (0, 1, q2_, .ref q1_), (5, 0, q1_, .ref q3_), (5, 1, q1_, .ref q7_), (2, 12, a0_, .int y0_)]) rfl (fun fr_555 H locs hp hMr_555 g => ?_)
                            obtain ⟨x_556, h_557, hF_558⟩ := hp
                            have hG_559 := dOK.frame hMr_555 go_.2.2.2.1 mq3_ kq3_ (by decide) (by decide) hG_550
                            have hG_560 := eOK.frame hMr_555 go_.2.2.2.1 mq2_ kq2_ (by decide) (by decide) hG_554
                            have g := g.more hF_558
                            subst hQ
                            exact W.vret hx hb hr (fun t ht hW => ⟨⟨_, rfl, Or.inr (⟨hG_559, hG_560, x_556, h_557, x_513, h_514, (g.fcts [0, 5] rfl)⟩), q3_of g hK ht hW⟩, g.2.2.1.F ht⟩) g.2.2.1.2.2 dX2_readArguments_233
                          · have fc_538 := nle_f c_538
                            have b_561 : bd (-2147483648) 2147483646 y_484 := ltL fc_538 (bdT y_484) (bdT x_17) (by decide)
                            have b_562 : bd (-2147483647) 2147483647 x_17 := ltR fc_538 (bdT y_484) (bdT x_17) (by decide)
                            refine lv_aload_n hx hb dX2_readArguments_188 rfl (lv_at hl 5 rfl) ?_
                            refine g_getk (C := RX2) (T := TX2) (N := 16) hx hb hts (mc_ inX2) hown hK g rfl 0 (by decide) rfl (hts _ (List.mem_cons_of_mem _ t_416)) (fun _ h9 => h9) 4 rfl dX2_readArguments_189 ?_
                            refine lv_bipush (v := 6) hx hb dX2_readArguments_192 (by decide) ?_
                            refine lv_iload hx hb dX2_readArguments_194 (lv_at hl 0 rfl) ?_
                            have go_ := g
                            refine g_callv (va_runV (As := [.int 6, .int r_525]) (rest := []) ⟨hx, hb, hml, hown, hts⟩ (r_X8_fail_2 l dC dI L kd tys fr_530 H.size g.2.2.2.1 q0_ mq0_ kq0_ 6 (bd_sub kb_6 (by decide)) r_525 x_513 h_514 (g.fcts [1] rfl)) (cwV 2 hts (gV_ t_1122 t_1107 t_1108 t_184 t_1109) rfl rfl rfl (by decide +kernel) ⟨(Nat.le_of_ble_eq_true rfl), (Nat.le_of_ble_eq_true rfl)⟩) (pre3V g hK mq0_ kq0_ (by decide) (q := (RX8, TX8, 10)) rfl) rfl rfl hl.1 rfl (lv_room (Nat.le_of_ble_eq_true rfl)) dX2_readArguments_196 ⟨(Nat.le_of_ble_eq_true rfl), (Nat.le_of_ble_eq_true rfl)⟩) g hK (by decide) (by decide) (fx' := [(8, 8, q0_, .int x_513), (0, 2, q2_, .ref q3_), (2, 14, a0_, .int x_17), (2, 0, a0_, .ref q0_), (2, 1, a0_, .ref q1_), (2, 2, a0_, .ref q2_), (2, 3, a0_, .ref q3_), (0, 0, q2_, .ref q0_), (0, 1, q2_, .ref q1_), (5, 0, q1_, .ref q3_), (5, 1, q1_, .ref q7_), (2, 12, a0_, .int y0_)]) rfl (fun fr_563 H locs hp hMr_563 g => ?_)
                            have hF_564 := hp
                            have hG_565 := cOK.frame hMr_563 go_.2.2.2.1 mq3_ kq3_ (by decide) (by decide) hG_534
                            have hG_566 := dOK.frame hMr_563 go_.2.2.2.1 mq3_ kq3_ (by decide) (by decide) hG_535
                            have hG_567 := jS.frame hMr_563 go_.2.2.2.1 mq3_ kq3_ (by decide) (by decide) hG_536
                            have hG_568 := eOK.frame hMr_563 go_.2.2.2.1 mq2_ kq2_ (by decide) (by decide) hG_537
                            have g := g.more hF_564
                            refine lv_aload_n hx hb dX2_readArguments_199 rfl (lv_at hl 5 rfl) ?_
                            refine g_getk (C := RX2) (T := TX2) (N := 16) hx hb hts (mc_ inX2) hown hK g rfl 3 (by decide) rfl (hts _ (List.mem_cons_of_mem _ t_419)) (fun _ h9 => h9) 7 rfl dX2_readArguments_200 ?_
                            refine lv_aload_n hx hb dX2_readArguments_203 rfl (lv_at hl 5 rfl) ?_
                            refine g_getk (C := RX2) (T := TX2) (N := 16) hx hb hts (mc_ inX2) hown hK g rfl 12 (by decide) rfl (hts _ (List.mem_cons_of_mem _ t_428)) (fun _ h9 => h9) 12 rfl dX2_readArguments_204 ?_
                            refine lv_aload_n hx hb dX2_readArguments_207 rfl (lv_at hl 5 rfl) ?_
                            refine g_geti (C := RX2) (T := TX2) (N := 16) hx hb hts (mc_ inX2) hown hK g ma0_ ka0_ (by decide) rfl 13 (by decide) rfl (hts _ (List.mem_cons_of_mem _ t_429)) (fun _ h9 => h9) rfl dX2_readArguments_208 (fun x_569 bx_569 g => ?_)
                            obtain ⟨a_570, ma_570, ka_570, g⟩ := g_factr g mq3_ kq3_ (by decide) 4 rfl
                            obtain ⟨a_571, ma_571, ka_571, g⟩ := g_factr g mq3_ kq3_ (by decide) 5 rfl
                            obtain ⟨x_572, bx_572, g⟩ := g_facti g mq3_ kq3_ (by decide) 6 rfl
                            have go_ := g
                            refine g_callv (va_runV (As := [.int y0_, .int x_569]) (rest := []) ⟨hx, hb, hml, hown, hts⟩ (r_X7_emitF l dC dI L kd tys fr_563 H.size g.2.2.2.1 q3_ mq3_ kq3_ a_570 ma_570 ka_570 a_571 ma_571 ka_571 x_572 bx_572 T_ hG_566 y0_ x_569 (g.fcts [2, 1, 0] rfl)) (cwV 2 hts (gV_ t_1301 t_1204 t_1205 t_191 t_1206) rfl rfl rfl (by decide +kernel) ⟨(Nat.le_of_ble_eq_true rfl), (Nat.le_of_ble_eq_true rfl)⟩) (pre3V g hK mq3_ kq3_ (by decide) (q := (RX7, TX7, 19)) rfl) rfl rfl hl.1 rfl (lv_room (Nat.le_of_ble_eq_true rfl)) dX2_readArguments_211 ⟨(Nat.le_of_ble_eq_true rfl), (Nat.le_of_ble_eq_true rfl)⟩) g hK (by decide) (by decide) (fx' := [(7, 5, q3_, .ref a_571), (7, 4, q3_, .ref a_570), (2, 13, a0_, .int x_569), (8, 6, q0_, .int 1201), (8, 8, q0_, .int x_513), (0, 2, q2_, .ref q3_), (2, 14, a0_, .int x_17), (2, 0, a0_, .ref q0_), (2, 1, a0_, .ref q1_), (2, 2, a0_, .ref q2_), (2, 3, a0_, .ref q3_), (0, 0, q2_, .ref q0_), (0, 1, q2_, .ref q1_), (5, 0, q1_, .ref q3_), (5, 1, q1_, .ref q7_), (2, 12, a0_, .int y0_)]) rfl (fun fr_573 H locs hp hMr_573 g => ?_)
                            obtain ⟨hG_574, x_575, h_576, hF_577⟩ := hp
                            have hG_578 := eOK.frame hMr_573 go_.2.2.2.1 mq2_ kq2_ (by decide) (by decide) hG_568
                            have g := g.more hF_577
                            refine lv_aload_n hx hb dX2_readArguments_214 rfl (lv_at hl 5 rfl) ?_
                            refine g_getk (C := RX2) (T := TX2) (N := 16) hx hb hts (mc_ inX2) hown hK g rfl 3 (by decide) rfl (hts _ (List.mem_cons_of_mem _ t_419)) (fun _ h9 => h9) 11 rfl dX2_readArguments_215 ?_
                            refine lv_bipush (v := 22) hx hb dX2_readArguments_218 (by decide) ?_
                            refine lv_iconst (v := 0) hx hb dX2_readArguments_220 (by decide) ?_
                            have go_ := g
                            refine g_callv (va_runV (As := [.int 22, .int 0]) (rest := []) ⟨hx, hb, hml, hown, hts⟩ (r_X7_emitF l dC dI L kd tys fr_573 H.size g.2.2.2.1 q3_ mq3_ kq3_ a_570 ma_570 ka_570 a_571 ma_571 ka_571 x_575 h_576 T_ hG_574 (22 : Int32) (0 : Int32) (g.fcts [2, 1, 0] rfl)) (cwV 2 hts (gV_ t_1301 t_1204 t_1205 t_191 t_1206) rfl rfl rfl (by decide +kernel) ⟨(Nat.le_of_ble_eq_true rfl), (Nat.le_of_ble_eq_true rfl)⟩) (pre3V g hK mq3_ kq3_ (by decide) (q := (RX7, TX7, 19)) rfl) rfl rfl hl.1 rfl (lv_room (Nat.le_of_ble_eq_true rfl)) dX2_readArguments_221 ⟨(Nat.le_of_ble_eq_true rfl), (Nat.le_of_ble_eq_true rfl)⟩) g hK (by decide) (by decide) (fx' := [(7, 5, q3_, .ref a_571), (7, 4, q3_, .ref a_570), (2, 13, a0_, .int x_569), (8, 6, q0_, .int 1201), (8, 8, q0_, .int x_513), (0, 2, q2_, .ref q3_), (2, 14, a0_, .int x_17), (2, 0, a0_, .ref q0_), (2, 1, a0_, .ref q1_), (2, 2, a0_, .ref q2_), (2, 3, a0_, .ref q3_), (0, 0, q2_, .ref q0_), (0, 1, q2_, .ref q1_), (5, 0, q1_, .ref q3_), (5, 1, q1_, .ref q7_), (2, 12, a0_, .int y0_)]) rfl (fun fr_579 H locs hp hMr_579 g => ?_)
                            obtain ⟨hG_580, x_581, h_582, hF_583⟩ := hp
                            have hG_584 := eOK.frame hMr_579 go_.2.2.2.1 mq2_ kq2_ (by decide) (by decide) hG_578
                            have g := g.more hF_583
                            refine lv_aload_n hx hb dX2_readArguments_224 rfl (lv_at hl 5 rfl) ?_
                            refine g_getk (C := RX2) (T := TX2) (N := 16) hx hb hts (mc_ inX2) hown hK g rfl 0 (by decide) rfl (hts _ (List.mem_cons_of_mem _ t_416)) (fun _ h9 => h9) 8 rfl dX2_readArguments_225 ?_
                            refine lv_bipush (v := 59) hx hb dX2_readArguments_228 (by decide) ?_
                            have go_ := g
                            refine g_callv (va_runV (As := [.int 59]) (rest := []) ⟨hx, hb, hml, hown, hts⟩ (r_X8_take_2 l dC dI L kd tys fr_579 H.size g.2.2.2.1 q0_ mq0_ kq0_ 59 1201 kb_1201 x_513 h_514 (g.fcts [4, 5] rfl)) (cwV 1 hts (gV_ t_1098 t_1099 t_1100 t_184 t_1101) rfl rfl rfl (by decide +kernel) ⟨(Nat.le_of_ble_eq_true rfl), (Nat.le_of_ble_eq_true rfl)⟩) (pre3V g hK mq0_ kq0_ (by decide) (q := (RX8, TX8, 10)) rfl) rfl rfl hl.1 rfl (lv_room (Nat.le_of_ble_eq_true rfl)) dX2_readArguments_230 ⟨(Nat.le_of_ble_eq_true rfl), (Nat.le_of_ble_eq_true rfl)⟩) g hK (by decide) (by decide) (fx' := [(7, 6, q3_, .int x_581), (7, 5, q3_, .ref a_571), (7, 4, q3_, .ref a_570), (2, 13, a0_, .int x_569), (8, 8, q0_, .int x_513), (0, 2, q2_, .ref q3_), (2, 14, a0_, .int x_17), (2, 0, a0_, .ref q0_), (2, 1, a0_, .ref q1_), (2, 2, a0_, .ref q2_), (2, 3, a0_, .ref q3_), (0, 0, q2_, .ref q0_), (0, 1, q2_, .ref q1_), (5, 0, q1_, .ref q3_), (5, 1, q1_, .ref q7_), (2, 12, a0_, .int y0_)]) rfl (fun fr_585 H locs hp hMr_585 g => ?_)
                            obtain ⟨x_586, h_587, hF_588⟩ := hp
                            have hG_589 := dOK.frame hMr_585 go_.2.2.2.1 mq3_ kq3_ (by decide) (by decide) hG_580
                            have hG_590 := eOK.frame hMr_585 go_.2.2.2.1 mq2_ kq2_ (by decide) (by decide) hG_584
                            have g := g.more hF_588
                            subst hQ
                            exact W.vret hx hb hr (fun t ht hW => ⟨⟨_, rfl, Or.inr (⟨hG_589, hG_590, x_586, h_587, x_513, h_514, (g.fcts [0, 5] rfl)⟩), q3_of g hK ht hW⟩, g.2.2.1.F ht⟩) g.2.2.1.2.2 dX2_readArguments_233
                        · have fc_522 := nlt_f c_522
                          have b_591 : bd 1 3 y_520 := leL fc_522 b_521 kb_3 (by decide)
                          have b_592 : bd 0 2 v69_4 := add_inv ty_520 b_591 b_319 kb_1 (by decide)
                          refine lv_iload_n hx hb dX2_readArguments_75 rfl (lv_at hl 2 rfl) ?_
                          refine lv_if_eq (tgt := 162) hx hb dX2_readArguments_76 (by decide) (fun c_ => absurd c_ (by decide)) (fun c_ => ?_)
                          refine lv_aload_n hx hb dX2_readArguments_79 rfl (lv_at hl 5 rfl) ?_
                          refine g_getk (C := RX2) (T := TX2) (N := 16) hx hb hts (mc_ inX2) hown hK g rfl 0 (by decide) rfl (hts _ (List.mem_cons_of_mem _ t_416)) (fun _ h9 => h9) 4 rfl dX2_readArguments_80 ?_
                          refine g_getk (C := RX8) (T := TX8) (N := 10) hx hb hts (mc_ inX8) hown hK g rfl 8 (by decide) rfl (hts _ (List.mem_cons_of_mem _ t_294)) (fun _ h9 => h9) 1 rfl dX2_readArguments_83 ?_
                          refine lv_if_ne (tgt := 162) hx hb dX2_readArguments_86 (by decide) (fun c_593 => ?_) (fun c_593 => ?_)
                          · have fc_593 := neq_f c_593
                            refine lv_aload_n hx hb dX2_readArguments_162 rfl (lv_at hl 5 rfl) ?_
                            refine g_getk (C := RX2) (T := TX2) (N := 16) hx hb hts (mc_ inX2) hown hK g rfl 0 (by decide) rfl (hts _ (List.mem_cons_of_mem _ t_416)) (fun _ h9 => h9) 4 rfl dX2_readArguments_163 ?_
                            have go_ := g
                            refine g_calli (va_runV (As := []) (rest := []) ⟨hx, hb, hml, hown, hts⟩ (r_X8_place l dC dI L kd tys fr_512 H.size g.2.2.2.1 q0_ mq0_ kq0_) (cwV 0 hts (gV_ t_1110 t_1111 t_1112 t_184 t_1113) rfl rfl rfl (by decide +kernel) ⟨(Nat.le_of_ble_eq_true rfl), (Nat.le_of_ble_eq_true rfl)⟩) (pre3V g hK mq0_ kq0_ (by decide) (q := (RX8, TX8, 10)) rfl) rfl rfl hl.1 rfl (lv_room (Nat.le_of_ble_eq_true rfl)) dX2_readArguments_166 ⟨(Nat.le_of_ble_eq_true rfl), (Nat.le_of_ble_eq_true rfl)⟩) g hK (by decide) (by decide) (fx' := [(8, 6, q0_, .int 1201), (8, 8, q0_, .int x_513), (0, 2, q2_, .ref q3_), (2, 14, a0_, .int x_17), (2, 0, a0_, .ref q0_), (2, 1, a0_, .ref q1_), (2, 2, a0_, .ref q2_), (2, 3, a0_, .ref q3_), (0, 0, q2_, .ref q0_), (0, 1, q2_, .ref q1_), (5, 0, q1_, .ref q3_), (5, 1, q1_, .ref q7_), (2, 12, a0_, .int y0_)]) rfl (fun r_594 fr_594 H locs hp hMr_594 g => ?_)
                            have hG_595 := cOK.frame hMr_594 go_.2.2.2.1 mq3_ kq3_ (by decide) (by decide) hG_516
                            have hG_596 := dOK.frame hMr_594 go_.2.2.2.1 mq3_ kq3_ (by decide) (by decide) hG_517
                            have hG_597 := jS.frame hMr_594 go_.2.2.2.1 mq3_ kq3_ (by decide) (by decide) hG_518
                            have hG_598 := eOK.frame hMr_594 go_.2.2.2.1 mq2_ kq2_ (by decide) (by decide) hG_519
                            refine lv_istore (lv' := [(4, .int r_594), (5, .int r_494), (3, .int 1), (2, .int y_484), (1, .int r_1), (0, .ref a0_)]) hx hb dX2_readArguments_169 hl (by decide) rfl (fun ls hl => ?_)
                            refine lv_aload_n hx hb dX2_readArguments_171 rfl (lv_at hl 5 rfl) ?_
                            refine g_getk (C := RX2) (T := TX2) (N := 16) hx hb hts (mc_ inX2) hown hK g rfl 0 (by decide) rfl (hts _ (List.mem_cons_of_mem _ t_416)) (fun _ h9 => h9) 4 rfl dX2_readArguments_172 ?_
                            refine lv_bipush (v := 41) hx hb dX2_readArguments_175 (by decide) ?_
                            have kb_1201 : bd 1201 1201 (1201 : Int32) := ⟨by decide, by decide⟩
                            have go_ := g
                            refine g_callv (va_runV (As := [.int 41]) (rest := []) ⟨hx, hb, hml, hown, hts⟩ (r_X8_take_2 l dC dI L kd tys fr_594 H.size g.2.2.2.1 q0_ mq0_ kq0_ 41 1201 kb_1201 x_513 h_514 (g.fcts [0, 1] rfl)) (cwV 1 hts (gV_ t_1098 t_1099 t_1100 t_184 t_1101) rfl rfl rfl (by decide +kernel) ⟨(Nat.le_of_ble_eq_true rfl), (Nat.le_of_ble_eq_true rfl)⟩) (pre3V g hK mq0_ kq0_ (by decide) (q := (RX8, TX8, 10)) rfl) rfl rfl hl.1 rfl (lv_room (Nat.le_of_ble_eq_true rfl)) dX2_readArguments_177 ⟨(Nat.le_of_ble_eq_true rfl), (Nat.le_of_ble_eq_true rfl)⟩) g hK (by decide) (by decide) (fx' := [(8, 8, q0_, .int x_513), (0, 2, q2_, .ref q3_), (2, 14, a0_, .int x_17), (2, 0, a0_, .ref q0_), (2, 1, a0_, .ref q1_), (2, 2, a0_, .ref q2_), (2, 3, a0_, .ref q3_), (0, 0, q2_, .ref q0_), (0, 1, q2_, .ref q1_), (5, 0, q1_, .ref q3_), (5, 1, q1_, .ref q7_), (2, 12, a0_, .int y0_)]) rfl (fun fr_599 H locs hp hMr_599 g => ?_)
                            obtain ⟨x_600, h_601, hF_602⟩ := hp
                            have hG_603 := cOK.frame hMr_599 go_.2.2.2.1 mq3_ kq3_ (by decide) (by decide) hG_595
                            have hG_604 := dOK.frame hMr_599 go_.2.2.2.1 mq3_ kq3_ (by decide) (by decide) hG_596
                            have hG_605 := jS.frame hMr_599 go_.2.2.2.1 mq3_ kq3_ (by decide) (by decide) hG_597
                            have hG_606 := eOK.frame hMr_599 go_.2.2.2.1 mq2_ kq2_ (by decide) (by decide) hG_598
                            have g := g.more hF_602
                            refine lv_iload_n hx hb dX2_readArguments_180 rfl (lv_at hl 3 rfl) ?_
                            refine lv_aload_n hx hb dX2_readArguments_181 rfl (lv_at hl 5 rfl) ?_
                            refine g_getk (C := RX2) (T := TX2) (N := 16) hx hb hts (mc_ inX2) hown hK g rfl 14 (by decide) rfl (hts _ (List.mem_cons_of_mem _ t_430)) (fun _ h9 => h9) 3 rfl dX2_readArguments_182 ?_
                            refine lv_icmp_ge (tgt := 199) hx hb dX2_readArguments_185 (by decide) (fun c_607 => ?_) (fun c_607 => ?_)
                            · have fc_607 := le_f c_607
                              refine lv_aload_n hx hb dX2_readArguments_199 rfl (lv_at hl 5 rfl) ?_
                              refine g_getk (C := RX2) (T := TX2) (N := 16) hx hb hts (mc_ inX2) hown hK g rfl 3 (by decide) rfl (hts _ (List.mem_cons_of_mem _ t_419)) (fun _ h9 => h9) 7 rfl dX2_readArguments_200 ?_
                              refine lv_aload_n hx hb dX2_readArguments_203 rfl (lv_at hl 5 rfl) ?_
                              refine g_getk (C := RX2) (T := TX2) (N := 16) hx hb hts (mc_ inX2) hown hK g rfl 12 (by decide) rfl (hts _ (List.mem_cons_of_mem _ t_428)) (fun _ h9 => h9) 12 rfl dX2_readArguments_204 ?_
                              refine lv_aload_n hx hb dX2_readArguments_207 rfl (lv_at hl 5 rfl) ?_
                              refine g_geti (C := RX2) (T := TX2) (N := 16) hx hb hts (mc_ inX2) hown hK g ma0_ ka0_ (by decide) rfl 13 (by decide) rfl (hts _ (List.mem_cons_of_mem _ t_429)) (fun _ h9 => h9) rfl dX2_readArguments_208 (fun x_608 bx_608 g => ?_)
                              obtain ⟨a_609, ma_609, ka_609, g⟩ := g_factr g mq3_ kq3_ (by decide) 4 rfl
                              obtain ⟨a_610, ma_610, ka_610, g⟩ := g_factr g mq3_ kq3_ (by decide) 5 rfl
                              obtain ⟨x_611, bx_611, g⟩ := g_facti g mq3_ kq3_ (by decide) 6 rfl
                              have go_ := g
                              refine g_callv (va_runV (As := [.int y0_, .int x_608]) (rest := []) ⟨hx, hb, hml, hown, hts⟩ (r_X7_emitF l dC dI L kd tys fr_599 H.size g.2.2.2.1 q3_ mq3_ kq3_ a_609 ma_609 ka_609 a_610 ma_610 ka_610 x_611 bx_611 T_ hG_604 y0_ x_608 (g.fcts [2, 1, 0] rfl)) (cwV 2 hts (gV_ t_1301 t_1204 t_1205 t_191 t_1206) rfl rfl rfl (by decide +kernel) ⟨(Nat.le_of_ble_eq_true rfl), (Nat.le_of_ble_eq_true rfl)⟩) (pre3V g hK mq3_ kq3_ (by decide) (q := (RX7, TX7, 19)) rfl) rfl rfl hl.1 rfl (lv_room (Nat.le_of_ble_eq_true rfl)) dX2_readArguments_211 ⟨(Nat.le_of_ble_eq_true rfl), (Nat.le_of_ble_eq_true rfl)⟩) g hK (by decide) (by decide) (fx' := [(7, 5, q3_, .ref a_610), (7, 4, q3_, .ref a_609), (2, 13, a0_, .int x_608), (8, 6, q0_, .int x_600), (8, 8, q0_, .int x_513), (0, 2, q2_, .ref q3_), (2, 14, a0_, .int x_17), (2, 0, a0_, .ref q0_), (2, 1, a0_, .ref q1_), (2, 2, a0_, .ref q2_), (2, 3, a0_, .ref q3_), (0, 0, q2_, .ref q0_), (0, 1, q2_, .ref q1_), (5, 0, q1_, .ref q3_), (5, 1, q1_, .ref q7_), (2, 12, a0_, .int y0_)]) rfl (fun fr_612 H locs hp hMr_612 g => ?_)
                              obtain ⟨hG_613, x_614, h_615, hF_616⟩ := hp
                              have hG_617 := eOK.frame hMr_612 go_.2.2.2.1 mq2_ kq2_ (by decide) (by decide) hG_606
                              have g := g.more hF_616
                              refine lv_aload_n hx hb dX2_readArguments_214 rfl (lv_at hl 5 rfl) ?_
                              refine g_getk (C := RX2) (T := TX2) (N := 16) hx hb hts (mc_ inX2) hown hK g rfl 3 (by decide) rfl (hts _ (List.mem_cons_of_mem _ t_419)) (fun _ h9 => h9) 11 rfl dX2_readArguments_215 ?_
                              refine lv_bipush (v := 22) hx hb dX2_readArguments_218 (by decide) ?_
                              refine lv_iconst (v := 0) hx hb dX2_readArguments_220 (by decide) ?_
                              have go_ := g
                              refine g_callv (va_runV (As := [.int 22, .int 0]) (rest := []) ⟨hx, hb, hml, hown, hts⟩ (r_X7_emitF l dC dI L kd tys fr_612 H.size g.2.2.2.1 q3_ mq3_ kq3_ a_609 ma_609 ka_609 a_610 ma_610 ka_610 x_614 h_615 T_ hG_613 (22 : Int32) (0 : Int32) (g.fcts [2, 1, 0] rfl)) (cwV 2 hts (gV_ t_1301 t_1204 t_1205 t_191 t_1206) rfl rfl rfl (by decide +kernel) ⟨(Nat.le_of_ble_eq_true rfl), (Nat.le_of_ble_eq_true rfl)⟩) (pre3V g hK mq3_ kq3_ (by decide) (q := (RX7, TX7, 19)) rfl) rfl rfl hl.1 rfl (lv_room (Nat.le_of_ble_eq_true rfl)) dX2_readArguments_221 ⟨(Nat.le_of_ble_eq_true rfl), (Nat.le_of_ble_eq_true rfl)⟩) g hK (by decide) (by decide) (fx' := [(7, 5, q3_, .ref a_610), (7, 4, q3_, .ref a_609), (2, 13, a0_, .int x_608), (8, 6, q0_, .int x_600), (8, 8, q0_, .int x_513), (0, 2, q2_, .ref q3_), (2, 14, a0_, .int x_17), (2, 0, a0_, .ref q0_), (2, 1, a0_, .ref q1_), (2, 2, a0_, .ref q2_), (2, 3, a0_, .ref q3_), (0, 0, q2_, .ref q0_), (0, 1, q2_, .ref q1_), (5, 0, q1_, .ref q3_), (5, 1, q1_, .ref q7_), (2, 12, a0_, .int y0_)]) rfl (fun fr_618 H locs hp hMr_618 g => ?_)
                              obtain ⟨hG_619, x_620, h_621, hF_622⟩ := hp
                              have hG_623 := eOK.frame hMr_618 go_.2.2.2.1 mq2_ kq2_ (by decide) (by decide) hG_617
                              have g := g.more hF_622
                              refine lv_aload_n hx hb dX2_readArguments_224 rfl (lv_at hl 5 rfl) ?_
                              refine g_getk (C := RX2) (T := TX2) (N := 16) hx hb hts (mc_ inX2) hown hK g rfl 0 (by decide) rfl (hts _ (List.mem_cons_of_mem _ t_416)) (fun _ h9 => h9) 8 rfl dX2_readArguments_225 ?_
                              refine lv_bipush (v := 59) hx hb dX2_readArguments_228 (by decide) ?_
                              have go_ := g
                              refine g_callv (va_runV (As := [.int 59]) (rest := []) ⟨hx, hb, hml, hown, hts⟩ (r_X8_take_2 l dC dI L kd tys fr_618 H.size g.2.2.2.1 q0_ mq0_ kq0_ 59 x_600 h_601 x_513 h_514 (g.fcts [4, 5] rfl)) (cwV 1 hts (gV_ t_1098 t_1099 t_1100 t_184 t_1101) rfl rfl rfl (by decide +kernel) ⟨(Nat.le_of_ble_eq_true rfl), (Nat.le_of_ble_eq_true rfl)⟩) (pre3V g hK mq0_ kq0_ (by decide) (q := (RX8, TX8, 10)) rfl) rfl rfl hl.1 rfl (lv_room (Nat.le_of_ble_eq_true rfl)) dX2_readArguments_230 ⟨(Nat.le_of_ble_eq_true rfl), (Nat.le_of_ble_eq_true rfl)⟩) g hK (by decide) (by decide) (fx' := [(7, 6, q3_, .int x_620), (7, 5, q3_, .ref a_610), (7, 4, q3_, .ref a_609), (2, 13, a0_, .int x_608), (8, 8, q0_, .int x_513), (0, 2, q2_, .ref q3_), (2, 14, a0_, .int x_17), (2, 0, a0_, .ref q0_), (2, 1, a0_, .ref q1_), (2, 2, a0_, .ref q2_), (2, 3, a0_, .ref q3_), (0, 0, q2_, .ref q0_), (0, 1, q2_, .ref q1_), (5, 0, q1_, .ref q3_), (5, 1, q1_, .ref q7_), (2, 12, a0_, .int y0_)]) rfl (fun fr_624 H locs hp hMr_624 g => ?_)
                              obtain ⟨x_625, h_626, hF_627⟩ := hp
                              have hG_628 := dOK.frame hMr_624 go_.2.2.2.1 mq3_ kq3_ (by decide) (by decide) hG_619
                              have hG_629 := eOK.frame hMr_624 go_.2.2.2.1 mq2_ kq2_ (by decide) (by decide) hG_623
                              have g := g.more hF_627
                              subst hQ
                              exact W.vret hx hb hr (fun t ht hW => ⟨⟨_, rfl, Or.inr (⟨hG_628, hG_629, x_625, h_626, x_513, h_514, (g.fcts [0, 5] rfl)⟩), q3_of g hK ht hW⟩, g.2.2.1.F ht⟩) g.2.2.1.2.2 dX2_readArguments_233
                            · have fc_607 := nle_f c_607
                              have b_630 : bd (-2147483648) 2147483646 y_484 := ltL fc_607 (bdT y_484) (bdT x_17) (by decide)
                              have b_631 : bd (-2147483647) 2147483647 x_17 := ltR fc_607 (bdT y_484) (bdT x_17) (by decide)
                              refine lv_aload_n hx hb dX2_readArguments_188 rfl (lv_at hl 5 rfl) ?_
                              refine g_getk (C := RX2) (T := TX2) (N := 16) hx hb hts (mc_ inX2) hown hK g rfl 0 (by decide) rfl (hts _ (List.mem_cons_of_mem _ t_416)) (fun _ h9 => h9) 4 rfl dX2_readArguments_189 ?_
                              refine lv_bipush (v := 6) hx hb dX2_readArguments_192 (by decide) ?_
                              refine lv_iload hx hb dX2_readArguments_194 (lv_at hl 0 rfl) ?_
                              have go_ := g
                              refine g_callv (va_runV (As := [.int 6, .int r_594]) (rest := []) ⟨hx, hb, hml, hown, hts⟩ (r_X8_fail_2 l dC dI L kd tys fr_599 H.size g.2.2.2.1 q0_ mq0_ kq0_ 6 (bd_sub kb_6 (by decide)) r_594 x_513 h_514 (g.fcts [1] rfl)) (cwV 2 hts (gV_ t_1122 t_1107 t_1108 t_184 t_1109) rfl rfl rfl (by decide +kernel) ⟨(Nat.le_of_ble_eq_true rfl), (Nat.le_of_ble_eq_true rfl)⟩) (pre3V g hK mq0_ kq0_ (by decide) (q := (RX8, TX8, 10)) rfl) rfl rfl hl.1 rfl (lv_room (Nat.le_of_ble_eq_true rfl)) dX2_readArguments_196 ⟨(Nat.le_of_ble_eq_true rfl), (Nat.le_of_ble_eq_true rfl)⟩) g hK (by decide) (by decide) (fx' := [(8, 8, q0_, .int x_513), (0, 2, q2_, .ref q3_), (2, 14, a0_, .int x_17), (2, 0, a0_, .ref q0_), (2, 1, a0_, .ref q1_), (2, 2, a0_, .ref q2_), (2, 3, a0_, .ref q3_), (0, 0, q2_, .ref q0_), (0, 1, q2_, .ref q1_), (5, 0, q1_, .ref q3_), (5, 1, q1_, .ref q7_), (2, 12, a0_, .int y0_)]) rfl (fun fr_632 H locs hp hMr_632 g => ?_)
                              have hF_633 := hp
                              have hG_634 := cOK.frame hMr_632 go_.2.2.2.1 mq3_ kq3_ (by decide) (by decide) hG_603
                              have hG_635 := dOK.frame hMr_632 go_.2.2.2.1 mq3_ kq3_ (by decide) (by decide) hG_604
                              have hG_636 := jS.frame hMr_632 go_.2.2.2.1 mq3_ kq3_ (by decide) (by decide) hG_605
                              have hG_637 := eOK.frame hMr_632 go_.2.2.2.1 mq2_ kq2_ (by decide) (by decide) hG_606
                              have g := g.more hF_633
                              refine lv_aload_n hx hb dX2_readArguments_199 rfl (lv_at hl 5 rfl) ?_
                              refine g_getk (C := RX2) (T := TX2) (N := 16) hx hb hts (mc_ inX2) hown hK g rfl 3 (by decide) rfl (hts _ (List.mem_cons_of_mem _ t_419)) (fun _ h9 => h9) 7 rfl dX2_readArguments_200 ?_
                              refine lv_aload_n hx hb dX2_readArguments_203 rfl (lv_at hl 5 rfl) ?_
                              refine g_getk (C := RX2) (T := TX2) (N := 16) hx hb hts (mc_ inX2) hown hK g rfl 12 (by decide) rfl (hts _ (List.mem_cons_of_mem _ t_428)) (fun _ h9 => h9) 12 rfl dX2_readArguments_204 ?_
                              refine lv_aload_n hx hb dX2_readArguments_207 rfl (lv_at hl 5 rfl) ?_
                              refine g_geti (C := RX2) (T := TX2) (N := 16) hx hb hts (mc_ inX2) hown hK g ma0_ ka0_ (by decide) rfl 13 (by decide) rfl (hts _ (List.mem_cons_of_mem _ t_429)) (fun _ h9 => h9) rfl dX2_readArguments_208 (fun x_638 bx_638 g => ?_)
                              obtain ⟨a_639, ma_639, ka_639, g⟩ := g_factr g mq3_ kq3_ (by decide) 4 rfl
                              obtain ⟨a_640, ma_640, ka_640, g⟩ := g_factr g mq3_ kq3_ (by decide) 5 rfl
                              obtain ⟨x_641, bx_641, g⟩ := g_facti g mq3_ kq3_ (by decide) 6 rfl
                              have go_ := g
                              refine g_callv (va_runV (As := [.int y0_, .int x_638]) (rest := []) ⟨hx, hb, hml, hown, hts⟩ (r_X7_emitF l dC dI L kd tys fr_632 H.size g.2.2.2.1 q3_ mq3_ kq3_ a_639 ma_639 ka_639 a_640 ma_640 ka_640 x_641 bx_641 T_ hG_635 y0_ x_638 (g.fcts [2, 1, 0] rfl)) (cwV 2 hts (gV_ t_1301 t_1204 t_1205 t_191 t_1206) rfl rfl rfl (by decide +kernel) ⟨(Nat.le_of_ble_eq_true rfl), (Nat.le_of_ble_eq_true rfl)⟩) (pre3V g hK mq3_ kq3_ (by decide) (q := (RX7, TX7, 19)) rfl) rfl rfl hl.1 rfl (lv_room (Nat.le_of_ble_eq_true rfl)) dX2_readArguments_211 ⟨(Nat.le_of_ble_eq_true rfl), (Nat.le_of_ble_eq_true rfl)⟩) g hK (by decide) (by decide) (fx' := [(7, 5, q3_, .ref a_640), (7, 4, q3_, .ref a_639), (2, 13, a0_, .int x_638), (8, 6, q0_, .int 1201), (8, 8, q0_, .int x_513), (0, 2, q2_, .ref q3_), (2, 14, a0_, .int x_17), (2, 0, a0_, .ref q0_), (2, 1, a0_, .ref q1_), (2, 2, a0_, .ref q2_), (2, 3, a0_, .ref q3_), (0, 0, q2_, .ref q0_), (0, 1, q2_, .ref q1_), (5, 0, q1_, .ref q3_), (5, 1, q1_, .ref q7_), (2, 12, a0_, .int y0_)]) rfl (fun fr_642 H locs hp hMr_642 g => ?_)
                              obtain ⟨hG_643, x_644, h_645, hF_646⟩ := hp
                              have hG_647 := eOK.frame hMr_642 go_.2.2.2.1 mq2_ kq2_ (by decide) (by decide) hG_637
                              have g := g.more hF_646
                              refine lv_aload_n hx hb dX2_readArguments_214 rfl (lv_at hl 5 rfl) ?_
                              refine g_getk (C := RX2) (T := TX2) (N := 16) hx hb hts (mc_ inX2) hown hK g rfl 3 (by decide) rfl (hts _ (List.mem_cons_of_mem _ t_419)) (fun _ h9 => h9) 11 rfl dX2_readArguments_215 ?_
                              refine lv_bipush (v := 22) hx hb dX2_readArguments_218 (by decide) ?_
                              refine lv_iconst (v := 0) hx hb dX2_readArguments_220 (by decide) ?_
                              have go_ := g
                              refine g_callv (va_runV (As := [.int 22, .int 0]) (rest := []) ⟨hx, hb, hml, hown, hts⟩ (r_X7_emitF l dC dI L kd tys fr_642 H.size g.2.2.2.1 q3_ mq3_ kq3_ a_639 ma_639 ka_639 a_640 ma_640 ka_640 x_644 h_645 T_ hG_643 (22 : Int32) (0 : Int32) (g.fcts [2, 1, 0] rfl)) (cwV 2 hts (gV_ t_1301 t_1204 t_1205 t_191 t_1206) rfl rfl rfl (by decide +kernel) ⟨(Nat.le_of_ble_eq_true rfl), (Nat.le_of_ble_eq_true rfl)⟩) (pre3V g hK mq3_ kq3_ (by decide) (q := (RX7, TX7, 19)) rfl) rfl rfl hl.1 rfl (lv_room (Nat.le_of_ble_eq_true rfl)) dX2_readArguments_221 ⟨(Nat.le_of_ble_eq_true rfl), (Nat.le_of_ble_eq_true rfl)⟩) g hK (by decide) (by decide) (fx' := [(7, 5, q3_, .ref a_640), (7, 4, q3_, .ref a_639), (2, 13, a0_, .int x_638), (8, 6, q0_, .int 1201), (8, 8, q0_, .int x_513), (0, 2, q2_, .ref q3_), (2, 14, a0_, .int x_17), (2, 0, a0_, .ref q0_), (2, 1, a0_, .ref q1_), (2, 2, a0_, .ref q2_), (2, 3, a0_, .ref q3_), (0, 0, q2_, .ref q0_), (0, 1, q2_, .ref q1_), (5, 0, q1_, .ref q3_), (5, 1, q1_, .ref q7_), (2, 12, a0_, .int y0_)]) rfl (fun fr_648 H locs hp hMr_648 g => ?_)
                              obtain ⟨hG_649, x_650, h_651, hF_652⟩ := hp
                              have hG_653 := eOK.frame hMr_648 go_.2.2.2.1 mq2_ kq2_ (by decide) (by decide) hG_647
                              have g := g.more hF_652
                              refine lv_aload_n hx hb dX2_readArguments_224 rfl (lv_at hl 5 rfl) ?_
                              refine g_getk (C := RX2) (T := TX2) (N := 16) hx hb hts (mc_ inX2) hown hK g rfl 0 (by decide) rfl (hts _ (List.mem_cons_of_mem _ t_416)) (fun _ h9 => h9) 8 rfl dX2_readArguments_225 ?_
                              refine lv_bipush (v := 59) hx hb dX2_readArguments_228 (by decide) ?_
                              have go_ := g
                              refine g_callv (va_runV (As := [.int 59]) (rest := []) ⟨hx, hb, hml, hown, hts⟩ (r_X8_take_2 l dC dI L kd tys fr_648 H.size g.2.2.2.1 q0_ mq0_ kq0_ 59 1201 kb_1201 x_513 h_514 (g.fcts [4, 5] rfl)) (cwV 1 hts (gV_ t_1098 t_1099 t_1100 t_184 t_1101) rfl rfl rfl (by decide +kernel) ⟨(Nat.le_of_ble_eq_true rfl), (Nat.le_of_ble_eq_true rfl)⟩) (pre3V g hK mq0_ kq0_ (by decide) (q := (RX8, TX8, 10)) rfl) rfl rfl hl.1 rfl (lv_room (Nat.le_of_ble_eq_true rfl)) dX2_readArguments_230 ⟨(Nat.le_of_ble_eq_true rfl), (Nat.le_of_ble_eq_true rfl)⟩) g hK (by decide) (by decide) (fx' := [(7, 6, q3_, .int x_650), (7, 5, q3_, .ref a_640), (7, 4, q3_, .ref a_639), (2, 13, a0_, .int x_638), (8, 8, q0_, .int x_513), (0, 2, q2_, .ref q3_), (2, 14, a0_, .int x_17), (2, 0, a0_, .ref q0_), (2, 1, a0_, .ref q1_), (2, 2, a0_, .ref q2_), (2, 3, a0_, .ref q3_), (0, 0, q2_, .ref q0_), (0, 1, q2_, .ref q1_), (5, 0, q1_, .ref q3_), (5, 1, q1_, .ref q7_), (2, 12, a0_, .int y0_)]) rfl (fun fr_654 H locs hp hMr_654 g => ?_)
                              obtain ⟨x_655, h_656, hF_657⟩ := hp
                              have hG_658 := dOK.frame hMr_654 go_.2.2.2.1 mq3_ kq3_ (by decide) (by decide) hG_649
                              have hG_659 := eOK.frame hMr_654 go_.2.2.2.1 mq2_ kq2_ (by decide) (by decide) hG_653
                              have g := g.more hF_657
                              subst hQ
                              exact W.vret hx hb hr (fun t ht hW => ⟨⟨_, rfl, Or.inr (⟨hG_658, hG_659, x_655, h_656, x_513, h_514, (g.fcts [0, 5] rfl)⟩), q3_of g hK ht hW⟩, g.2.2.1.F ht⟩) g.2.2.1.2.2 dX2_readArguments_233
                          · have fc_593 := eq_f c_593
                            have b_660 : bd 1 0 x_513 := eqX fc_593 h_514 kb_0 (by decide)
                            exact bd_no b_660 (by decide)
                  · have g := g.more hF_482
                    have kb_1 : bd 1 1 (1 : Int32) := ⟨by decide, by decide⟩
                    obtain ⟨y_661, ey_661⟩ : ∃ z : Int32, z = v69_2 + 1 := ⟨_, rfl⟩
                    refine lv_iinc (v := y_661) (lv' := [(2, .int y_661), (4, .int v69_4), (3, .int v69_3), (1, .int r_1), (0, .ref a0_)]) hx hb dX2_readArguments_96 hl (k := 2) rfl (by rw [ey_661]; rfl) (by decide) rfl (fun ls hl => ?_)
                    refine lv_aload_n hx hb dX2_readArguments_99 rfl (lv_at hl 4 rfl) ?_
                    refine g_getk (C := RX2) (T := TX2) (N := 16) hx hb hts (mc_ inX2) hown hK g rfl 0 (by decide) rfl (hts _ (List.mem_cons_of_mem _ t_416)) (fun _ h9 => h9) 4 rfl dX2_readArguments_100 ?_
                    have go_ := g
                    refine g_calli (va_runV (As := []) (rest := []) ⟨hx, hb, hml, hown, hts⟩ (r_X8_kind_2 l dC dI L kd tys fr_470 H.size g.2.2.2.1 q0_ mq0_ kq0_ x_478 h_479 (g.fcts [0] rfl)) (cwV 0 hts (gV_ t_1118 t_1119 t_1120 t_184 t_1121) rfl rfl rfl (by decide +kernel) ⟨(Nat.le_of_ble_eq_true rfl), (Nat.le_of_ble_eq_true rfl)⟩) (pre3V g hK mq0_ kq0_ (by decide) (q := (RX8, TX8, 10)) rfl) rfl rfl hl.1 rfl (lv_room (Nat.le_of_ble_eq_true rfl)) dX2_readArguments_103 ⟨(Nat.le_of_ble_eq_true rfl), (Nat.le_of_ble_eq_true rfl)⟩) g hK (by decide) (by decide) (fx' := [(8, 6, q0_, .int x_478), (8, 8, q0_, .int x_480), (0, 2, q2_, .ref q3_), (2, 14, a0_, .int x_17), (2, 0, a0_, .ref q0_), (2, 1, a0_, .ref q1_), (2, 2, a0_, .ref q2_), (2, 3, a0_, .ref q3_), (0, 0, q2_, .ref q0_), (0, 1, q2_, .ref q1_), (5, 0, q1_, .ref q3_), (5, 1, q1_, .ref q7_), (2, 12, a0_, .int y0_)]) rfl (fun r_662 fr_662 H locs hp hMr_662 g => ?_)
                    obtain ⟨h_663, -⟩ := hp
                    have hG_664 := dOK.frame hMr_662 go_.2.2.2.1 mq3_ kq3_ (by decide) (by decide) hG_477
                    have hG_665 := eOK.frame hMr_662 go_.2.2.2.1 mq2_ kq2_ (by decide) (by decide) hG_476
                    obtain rfl : r_662 = 0 := h_663
                    refine lv_bipush (v := 44) hx hb dX2_readArguments_106 (by decide) ?_
                    refine lv_icmp_ne (tgt := 115) hx hb dX2_readArguments_108 (by decide) (fun c_ => ?_) (fun c_ => absurd c_ (by decide))
                    refine lv_iconst (v := 0) hx hb dX2_readArguments_115 (by decide) ?_
                    refine lv_istore_n (lv' := [(3, .int 0), (2, .int y_661), (4, .int v69_4), (1, .int r_1), (0, .ref a0_)]) hx hb dX2_readArguments_116 rfl hl (by decide) rfl (fun ls hl => ?_)
                    refine lv_iload_n hx hb dX2_readArguments_117 rfl (lv_at hl 0 rfl) ?_
                    refine lv_if_eq (tgt := 156) hx hb dX2_readArguments_118 (by decide) (fun c_ => ?_) (fun c_ => absurd (by decide) c_)
                    obtain ⟨y_666, ey_666⟩ : ∃ z : Int32, z = v69_4 + 1 := ⟨_, rfl⟩
                    refine lv_iinc (v := y_666) (lv' := [(4, .int y_666), (3, .int 0), (2, .int y_661), (1, .int r_1), (0, .ref a0_)]) hx hb dX2_readArguments_156 hl (k := 2) rfl (by rw [ey_666]; rfl) (by decide) rfl (fun ls hl => ?_)
                    have ty_666 := add_bd ey_666 b_319 kb_1 (by decide)
                    have b_667 : bd 1 4 y_666 := add_rg ty_666 b_319 kb_1 (by decide)
                    refine lv_goto (tgt := 69) hx hb dX2_readArguments_159 (by decide) ?_
                    refine lv_iload hx hb dX2_readArguments_69 (lv_at hl 0 rfl) ?_
                    refine lv_iconst (v := 3) hx hb dX2_readArguments_71 (by decide) ?_
                    refine lv_icmp_gt (tgt := 162) hx hb dX2_readArguments_72 (by decide) (fun c_668 => ?_) (fun c_668 => ?_)
                    · have fc_668 := lt_f c_668
                      have b_669 : bd 4 4 y_666 := ltR fc_668 kb_3 b_667 (by decide)
                      have b_670 : bd 3 3 v69_4 := add_inv ty_666 b_669 b_319 kb_1 (by decide)
                      refine lv_aload_n hx hb dX2_readArguments_162 rfl (lv_at hl 4 rfl) ?_
                      refine g_getk (C := RX2) (T := TX2) (N := 16) hx hb hts (mc_ inX2) hown hK g rfl 0 (by decide) rfl (hts _ (List.mem_cons_of_mem _ t_416)) (fun _ h9 => h9) 4 rfl dX2_readArguments_163 ?_
                      have go_ := g
                      refine g_calli (va_runV (As := []) (rest := []) ⟨hx, hb, hml, hown, hts⟩ (r_X8_place l dC dI L kd tys fr_662 H.size g.2.2.2.1 q0_ mq0_ kq0_) (cwV 0 hts (gV_ t_1110 t_1111 t_1112 t_184 t_1113) rfl rfl rfl (by decide +kernel) ⟨(Nat.le_of_ble_eq_true rfl), (Nat.le_of_ble_eq_true rfl)⟩) (pre3V g hK mq0_ kq0_ (by decide) (q := (RX8, TX8, 10)) rfl) rfl rfl hl.1 rfl (lv_room (Nat.le_of_ble_eq_true rfl)) dX2_readArguments_166 ⟨(Nat.le_of_ble_eq_true rfl), (Nat.le_of_ble_eq_true rfl)⟩) g hK (by decide) (by decide) (fx' := [(8, 6, q0_, .int x_478), (8, 8, q0_, .int x_480), (0, 2, q2_, .ref q3_), (2, 14, a0_, .int x_17), (2, 0, a0_, .ref q0_), (2, 1, a0_, .ref q1_), (2, 2, a0_, .ref q2_), (2, 3, a0_, .ref q3_), (0, 0, q2_, .ref q0_), (0, 1, q2_, .ref q1_), (5, 0, q1_, .ref q3_), (5, 1, q1_, .ref q7_), (2, 12, a0_, .int y0_)]) rfl (fun r_671 fr_671 H locs hp hMr_671 g => ?_)
                      have hG_672 := dOK.frame hMr_671 go_.2.2.2.1 mq3_ kq3_ (by decide) (by decide) hG_664
                      have hG_673 := eOK.frame hMr_671 go_.2.2.2.1 mq2_ kq2_ (by decide) (by decide) hG_665
                      refine lv_istore (lv' := [(4, .int r_671), (3, .int 0), (2, .int y_661), (1, .int r_1), (0, .ref a0_)]) hx hb dX2_readArguments_169 hl (by decide) rfl (fun ls hl => ?_)
                      refine lv_aload_n hx hb dX2_readArguments_171 rfl (lv_at hl 4 rfl) ?_
                      refine g_getk (C := RX2) (T := TX2) (N := 16) hx hb hts (mc_ inX2) hown hK g rfl 0 (by decide) rfl (hts _ (List.mem_cons_of_mem _ t_416)) (fun _ h9 => h9) 4 rfl dX2_readArguments_172 ?_
                      refine lv_bipush (v := 41) hx hb dX2_readArguments_175 (by decide) ?_
                      have go_ := g
                      refine g_callv (va_runV (As := [.int 41]) (rest := []) ⟨hx, hb, hml, hown, hts⟩ (r_X8_take_2 l dC dI L kd tys fr_671 H.size g.2.2.2.1 q0_ mq0_ kq0_ 41 x_478 h_479 x_480 h_481 (g.fcts [0, 1] rfl)) (cwV 1 hts (gV_ t_1098 t_1099 t_1100 t_184 t_1101) rfl rfl rfl (by decide +kernel) ⟨(Nat.le_of_ble_eq_true rfl), (Nat.le_of_ble_eq_true rfl)⟩) (pre3V g hK mq0_ kq0_ (by decide) (q := (RX8, TX8, 10)) rfl) rfl rfl hl.1 rfl (lv_room (Nat.le_of_ble_eq_true rfl)) dX2_readArguments_177 ⟨(Nat.le_of_ble_eq_true rfl), (Nat.le_of_ble_eq_true rfl)⟩) g hK (by decide) (by decide) (fx' := [(8, 8, q0_, .int x_480), (0, 2, q2_, .ref q3_), (2, 14, a0_, .int x_17), (2, 0, a0_, .ref q0_), (2, 1, a0_, .ref q1_), (2, 2, a0_, .ref q2_), (2, 3, a0_, .ref q3_), (0, 0, q2_, .ref q0_), (0, 1, q2_, .ref q1_), (5, 0, q1_, .ref q3_), (5, 1, q1_, .ref q7_), (2, 12, a0_, .int y0_)]) rfl (fun fr_674 H locs hp hMr_674 g => ?_)
                      obtain ⟨x_675, h_676, hF_677⟩ := hp
                      have hG_678 := dOK.frame hMr_674 go_.2.2.2.1 mq3_ kq3_ (by decide) (by decide) hG_672
                      have hG_679 := eOK.frame hMr_674 go_.2.2.2.1 mq2_ kq2_ (by decide) (by decide) hG_673
                      have g := g.more hF_677
                      refine lv_iload_n hx hb dX2_readArguments_180 rfl (lv_at hl 2 rfl) ?_
                      refine lv_aload_n hx hb dX2_readArguments_181 rfl (lv_at hl 4 rfl) ?_
                      refine g_getk (C := RX2) (T := TX2) (N := 16) hx hb hts (mc_ inX2) hown hK g rfl 14 (by decide) rfl (hts _ (List.mem_cons_of_mem _ t_430)) (fun _ h9 => h9) 3 rfl dX2_readArguments_182 ?_
                      refine lv_icmp_ge (tgt := 199) hx hb dX2_readArguments_185 (by decide) (fun c_680 => ?_) (fun c_680 => ?_)
                      · have fc_680 := le_f c_680
                        refine lv_aload_n hx hb dX2_readArguments_199 rfl (lv_at hl 4 rfl) ?_
                        refine g_getk (C := RX2) (T := TX2) (N := 16) hx hb hts (mc_ inX2) hown hK g rfl 3 (by decide) rfl (hts _ (List.mem_cons_of_mem _ t_419)) (fun _ h9 => h9) 7 rfl dX2_readArguments_200 ?_
                        refine lv_aload_n hx hb dX2_readArguments_203 rfl (lv_at hl 4 rfl) ?_
                        refine g_getk (C := RX2) (T := TX2) (N := 16) hx hb hts (mc_ inX2) hown hK g rfl 12 (by decide) rfl (hts _ (List.mem_cons_of_mem _ t_428)) (fun _ h9 => h9) 12 rfl dX2_readArguments_204 ?_
                        refine lv_aload_n hx hb dX2_readArguments_207 rfl (lv_at hl 4 rfl) ?_
                        refine g_geti (C := RX2) (T := TX2) (N := 16) hx hb hts (mc_ inX2) hown hK g ma0_ ka0_ (by decide) rfl 13 (by decide) rfl (hts _ (List.mem_cons_of_mem _ t_429)) (fun _ h9 => h9) rfl dX2_readArguments_208 (fun x_681 bx_681 g => ?_)
                        obtain ⟨a_682, ma_682, ka_682, g⟩ := g_factr g mq3_ kq3_ (by decide) 4 rfl
                        obtain ⟨a_683, ma_683, ka_683, g⟩ := g_factr g mq3_ kq3_ (by decide) 5 rfl
                        obtain ⟨x_684, bx_684, g⟩ := g_facti g mq3_ kq3_ (by decide) 6 rfl
                        have go_ := g
                        refine g_callv (va_runV (As := [.int y0_, .int x_681]) (rest := []) ⟨hx, hb, hml, hown, hts⟩ (r_X7_emitF l dC dI L kd tys fr_674 H.size g.2.2.2.1 q3_ mq3_ kq3_ a_682 ma_682 ka_682 a_683 ma_683 ka_683 x_684 bx_684 T_ hG_678 y0_ x_681 (g.fcts [2, 1, 0] rfl)) (cwV 2 hts (gV_ t_1301 t_1204 t_1205 t_191 t_1206) rfl rfl rfl (by decide +kernel) ⟨(Nat.le_of_ble_eq_true rfl), (Nat.le_of_ble_eq_true rfl)⟩) (pre3V g hK mq3_ kq3_ (by decide) (q := (RX7, TX7, 19)) rfl) rfl rfl hl.1 rfl (lv_room (Nat.le_of_ble_eq_true rfl)) dX2_readArguments_211 ⟨(Nat.le_of_ble_eq_true rfl), (Nat.le_of_ble_eq_true rfl)⟩) g hK (by decide) (by decide) (fx' := [(7, 5, q3_, .ref a_683), (7, 4, q3_, .ref a_682), (2, 13, a0_, .int x_681), (8, 6, q0_, .int x_675), (8, 8, q0_, .int x_480), (0, 2, q2_, .ref q3_), (2, 14, a0_, .int x_17), (2, 0, a0_, .ref q0_), (2, 1, a0_, .ref q1_), (2, 2, a0_, .ref q2_), (2, 3, a0_, .ref q3_), (0, 0, q2_, .ref q0_), (0, 1, q2_, .ref q1_), (5, 0, q1_, .ref q3_), (5, 1, q1_, .ref q7_), (2, 12, a0_, .int y0_)]) rfl (fun fr_685 H locs hp hMr_685 g => ?_)
                        obtain ⟨hG_686, x_687, h_688, hF_689⟩ := hp
                        have hG_690 := eOK.frame hMr_685 go_.2.2.2.1 mq2_ kq2_ (by decide) (by decide) hG_679
                        have g := g.more hF_689
                        refine lv_aload_n hx hb dX2_readArguments_214 rfl (lv_at hl 4 rfl) ?_
                        refine g_getk (C := RX2) (T := TX2) (N := 16) hx hb hts (mc_ inX2) hown hK g rfl 3 (by decide) rfl (hts _ (List.mem_cons_of_mem _ t_419)) (fun _ h9 => h9) 11 rfl dX2_readArguments_215 ?_
                        refine lv_bipush (v := 22) hx hb dX2_readArguments_218 (by decide) ?_
                        refine lv_iconst (v := 0) hx hb dX2_readArguments_220 (by decide) ?_
                        have go_ := g
                        refine g_callv (va_runV (As := [.int 22, .int 0]) (rest := []) ⟨hx, hb, hml, hown, hts⟩ (r_X7_emitF l dC dI L kd tys fr_685 H.size g.2.2.2.1 q3_ mq3_ kq3_ a_682 ma_682 ka_682 a_683 ma_683 ka_683 x_687 h_688 T_ hG_686 (22 : Int32) (0 : Int32) (g.fcts [2, 1, 0] rfl)) (cwV 2 hts (gV_ t_1301 t_1204 t_1205 t_191 t_1206) rfl rfl rfl (by decide +kernel) ⟨(Nat.le_of_ble_eq_true rfl), (Nat.le_of_ble_eq_true rfl)⟩) (pre3V g hK mq3_ kq3_ (by decide) (q := (RX7, TX7, 19)) rfl) rfl rfl hl.1 rfl (lv_room (Nat.le_of_ble_eq_true rfl)) dX2_readArguments_221 ⟨(Nat.le_of_ble_eq_true rfl), (Nat.le_of_ble_eq_true rfl)⟩) g hK (by decide) (by decide) (fx' := [(7, 5, q3_, .ref a_683), (7, 4, q3_, .ref a_682), (2, 13, a0_, .int x_681), (8, 6, q0_, .int x_675), (8, 8, q0_, .int x_480), (0, 2, q2_, .ref q3_), (2, 14, a0_, .int x_17), (2, 0, a0_, .ref q0_), (2, 1, a0_, .ref q1_), (2, 2, a0_, .ref q2_), (2, 3, a0_, .ref q3_), (0, 0, q2_, .ref q0_), (0, 1, q2_, .ref q1_), (5, 0, q1_, .ref q3_), (5, 1, q1_, .ref q7_), (2, 12, a0_, .int y0_)]) rfl (fun fr_691 H locs hp hMr_691 g => ?_)
                        obtain ⟨hG_692, x_693, h_694, hF_695⟩ := hp
                        have hG_696 := eOK.frame hMr_691 go_.2.2.2.1 mq2_ kq2_ (by decide) (by decide) hG_690
                        have g := g.more hF_695
                        refine lv_aload_n hx hb dX2_readArguments_224 rfl (lv_at hl 4 rfl) ?_
                        refine g_getk (C := RX2) (T := TX2) (N := 16) hx hb hts (mc_ inX2) hown hK g rfl 0 (by decide) rfl (hts _ (List.mem_cons_of_mem _ t_416)) (fun _ h9 => h9) 8 rfl dX2_readArguments_225 ?_
                        refine lv_bipush (v := 59) hx hb dX2_readArguments_228 (by decide) ?_
                        have go_ := g
                        refine g_callv (va_runV (As := [.int 59]) (rest := []) ⟨hx, hb, hml, hown, hts⟩ (r_X8_take_2 l dC dI L kd tys fr_691 H.size g.2.2.2.1 q0_ mq0_ kq0_ 59 x_675 h_676 x_480 h_481 (g.fcts [4, 5] rfl)) (cwV 1 hts (gV_ t_1098 t_1099 t_1100 t_184 t_1101) rfl rfl rfl (by decide +kernel) ⟨(Nat.le_of_ble_eq_true rfl), (Nat.le_of_ble_eq_true rfl)⟩) (pre3V g hK mq0_ kq0_ (by decide) (q := (RX8, TX8, 10)) rfl) rfl rfl hl.1 rfl (lv_room (Nat.le_of_ble_eq_true rfl)) dX2_readArguments_230 ⟨(Nat.le_of_ble_eq_true rfl), (Nat.le_of_ble_eq_true rfl)⟩) g hK (by decide) (by decide) (fx' := [(7, 6, q3_, .int x_693), (7, 5, q3_, .ref a_683), (7, 4, q3_, .ref a_682), (2, 13, a0_, .int x_681), (8, 8, q0_, .int x_480), (0, 2, q2_, .ref q3_), (2, 14, a0_, .int x_17), (2, 0, a0_, .ref q0_), (2, 1, a0_, .ref q1_), (2, 2, a0_, .ref q2_), (2, 3, a0_, .ref q3_), (0, 0, q2_, .ref q0_), (0, 1, q2_, .ref q1_), (5, 0, q1_, .ref q3_), (5, 1, q1_, .ref q7_), (2, 12, a0_, .int y0_)]) rfl (fun fr_697 H locs hp hMr_697 g => ?_)
                        obtain ⟨x_698, h_699, hF_700⟩ := hp
                        have hG_701 := dOK.frame hMr_697 go_.2.2.2.1 mq3_ kq3_ (by decide) (by decide) hG_692
                        have hG_702 := eOK.frame hMr_697 go_.2.2.2.1 mq2_ kq2_ (by decide) (by decide) hG_696
                        have g := g.more hF_700
                        subst hQ
                        exact W.vret hx hb hr (fun t ht hW => ⟨⟨_, rfl, Or.inr (⟨hG_701, hG_702, x_698, h_699, x_480, h_481, (g.fcts [0, 5] rfl)⟩), q3_of g hK ht hW⟩, g.2.2.1.F ht⟩) g.2.2.1.2.2 dX2_readArguments_233
                      · have fc_680 := nle_f c_680
                        have b_703 : bd (-2147483648) 2147483646 y_661 := ltL fc_680 (bdT y_661) (bdT x_17) (by decide)
                        have b_704 : bd (-2147483647) 2147483647 x_17 := ltR fc_680 (bdT y_661) (bdT x_17) (by decide)
                        refine lv_aload_n hx hb dX2_readArguments_188 rfl (lv_at hl 4 rfl) ?_
                        refine g_getk (C := RX2) (T := TX2) (N := 16) hx hb hts (mc_ inX2) hown hK g rfl 0 (by decide) rfl (hts _ (List.mem_cons_of_mem _ t_416)) (fun _ h9 => h9) 4 rfl dX2_readArguments_189 ?_
                        refine lv_bipush (v := 6) hx hb dX2_readArguments_192 (by decide) ?_
                        refine lv_iload hx hb dX2_readArguments_194 (lv_at hl 0 rfl) ?_
                        have kb_6 : bd 6 6 (6 : Int32) := ⟨by decide, by decide⟩
                        have go_ := g
                        refine g_callv (va_runV (As := [.int 6, .int r_671]) (rest := []) ⟨hx, hb, hml, hown, hts⟩ (r_X8_fail_2 l dC dI L kd tys fr_674 H.size g.2.2.2.1 q0_ mq0_ kq0_ 6 (bd_sub kb_6 (by decide)) r_671 x_480 h_481 (g.fcts [1] rfl)) (cwV 2 hts (gV_ t_1122 t_1107 t_1108 t_184 t_1109) rfl rfl rfl (by decide +kernel) ⟨(Nat.le_of_ble_eq_true rfl), (Nat.le_of_ble_eq_true rfl)⟩) (pre3V g hK mq0_ kq0_ (by decide) (q := (RX8, TX8, 10)) rfl) rfl rfl hl.1 rfl (lv_room (Nat.le_of_ble_eq_true rfl)) dX2_readArguments_196 ⟨(Nat.le_of_ble_eq_true rfl), (Nat.le_of_ble_eq_true rfl)⟩) g hK (by decide) (by decide) (fx' := [(8, 8, q0_, .int x_480), (0, 2, q2_, .ref q3_), (2, 14, a0_, .int x_17), (2, 0, a0_, .ref q0_), (2, 1, a0_, .ref q1_), (2, 2, a0_, .ref q2_), (2, 3, a0_, .ref q3_), (0, 0, q2_, .ref q0_), (0, 1, q2_, .ref q1_), (5, 0, q1_, .ref q3_), (5, 1, q1_, .ref q7_), (2, 12, a0_, .int y0_)]) rfl (fun fr_705 H locs hp hMr_705 g => ?_)
                        have hF_706 := hp
                        have hG_707 := dOK.frame hMr_705 go_.2.2.2.1 mq3_ kq3_ (by decide) (by decide) hG_678
                        have hG_708 := eOK.frame hMr_705 go_.2.2.2.1 mq2_ kq2_ (by decide) (by decide) hG_679
                        have g := g.more hF_706
                        refine lv_aload_n hx hb dX2_readArguments_199 rfl (lv_at hl 4 rfl) ?_
                        refine g_getk (C := RX2) (T := TX2) (N := 16) hx hb hts (mc_ inX2) hown hK g rfl 3 (by decide) rfl (hts _ (List.mem_cons_of_mem _ t_419)) (fun _ h9 => h9) 7 rfl dX2_readArguments_200 ?_
                        refine lv_aload_n hx hb dX2_readArguments_203 rfl (lv_at hl 4 rfl) ?_
                        refine g_getk (C := RX2) (T := TX2) (N := 16) hx hb hts (mc_ inX2) hown hK g rfl 12 (by decide) rfl (hts _ (List.mem_cons_of_mem _ t_428)) (fun _ h9 => h9) 12 rfl dX2_readArguments_204 ?_
                        refine lv_aload_n hx hb dX2_readArguments_207 rfl (lv_at hl 4 rfl) ?_
                        refine g_geti (C := RX2) (T := TX2) (N := 16) hx hb hts (mc_ inX2) hown hK g ma0_ ka0_ (by decide) rfl 13 (by decide) rfl (hts _ (List.mem_cons_of_mem _ t_429)) (fun _ h9 => h9) rfl dX2_readArguments_208 (fun x_709 bx_709 g => ?_)
                        obtain ⟨a_710, ma_710, ka_710, g⟩ := g_factr g mq3_ kq3_ (by decide) 4 rfl
                        obtain ⟨a_711, ma_711, ka_711, g⟩ := g_factr g mq3_ kq3_ (by decide) 5 rfl
                        obtain ⟨x_712, bx_712, g⟩ := g_facti g mq3_ kq3_ (by decide) 6 rfl
                        have go_ := g
                        refine g_callv (va_runV (As := [.int y0_, .int x_709]) (rest := []) ⟨hx, hb, hml, hown, hts⟩ (r_X7_emitF l dC dI L kd tys fr_705 H.size g.2.2.2.1 q3_ mq3_ kq3_ a_710 ma_710 ka_710 a_711 ma_711 ka_711 x_712 bx_712 T_ hG_707 y0_ x_709 (g.fcts [2, 1, 0] rfl)) (cwV 2 hts (gV_ t_1301 t_1204 t_1205 t_191 t_1206) rfl rfl rfl (by decide +kernel) ⟨(Nat.le_of_ble_eq_true rfl), (Nat.le_of_ble_eq_true rfl)⟩) (pre3V g hK mq3_ kq3_ (by decide) (q := (RX7, TX7, 19)) rfl) rfl rfl hl.1 rfl (lv_room (Nat.le_of_ble_eq_true rfl)) dX2_readArguments_211 ⟨(Nat.le_of_ble_eq_true rfl), (Nat.le_of_ble_eq_true rfl)⟩) g hK (by decide) (by decide) (fx' := [(7, 5, q3_, .ref a_711), (7, 4, q3_, .ref a_710), (2, 13, a0_, .int x_709), (8, 6, q0_, .int 1201), (8, 8, q0_, .int x_480), (0, 2, q2_, .ref q3_), (2, 14, a0_, .int x_17), (2, 0, a0_, .ref q0_), (2, 1, a0_, .ref q1_), (2, 2, a0_, .ref q2_), (2, 3, a0_, .ref q3_), (0, 0, q2_, .ref q0_), (0, 1, q2_, .ref q1_), (5, 0, q1_, .ref q3_), (5, 1, q1_, .ref q7_), (2, 12, a0_, .int y0_)]) rfl (fun fr_713 H locs hp hMr_713 g => ?_)
                        obtain ⟨hG_714, x_715, h_716, hF_717⟩ := hp
                        have hG_718 := eOK.frame hMr_713 go_.2.2.2.1 mq2_ kq2_ (by decide) (by decide) hG_708
                        have g := g.more hF_717
                        refine lv_aload_n hx hb dX2_readArguments_214 rfl (lv_at hl 4 rfl) ?_
                        refine g_getk (C := RX2) (T := TX2) (N := 16) hx hb hts (mc_ inX2) hown hK g rfl 3 (by decide) rfl (hts _ (List.mem_cons_of_mem _ t_419)) (fun _ h9 => h9) 11 rfl dX2_readArguments_215 ?_
                        refine lv_bipush (v := 22) hx hb dX2_readArguments_218 (by decide) ?_
                        refine lv_iconst (v := 0) hx hb dX2_readArguments_220 (by decide) ?_
                        have go_ := g
                        refine g_callv (va_runV (As := [.int 22, .int 0]) (rest := []) ⟨hx, hb, hml, hown, hts⟩ (r_X7_emitF l dC dI L kd tys fr_713 H.size g.2.2.2.1 q3_ mq3_ kq3_ a_710 ma_710 ka_710 a_711 ma_711 ka_711 x_715 h_716 T_ hG_714 (22 : Int32) (0 : Int32) (g.fcts [2, 1, 0] rfl)) (cwV 2 hts (gV_ t_1301 t_1204 t_1205 t_191 t_1206) rfl rfl rfl (by decide +kernel) ⟨(Nat.le_of_ble_eq_true rfl), (Nat.le_of_ble_eq_true rfl)⟩) (pre3V g hK mq3_ kq3_ (by decide) (q := (RX7, TX7, 19)) rfl) rfl rfl hl.1 rfl (lv_room (Nat.le_of_ble_eq_true rfl)) dX2_readArguments_221 ⟨(Nat.le_of_ble_eq_true rfl), (Nat.le_of_ble_eq_true rfl)⟩) g hK (by decide) (by decide) (fx' := [(7, 5, q3_, .ref a_711), (7, 4, q3_, .ref a_710), (2, 13, a0_, .int x_709), (8, 6, q0_, .int 1201), (8, 8, q0_, .int x_480), (0, 2, q2_, .ref q3_), (2, 14, a0_, .int x_17), (2, 0, a0_, .ref q0_), (2, 1, a0_, .ref q1_), (2, 2, a0_, .ref q2_), (2, 3, a0_, .ref q3_), (0, 0, q2_, .ref q0_), (0, 1, q2_, .ref q1_), (5, 0, q1_, .ref q3_), (5, 1, q1_, .ref q7_), (2, 12, a0_, .int y0_)]) rfl (fun fr_719 H locs hp hMr_719 g => ?_)
                        obtain ⟨hG_720, x_721, h_722, hF_723⟩ := hp
                        have hG_724 := eOK.frame hMr_719 go_.2.2.2.1 mq2_ kq2_ (by decide) (by decide) hG_718
                        have g := g.more hF_723
                        refine lv_aload_n hx hb dX2_readArguments_224 rfl (lv_at hl 4 rfl) ?_
                        refine g_getk (C := RX2) (T := TX2) (N := 16) hx hb hts (mc_ inX2) hown hK g rfl 0 (by decide) rfl (hts _ (List.mem_cons_of_mem _ t_416)) (fun _ h9 => h9) 8 rfl dX2_readArguments_225 ?_
                        refine lv_bipush (v := 59) hx hb dX2_readArguments_228 (by decide) ?_
                        have kb_1201 : bd 1201 1201 (1201 : Int32) := ⟨by decide, by decide⟩
                        have go_ := g
                        refine g_callv (va_runV (As := [.int 59]) (rest := []) ⟨hx, hb, hml, hown, hts⟩ (r_X8_take_2 l dC dI L kd tys fr_719 H.size g.2.2.2.1 q0_ mq0_ kq0_ 59 1201 kb_1201 x_480 h_481 (g.fcts [4, 5] rfl)) (cwV 1 hts (gV_ t_1098 t_1099 t_1100 t_184 t_1101) rfl rfl rfl (by decide +kernel) ⟨(Nat.le_of_ble_eq_true rfl), (Nat.le_of_ble_eq_true rfl)⟩) (pre3V g hK mq0_ kq0_ (by decide) (q := (RX8, TX8, 10)) rfl) rfl rfl hl.1 rfl (lv_room (Nat.le_of_ble_eq_true rfl)) dX2_readArguments_230 ⟨(Nat.le_of_ble_eq_true rfl), (Nat.le_of_ble_eq_true rfl)⟩) g hK (by decide) (by decide) (fx' := [(7, 6, q3_, .int x_721), (7, 5, q3_, .ref a_711), (7, 4, q3_, .ref a_710), (2, 13, a0_, .int x_709), (8, 8, q0_, .int x_480), (0, 2, q2_, .ref q3_), (2, 14, a0_, .int x_17), (2, 0, a0_, .ref q0_), (2, 1, a0_, .ref q1_), (2, 2, a0_, .ref q2_), (2, 3, a0_, .ref q3_), (0, 0, q2_, .ref q0_), (0, 1, q2_, .ref q1_), (5, 0, q1_, .ref q3_), (5, 1, q1_, .ref q7_), (2, 12, a0_, .int y0_)]) rfl (fun fr_725 H locs hp hMr_725 g => ?_)
                        obtain ⟨x_726, h_727, hF_728⟩ := hp
                        have hG_729 := dOK.frame hMr_725 go_.2.2.2.1 mq3_ kq3_ (by decide) (by decide) hG_720
                        have hG_730 := eOK.frame hMr_725 go_.2.2.2.1 mq2_ kq2_ (by decide) (by decide) hG_724
                        have g := g.more hF_728
                        subst hQ
                        exact W.vret hx hb hr (fun t ht hW => ⟨⟨_, rfl, Or.inr (⟨hG_729, hG_730, x_726, h_727, x_480, h_481, (g.fcts [0, 5] rfl)⟩), q3_of g hK ht hW⟩, g.2.2.1.F ht⟩) g.2.2.1.2.2 dX2_readArguments_233
                    · have fc_668 := nlt_f c_668
                      have b_731 : bd 1 3 y_666 := leL fc_668 b_667 kb_3 (by decide)
                      have b_732 : bd 0 2 v69_4 := add_inv ty_666 b_731 b_319 kb_1 (by decide)
                      refine lv_iload_n hx hb dX2_readArguments_75 rfl (lv_at hl 1 rfl) ?_
                      refine lv_if_eq (tgt := 162) hx hb dX2_readArguments_76 (by decide) (fun c_ => ?_) (fun c_ => absurd (by decide) c_)
                      refine lv_aload_n hx hb dX2_readArguments_162 rfl (lv_at hl 4 rfl) ?_
                      refine g_getk (C := RX2) (T := TX2) (N := 16) hx hb hts (mc_ inX2) hown hK g rfl 0 (by decide) rfl (hts _ (List.mem_cons_of_mem _ t_416)) (fun _ h9 => h9) 4 rfl dX2_readArguments_163 ?_
                      have go_ := g
                      refine g_calli (va_runV (As := []) (rest := []) ⟨hx, hb, hml, hown, hts⟩ (r_X8_place l dC dI L kd tys fr_662 H.size g.2.2.2.1 q0_ mq0_ kq0_) (cwV 0 hts (gV_ t_1110 t_1111 t_1112 t_184 t_1113) rfl rfl rfl (by decide +kernel) ⟨(Nat.le_of_ble_eq_true rfl), (Nat.le_of_ble_eq_true rfl)⟩) (pre3V g hK mq0_ kq0_ (by decide) (q := (RX8, TX8, 10)) rfl) rfl rfl hl.1 rfl (lv_room (Nat.le_of_ble_eq_true rfl)) dX2_readArguments_166 ⟨(Nat.le_of_ble_eq_true rfl), (Nat.le_of_ble_eq_true rfl)⟩) g hK (by decide) (by decide) (fx' := [(8, 6, q0_, .int x_478), (8, 8, q0_, .int x_480), (0, 2, q2_, .ref q3_), (2, 14, a0_, .int x_17), (2, 0, a0_, .ref q0_), (2, 1, a0_, .ref q1_), (2, 2, a0_, .ref q2_), (2, 3, a0_, .ref q3_), (0, 0, q2_, .ref q0_), (0, 1, q2_, .ref q1_), (5, 0, q1_, .ref q3_), (5, 1, q1_, .ref q7_), (2, 12, a0_, .int y0_)]) rfl (fun r_733 fr_733 H locs hp hMr_733 g => ?_)
                      have hG_734 := dOK.frame hMr_733 go_.2.2.2.1 mq3_ kq3_ (by decide) (by decide) hG_664
                      have hG_735 := eOK.frame hMr_733 go_.2.2.2.1 mq2_ kq2_ (by decide) (by decide) hG_665
                      refine lv_istore (lv' := [(4, .int r_733), (3, .int 0), (2, .int y_661), (1, .int r_1), (0, .ref a0_)]) hx hb dX2_readArguments_169 hl (by decide) rfl (fun ls hl => ?_)
                      refine lv_aload_n hx hb dX2_readArguments_171 rfl (lv_at hl 4 rfl) ?_
                      refine g_getk (C := RX2) (T := TX2) (N := 16) hx hb hts (mc_ inX2) hown hK g rfl 0 (by decide) rfl (hts _ (List.mem_cons_of_mem _ t_416)) (fun _ h9 => h9) 4 rfl dX2_readArguments_172 ?_
                      refine lv_bipush (v := 41) hx hb dX2_readArguments_175 (by decide) ?_
                      have go_ := g
                      refine g_callv (va_runV (As := [.int 41]) (rest := []) ⟨hx, hb, hml, hown, hts⟩ (r_X8_take_2 l dC dI L kd tys fr_733 H.size g.2.2.2.1 q0_ mq0_ kq0_ 41 x_478 h_479 x_480 h_481 (g.fcts [0, 1] rfl)) (cwV 1 hts (gV_ t_1098 t_1099 t_1100 t_184 t_1101) rfl rfl rfl (by decide +kernel) ⟨(Nat.le_of_ble_eq_true rfl), (Nat.le_of_ble_eq_true rfl)⟩) (pre3V g hK mq0_ kq0_ (by decide) (q := (RX8, TX8, 10)) rfl) rfl rfl hl.1 rfl (lv_room (Nat.le_of_ble_eq_true rfl)) dX2_readArguments_177 ⟨(Nat.le_of_ble_eq_true rfl), (Nat.le_of_ble_eq_true rfl)⟩) g hK (by decide) (by decide) (fx' := [(8, 8, q0_, .int x_480), (0, 2, q2_, .ref q3_), (2, 14, a0_, .int x_17), (2, 0, a0_, .ref q0_), (2, 1, a0_, .ref q1_), (2, 2, a0_, .ref q2_), (2, 3, a0_, .ref q3_), (0, 0, q2_, .ref q0_), (0, 1, q2_, .ref q1_), (5, 0, q1_, .ref q3_), (5, 1, q1_, .ref q7_), (2, 12, a0_, .int y0_)]) rfl (fun fr_736 H locs hp hMr_736 g => ?_)
                      obtain ⟨x_737, h_738, hF_739⟩ := hp
                      have hG_740 := dOK.frame hMr_736 go_.2.2.2.1 mq3_ kq3_ (by decide) (by decide) hG_734
                      have hG_741 := eOK.frame hMr_736 go_.2.2.2.1 mq2_ kq2_ (by decide) (by decide) hG_735
                      have g := g.more hF_739
                      refine lv_iload_n hx hb dX2_readArguments_180 rfl (lv_at hl 2 rfl) ?_
                      refine lv_aload_n hx hb dX2_readArguments_181 rfl (lv_at hl 4 rfl) ?_
                      refine g_getk (C := RX2) (T := TX2) (N := 16) hx hb hts (mc_ inX2) hown hK g rfl 14 (by decide) rfl (hts _ (List.mem_cons_of_mem _ t_430)) (fun _ h9 => h9) 3 rfl dX2_readArguments_182 ?_
                      refine lv_icmp_ge (tgt := 199) hx hb dX2_readArguments_185 (by decide) (fun c_742 => ?_) (fun c_742 => ?_)
                      · have fc_742 := le_f c_742
                        refine lv_aload_n hx hb dX2_readArguments_199 rfl (lv_at hl 4 rfl) ?_
                        refine g_getk (C := RX2) (T := TX2) (N := 16) hx hb hts (mc_ inX2) hown hK g rfl 3 (by decide) rfl (hts _ (List.mem_cons_of_mem _ t_419)) (fun _ h9 => h9) 7 rfl dX2_readArguments_200 ?_
                        refine lv_aload_n hx hb dX2_readArguments_203 rfl (lv_at hl 4 rfl) ?_
                        refine g_getk (C := RX2) (T := TX2) (N := 16) hx hb hts (mc_ inX2) hown hK g rfl 12 (by decide) rfl (hts _ (List.mem_cons_of_mem _ t_428)) (fun _ h9 => h9) 12 rfl dX2_readArguments_204 ?_
                        refine lv_aload_n hx hb dX2_readArguments_207 rfl (lv_at hl 4 rfl) ?_
                        refine g_geti (C := RX2) (T := TX2) (N := 16) hx hb hts (mc_ inX2) hown hK g ma0_ ka0_ (by decide) rfl 13 (by decide) rfl (hts _ (List.mem_cons_of_mem _ t_429)) (fun _ h9 => h9) rfl dX2_readArguments_208 (fun x_743 bx_743 g => ?_)
                        obtain ⟨a_744, ma_744, ka_744, g⟩ := g_factr g mq3_ kq3_ (by decide) 4 rfl
                        obtain ⟨a_745, ma_745, ka_745, g⟩ := g_factr g mq3_ kq3_ (by decide) 5 rfl
                        obtain ⟨x_746, bx_746, g⟩ := g_facti g mq3_ kq3_ (by decide) 6 rfl
                        have go_ := g
                        refine g_callv (va_runV (As := [.int y0_, .int x_743]) (rest := []) ⟨hx, hb, hml, hown, hts⟩ (r_X7_emitF l dC dI L kd tys fr_736 H.size g.2.2.2.1 q3_ mq3_ kq3_ a_744 ma_744 ka_744 a_745 ma_745 ka_745 x_746 bx_746 T_ hG_740 y0_ x_743 (g.fcts [2, 1, 0] rfl)) (cwV 2 hts (gV_ t_1301 t_1204 t_1205 t_191 t_1206) rfl rfl rfl (by decide +kernel) ⟨(Nat.le_of_ble_eq_true rfl), (Nat.le_of_ble_eq_true rfl)⟩) (pre3V g hK mq3_ kq3_ (by decide) (q := (RX7, TX7, 19)) rfl) rfl rfl hl.1 rfl (lv_room (Nat.le_of_ble_eq_true rfl)) dX2_readArguments_211 ⟨(Nat.le_of_ble_eq_true rfl), (Nat.le_of_ble_eq_true rfl)⟩) g hK (by decide) (by decide) (fx' := [(7, 5, q3_, .ref a_745), (7, 4, q3_, .ref a_744), (2, 13, a0_, .int x_743), (8, 6, q0_, .int x_737), (8, 8, q0_, .int x_480), (0, 2, q2_, .ref q3_), (2, 14, a0_, .int x_17), (2, 0, a0_, .ref q0_), (2, 1, a0_, .ref q1_), (2, 2, a0_, .ref q2_), (2, 3, a0_, .ref q3_), (0, 0, q2_, .ref q0_), (0, 1, q2_, .ref q1_), (5, 0, q1_, .ref q3_), (5, 1, q1_, .ref q7_), (2, 12, a0_, .int y0_)]) rfl (fun fr_747 H locs hp hMr_747 g => ?_)
                        obtain ⟨hG_748, x_749, h_750, hF_751⟩ := hp
                        have hG_752 := eOK.frame hMr_747 go_.2.2.2.1 mq2_ kq2_ (by decide) (by decide) hG_741
                        have g := g.more hF_751
                        refine lv_aload_n hx hb dX2_readArguments_214 rfl (lv_at hl 4 rfl) ?_
                        refine g_getk (C := RX2) (T := TX2) (N := 16) hx hb hts (mc_ inX2) hown hK g rfl 3 (by decide) rfl (hts _ (List.mem_cons_of_mem _ t_419)) (fun _ h9 => h9) 11 rfl dX2_readArguments_215 ?_
                        refine lv_bipush (v := 22) hx hb dX2_readArguments_218 (by decide) ?_
                        refine lv_iconst (v := 0) hx hb dX2_readArguments_220 (by decide) ?_
                        have go_ := g
                        refine g_callv (va_runV (As := [.int 22, .int 0]) (rest := []) ⟨hx, hb, hml, hown, hts⟩ (r_X7_emitF l dC dI L kd tys fr_747 H.size g.2.2.2.1 q3_ mq3_ kq3_ a_744 ma_744 ka_744 a_745 ma_745 ka_745 x_749 h_750 T_ hG_748 (22 : Int32) (0 : Int32) (g.fcts [2, 1, 0] rfl)) (cwV 2 hts (gV_ t_1301 t_1204 t_1205 t_191 t_1206) rfl rfl rfl (by decide +kernel) ⟨(Nat.le_of_ble_eq_true rfl), (Nat.le_of_ble_eq_true rfl)⟩) (pre3V g hK mq3_ kq3_ (by decide) (q := (RX7, TX7, 19)) rfl) rfl rfl hl.1 rfl (lv_room (Nat.le_of_ble_eq_true rfl)) dX2_readArguments_221 ⟨(Nat.le_of_ble_eq_true rfl), (Nat.le_of_ble_eq_true rfl)⟩) g hK (by decide) (by decide) (fx' := [(7, 5, q3_, .ref a_745), (7, 4, q3_, .ref a_744), (2, 13, a0_, .int x_743), (8, 6, q0_, .int x_737), (8, 8, q0_, .int x_480), (0, 2, q2_, .ref q3_), (2, 14, a0_, .int x_17), (2, 0, a0_, .ref q0_), (2, 1, a0_, .ref q1_), (2, 2, a0_, .ref q2_), (2, 3, a0_, .ref q3_), (0, 0, q2_, .ref q0_), (0, 1, q2_, .ref q1_), (5, 0, q1_, .ref q3_), (5, 1, q1_, .ref q7_), (2, 12, a0_, .int y0_)]) rfl (fun fr_753 H locs hp hMr_753 g => ?_)
                        obtain ⟨hG_754, x_755, h_756, hF_757⟩ := hp
                        have hG_758 := eOK.frame hMr_753 go_.2.2.2.1 mq2_ kq2_ (by decide) (by decide) hG_752
                        have g := g.more hF_757
                        refine lv_aload_n hx hb dX2_readArguments_224 rfl (lv_at hl 4 rfl) ?_
                        refine g_getk (C := RX2) (T := TX2) (N := 16) hx hb hts (mc_ inX2) hown hK g rfl 0 (by decide) rfl (hts _ (List.mem_cons_of_mem _ t_416)) (fun _ h9 => h9) 8 rfl dX2_readArguments_225 ?_
                        refine lv_bipush (v := 59) hx hb dX2_readArguments_228 (by decide) ?_
                        have go_ := g
                        refine g_callv (va_runV (As := [.int 59]) (rest := []) ⟨hx, hb, hml, hown, hts⟩ (r_X8_take_2 l dC dI L kd tys fr_753 H.size g.2.2.2.1 q0_ mq0_ kq0_ 59 x_737 h_738 x_480 h_481 (g.fcts [4, 5] rfl)) (cwV 1 hts (gV_ t_1098 t_1099 t_1100 t_184 t_1101) rfl rfl rfl (by decide +kernel) ⟨(Nat.le_of_ble_eq_true rfl), (Nat.le_of_ble_eq_true rfl)⟩) (pre3V g hK mq0_ kq0_ (by decide) (q := (RX8, TX8, 10)) rfl) rfl rfl hl.1 rfl (lv_room (Nat.le_of_ble_eq_true rfl)) dX2_readArguments_230 ⟨(Nat.le_of_ble_eq_true rfl), (Nat.le_of_ble_eq_true rfl)⟩) g hK (by decide) (by decide) (fx' := [(7, 6, q3_, .int x_755), (7, 5, q3_, .ref a_745), (7, 4, q3_, .ref a_744), (2, 13, a0_, .int x_743), (8, 8, q0_, .int x_480), (0, 2, q2_, .ref q3_), (2, 14, a0_, .int x_17), (2, 0, a0_, .ref q0_), (2, 1, a0_, .ref q1_), (2, 2, a0_, .ref q2_), (2, 3, a0_, .ref q3_), (0, 0, q2_, .ref q0_), (0, 1, q2_, .ref q1_), (5, 0, q1_, .ref q3_), (5, 1, q1_, .ref q7_), (2, 12, a0_, .int y0_)]) rfl (fun fr_759 H locs hp hMr_759 g => ?_)
                        obtain ⟨x_760, h_761, hF_762⟩ := hp
                        have hG_763 := dOK.frame hMr_759 go_.2.2.2.1 mq3_ kq3_ (by decide) (by decide) hG_754
                        have hG_764 := eOK.frame hMr_759 go_.2.2.2.1 mq2_ kq2_ (by decide) (by decide) hG_758
                        have g := g.more hF_762
                        subst hQ
                        exact W.vret hx hb hr (fun t ht hW => ⟨⟨_, rfl, Or.inr (⟨hG_763, hG_764, x_760, h_761, x_480, h_481, (g.fcts [0, 5] rfl)⟩), q3_of g hK ht hW⟩, g.2.2.1.F ht⟩) g.2.2.1.2.2 dX2_readArguments_233
                      · have fc_742 := nle_f c_742
                        have b_765 : bd (-2147483648) 2147483646 y_661 := ltL fc_742 (bdT y_661) (bdT x_17) (by decide)
                        have b_766 : bd (-2147483647) 2147483647 x_17 := ltR fc_742 (bdT y_661) (bdT x_17) (by decide)
                        refine lv_aload_n hx hb dX2_readArguments_188 rfl (lv_at hl 4 rfl) ?_
                        refine g_getk (C := RX2) (T := TX2) (N := 16) hx hb hts (mc_ inX2) hown hK g rfl 0 (by decide) rfl (hts _ (List.mem_cons_of_mem _ t_416)) (fun _ h9 => h9) 4 rfl dX2_readArguments_189 ?_
                        refine lv_bipush (v := 6) hx hb dX2_readArguments_192 (by decide) ?_
                        refine lv_iload hx hb dX2_readArguments_194 (lv_at hl 0 rfl) ?_
                        have kb_6 : bd 6 6 (6 : Int32) := ⟨by decide, by decide⟩
                        have go_ := g
                        refine g_callv (va_runV (As := [.int 6, .int r_733]) (rest := []) ⟨hx, hb, hml, hown, hts⟩ (r_X8_fail_2 l dC dI L kd tys fr_736 H.size g.2.2.2.1 q0_ mq0_ kq0_ 6 (bd_sub kb_6 (by decide)) r_733 x_480 h_481 (g.fcts [1] rfl)) (cwV 2 hts (gV_ t_1122 t_1107 t_1108 t_184 t_1109) rfl rfl rfl (by decide +kernel) ⟨(Nat.le_of_ble_eq_true rfl), (Nat.le_of_ble_eq_true rfl)⟩) (pre3V g hK mq0_ kq0_ (by decide) (q := (RX8, TX8, 10)) rfl) rfl rfl hl.1 rfl (lv_room (Nat.le_of_ble_eq_true rfl)) dX2_readArguments_196 ⟨(Nat.le_of_ble_eq_true rfl), (Nat.le_of_ble_eq_true rfl)⟩) g hK (by decide) (by decide) (fx' := [(8, 8, q0_, .int x_480), (0, 2, q2_, .ref q3_), (2, 14, a0_, .int x_17), (2, 0, a0_, .ref q0_), (2, 1, a0_, .ref q1_), (2, 2, a0_, .ref q2_), (2, 3, a0_, .ref q3_), (0, 0, q2_, .ref q0_), (0, 1, q2_, .ref q1_), (5, 0, q1_, .ref q3_), (5, 1, q1_, .ref q7_), (2, 12, a0_, .int y0_)]) rfl (fun fr_767 H locs hp hMr_767 g => ?_)
                        have hF_768 := hp
                        have hG_769 := dOK.frame hMr_767 go_.2.2.2.1 mq3_ kq3_ (by decide) (by decide) hG_740
                        have hG_770 := eOK.frame hMr_767 go_.2.2.2.1 mq2_ kq2_ (by decide) (by decide) hG_741
                        have g := g.more hF_768
                        refine lv_aload_n hx hb dX2_readArguments_199 rfl (lv_at hl 4 rfl) ?_
                        refine g_getk (C := RX2) (T := TX2) (N := 16) hx hb hts (mc_ inX2) hown hK g rfl 3 (by decide) rfl (hts _ (List.mem_cons_of_mem _ t_419)) (fun _ h9 => h9) 7 rfl dX2_readArguments_200 ?_
                        refine lv_aload_n hx hb dX2_readArguments_203 rfl (lv_at hl 4 rfl) ?_
                        refine g_getk (C := RX2) (T := TX2) (N := 16) hx hb hts (mc_ inX2) hown hK g rfl 12 (by decide) rfl (hts _ (List.mem_cons_of_mem _ t_428)) (fun _ h9 => h9) 12 rfl dX2_readArguments_204 ?_
                        refine lv_aload_n hx hb dX2_readArguments_207 rfl (lv_at hl 4 rfl) ?_
                        refine g_geti (C := RX2) (T := TX2) (N := 16) hx hb hts (mc_ inX2) hown hK g ma0_ ka0_ (by decide) rfl 13 (by decide) rfl (hts _ (List.mem_cons_of_mem _ t_429)) (fun _ h9 => h9) rfl dX2_readArguments_208 (fun x_771 bx_771 g => ?_)
                        obtain ⟨a_772, ma_772, ka_772, g⟩ := g_factr g mq3_ kq3_ (by decide) 4 rfl
                        obtain ⟨a_773, ma_773, ka_773, g⟩ := g_factr g mq3_ kq3_ (by decide) 5 rfl
                        obtain ⟨x_774, bx_774, g⟩ := g_facti g mq3_ kq3_ (by decide) 6 rfl
                        have go_ := g
                        refine g_callv (va_runV (As := [.int y0_, .int x_771]) (rest := []) ⟨hx, hb, hml, hown, hts⟩ (r_X7_emitF l dC dI L kd tys fr_767 H.size g.2.2.2.1 q3_ mq3_ kq3_ a_772 ma_772 ka_772 a_773 ma_773 ka_773 x_774 bx_774 T_ hG_769 y0_ x_771 (g.fcts [2, 1, 0] rfl)) (cwV 2 hts (gV_ t_1301 t_1204 t_1205 t_191 t_1206) rfl rfl rfl (by decide +kernel) ⟨(Nat.le_of_ble_eq_true rfl), (Nat.le_of_ble_eq_true rfl)⟩) (pre3V g hK mq3_ kq3_ (by decide) (q := (RX7, TX7, 19)) rfl) rfl rfl hl.1 rfl (lv_room (Nat.le_of_ble_eq_true rfl)) dX2_readArguments_211 ⟨(Nat.le_of_ble_eq_true rfl), (Nat.le_of_ble_eq_true rfl)⟩) g hK (by decide) (by decide) (fx' := [(7, 5, q3_, .ref a_773), (7, 4, q3_, .ref a_772), (2, 13, a0_, .int x_771), (8, 6, q0_, .int 1201), (8, 8, q0_, .int x_480), (0, 2, q2_, .ref q3_), (2, 14, a0_, .int x_17), (2, 0, a0_, .ref q0_), (2, 1, a0_, .ref q1_), (2, 2, a0_, .ref q2_), (2, 3, a0_, .ref q3_), (0, 0, q2_, .ref q0_), (0, 1, q2_, .ref q1_), (5, 0, q1_, .ref q3_), (5, 1, q1_, .ref q7_), (2, 12, a0_, .int y0_)]) rfl (fun fr_775 H locs hp hMr_775 g => ?_)
                        obtain ⟨hG_776, x_777, h_778, hF_779⟩ := hp
                        have hG_780 := eOK.frame hMr_775 go_.2.2.2.1 mq2_ kq2_ (by decide) (by decide) hG_770
                        have g := g.more hF_779
                        refine lv_aload_n hx hb dX2_readArguments_214 rfl (lv_at hl 4 rfl) ?_
                        refine g_getk (C := RX2) (T := TX2) (N := 16) hx hb hts (mc_ inX2) hown hK g rfl 3 (by decide) rfl (hts _ (List.mem_cons_of_mem _ t_419)) (fun _ h9 => h9) 11 rfl dX2_readArguments_215 ?_
                        refine lv_bipush (v := 22) hx hb dX2_readArguments_218 (by decide) ?_
                        refine lv_iconst (v := 0) hx hb dX2_readArguments_220 (by decide) ?_
                        have go_ := g
                        refine g_callv (va_runV (As := [.int 22, .int 0]) (rest := []) ⟨hx, hb, hml, hown, hts⟩ (r_X7_emitF l dC dI L kd tys fr_775 H.size g.2.2.2.1 q3_ mq3_ kq3_ a_772 ma_772 ka_772 a_773 ma_773 ka_773 x_777 h_778 T_ hG_776 (22 : Int32) (0 : Int32) (g.fcts [2, 1, 0] rfl)) (cwV 2 hts (gV_ t_1301 t_1204 t_1205 t_191 t_1206) rfl rfl rfl (by decide +kernel) ⟨(Nat.le_of_ble_eq_true rfl), (Nat.le_of_ble_eq_true rfl)⟩) (pre3V g hK mq3_ kq3_ (by decide) (q := (RX7, TX7, 19)) rfl) rfl rfl hl.1 rfl (lv_room (Nat.le_of_ble_eq_true rfl)) dX2_readArguments_221 ⟨(Nat.le_of_ble_eq_true rfl), (Nat.le_of_ble_eq_true rfl)⟩) g hK (by decide) (by decide) (fx' := [(7, 5, q3_, .ref a_773), (7, 4, q3_, .ref a_772), (2, 13, a0_, .int x_771), (8, 6, q0_, .int 1201), (8, 8, q0_, .int x_480), (0, 2, q2_, .ref q3_), (2, 14, a0_, .int x_17), (2, 0, a0_, .ref q0_), (2, 1, a0_, .ref q1_), (2, 2, a0_, .ref q2_), (2, 3, a0_, .ref q3_), (0, 0, q2_, .ref q0_), (0, 1, q2_, .ref q1_), (5, 0, q1_, .ref q3_), (5, 1, q1_, .ref q7_), (2, 12, a0_, .int y0_)]) rfl (fun fr_781 H locs hp hMr_781 g => ?_)
                        obtain ⟨hG_782, x_783, h_784, hF_785⟩ := hp
                        have hG_786 := eOK.frame hMr_781 go_.2.2.2.1 mq2_ kq2_ (by decide) (by decide) hG_780
                        have g := g.more hF_785
                        refine lv_aload_n hx hb dX2_readArguments_224 rfl (lv_at hl 4 rfl) ?_
                        refine g_getk (C := RX2) (T := TX2) (N := 16) hx hb hts (mc_ inX2) hown hK g rfl 0 (by decide) rfl (hts _ (List.mem_cons_of_mem _ t_416)) (fun _ h9 => h9) 8 rfl dX2_readArguments_225 ?_
                        refine lv_bipush (v := 59) hx hb dX2_readArguments_228 (by decide) ?_
                        have kb_1201 : bd 1201 1201 (1201 : Int32) := ⟨by decide, by decide⟩
                        have go_ := g
                        refine g_callv (va_runV (As := [.int 59]) (rest := []) ⟨hx, hb, hml, hown, hts⟩ (r_X8_take_2 l dC dI L kd tys fr_781 H.size g.2.2.2.1 q0_ mq0_ kq0_ 59 1201 kb_1201 x_480 h_481 (g.fcts [4, 5] rfl)) (cwV 1 hts (gV_ t_1098 t_1099 t_1100 t_184 t_1101) rfl rfl rfl (by decide +kernel) ⟨(Nat.le_of_ble_eq_true rfl), (Nat.le_of_ble_eq_true rfl)⟩) (pre3V g hK mq0_ kq0_ (by decide) (q := (RX8, TX8, 10)) rfl) rfl rfl hl.1 rfl (lv_room (Nat.le_of_ble_eq_true rfl)) dX2_readArguments_230 ⟨(Nat.le_of_ble_eq_true rfl), (Nat.le_of_ble_eq_true rfl)⟩) g hK (by decide) (by decide) (fx' := [(7, 6, q3_, .int x_783), (7, 5, q3_, .ref a_773), (7, 4, q3_, .ref a_772), (2, 13, a0_, .int x_771), (8, 8, q0_, .int x_480), (0, 2, q2_, .ref q3_), (2, 14, a0_, .int x_17), (2, 0, a0_, .ref q0_), (2, 1, a0_, .ref q1_), (2, 2, a0_, .ref q2_), (2, 3, a0_, .ref q3_), (0, 0, q2_, .ref q0_), (0, 1, q2_, .ref q1_), (5, 0, q1_, .ref q3_), (5, 1, q1_, .ref q7_), (2, 12, a0_, .int y0_)]) rfl (fun fr_787 H locs hp hMr_787 g => ?_)
                        obtain ⟨x_788, h_789, hF_790⟩ := hp
                        have hG_791 := dOK.frame hMr_787 go_.2.2.2.1 mq3_ kq3_ (by decide) (by decide) hG_782
                        have hG_792 := eOK.frame hMr_787 go_.2.2.2.1 mq2_ kq2_ (by decide) (by decide) hG_786
                        have g := g.more hF_790
                        subst hQ
                        exact W.vret hx hb hr (fun t ht hW => ⟨⟨_, rfl, Or.inr (⟨hG_791, hG_792, x_788, h_789, x_480, h_481, (g.fcts [0, 5] rfl)⟩), q3_of g hK ht hW⟩, g.2.2.1.F ht⟩) g.2.2.1.2.2 dX2_readArguments_233
        have kb_1 : bd 1 1 (1 : Int32) := ⟨by decide, by decide⟩
        have hl9 := lv_sub hl [0, 1, 2, 3, 4] (by rfl : lv_pick [(4, .int 0), (3, .int 1), (2, .int 0), (1, .int r_1), (0, .ref a0_)] [0, 1, 2, 3, 4] = [(4, .int 0), (3, .int 1), (2, .int 0), (1, .int r_1), (0, .ref a0_)])
        have g9 := g.sub (fx' := [(2, 14, a0_, .int x_17), (8, 8, q0_, .int y1_), (2, 0, a0_, .ref q0_), (2, 1, a0_, .ref q1_), (2, 2, a0_, .ref q2_), (2, 3, a0_, .ref q3_), (0, 0, q2_, .ref q0_), (0, 1, q2_, .ref q1_), (5, 0, q1_, .ref q3_), (5, 1, q1_, .ref q7_), (2, 12, a0_, .int y0_)]) [0, 2, 3, 4, 5, 6, 7, 8, 9, 10, 11] rfl
        exact loop_171 (11) 0 1 0 (bd_sub kb_0 (by decide)) (bd_sub kb_1 (by decide)) (by have h9_0 := h_8; unfold bd at h9_0; have h9_1 := kb_0; unfold bd at h9_1; have h9_2 := kb_1; unfold bd at h9_2; have h9_3 := kb_41; unfold bd at h9_3; omega) _ _ _ _ g9 hG_20 hG_21 hG_22 hG_23 hl9
    · have fc_18 := eq_f c_18
      have b_793 : bd 0 0 x_17 := eqX fc_18 (bdT x_17) kb_0 (by decide)
      refine lv_aload_n hx hb dX2_readArguments_24 rfl (lv_at hl 1 rfl) ?_
      refine g_getk (C := RX2) (T := TX2) (N := 16) hx hb hts (mc_ inX2) hown hK g rfl 0 (by decide) rfl (hts _ (List.mem_cons_of_mem _ t_416)) (fun _ h9 => h9) 3 rfl dX2_readArguments_25 ?_
      have go_ := g
      refine g_calli (va_runV (As := []) (rest := []) ⟨hx, hb, hml, hown, hts⟩ (r_X8_kind l dC dI L kd tys fr_6 H.size g.2.2.2.1 q0_ mq0_ kq0_) (cwV 0 hts (gV_ t_1118 t_1119 t_1120 t_184 t_1121) rfl rfl rfl (by decide +kernel) ⟨(Nat.le_of_ble_eq_true rfl), (Nat.le_of_ble_eq_true rfl)⟩) (pre3V g hK mq0_ kq0_ (by decide) (q := (RX8, TX8, 10)) rfl) rfl rfl hl.1 rfl (lv_room (Nat.le_of_ble_eq_true rfl)) dX2_readArguments_28 ⟨(Nat.le_of_ble_eq_true rfl), (Nat.le_of_ble_eq_true rfl)⟩) g hK (by decide) (by decide) (fx' := [(2, 14, a0_, .int x_17), (8, 6, q0_, .int x_7), (8, 8, q0_, .int y1_), (2, 0, a0_, .ref q0_), (2, 1, a0_, .ref q1_), (2, 2, a0_, .ref q2_), (2, 3, a0_, .ref q3_), (0, 0, q2_, .ref q0_), (0, 1, q2_, .ref q1_), (5, 0, q1_, .ref q3_), (5, 1, q1_, .ref q7_), (2, 12, a0_, .int y0_)]) rfl (fun r_794 fr_794 H locs hp hMr_794 g => ?_)
      have hG_795 := cOK.frame hMr_794 go_.2.2.2.1 mq3_ kq3_ (by decide) (by decide) hG_13
      have hG_796 := dOK.frame hMr_794 go_.2.2.2.1 mq3_ kq3_ (by decide) (by decide) hG_14
      have hG_797 := jS.frame hMr_794 go_.2.2.2.1 mq3_ kq3_ (by decide) (by decide) hG_15
      have hG_798 := eOK.frame hMr_794 go_.2.2.2.1 mq2_ kq2_ (by decide) (by decide) hG_16
      refine lv_bipush (v := 41) hx hb dX2_readArguments_31 (by decide) ?_
      have kb_41 : bd 41 41 (41 : Int32) := ⟨by decide, by decide⟩
      refine lv_icmp_eq (tgt := 46) hx hb dX2_readArguments_33 (by decide) (fun c_799 => ?_) (fun c_799 => ?_)
      · have fc_799 := eq_f c_799
        have b_800 : bd 41 41 r_794 := eqX fc_799 (bdT r_794) kb_41 (by decide)
        refine lv_iconst (v := 0) hx hb dX2_readArguments_46 (by decide) ?_
        refine lv_istore_n (lv' := [(2, .int 0), (1, .int r_1), (0, .ref a0_)]) hx hb dX2_readArguments_47 rfl hl (by decide) rfl (fun ls hl => ?_)
        refine lv_aload_n hx hb dX2_readArguments_48 rfl (lv_at hl 2 rfl) ?_
        refine g_getk (C := RX2) (T := TX2) (N := 16) hx hb hts (mc_ inX2) hown hK g rfl 0 (by decide) rfl (hts _ (List.mem_cons_of_mem _ t_416)) (fun _ h9 => h9) 3 rfl dX2_readArguments_49 ?_
        have go_ := g
        refine g_calli (va_runV (As := []) (rest := []) ⟨hx, hb, hml, hown, hts⟩ (r_X8_kind l dC dI L kd tys fr_794 H.size g.2.2.2.1 q0_ mq0_ kq0_) (cwV 0 hts (gV_ t_1118 t_1119 t_1120 t_184 t_1121) rfl rfl rfl (by decide +kernel) ⟨(Nat.le_of_ble_eq_true rfl), (Nat.le_of_ble_eq_true rfl)⟩) (pre3V g hK mq0_ kq0_ (by decide) (q := (RX8, TX8, 10)) rfl) rfl rfl hl.1 rfl (lv_room (Nat.le_of_ble_eq_true rfl)) dX2_readArguments_52 ⟨(Nat.le_of_ble_eq_true rfl), (Nat.le_of_ble_eq_true rfl)⟩) g hK (by decide) (by decide) (fx' := [(2, 14, a0_, .int x_17), (8, 6, q0_, .int x_7), (8, 8, q0_, .int y1_), (2, 0, a0_, .ref q0_), (2, 1, a0_, .ref q1_), (2, 2, a0_, .ref q2_), (2, 3, a0_, .ref q3_), (0, 0, q2_, .ref q0_), (0, 1, q2_, .ref q1_), (5, 0, q1_, .ref q3_), (5, 1, q1_, .ref q7_), (2, 12, a0_, .int y0_)]) rfl (fun r_801 fr_801 H locs hp hMr_801 g => ?_)
        have hG_802 := cOK.frame hMr_801 go_.2.2.2.1 mq3_ kq3_ (by decide) (by decide) hG_795
        have hG_803 := dOK.frame hMr_801 go_.2.2.2.1 mq3_ kq3_ (by decide) (by decide) hG_796
        have hG_804 := jS.frame hMr_801 go_.2.2.2.1 mq3_ kq3_ (by decide) (by decide) hG_797
        have hG_805 := eOK.frame hMr_801 go_.2.2.2.1 mq2_ kq2_ (by decide) (by decide) hG_798
        refine lv_bipush (v := 41) hx hb dX2_readArguments_55 (by decide) ?_
        refine lv_icmp_eq (tgt := 64) hx hb dX2_readArguments_57 (by decide) (fun c_806 => ?_) (fun c_806 => ?_)
        · have fc_806 := eq_f c_806
          have b_807 : bd 41 41 r_801 := eqX fc_806 (bdT r_801) kb_41 (by decide)
          refine lv_iconst (v := 0) hx hb dX2_readArguments_64 (by decide) ?_
          refine lv_istore_n (lv' := [(3, .int 0), (2, .int 0), (1, .int r_1), (0, .ref a0_)]) hx hb dX2_readArguments_65 rfl hl (by decide) rfl (fun ls hl => ?_)
          refine lv_iconst (v := 0) hx hb dX2_readArguments_66 (by decide) ?_
          refine lv_istore (lv' := [(4, .int 0), (3, .int 0), (2, .int 0), (1, .int r_1), (0, .ref a0_)]) hx hb dX2_readArguments_67 hl (by decide) rfl (fun ls hl => ?_)
          refine lv_iload hx hb dX2_readArguments_69 (lv_at hl 0 rfl) ?_
          refine lv_iconst (v := 3) hx hb dX2_readArguments_71 (by decide) ?_
          refine lv_icmp_gt (tgt := 162) hx hb dX2_readArguments_72 (by decide) (fun c_ => absurd c_ (by decide)) (fun c_ => ?_)
          refine lv_iload_n hx hb dX2_readArguments_75 rfl (lv_at hl 1 rfl) ?_
          refine lv_if_eq (tgt := 162) hx hb dX2_readArguments_76 (by decide) (fun c_ => ?_) (fun c_ => absurd (by decide) c_)
          refine lv_aload_n hx hb dX2_readArguments_162 rfl (lv_at hl 4 rfl) ?_
          refine g_getk (C := RX2) (T := TX2) (N := 16) hx hb hts (mc_ inX2) hown hK g rfl 0 (by decide) rfl (hts _ (List.mem_cons_of_mem _ t_416)) (fun _ h9 => h9) 3 rfl dX2_readArguments_163 ?_
          have go_ := g
          refine g_calli (va_runV (As := []) (rest := []) ⟨hx, hb, hml, hown, hts⟩ (r_X8_place l dC dI L kd tys fr_801 H.size g.2.2.2.1 q0_ mq0_ kq0_) (cwV 0 hts (gV_ t_1110 t_1111 t_1112 t_184 t_1113) rfl rfl rfl (by decide +kernel) ⟨(Nat.le_of_ble_eq_true rfl), (Nat.le_of_ble_eq_true rfl)⟩) (pre3V g hK mq0_ kq0_ (by decide) (q := (RX8, TX8, 10)) rfl) rfl rfl hl.1 rfl (lv_room (Nat.le_of_ble_eq_true rfl)) dX2_readArguments_166 ⟨(Nat.le_of_ble_eq_true rfl), (Nat.le_of_ble_eq_true rfl)⟩) g hK (by decide) (by decide) (fx' := [(2, 14, a0_, .int x_17), (8, 6, q0_, .int x_7), (8, 8, q0_, .int y1_), (2, 0, a0_, .ref q0_), (2, 1, a0_, .ref q1_), (2, 2, a0_, .ref q2_), (2, 3, a0_, .ref q3_), (0, 0, q2_, .ref q0_), (0, 1, q2_, .ref q1_), (5, 0, q1_, .ref q3_), (5, 1, q1_, .ref q7_), (2, 12, a0_, .int y0_)]) rfl (fun r_808 fr_808 H locs hp hMr_808 g => ?_)
          have hG_809 := cOK.frame hMr_808 go_.2.2.2.1 mq3_ kq3_ (by decide) (by decide) hG_802
          have hG_810 := dOK.frame hMr_808 go_.2.2.2.1 mq3_ kq3_ (by decide) (by decide) hG_803
          have hG_811 := jS.frame hMr_808 go_.2.2.2.1 mq3_ kq3_ (by decide) (by decide) hG_804
          have hG_812 := eOK.frame hMr_808 go_.2.2.2.1 mq2_ kq2_ (by decide) (by decide) hG_805
          refine lv_istore (lv' := [(4, .int r_808), (3, .int 0), (2, .int 0), (1, .int r_1), (0, .ref a0_)]) hx hb dX2_readArguments_169 hl (by decide) rfl (fun ls hl => ?_)
          refine lv_aload_n hx hb dX2_readArguments_171 rfl (lv_at hl 4 rfl) ?_
          refine g_getk (C := RX2) (T := TX2) (N := 16) hx hb hts (mc_ inX2) hown hK g rfl 0 (by decide) rfl (hts _ (List.mem_cons_of_mem _ t_416)) (fun _ h9 => h9) 3 rfl dX2_readArguments_172 ?_
          refine lv_bipush (v := 41) hx hb dX2_readArguments_175 (by decide) ?_
          have go_ := g
          refine g_callv (va_runV (As := [.int 41]) (rest := []) ⟨hx, hb, hml, hown, hts⟩ (r_X8_take l dC dI L kd tys fr_808 H.size g.2.2.2.1 q0_ mq0_ kq0_ 41 y1_ by1_ (g.fcts [2] rfl)) (cwV 1 hts (gV_ t_1098 t_1099 t_1100 t_184 t_1101) rfl rfl rfl (by decide +kernel) ⟨(Nat.le_of_ble_eq_true rfl), (Nat.le_of_ble_eq_true rfl)⟩) (pre3V g hK mq0_ kq0_ (by decide) (q := (RX8, TX8, 10)) rfl) rfl rfl hl.1 rfl (lv_room (Nat.le_of_ble_eq_true rfl)) dX2_readArguments_177 ⟨(Nat.le_of_ble_eq_true rfl), (Nat.le_of_ble_eq_true rfl)⟩) g hK (by decide) (by decide) (fx' := [(2, 14, a0_, .int x_17), (2, 0, a0_, .ref q0_), (2, 1, a0_, .ref q1_), (2, 2, a0_, .ref q2_), (2, 3, a0_, .ref q3_), (0, 0, q2_, .ref q0_), (0, 1, q2_, .ref q1_), (5, 0, q1_, .ref q3_), (5, 1, q1_, .ref q7_), (2, 12, a0_, .int y0_)]) rfl (fun fr_813 H locs hp hMr_813 g => ?_)
          rcases hp with ⟨x_814, h_815, hF_816⟩ | ⟨x_817, h_818, hF_819⟩
          · have hG_820 := cOK.frame hMr_813 go_.2.2.2.1 mq3_ kq3_ (by decide) (by decide) hG_809
            have hG_821 := dOK.frame hMr_813 go_.2.2.2.1 mq3_ kq3_ (by decide) (by decide) hG_810
            have hG_822 := jS.frame hMr_813 go_.2.2.2.1 mq3_ kq3_ (by decide) (by decide) hG_811
            have hG_823 := eOK.frame hMr_813 go_.2.2.2.1 mq2_ kq2_ (by decide) (by decide) hG_812
            have g := g.more hF_816
            refine lv_iload_n hx hb dX2_readArguments_180 rfl (lv_at hl 2 rfl) ?_
            refine lv_aload_n hx hb dX2_readArguments_181 rfl (lv_at hl 4 rfl) ?_
            refine g_getk (C := RX2) (T := TX2) (N := 16) hx hb hts (mc_ inX2) hown hK g rfl 14 (by decide) rfl (hts _ (List.mem_cons_of_mem _ t_430)) (fun _ h9 => h9) 2 rfl dX2_readArguments_182 ?_
            refine lv_icmp_ge (tgt := 199) hx hb dX2_readArguments_185 (by decide) (fun c_824 => ?_) (fun c_824 => ?_)
            · have fc_824 := le_f c_824
              refine lv_aload_n hx hb dX2_readArguments_199 rfl (lv_at hl 4 rfl) ?_
              refine g_getk (C := RX2) (T := TX2) (N := 16) hx hb hts (mc_ inX2) hown hK g rfl 3 (by decide) rfl (hts _ (List.mem_cons_of_mem _ t_419)) (fun _ h9 => h9) 6 rfl dX2_readArguments_200 ?_
              refine lv_aload_n hx hb dX2_readArguments_203 rfl (lv_at hl 4 rfl) ?_
              refine g_getk (C := RX2) (T := TX2) (N := 16) hx hb hts (mc_ inX2) hown hK g rfl 12 (by decide) rfl (hts _ (List.mem_cons_of_mem _ t_428)) (fun _ h9 => h9) 11 rfl dX2_readArguments_204 ?_
              refine lv_aload_n hx hb dX2_readArguments_207 rfl (lv_at hl 4 rfl) ?_
              refine g_geti (C := RX2) (T := TX2) (N := 16) hx hb hts (mc_ inX2) hown hK g ma0_ ka0_ (by decide) rfl 13 (by decide) rfl (hts _ (List.mem_cons_of_mem _ t_429)) (fun _ h9 => h9) rfl dX2_readArguments_208 (fun x_825 bx_825 g => ?_)
              obtain ⟨a_826, ma_826, ka_826, g⟩ := g_factr g mq3_ kq3_ (by decide) 4 rfl
              obtain ⟨a_827, ma_827, ka_827, g⟩ := g_factr g mq3_ kq3_ (by decide) 5 rfl
              obtain ⟨x_828, bx_828, g⟩ := g_facti g mq3_ kq3_ (by decide) 6 rfl
              have go_ := g
              refine g_callv (va_runV (As := [.int y0_, .int x_825]) (rest := []) ⟨hx, hb, hml, hown, hts⟩ (r_X7_emitN l dC dI L kd tys fr_813 H.size g.2.2.2.1 q3_ mq3_ kq3_ a_826 ma_826 ka_826 a_827 ma_827 ka_827 x_828 bx_828 T_ hG_821 y0_ x_825 (fun j9 => jOK fr_813 q3_ j9) hG_820 (fun _ h9 => h9) ⟨(fun h9 => ⟨(by have h9_0 := b_800; unfold bd at h9_0; have h9_1 := b_807; unfold bd at h9_1; have h9_2 := b_793; unfold bd at h9_2; have h9_3 := h_8; unfold bd at h9_3; have h9_4 := h_815; unfold bd at h9_4; have h9_5 := bx_825; unfold bd at h9_5; have h9_6 := bx_828; unfold bd at h9_6; have h9_7 := by0_; unfold bd at h9_7; have h9_8 := by1_; unfold bd at h9_8; have h8_0 := kb_0; unfold bd at h8_0; have h8_1 := kb_41; unfold bd at h8_1; omega), (by have h9_0 := b_800; unfold bd at h9_0; have h9_1 := b_807; unfold bd at h9_1; have h9_2 := b_793; unfold bd at h9_2; have h9_3 := h_8; unfold bd at h9_3; have h9_4 := h_815; unfold bd at h9_4; have h9_5 := bx_825; unfold bd at h9_5; have h9_6 := bx_828; unfold bd at h9_6; have h9_7 := by0_; unfold bd at h9_7; have h9_8 := by1_; unfold bd at h9_8; have h8_0 := kb_0; unfold bd at h8_0; have h8_1 := kb_41; unfold bd at h8_1; omega)⟩), (fun h9 => ⟨(by have h9_0 := b_800; unfold bd at h9_0; have h9_1 := b_807; unfold bd at h9_1; have h9_2 := b_793; unfold bd at h9_2; have h9_3 := h_8; unfold bd at h9_3; have h9_4 := h_815; unfold bd at h9_4; have h9_5 := bx_825; unfold bd at h9_5; have h9_6 := bx_828; unfold bd at h9_6; have h9_7 := by0_; unfold bd at h9_7; have h9_8 := by1_; unfold bd at h9_8; have h8_0 := kb_0; unfold bd at h8_0; have h8_1 := kb_41; unfold bd at h8_1; omega), (by have h9_0 := b_800; unfold bd at h9_0; have h9_1 := b_807; unfold bd at h9_1; have h9_2 := b_793; unfold bd at h9_2; have h9_3 := h_8; unfold bd at h9_3; have h9_4 := h_815; unfold bd at h9_4; have h9_5 := bx_825; unfold bd at h9_5; have h9_6 := bx_828; unfold bd at h9_6; have h9_7 := by0_; unfold bd at h9_7; have h9_8 := by1_; unfold bd at h9_8; have h8_0 := kb_0; unfold bd at h8_0; have h8_1 := kb_41; unfold bd at h8_1; omega)⟩), (fun h9 => ⟨(by have h9_0 := b_800; unfold bd at h9_0; have h9_1 := b_807; unfold bd at h9_1; have h9_2 := b_793; unfold bd at h9_2; have h9_3 := h_8; unfold bd at h9_3; have h9_4 := h_815; unfold bd at h9_4; have h9_5 := bx_825; unfold bd at h9_5; have h9_6 := bx_828; unfold bd at h9_6; have h9_7 := by0_; unfold bd at h9_7; have h9_8 := by1_; unfold bd at h9_8; have h8_0 := kb_0; unfold bd at h8_0; have h8_1 := kb_41; unfold bd at h8_1; omega), (by have h9_0 := b_800; unfold bd at h9_0; have h9_1 := b_807; unfold bd at h9_1; have h9_2 := b_793; unfold bd at h9_2; have h9_3 := h_8; unfold bd at h9_3; have h9_4 := h_815; unfold bd at h9_4; have h9_5 := bx_825; unfold bd at h9_5; have h9_6 := bx_828; unfold bd at h9_6; have h9_7 := by0_; unfold bd at h9_7; have h9_8 := by1_; unfold bd at h9_8; have h8_0 := kb_0; unfold bd at h8_0; have h8_1 := kb_41; unfold bd at h8_1; omega)⟩)⟩ (g.fcts [2, 1, 0] rfl)) (cwV 2 hts (gV_ t_1301 t_1204 t_1205 t_191 t_1206) rfl rfl rfl (by decide +kernel) ⟨(Nat.le_of_ble_eq_true rfl), (Nat.le_of_ble_eq_true rfl)⟩) (pre3V g hK mq3_ kq3_ (by decide) (q := (RX7, TX7, 19)) rfl) rfl rfl hl.1 rfl (lv_room (Nat.le_of_ble_eq_true rfl)) dX2_readArguments_211 ⟨(Nat.le_of_ble_eq_true rfl), (Nat.le_of_ble_eq_true rfl)⟩) g hK (by decide) (by decide) (fx' := [(7, 5, q3_, .ref a_827), (7, 4, q3_, .ref a_826), (2, 13, a0_, .int x_825), (8, 6, q0_, .int x_814), (8, 8, q0_, .int y1_), (2, 14, a0_, .int x_17), (2, 0, a0_, .ref q0_), (2, 1, a0_, .ref q1_), (2, 2, a0_, .ref q2_), (2, 3, a0_, .ref q3_), (0, 0, q2_, .ref q0_), (0, 1, q2_, .ref q1_), (5, 0, q1_, .ref q3_), (5, 1, q1_, .ref q7_), (2, 12, a0_, .int y0_)]) rfl (fun fr_829 H locs hp hMr_829 g => ?_)
              obtain ⟨hG_830, hG_831, hG_832, hx_833, x_834, h_835, hF_836⟩ := hp
              have hG_837 := eOK.frame hMr_829 go_.2.2.2.1 mq2_ kq2_ (by decide) (by decide) hG_823
              have g := g.more hF_836
              have hs_838 := jS.mv hG_822 hG_832
              refine lv_aload_n hx hb dX2_readArguments_214 rfl (lv_at hl 4 rfl) ?_
              refine g_getk (C := RX2) (T := TX2) (N := 16) hx hb hts (mc_ inX2) hown hK g rfl 3 (by decide) rfl (hts _ (List.mem_cons_of_mem _ t_419)) (fun _ h9 => h9) 10 rfl dX2_readArguments_215 ?_
              refine lv_bipush (v := 22) hx hb dX2_readArguments_218 (by decide) ?_
              refine lv_iconst (v := 0) hx hb dX2_readArguments_220 (by decide) ?_
              have kb_22 : bd 22 22 (22 : Int32) := ⟨by decide, by decide⟩
              have go_ := g
              refine g_callv (va_runV (As := [.int 22, .int 0]) (rest := []) ⟨hx, hb, hml, hown, hts⟩ (r_X7_emitN l dC dI L kd tys fr_829 H.size g.2.2.2.1 q3_ mq3_ kq3_ a_826 ma_826 ka_826 a_827 ma_827 ka_827 x_834 h_835 T_ hG_830 (22 : Int32) (0 : Int32) (fun j9 => jOK fr_829 q3_ j9) hG_831 (fun _ h9 => h9) ⟨(fun h9 => ⟨(by have h9_0 := b_800; unfold bd at h9_0; have h9_1 := b_807; unfold bd at h9_1; have h9_2 := b_793; unfold bd at h9_2; have h9_3 := h_8; unfold bd at h9_3; have h9_4 := h_815; unfold bd at h9_4; have h9_5 := bx_825; unfold bd at h9_5; have h9_6 := bx_828; unfold bd at h9_6; have h9_7 := h_835; unfold bd at h9_7; have h9_8 := by0_; unfold bd at h9_8; have h9_9 := by1_; unfold bd at h9_9; have h8_0 := kb_0; unfold bd at h8_0; have h8_1 := kb_22; unfold bd at h8_1; have h8_2 := kb_41; unfold bd at h8_2; omega), (by have h9_0 := b_800; unfold bd at h9_0; have h9_1 := b_807; unfold bd at h9_1; have h9_2 := b_793; unfold bd at h9_2; have h9_3 := h_8; unfold bd at h9_3; have h9_4 := h_815; unfold bd at h9_4; have h9_5 := bx_825; unfold bd at h9_5; have h9_6 := bx_828; unfold bd at h9_6; have h9_7 := h_835; unfold bd at h9_7; have h9_8 := by0_; unfold bd at h9_8; have h9_9 := by1_; unfold bd at h9_9; have h8_0 := kb_0; unfold bd at h8_0; have h8_1 := kb_22; unfold bd at h8_1; have h8_2 := kb_41; unfold bd at h8_2; omega)⟩), (fun h9 => ⟨(by have h9_0 := b_800; unfold bd at h9_0; have h9_1 := b_807; unfold bd at h9_1; have h9_2 := b_793; unfold bd at h9_2; have h9_3 := h_8; unfold bd at h9_3; have h9_4 := h_815; unfold bd at h9_4; have h9_5 := bx_825; unfold bd at h9_5; have h9_6 := bx_828; unfold bd at h9_6; have h9_7 := h_835; unfold bd at h9_7; have h9_8 := by0_; unfold bd at h9_8; have h9_9 := by1_; unfold bd at h9_9; have h8_0 := kb_0; unfold bd at h8_0; have h8_1 := kb_22; unfold bd at h8_1; have h8_2 := kb_41; unfold bd at h8_2; omega), (by have h9_0 := b_800; unfold bd at h9_0; have h9_1 := b_807; unfold bd at h9_1; have h9_2 := b_793; unfold bd at h9_2; have h9_3 := h_8; unfold bd at h9_3; have h9_4 := h_815; unfold bd at h9_4; have h9_5 := bx_825; unfold bd at h9_5; have h9_6 := bx_828; unfold bd at h9_6; have h9_7 := h_835; unfold bd at h9_7; have h9_8 := by0_; unfold bd at h9_8; have h9_9 := by1_; unfold bd at h9_9; have h8_0 := kb_0; unfold bd at h8_0; have h8_1 := kb_22; unfold bd at h8_1; have h8_2 := kb_41; unfold bd at h8_2; omega)⟩), (fun h9 => ⟨(by have h9_0 := b_800; unfold bd at h9_0; have h9_1 := b_807; unfold bd at h9_1; have h9_2 := b_793; unfold bd at h9_2; have h9_3 := h_8; unfold bd at h9_3; have h9_4 := h_815; unfold bd at h9_4; have h9_5 := bx_825; unfold bd at h9_5; have h9_6 := bx_828; unfold bd at h9_6; have h9_7 := h_835; unfold bd at h9_7; have h9_8 := by0_; unfold bd at h9_8; have h9_9 := by1_; unfold bd at h9_9; have h8_0 := kb_0; unfold bd at h8_0; have h8_1 := kb_22; unfold bd at h8_1; have h8_2 := kb_41; unfold bd at h8_2; omega), (by have h9_0 := b_800; unfold bd at h9_0; have h9_1 := b_807; unfold bd at h9_1; have h9_2 := b_793; unfold bd at h9_2; have h9_3 := h_8; unfold bd at h9_3; have h9_4 := h_815; unfold bd at h9_4; have h9_5 := bx_825; unfold bd at h9_5; have h9_6 := bx_828; unfold bd at h9_6; have h9_7 := h_835; unfold bd at h9_7; have h9_8 := by0_; unfold bd at h9_8; have h9_9 := by1_; unfold bd at h9_9; have h8_0 := kb_0; unfold bd at h8_0; have h8_1 := kb_22; unfold bd at h8_1; have h8_2 := kb_41; unfold bd at h8_2; omega)⟩)⟩ (g.fcts [2, 1, 0] rfl)) (cwV 2 hts (gV_ t_1301 t_1204 t_1205 t_191 t_1206) rfl rfl rfl (by decide +kernel) ⟨(Nat.le_of_ble_eq_true rfl), (Nat.le_of_ble_eq_true rfl)⟩) (pre3V g hK mq3_ kq3_ (by decide) (q := (RX7, TX7, 19)) rfl) rfl rfl hl.1 rfl (lv_room (Nat.le_of_ble_eq_true rfl)) dX2_readArguments_221 ⟨(Nat.le_of_ble_eq_true rfl), (Nat.le_of_ble_eq_true rfl)⟩) g hK (by decide) (by decide) (fx' := [(7, 5, q3_, .ref a_827), (7, 4, q3_, .ref a_826), (2, 13, a0_, .int x_825), (8, 6, q0_, .int x_814), (8, 8, q0_, .int y1_), (2, 14, a0_, .int x_17), (2, 0, a0_, .ref q0_), (2, 1, a0_, .ref q1_), (2, 2, a0_, .ref q2_), (2, 3, a0_, .ref q3_), (0, 0, q2_, .ref q0_), (0, 1, q2_, .ref q1_), (5, 0, q1_, .ref q3_), (5, 1, q1_, .ref q7_), (2, 12, a0_, .int y0_)]) rfl (fun fr_839 H locs hp hMr_839 g => ?_)
              obtain ⟨hG_840, hG_841, hG_842, hx_843, x_844, h_845, hF_846⟩ := hp
              have hG_847 := eOK.frame hMr_839 go_.2.2.2.1 mq2_ kq2_ (by decide) (by decide) hG_837
              have g := g.more hF_846
              have hs_848 := jS.mv hs_838 hG_842
              refine lv_aload_n hx hb dX2_readArguments_224 rfl (lv_at hl 4 rfl) ?_
              refine g_getk (C := RX2) (T := TX2) (N := 16) hx hb hts (mc_ inX2) hown hK g rfl 0 (by decide) rfl (hts _ (List.mem_cons_of_mem _ t_416)) (fun _ h9 => h9) 7 rfl dX2_readArguments_225 ?_
              refine lv_bipush (v := 59) hx hb dX2_readArguments_228 (by decide) ?_
              have go_ := g
              refine g_callv (va_runV (As := [.int 59]) (rest := []) ⟨hx, hb, hml, hown, hts⟩ (r_X8_take l dC dI L kd tys fr_839 H.size g.2.2.2.1 q0_ mq0_ kq0_ 59 y1_ by1_ (g.fcts [5] rfl)) (cwV 1 hts (gV_ t_1098 t_1099 t_1100 t_184 t_1101) rfl rfl rfl (by decide +kernel) ⟨(Nat.le_of_ble_eq_true rfl), (Nat.le_of_ble_eq_true rfl)⟩) (pre3V g hK mq0_ kq0_ (by decide) (q := (RX8, TX8, 10)) rfl) rfl rfl hl.1 rfl (lv_room (Nat.le_of_ble_eq_true rfl)) dX2_readArguments_230 ⟨(Nat.le_of_ble_eq_true rfl), (Nat.le_of_ble_eq_true rfl)⟩) g hK (by decide) (by decide) (fx' := [(7, 6, q3_, .int x_844), (7, 5, q3_, .ref a_827), (7, 4, q3_, .ref a_826), (2, 13, a0_, .int x_825), (2, 14, a0_, .int x_17), (2, 0, a0_, .ref q0_), (2, 1, a0_, .ref q1_), (2, 2, a0_, .ref q2_), (2, 3, a0_, .ref q3_), (0, 0, q2_, .ref q0_), (0, 1, q2_, .ref q1_), (5, 0, q1_, .ref q3_), (5, 1, q1_, .ref q7_), (2, 12, a0_, .int y0_)]) rfl (fun fr_849 H locs hp hMr_849 g => ?_)
              rcases hp with ⟨x_850, h_851, hF_852⟩ | ⟨x_853, h_854, hF_855⟩
              · have hG_856 := cOK.frame hMr_849 go_.2.2.2.1 mq3_ kq3_ (by decide) (by decide) hG_841
                have hG_857 := dOK.frame hMr_849 go_.2.2.2.1 mq3_ kq3_ (by decide) (by decide) hG_840
                have hG_858 := jS.frame hMr_849 go_.2.2.2.1 mq3_ kq3_ (by decide) (by decide) hs_848
                have hG_859 := eOK.frame hMr_849 go_.2.2.2.1 mq2_ kq2_ (by decide) (by decide) hG_847
                have g := g.more hF_852
                subst hQ
                exact W.vret hx hb hr (fun t ht hW => ⟨⟨_, rfl, Or.inl ⟨hG_856, hG_857, hG_858, hG_859, x_850, h_851, (g.fcts [0, 1] rfl)⟩, q3_of g hK ht hW⟩, g.2.2.1.F ht⟩) g.2.2.1.2.2 dX2_readArguments_233
              · have hG_860 := cOK.frame hMr_849 go_.2.2.2.1 mq3_ kq3_ (by decide) (by decide) hG_841
                have hG_861 := dOK.frame hMr_849 go_.2.2.2.1 mq3_ kq3_ (by decide) (by decide) hG_840
                have hG_862 := jS.frame hMr_849 go_.2.2.2.1 mq3_ kq3_ (by decide) (by decide) hs_848
                have hG_863 := eOK.frame hMr_849 go_.2.2.2.1 mq2_ kq2_ (by decide) (by decide) hG_847
                have g := g.more hF_855
                have kb_1201 : bd 1201 1201 (1201 : Int32) := ⟨by decide, by decide⟩
                subst hQ
                exact W.vret hx hb hr (fun t ht hW => ⟨⟨_, rfl, Or.inr (⟨hG_861, hG_863, 1201, kb_1201, x_853, h_854, (g.fcts [0, 1] rfl)⟩), q3_of g hK ht hW⟩, g.2.2.1.F ht⟩) g.2.2.1.2.2 dX2_readArguments_233
            · have fc_824 := nle_f c_824
              have b_864 : bd 0 (-1) (0 : Int32) := ltL fc_824 kb_0 b_793 (by decide)
              exact bd_no (eqX rfl b_864 kb_0 (lo := 0) (hi := (-1)) (by decide)) (by decide)
          · have hG_865 := cOK.frame hMr_813 go_.2.2.2.1 mq3_ kq3_ (by decide) (by decide) hG_809
            have hG_866 := dOK.frame hMr_813 go_.2.2.2.1 mq3_ kq3_ (by decide) (by decide) hG_810
            have hG_867 := jS.frame hMr_813 go_.2.2.2.1 mq3_ kq3_ (by decide) (by decide) hG_811
            have hG_868 := eOK.frame hMr_813 go_.2.2.2.1 mq2_ kq2_ (by decide) (by decide) hG_812
            have g := g.more hF_819
            refine lv_iload_n hx hb dX2_readArguments_180 rfl (lv_at hl 2 rfl) ?_
            refine lv_aload_n hx hb dX2_readArguments_181 rfl (lv_at hl 4 rfl) ?_
            refine g_getk (C := RX2) (T := TX2) (N := 16) hx hb hts (mc_ inX2) hown hK g rfl 14 (by decide) rfl (hts _ (List.mem_cons_of_mem _ t_430)) (fun _ h9 => h9) 2 rfl dX2_readArguments_182 ?_
            refine lv_icmp_ge (tgt := 199) hx hb dX2_readArguments_185 (by decide) (fun c_869 => ?_) (fun c_869 => ?_)
            · have fc_869 := le_f c_869
              refine lv_aload_n hx hb dX2_readArguments_199 rfl (lv_at hl 4 rfl) ?_
              refine g_getk (C := RX2) (T := TX2) (N := 16) hx hb hts (mc_ inX2) hown hK g rfl 3 (by decide) rfl (hts _ (List.mem_cons_of_mem _ t_419)) (fun _ h9 => h9) 6 rfl dX2_readArguments_200 ?_
              refine lv_aload_n hx hb dX2_readArguments_203 rfl (lv_at hl 4 rfl) ?_
              refine g_getk (C := RX2) (T := TX2) (N := 16) hx hb hts (mc_ inX2) hown hK g rfl 12 (by decide) rfl (hts _ (List.mem_cons_of_mem _ t_428)) (fun _ h9 => h9) 11 rfl dX2_readArguments_204 ?_
              refine lv_aload_n hx hb dX2_readArguments_207 rfl (lv_at hl 4 rfl) ?_
              refine g_geti (C := RX2) (T := TX2) (N := 16) hx hb hts (mc_ inX2) hown hK g ma0_ ka0_ (by decide) rfl 13 (by decide) rfl (hts _ (List.mem_cons_of_mem _ t_429)) (fun _ h9 => h9) rfl dX2_readArguments_208 (fun x_870 bx_870 g => ?_)
              obtain ⟨a_871, ma_871, ka_871, g⟩ := g_factr g mq3_ kq3_ (by decide) 4 rfl
              obtain ⟨a_872, ma_872, ka_872, g⟩ := g_factr g mq3_ kq3_ (by decide) 5 rfl
              obtain ⟨x_873, bx_873, g⟩ := g_facti g mq3_ kq3_ (by decide) 6 rfl
              have go_ := g
              refine g_callv (va_runV (As := [.int y0_, .int x_870]) (rest := []) ⟨hx, hb, hml, hown, hts⟩ (r_X7_emitF l dC dI L kd tys fr_813 H.size g.2.2.2.1 q3_ mq3_ kq3_ a_871 ma_871 ka_871 a_872 ma_872 ka_872 x_873 bx_873 T_ hG_866 y0_ x_870 (g.fcts [2, 1, 0] rfl)) (cwV 2 hts (gV_ t_1301 t_1204 t_1205 t_191 t_1206) rfl rfl rfl (by decide +kernel) ⟨(Nat.le_of_ble_eq_true rfl), (Nat.le_of_ble_eq_true rfl)⟩) (pre3V g hK mq3_ kq3_ (by decide) (q := (RX7, TX7, 19)) rfl) rfl rfl hl.1 rfl (lv_room (Nat.le_of_ble_eq_true rfl)) dX2_readArguments_211 ⟨(Nat.le_of_ble_eq_true rfl), (Nat.le_of_ble_eq_true rfl)⟩) g hK (by decide) (by decide) (fx' := [(7, 5, q3_, .ref a_872), (7, 4, q3_, .ref a_871), (2, 13, a0_, .int x_870), (8, 6, q0_, .int 1201), (8, 8, q0_, .int x_817), (2, 14, a0_, .int x_17), (2, 0, a0_, .ref q0_), (2, 1, a0_, .ref q1_), (2, 2, a0_, .ref q2_), (2, 3, a0_, .ref q3_), (0, 0, q2_, .ref q0_), (0, 1, q2_, .ref q1_), (5, 0, q1_, .ref q3_), (5, 1, q1_, .ref q7_), (2, 12, a0_, .int y0_)]) rfl (fun fr_874 H locs hp hMr_874 g => ?_)
              obtain ⟨hG_875, x_876, h_877, hF_878⟩ := hp
              have hG_879 := eOK.frame hMr_874 go_.2.2.2.1 mq2_ kq2_ (by decide) (by decide) hG_868
              have g := g.more hF_878
              refine lv_aload_n hx hb dX2_readArguments_214 rfl (lv_at hl 4 rfl) ?_
              refine g_getk (C := RX2) (T := TX2) (N := 16) hx hb hts (mc_ inX2) hown hK g rfl 3 (by decide) rfl (hts _ (List.mem_cons_of_mem _ t_419)) (fun _ h9 => h9) 10 rfl dX2_readArguments_215 ?_
              refine lv_bipush (v := 22) hx hb dX2_readArguments_218 (by decide) ?_
              refine lv_iconst (v := 0) hx hb dX2_readArguments_220 (by decide) ?_
              have go_ := g
              refine g_callv (va_runV (As := [.int 22, .int 0]) (rest := []) ⟨hx, hb, hml, hown, hts⟩ (r_X7_emitF l dC dI L kd tys fr_874 H.size g.2.2.2.1 q3_ mq3_ kq3_ a_871 ma_871 ka_871 a_872 ma_872 ka_872 x_876 h_877 T_ hG_875 (22 : Int32) (0 : Int32) (g.fcts [2, 1, 0] rfl)) (cwV 2 hts (gV_ t_1301 t_1204 t_1205 t_191 t_1206) rfl rfl rfl (by decide +kernel) ⟨(Nat.le_of_ble_eq_true rfl), (Nat.le_of_ble_eq_true rfl)⟩) (pre3V g hK mq3_ kq3_ (by decide) (q := (RX7, TX7, 19)) rfl) rfl rfl hl.1 rfl (lv_room (Nat.le_of_ble_eq_true rfl)) dX2_readArguments_221 ⟨(Nat.le_of_ble_eq_true rfl), (Nat.le_of_ble_eq_true rfl)⟩) g hK (by decide) (by decide) (fx' := [(7, 5, q3_, .ref a_872), (7, 4, q3_, .ref a_871), (2, 13, a0_, .int x_870), (8, 6, q0_, .int 1201), (8, 8, q0_, .int x_817), (2, 14, a0_, .int x_17), (2, 0, a0_, .ref q0_), (2, 1, a0_, .ref q1_), (2, 2, a0_, .ref q2_), (2, 3, a0_, .ref q3_), (0, 0, q2_, .ref q0_), (0, 1, q2_, .ref q1_), (5, 0, q1_, .ref q3_), (5, 1, q1_, .ref q7_), (2, 12, a0_, .int y0_)]) rfl (fun fr_880 H locs hp hMr_880 g => ?_)
              obtain ⟨hG_881, x_882, h_883, hF_884⟩ := hp
              have hG_885 := eOK.frame hMr_880 go_.2.2.2.1 mq2_ kq2_ (by decide) (by decide) hG_879
              have g := g.more hF_884
              refine lv_aload_n hx hb dX2_readArguments_224 rfl (lv_at hl 4 rfl) ?_
              refine g_getk (C := RX2) (T := TX2) (N := 16) hx hb hts (mc_ inX2) hown hK g rfl 0 (by decide) rfl (hts _ (List.mem_cons_of_mem _ t_416)) (fun _ h9 => h9) 7 rfl dX2_readArguments_225 ?_
              refine lv_bipush (v := 59) hx hb dX2_readArguments_228 (by decide) ?_
              have kb_1201 : bd 1201 1201 (1201 : Int32) := ⟨by decide, by decide⟩
              have go_ := g
              refine g_callv (va_runV (As := [.int 59]) (rest := []) ⟨hx, hb, hml, hown, hts⟩ (r_X8_take_2 l dC dI L kd tys fr_880 H.size g.2.2.2.1 q0_ mq0_ kq0_ 59 1201 kb_1201 x_817 h_818 (g.fcts [4, 5] rfl)) (cwV 1 hts (gV_ t_1098 t_1099 t_1100 t_184 t_1101) rfl rfl rfl (by decide +kernel) ⟨(Nat.le_of_ble_eq_true rfl), (Nat.le_of_ble_eq_true rfl)⟩) (pre3V g hK mq0_ kq0_ (by decide) (q := (RX8, TX8, 10)) rfl) rfl rfl hl.1 rfl (lv_room (Nat.le_of_ble_eq_true rfl)) dX2_readArguments_230 ⟨(Nat.le_of_ble_eq_true rfl), (Nat.le_of_ble_eq_true rfl)⟩) g hK (by decide) (by decide) (fx' := [(7, 6, q3_, .int x_882), (7, 5, q3_, .ref a_872), (7, 4, q3_, .ref a_871), (2, 13, a0_, .int x_870), (8, 8, q0_, .int x_817), (2, 14, a0_, .int x_17), (2, 0, a0_, .ref q0_), (2, 1, a0_, .ref q1_), (2, 2, a0_, .ref q2_), (2, 3, a0_, .ref q3_), (0, 0, q2_, .ref q0_), (0, 1, q2_, .ref q1_), (5, 0, q1_, .ref q3_), (5, 1, q1_, .ref q7_), (2, 12, a0_, .int y0_)]) rfl (fun fr_886 H locs hp hMr_886 g => ?_)
              obtain ⟨x_887, h_888, hF_889⟩ := hp
              have hG_890 := dOK.frame hMr_886 go_.2.2.2.1 mq3_ kq3_ (by decide) (by decide) hG_881
              have hG_891 := eOK.frame hMr_886 go_.2.2.2.1 mq2_ kq2_ (by decide) (by decide) hG_885
              have g := g.more hF_889
              subst hQ
              exact W.vret hx hb hr (fun t ht hW => ⟨⟨_, rfl, Or.inr (⟨hG_890, hG_891, x_887, h_888, x_817, h_818, (g.fcts [0, 5] rfl)⟩), q3_of g hK ht hW⟩, g.2.2.1.F ht⟩) g.2.2.1.2.2 dX2_readArguments_233
            · have fc_869 := nle_f c_869
              have b_892 : bd 0 (-1) (0 : Int32) := ltL fc_869 kb_0 b_793 (by decide)
              exact bd_no (eqX rfl b_892 kb_0 (lo := 0) (hi := (-1)) (by decide)) (by decide)
        · have fc_806 := neq_f c_806
          refine lv_iconst (v := 1) hx hb dX2_readArguments_60 (by decide) ?_
          refine lv_goto (tgt := 65) hx hb dX2_readArguments_61 (by decide) ?_
          refine lv_istore_n (lv' := [(3, .int 1), (2, .int 0), (1, .int r_1), (0, .ref a0_)]) hx hb dX2_readArguments_65 rfl hl (by decide) rfl (fun ls hl => ?_)
          refine lv_iconst (v := 0) hx hb dX2_readArguments_66 (by decide) ?_
          refine lv_istore (lv' := [(4, .int 0), (3, .int 1), (2, .int 0), (1, .int r_1), (0, .ref a0_)]) hx hb dX2_readArguments_67 hl (by decide) rfl (fun ls hl => ?_)
          have loop_893 : ∀ (n : Nat) (v69_4 : Int32) (v69_3 : Int32) (v69_2 : Int32), bd 0 4 v69_4 → bd 0 1 v69_3 → (4 - v69_4.toInt < (n : Int)) → ∀ (f : Nat → va_E) (H : Heap) (locs : List Loc) (ls : Array Slot), G3 (dC, dI) L kd tys s f0 [(0, 2), (0, 8), (0, 10), (0, 11), (0, 12), (0, 13), (7, 6), (7, 18), (8, 6), (8, 8), (8, 9)] [110, 111, 112, 113, 114, 115, 138, 139] f H locs [(2, 14, a0_, .int x_17), (8, 8, q0_, .int y1_), (2, 0, a0_, .ref q0_), (2, 1, a0_, .ref q1_), (2, 2, a0_, .ref q2_), (2, 3, a0_, .ref q3_), (0, 0, q2_, .ref q0_), (0, 1, q2_, .ref q1_), (5, 0, q1_, .ref q3_), (5, 1, q1_, .ref q7_), (2, 12, a0_, .int y0_)] → cOK f q3_ → dOK L kd f q3_ T_ → jS f q3_ J_ → eOK f q2_ → lv_has ls 6 [(4, .int v69_4), (3, .int v69_3), (2, .int v69_2), (1, .int r_1), (0, .ref a0_)] → W p l e ({ frames := 4, cells := 0, slots := 0, locals := 97 } : Room) s m [.ref a0_].toArray below meth c H locs 0 0 Q (F0 m 69 ls []) := by
            intro n69
            induction n69 with
            | zero =>
              intro v69_4 v69_3 v69_2 bv69_4 bv69_3  hm69 f H locs ls g hG69_c_q3_ hG69_d_q3_ hG69_s_q3_ hG69_e_q2_ hl
              exact absurd hm69 (by have h9_v69_4 := bv69_4; unfold bd at h9_v69_4; have h9_v69_3 := bv69_3; unfold bd at h9_v69_3; have h9_v69_2 := bdT v69_2; unfold bd at h9_v69_2; omega)
            | succ n69 ih69 =>
              intro v69_4 v69_3 v69_2 bv69_4 bv69_3  hm69 f H locs ls g hG69_c_q3_ hG69_d_q3_ hG69_s_q3_ hG69_e_q2_ hl
              refine lv_iload hx hb dX2_readArguments_69 (lv_at hl 0 rfl) ?_
              refine lv_iconst (v := 3) hx hb dX2_readArguments_71 (by decide) ?_
              have kb_3 : bd 3 3 (3 : Int32) := ⟨by decide, by decide⟩
              refine lv_icmp_gt (tgt := 162) hx hb dX2_readArguments_72 (by decide) (fun c_894 => ?_) (fun c_894 => ?_)
              · have fc_894 := lt_f c_894
                have b_895 : bd 4 4 v69_4 := ltR fc_894 kb_3 bv69_4 (by decide)
                refine lv_aload_n hx hb dX2_readArguments_162 rfl (lv_at hl 4 rfl) ?_
                refine g_getk (C := RX2) (T := TX2) (N := 16) hx hb hts (mc_ inX2) hown hK g rfl 0 (by decide) rfl (hts _ (List.mem_cons_of_mem _ t_416)) (fun _ h9 => h9) 2 rfl dX2_readArguments_163 ?_
                have go_ := g
                refine g_calli (va_runV (As := []) (rest := []) ⟨hx, hb, hml, hown, hts⟩ (r_X8_place l dC dI L kd tys f H.size g.2.2.2.1 q0_ mq0_ kq0_) (cwV 0 hts (gV_ t_1110 t_1111 t_1112 t_184 t_1113) rfl rfl rfl (by decide +kernel) ⟨(Nat.le_of_ble_eq_true rfl), (Nat.le_of_ble_eq_true rfl)⟩) (pre3V g hK mq0_ kq0_ (by decide) (q := (RX8, TX8, 10)) rfl) rfl rfl hl.1 rfl (lv_room (Nat.le_of_ble_eq_true rfl)) dX2_readArguments_166 ⟨(Nat.le_of_ble_eq_true rfl), (Nat.le_of_ble_eq_true rfl)⟩) g hK (by decide) (by decide) (fx' := [(2, 14, a0_, .int x_17), (8, 8, q0_, .int y1_), (2, 0, a0_, .ref q0_), (2, 1, a0_, .ref q1_), (2, 2, a0_, .ref q2_), (2, 3, a0_, .ref q3_), (0, 0, q2_, .ref q0_), (0, 1, q2_, .ref q1_), (5, 0, q1_, .ref q3_), (5, 1, q1_, .ref q7_), (2, 12, a0_, .int y0_)]) rfl (fun r_896 fr_896 H locs hp hMr_896 g => ?_)
                have hG_897 := cOK.frame hMr_896 go_.2.2.2.1 mq3_ kq3_ (by decide) (by decide) hG69_c_q3_
                have hG_898 := dOK.frame hMr_896 go_.2.2.2.1 mq3_ kq3_ (by decide) (by decide) hG69_d_q3_
                have hG_899 := jS.frame hMr_896 go_.2.2.2.1 mq3_ kq3_ (by decide) (by decide) hG69_s_q3_
                have hG_900 := eOK.frame hMr_896 go_.2.2.2.1 mq2_ kq2_ (by decide) (by decide) hG69_e_q2_
                refine lv_istore (lv' := [(4, .int r_896), (3, .int v69_3), (2, .int v69_2), (1, .int r_1), (0, .ref a0_)]) hx hb dX2_readArguments_169 hl (by decide) rfl (fun ls hl => ?_)
                refine lv_aload_n hx hb dX2_readArguments_171 rfl (lv_at hl 4 rfl) ?_
                refine g_getk (C := RX2) (T := TX2) (N := 16) hx hb hts (mc_ inX2) hown hK g rfl 0 (by decide) rfl (hts _ (List.mem_cons_of_mem _ t_416)) (fun _ h9 => h9) 2 rfl dX2_readArguments_172 ?_
                refine lv_bipush (v := 41) hx hb dX2_readArguments_175 (by decide) ?_
                have go_ := g
                refine g_callv (va_runV (As := [.int 41]) (rest := []) ⟨hx, hb, hml, hown, hts⟩ (r_X8_take l dC dI L kd tys fr_896 H.size g.2.2.2.1 q0_ mq0_ kq0_ 41 y1_ by1_ (g.fcts [1] rfl)) (cwV 1 hts (gV_ t_1098 t_1099 t_1100 t_184 t_1101) rfl rfl rfl (by decide +kernel) ⟨(Nat.le_of_ble_eq_true rfl), (Nat.le_of_ble_eq_true rfl)⟩) (pre3V g hK mq0_ kq0_ (by decide) (q := (RX8, TX8, 10)) rfl) rfl rfl hl.1 rfl (lv_room (Nat.le_of_ble_eq_true rfl)) dX2_readArguments_177 ⟨(Nat.le_of_ble_eq_true rfl), (Nat.le_of_ble_eq_true rfl)⟩) g hK (by decide) (by decide) (fx' := [(2, 14, a0_, .int x_17), (2, 0, a0_, .ref q0_), (2, 1, a0_, .ref q1_), (2, 2, a0_, .ref q2_), (2, 3, a0_, .ref q3_), (0, 0, q2_, .ref q0_), (0, 1, q2_, .ref q1_), (5, 0, q1_, .ref q3_), (5, 1, q1_, .ref q7_), (2, 12, a0_, .int y0_)]) rfl (fun fr_901 H locs hp hMr_901 g => ?_)
                rcases hp with ⟨x_902, h_903, hF_904⟩ | ⟨x_905, h_906, hF_907⟩
                · have hG_908 := cOK.frame hMr_901 go_.2.2.2.1 mq3_ kq3_ (by decide) (by decide) hG_897
                  have hG_909 := dOK.frame hMr_901 go_.2.2.2.1 mq3_ kq3_ (by decide) (by decide) hG_898
                  have hG_910 := jS.frame hMr_901 go_.2.2.2.1 mq3_ kq3_ (by decide) (by decide) hG_899
                  have hG_911 := eOK.frame hMr_901 go_.2.2.2.1 mq2_ kq2_ (by decide) (by decide) hG_900
                  have g := g.more hF_904
                  refine lv_iload_n hx hb dX2_readArguments_180 rfl (lv_at hl 2 rfl) ?_
                  refine lv_aload_n hx hb dX2_readArguments_181 rfl (lv_at hl 4 rfl) ?_
                  refine g_getk (C := RX2) (T := TX2) (N := 16) hx hb hts (mc_ inX2) hown hK g rfl 14 (by decide) rfl (hts _ (List.mem_cons_of_mem _ t_430)) (fun _ h9 => h9) 2 rfl dX2_readArguments_182 ?_
                  refine lv_icmp_ge (tgt := 199) hx hb dX2_readArguments_185 (by decide) (fun c_912 => ?_) (fun c_912 => ?_)
                  · have fc_912 := le_f c_912
                    have b_913 : bd 0 2147483647 v69_2 := leR fc_912 b_793 (bdT v69_2) (by decide)
                    refine lv_aload_n hx hb dX2_readArguments_199 rfl (lv_at hl 4 rfl) ?_
                    refine g_getk (C := RX2) (T := TX2) (N := 16) hx hb hts (mc_ inX2) hown hK g rfl 3 (by decide) rfl (hts _ (List.mem_cons_of_mem _ t_419)) (fun _ h9 => h9) 6 rfl dX2_readArguments_200 ?_
                    refine lv_aload_n hx hb dX2_readArguments_203 rfl (lv_at hl 4 rfl) ?_
                    refine g_getk (C := RX2) (T := TX2) (N := 16) hx hb hts (mc_ inX2) hown hK g rfl 12 (by decide) rfl (hts _ (List.mem_cons_of_mem _ t_428)) (fun _ h9 => h9) 11 rfl dX2_readArguments_204 ?_
                    refine lv_aload_n hx hb dX2_readArguments_207 rfl (lv_at hl 4 rfl) ?_
                    refine g_geti (C := RX2) (T := TX2) (N := 16) hx hb hts (mc_ inX2) hown hK g ma0_ ka0_ (by decide) rfl 13 (by decide) rfl (hts _ (List.mem_cons_of_mem _ t_429)) (fun _ h9 => h9) rfl dX2_readArguments_208 (fun x_914 bx_914 g => ?_)
                    obtain ⟨a_915, ma_915, ka_915, g⟩ := g_factr g mq3_ kq3_ (by decide) 4 rfl
                    obtain ⟨a_916, ma_916, ka_916, g⟩ := g_factr g mq3_ kq3_ (by decide) 5 rfl
                    obtain ⟨x_917, bx_917, g⟩ := g_facti g mq3_ kq3_ (by decide) 6 rfl
                    have go_ := g
                    refine g_callv (va_runV (As := [.int y0_, .int x_914]) (rest := []) ⟨hx, hb, hml, hown, hts⟩ (r_X7_emitN l dC dI L kd tys fr_901 H.size g.2.2.2.1 q3_ mq3_ kq3_ a_915 ma_915 ka_915 a_916 ma_916 ka_916 x_917 bx_917 T_ hG_909 y0_ x_914 (fun j9 => jOK fr_901 q3_ j9) hG_908 (fun _ h9 => h9) ⟨(fun h9 => ⟨(by have h9_0 := b_800; unfold bd at h9_0; have h9_1 := b_913; unfold bd at h9_1; have h9_2 := bv69_3; unfold bd at h9_2; have h9_3 := b_895; unfold bd at h9_3; have h9_4 := b_793; unfold bd at h9_4; have h9_5 := h_8; unfold bd at h9_5; have h9_6 := h_903; unfold bd at h9_6; have h9_7 := bx_914; unfold bd at h9_7; have h9_8 := bx_917; unfold bd at h9_8; have h9_9 := by0_; unfold bd at h9_9; have h9_10 := by1_; unfold bd at h9_10; have h8_0 := kb_0; unfold bd at h8_0; have h8_1 := kb_3; unfold bd at h8_1; have h8_2 := kb_41; unfold bd at h8_2; omega), (by have h9_0 := b_800; unfold bd at h9_0; have h9_1 := b_913; unfold bd at h9_1; have h9_2 := bv69_3; unfold bd at h9_2; have h9_3 := b_895; unfold bd at h9_3; have h9_4 := b_793; unfold bd at h9_4; have h9_5 := h_8; unfold bd at h9_5; have h9_6 := h_903; unfold bd at h9_6; have h9_7 := bx_914; unfold bd at h9_7; have h9_8 := bx_917; unfold bd at h9_8; have h9_9 := by0_; unfold bd at h9_9; have h9_10 := by1_; unfold bd at h9_10; have h8_0 := kb_0; unfold bd at h8_0; have h8_1 := kb_3; unfold bd at h8_1; have h8_2 := kb_41; unfold bd at h8_2; omega)⟩), (fun h9 => ⟨(by have h9_0 := b_800; unfold bd at h9_0; have h9_1 := b_913; unfold bd at h9_1; have h9_2 := bv69_3; unfold bd at h9_2; have h9_3 := b_895; unfold bd at h9_3; have h9_4 := b_793; unfold bd at h9_4; have h9_5 := h_8; unfold bd at h9_5; have h9_6 := h_903; unfold bd at h9_6; have h9_7 := bx_914; unfold bd at h9_7; have h9_8 := bx_917; unfold bd at h9_8; have h9_9 := by0_; unfold bd at h9_9; have h9_10 := by1_; unfold bd at h9_10; have h8_0 := kb_0; unfold bd at h8_0; have h8_1 := kb_3; unfold bd at h8_1; have h8_2 := kb_41; unfold bd at h8_2; omega), (by have h9_0 := b_800; unfold bd at h9_0; have h9_1 := b_913; unfold bd at h9_1; have h9_2 := bv69_3; unfold bd at h9_2; have h9_3 := b_895; unfold bd at h9_3; have h9_4 := b_793; unfold bd at h9_4; have h9_5 := h_8; unfold bd at h9_5; have h9_6 := h_903; unfold bd at h9_6; have h9_7 := bx_914; unfold bd at h9_7; have h9_8 := bx_917; unfold bd at h9_8; have h9_9 := by0_; unfold bd at h9_9; have h9_10 := by1_; unfold bd at h9_10; have h8_0 := kb_0; unfold bd at h8_0; have h8_1 := kb_3; unfold bd at h8_1; have h8_2 := kb_41; unfold bd at h8_2; omega)⟩), (fun h9 => ⟨(by have h9_0 := b_800; unfold bd at h9_0; have h9_1 := b_913; unfold bd at h9_1; have h9_2 := bv69_3; unfold bd at h9_2; have h9_3 := b_895; unfold bd at h9_3; have h9_4 := b_793; unfold bd at h9_4; have h9_5 := h_8; unfold bd at h9_5; have h9_6 := h_903; unfold bd at h9_6; have h9_7 := bx_914; unfold bd at h9_7; have h9_8 := bx_917; unfold bd at h9_8; have h9_9 := by0_; unfold bd at h9_9; have h9_10 := by1_; unfold bd at h9_10; have h8_0 := kb_0; unfold bd at h8_0; have h8_1 := kb_3; unfold bd at h8_1; have h8_2 := kb_41; unfold bd at h8_2; omega), (by have h9_0 := b_800; unfold bd at h9_0; have h9_1 := b_913; unfold bd at h9_1; have h9_2 := bv69_3; unfold bd at h9_2; have h9_3 := b_895; unfold bd at h9_3; have h9_4 := b_793; unfold bd at h9_4; have h9_5 := h_8; unfold bd at h9_5; have h9_6 := h_903; unfold bd at h9_6; have h9_7 := bx_914; unfold bd at h9_7; have h9_8 := bx_917; unfold bd at h9_8; have h9_9 := by0_; unfold bd at h9_9; have h9_10 := by1_; unfold bd at h9_10; have h8_0 := kb_0; unfold bd at h8_0; have h8_1 := kb_3; unfold bd at h8_1; have h8_2 := kb_41; unfold bd at h8_2; omega)⟩)⟩ (g.fcts [2, 1, 0] rfl)) (cwV 2 hts (gV_ t_1301 t_1204 t_1205 t_191 t_1206) rfl rfl rfl (by decide +kernel) ⟨(Nat.le_of_ble_eq_true rfl), (Nat.le_of_ble_eq_true rfl)⟩) (pre3V g hK mq3_ kq3_ (by decide) (q := (RX7, TX7, 19)) rfl) rfl rfl hl.1 rfl (lv_room (Nat.le_of_ble_eq_true rfl)) dX2_readArguments_211 ⟨(Nat.le_of_ble_eq_true rfl), (Nat.le_of_ble_eq_true rfl)⟩) g hK (by decide) (by decide) (fx' := [(7, 5, q3_, .ref a_916), (7, 4, q3_, .ref a_915), (2, 13, a0_, .int x_914), (8, 6, q0_, .int x_902), (8, 8, q0_, .int y1_), (2, 14, a0_, .int x_17), (2, 0, a0_, .ref q0_), (2, 1, a0_, .ref q1_), (2, 2, a0_, .ref q2_), (2, 3, a0_, .ref q3_), (0, 0, q2_, .ref q0_), (0, 1, q2_, .ref q1_), (5, 0, q1_, .ref q3_), (5, 1, q1_, .ref q7_), (2, 12, a0_, .int y0_)]) rfl (fun fr_918 H locs hp hMr_918 g => ?_)
                    obtain ⟨hG_919, hG_920, hG_921, hx_922, x_923, h_924, hF_925⟩ := hp
                    have hG_926 := eOK.frame hMr_918 go_.2.2.2.1 mq2_ kq2_ (by decide) (by decide) hG_911
                    have g := g.more hF_925
                    have hs_927 := jS.mv hG_910 hG_921
                    refine lv_aload_n hx hb dX2_readArguments_214 rfl (lv_at hl 4 rfl) ?_
                    refine g_getk (C := RX2) (T := TX2) (N := 16) hx hb hts (mc_ inX2) hown hK g rfl 3 (by decide) rfl (hts _ (List.mem_cons_of_mem _ t_419)) (fun _ h9 => h9) 10 rfl dX2_readArguments_215 ?_
                    refine lv_bipush (v := 22) hx hb dX2_readArguments_218 (by decide) ?_
                    refine lv_iconst (v := 0) hx hb dX2_readArguments_220 (by decide) ?_
                    have kb_22 : bd 22 22 (22 : Int32) := ⟨by decide, by decide⟩
                    have go_ := g
                    refine g_callv (va_runV (As := [.int 22, .int 0]) (rest := []) ⟨hx, hb, hml, hown, hts⟩ (r_X7_emitN l dC dI L kd tys fr_918 H.size g.2.2.2.1 q3_ mq3_ kq3_ a_915 ma_915 ka_915 a_916 ma_916 ka_916 x_923 h_924 T_ hG_919 (22 : Int32) (0 : Int32) (fun j9 => jOK fr_918 q3_ j9) hG_920 (fun _ h9 => h9) ⟨(fun h9 => ⟨(by have h9_0 := b_800; unfold bd at h9_0; have h9_1 := b_913; unfold bd at h9_1; have h9_2 := bv69_3; unfold bd at h9_2; have h9_3 := b_895; unfold bd at h9_3; have h9_4 := b_793; unfold bd at h9_4; have h9_5 := h_8; unfold bd at h9_5; have h9_6 := h_903; unfold bd at h9_6; have h9_7 := bx_914; unfold bd at h9_7; have h9_8 := bx_917; unfold bd at h9_8; have h9_9 := h_924; unfold bd at h9_9; have h9_10 := by0_; unfold bd at h9_10; have h9_11 := by1_; unfold bd at h9_11; have h8_0 := kb_0; unfold bd at h8_0; have h8_1 := kb_22; unfold bd at h8_1; have h8_2 := kb_3; unfold bd at h8_2; have h8_3 := kb_41; unfold bd at h8_3; omega), (by have h9_0 := b_800; unfold bd at h9_0; have h9_1 := b_913; unfold bd at h9_1; have h9_2 := bv69_3; unfold bd at h9_2; have h9_3 := b_895; unfold bd at h9_3; have h9_4 := b_793; unfold bd at h9_4; have h9_5 := h_8; unfold bd at h9_5; have h9_6 := h_903; unfold bd at h9_6; have h9_7 := bx_914; unfold bd at h9_7; have h9_8 := bx_917; unfold bd at h9_8; have h9_9 := h_924; unfold bd at h9_9; have h9_10 := by0_; unfold bd at h9_10; have h9_11 := by1_; unfold bd at h9_11; have h8_0 := kb_0; unfold bd at h8_0; have h8_1 := kb_22; unfold bd at h8_1; have h8_2 := kb_3; unfold bd at h8_2; have h8_3 := kb_41; unfold bd at h8_3; omega)⟩), (fun h9 => ⟨(by have h9_0 := b_800; unfold bd at h9_0; have h9_1 := b_913; unfold bd at h9_1; have h9_2 := bv69_3; unfold bd at h9_2; have h9_3 := b_895; unfold bd at h9_3; have h9_4 := b_793; unfold bd at h9_4; have h9_5 := h_8; unfold bd at h9_5; have h9_6 := h_903; unfold bd at h9_6; have h9_7 := bx_914; unfold bd at h9_7; have h9_8 := bx_917; unfold bd at h9_8; have h9_9 := h_924; unfold bd at h9_9; have h9_10 := by0_; unfold bd at h9_10; have h9_11 := by1_; unfold bd at h9_11; have h8_0 := kb_0; unfold bd at h8_0; have h8_1 := kb_22; unfold bd at h8_1; have h8_2 := kb_3; unfold bd at h8_2; have h8_3 := kb_41; unfold bd at h8_3; omega), (by have h9_0 := b_800; unfold bd at h9_0; have h9_1 := b_913; unfold bd at h9_1; have h9_2 := bv69_3; unfold bd at h9_2; have h9_3 := b_895; unfold bd at h9_3; have h9_4 := b_793; unfold bd at h9_4; have h9_5 := h_8; unfold bd at h9_5; have h9_6 := h_903; unfold bd at h9_6; have h9_7 := bx_914; unfold bd at h9_7; have h9_8 := bx_917; unfold bd at h9_8; have h9_9 := h_924; unfold bd at h9_9; have h9_10 := by0_; unfold bd at h9_10; have h9_11 := by1_; unfold bd at h9_11; have h8_0 := kb_0; unfold bd at h8_0; have h8_1 := kb_22; unfold bd at h8_1; have h8_2 := kb_3; unfold bd at h8_2; have h8_3 := kb_41; unfold bd at h8_3; omega)⟩), (fun h9 => ⟨(by have h9_0 := b_800; unfold bd at h9_0; have h9_1 := b_913; unfold bd at h9_1; have h9_2 := bv69_3; unfold bd at h9_2; have h9_3 := b_895; unfold bd at h9_3; have h9_4 := b_793; unfold bd at h9_4; have h9_5 := h_8; unfold bd at h9_5; have h9_6 := h_903; unfold bd at h9_6; have h9_7 := bx_914; unfold bd at h9_7; have h9_8 := bx_917; unfold bd at h9_8; have h9_9 := h_924; unfold bd at h9_9; have h9_10 := by0_; unfold bd at h9_10; have h9_11 := by1_; unfold bd at h9_11; have h8_0 := kb_0; unfold bd at h8_0; have h8_1 := kb_22; unfold bd at h8_1; have h8_2 := kb_3; unfold bd at h8_2; have h8_3 := kb_41; unfold bd at h8_3; omega), (by have h9_0 := b_800; unfold bd at h9_0; have h9_1 := b_913; unfold bd at h9_1; have h9_2 := bv69_3; unfold bd at h9_2; have h9_3 := b_895; unfold bd at h9_3; have h9_4 := b_793; unfold bd at h9_4; have h9_5 := h_8; unfold bd at h9_5; have h9_6 := h_903; unfold bd at h9_6; have h9_7 := bx_914; unfold bd at h9_7; have h9_8 := bx_917; unfold bd at h9_8; have h9_9 := h_924; unfold bd at h9_9; have h9_10 := by0_; unfold bd at h9_10; have h9_11 := by1_; unfold bd at h9_11; have h8_0 := kb_0; unfold bd at h8_0; have h8_1 := kb_22; unfold bd at h8_1; have h8_2 := kb_3; unfold bd at h8_2; have h8_3 := kb_41; unfold bd at h8_3; omega)⟩)⟩ (g.fcts [2, 1, 0] rfl)) (cwV 2 hts (gV_ t_1301 t_1204 t_1205 t_191 t_1206) rfl rfl rfl (by decide +kernel) ⟨(Nat.le_of_ble_eq_true rfl), (Nat.le_of_ble_eq_true rfl)⟩) (pre3V g hK mq3_ kq3_ (by decide) (q := (RX7, TX7, 19)) rfl) rfl rfl hl.1 rfl (lv_room (Nat.le_of_ble_eq_true rfl)) dX2_readArguments_221 ⟨(Nat.le_of_ble_eq_true rfl), (Nat.le_of_ble_eq_true rfl)⟩) g hK (by decide) (by decide) (fx' := [(7, 5, q3_, .ref a_916), (7, 4, q3_, .ref a_915), (2, 13, a0_, .int x_914), (8, 6, q0_, .int x_902), (8, 8, q0_, .int y1_), (2, 14, a0_, .int x_17), (2, 0, a0_, .ref q0_), (2, 1, a0_, .ref q1_), (2, 2, a0_, .ref q2_), (2, 3, a0_, .ref q3_), (0, 0, q2_, .ref q0_), (0, 1, q2_, .ref q1_), (5, 0, q1_, .ref q3_), (5, 1, q1_, .ref q7_), (2, 12, a0_, .int y0_)]) rfl (fun fr_928 H locs hp hMr_928 g => ?_)
                    obtain ⟨hG_929, hG_930, hG_931, hx_932, x_933, h_934, hF_935⟩ := hp
                    have hG_936 := eOK.frame hMr_928 go_.2.2.2.1 mq2_ kq2_ (by decide) (by decide) hG_926
                    have g := g.more hF_935
                    have hs_937 := jS.mv hs_927 hG_931
                    refine lv_aload_n hx hb dX2_readArguments_224 rfl (lv_at hl 4 rfl) ?_
                    refine g_getk (C := RX2) (T := TX2) (N := 16) hx hb hts (mc_ inX2) hown hK g rfl 0 (by decide) rfl (hts _ (List.mem_cons_of_mem _ t_416)) (fun _ h9 => h9) 7 rfl dX2_readArguments_225 ?_
                    refine lv_bipush (v := 59) hx hb dX2_readArguments_228 (by decide) ?_
                    have go_ := g
                    refine g_callv (va_runV (As := [.int 59]) (rest := []) ⟨hx, hb, hml, hown, hts⟩ (r_X8_take l dC dI L kd tys fr_928 H.size g.2.2.2.1 q0_ mq0_ kq0_ 59 y1_ by1_ (g.fcts [5] rfl)) (cwV 1 hts (gV_ t_1098 t_1099 t_1100 t_184 t_1101) rfl rfl rfl (by decide +kernel) ⟨(Nat.le_of_ble_eq_true rfl), (Nat.le_of_ble_eq_true rfl)⟩) (pre3V g hK mq0_ kq0_ (by decide) (q := (RX8, TX8, 10)) rfl) rfl rfl hl.1 rfl (lv_room (Nat.le_of_ble_eq_true rfl)) dX2_readArguments_230 ⟨(Nat.le_of_ble_eq_true rfl), (Nat.le_of_ble_eq_true rfl)⟩) g hK (by decide) (by decide) (fx' := [(7, 6, q3_, .int x_933), (7, 5, q3_, .ref a_916), (7, 4, q3_, .ref a_915), (2, 13, a0_, .int x_914), (2, 14, a0_, .int x_17), (2, 0, a0_, .ref q0_), (2, 1, a0_, .ref q1_), (2, 2, a0_, .ref q2_), (2, 3, a0_, .ref q3_), (0, 0, q2_, .ref q0_), (0, 1, q2_, .ref q1_), (5, 0, q1_, .ref q3_), (5, 1, q1_, .ref q7_), (2, 12, a0_, .int y0_)]) rfl (fun fr_938 H locs hp hMr_938 g => ?_)
                    rcases hp with ⟨x_939, h_940, hF_941⟩ | ⟨x_942, h_943, hF_944⟩
                    · have hG_945 := cOK.frame hMr_938 go_.2.2.2.1 mq3_ kq3_ (by decide) (by decide) hG_930
                      have hG_946 := dOK.frame hMr_938 go_.2.2.2.1 mq3_ kq3_ (by decide) (by decide) hG_929
                      have hG_947 := jS.frame hMr_938 go_.2.2.2.1 mq3_ kq3_ (by decide) (by decide) hs_937
                      have hG_948 := eOK.frame hMr_938 go_.2.2.2.1 mq2_ kq2_ (by decide) (by decide) hG_936
                      have g := g.more hF_941
                      subst hQ
                      exact W.vret hx hb hr (fun t ht hW => ⟨⟨_, rfl, Or.inl ⟨hG_945, hG_946, hG_947, hG_948, x_939, h_940, (g.fcts [0, 1] rfl)⟩, q3_of g hK ht hW⟩, g.2.2.1.F ht⟩) g.2.2.1.2.2 dX2_readArguments_233
                    · have hG_949 := cOK.frame hMr_938 go_.2.2.2.1 mq3_ kq3_ (by decide) (by decide) hG_930
                      have hG_950 := dOK.frame hMr_938 go_.2.2.2.1 mq3_ kq3_ (by decide) (by decide) hG_929
                      have hG_951 := jS.frame hMr_938 go_.2.2.2.1 mq3_ kq3_ (by decide) (by decide) hs_937
                      have hG_952 := eOK.frame hMr_938 go_.2.2.2.1 mq2_ kq2_ (by decide) (by decide) hG_936
                      have g := g.more hF_944
                      have kb_1201 : bd 1201 1201 (1201 : Int32) := ⟨by decide, by decide⟩
                      subst hQ
                      exact W.vret hx hb hr (fun t ht hW => ⟨⟨_, rfl, Or.inr (⟨hG_950, hG_952, 1201, kb_1201, x_942, h_943, (g.fcts [0, 1] rfl)⟩), q3_of g hK ht hW⟩, g.2.2.1.F ht⟩) g.2.2.1.2.2 dX2_readArguments_233
                  · have fc_912 := nle_f c_912
                    have b_953 : bd (-2147483648) (-1) v69_2 := ltL fc_912 (bdT v69_2) b_793 (by decide)
                    refine lv_aload_n hx hb dX2_readArguments_188 rfl (lv_at hl 4 rfl) ?_
                    refine g_getk (C := RX2) (T := TX2) (N := 16) hx hb hts (mc_ inX2) hown hK g rfl 0 (by decide) rfl (hts _ (List.mem_cons_of_mem _ t_416)) (fun _ h9 => h9) 3 rfl dX2_readArguments_189 ?_
                    refine lv_bipush (v := 6) hx hb dX2_readArguments_192 (by decide) ?_
                    refine lv_iload hx hb dX2_readArguments_194 (lv_at hl 0 rfl) ?_
                    have kb_6 : bd 6 6 (6 : Int32) := ⟨by decide, by decide⟩
                    have go_ := g
                    refine g_callv (va_runV (As := [.int 6, .int r_896]) (rest := []) ⟨hx, hb, hml, hown, hts⟩ (r_X8_fail l dC dI L kd tys fr_901 H.size g.2.2.2.1 q0_ mq0_ kq0_ 6 (bd_sub kb_6 (by decide)) r_896 y1_ by1_ (g.fcts [1] rfl)) (cwV 2 hts (gV_ t_1122 t_1107 t_1108 t_184 t_1109) rfl rfl rfl (by decide +kernel) ⟨(Nat.le_of_ble_eq_true rfl), (Nat.le_of_ble_eq_true rfl)⟩) (pre3V g hK mq0_ kq0_ (by decide) (q := (RX8, TX8, 10)) rfl) rfl rfl hl.1 rfl (lv_room (Nat.le_of_ble_eq_true rfl)) dX2_readArguments_196 ⟨(Nat.le_of_ble_eq_true rfl), (Nat.le_of_ble_eq_true rfl)⟩) g hK (by decide) (by decide) (fx' := [(2, 14, a0_, .int x_17), (2, 0, a0_, .ref q0_), (2, 1, a0_, .ref q1_), (2, 2, a0_, .ref q2_), (2, 3, a0_, .ref q3_), (0, 0, q2_, .ref q0_), (0, 1, q2_, .ref q1_), (5, 0, q1_, .ref q3_), (5, 1, q1_, .ref q7_), (2, 12, a0_, .int y0_)]) rfl (fun fr_954 H locs hp hMr_954 g => ?_)
                    obtain ⟨x_955, h_956, hF_957⟩ := hp
                    have hG_958 := cOK.frame hMr_954 go_.2.2.2.1 mq3_ kq3_ (by decide) (by decide) hG_908
                    have hG_959 := dOK.frame hMr_954 go_.2.2.2.1 mq3_ kq3_ (by decide) (by decide) hG_909
                    have hG_960 := jS.frame hMr_954 go_.2.2.2.1 mq3_ kq3_ (by decide) (by decide) hG_910
                    have hG_961 := eOK.frame hMr_954 go_.2.2.2.1 mq2_ kq2_ (by decide) (by decide) hG_911
                    have g := g.more hF_957
                    refine lv_aload_n hx hb dX2_readArguments_199 rfl (lv_at hl 4 rfl) ?_
                    refine g_getk (C := RX2) (T := TX2) (N := 16) hx hb hts (mc_ inX2) hown hK g rfl 3 (by decide) rfl (hts _ (List.mem_cons_of_mem _ t_419)) (fun _ h9 => h9) 6 rfl dX2_readArguments_200 ?_
                    refine lv_aload_n hx hb dX2_readArguments_203 rfl (lv_at hl 4 rfl) ?_
                    refine g_getk (C := RX2) (T := TX2) (N := 16) hx hb hts (mc_ inX2) hown hK g rfl 12 (by decide) rfl (hts _ (List.mem_cons_of_mem _ t_428)) (fun _ h9 => h9) 11 rfl dX2_readArguments_204 ?_
                    refine lv_aload_n hx hb dX2_readArguments_207 rfl (lv_at hl 4 rfl) ?_
                    refine g_geti (C := RX2) (T := TX2) (N := 16) hx hb hts (mc_ inX2) hown hK g ma0_ ka0_ (by decide) rfl 13 (by decide) rfl (hts _ (List.mem_cons_of_mem _ t_429)) (fun _ h9 => h9) rfl dX2_readArguments_208 (fun x_962 bx_962 g => ?_)
                    obtain ⟨a_963, ma_963, ka_963, g⟩ := g_factr g mq3_ kq3_ (by decide) 4 rfl
                    obtain ⟨a_964, ma_964, ka_964, g⟩ := g_factr g mq3_ kq3_ (by decide) 5 rfl
                    obtain ⟨x_965, bx_965, g⟩ := g_facti g mq3_ kq3_ (by decide) 6 rfl
                    have go_ := g
                    refine g_callv (va_runV (As := [.int y0_, .int x_962]) (rest := []) ⟨hx, hb, hml, hown, hts⟩ (r_X7_emitF l dC dI L kd tys fr_954 H.size g.2.2.2.1 q3_ mq3_ kq3_ a_963 ma_963 ka_963 a_964 ma_964 ka_964 x_965 bx_965 T_ hG_959 y0_ x_962 (g.fcts [2, 1, 0] rfl)) (cwV 2 hts (gV_ t_1301 t_1204 t_1205 t_191 t_1206) rfl rfl rfl (by decide +kernel) ⟨(Nat.le_of_ble_eq_true rfl), (Nat.le_of_ble_eq_true rfl)⟩) (pre3V g hK mq3_ kq3_ (by decide) (q := (RX7, TX7, 19)) rfl) rfl rfl hl.1 rfl (lv_room (Nat.le_of_ble_eq_true rfl)) dX2_readArguments_211 ⟨(Nat.le_of_ble_eq_true rfl), (Nat.le_of_ble_eq_true rfl)⟩) g hK (by decide) (by decide) (fx' := [(7, 5, q3_, .ref a_964), (7, 4, q3_, .ref a_963), (2, 13, a0_, .int x_962), (8, 6, q0_, .int 1201), (8, 8, q0_, .int x_955), (2, 14, a0_, .int x_17), (2, 0, a0_, .ref q0_), (2, 1, a0_, .ref q1_), (2, 2, a0_, .ref q2_), (2, 3, a0_, .ref q3_), (0, 0, q2_, .ref q0_), (0, 1, q2_, .ref q1_), (5, 0, q1_, .ref q3_), (5, 1, q1_, .ref q7_), (2, 12, a0_, .int y0_)]) rfl (fun fr_966 H locs hp hMr_966 g => ?_)
                    obtain ⟨hG_967, x_968, h_969, hF_970⟩ := hp
                    have hG_971 := eOK.frame hMr_966 go_.2.2.2.1 mq2_ kq2_ (by decide) (by decide) hG_961
                    have g := g.more hF_970
                    refine lv_aload_n hx hb dX2_readArguments_214 rfl (lv_at hl 4 rfl) ?_
                    refine g_getk (C := RX2) (T := TX2) (N := 16) hx hb hts (mc_ inX2) hown hK g rfl 3 (by decide) rfl (hts _ (List.mem_cons_of_mem _ t_419)) (fun _ h9 => h9) 10 rfl dX2_readArguments_215 ?_
                    refine lv_bipush (v := 22) hx hb dX2_readArguments_218 (by decide) ?_
                    refine lv_iconst (v := 0) hx hb dX2_readArguments_220 (by decide) ?_
                    have go_ := g
                    refine g_callv (va_runV (As := [.int 22, .int 0]) (rest := []) ⟨hx, hb, hml, hown, hts⟩ (r_X7_emitF l dC dI L kd tys fr_966 H.size g.2.2.2.1 q3_ mq3_ kq3_ a_963 ma_963 ka_963 a_964 ma_964 ka_964 x_968 h_969 T_ hG_967 (22 : Int32) (0 : Int32) (g.fcts [2, 1, 0] rfl)) (cwV 2 hts (gV_ t_1301 t_1204 t_1205 t_191 t_1206) rfl rfl rfl (by decide +kernel) ⟨(Nat.le_of_ble_eq_true rfl), (Nat.le_of_ble_eq_true rfl)⟩) (pre3V g hK mq3_ kq3_ (by decide) (q := (RX7, TX7, 19)) rfl) rfl rfl hl.1 rfl (lv_room (Nat.le_of_ble_eq_true rfl)) dX2_readArguments_221 ⟨(Nat.le_of_ble_eq_true rfl), (Nat.le_of_ble_eq_true rfl)⟩) g hK (by decide) (by decide) (fx' := [(7, 5, q3_, .ref a_964), (7, 4, q3_, .ref a_963), (2, 13, a0_, .int x_962), (8, 6, q0_, .int 1201), (8, 8, q0_, .int x_955), (2, 14, a0_, .int x_17), (2, 0, a0_, .ref q0_), (2, 1, a0_, .ref q1_), (2, 2, a0_, .ref q2_), (2, 3, a0_, .ref q3_), (0, 0, q2_, .ref q0_), (0, 1, q2_, .ref q1_), (5, 0, q1_, .ref q3_), (5, 1, q1_, .ref q7_), (2, 12, a0_, .int y0_)]) rfl (fun fr_972 H locs hp hMr_972 g => ?_)
                    obtain ⟨hG_973, x_974, h_975, hF_976⟩ := hp
                    have hG_977 := eOK.frame hMr_972 go_.2.2.2.1 mq2_ kq2_ (by decide) (by decide) hG_971
                    have g := g.more hF_976
                    refine lv_aload_n hx hb dX2_readArguments_224 rfl (lv_at hl 4 rfl) ?_
                    refine g_getk (C := RX2) (T := TX2) (N := 16) hx hb hts (mc_ inX2) hown hK g rfl 0 (by decide) rfl (hts _ (List.mem_cons_of_mem _ t_416)) (fun _ h9 => h9) 7 rfl dX2_readArguments_225 ?_
                    refine lv_bipush (v := 59) hx hb dX2_readArguments_228 (by decide) ?_
                    have kb_1201 : bd 1201 1201 (1201 : Int32) := ⟨by decide, by decide⟩
                    have go_ := g
                    refine g_callv (va_runV (As := [.int 59]) (rest := []) ⟨hx, hb, hml, hown, hts⟩ (r_X8_take_2 l dC dI L kd tys fr_972 H.size g.2.2.2.1 q0_ mq0_ kq0_ 59 1201 kb_1201 x_955 h_956 (g.fcts [4, 5] rfl)) (cwV 1 hts (gV_ t_1098 t_1099 t_1100 t_184 t_1101) rfl rfl rfl (by decide +kernel) ⟨(Nat.le_of_ble_eq_true rfl), (Nat.le_of_ble_eq_true rfl)⟩) (pre3V g hK mq0_ kq0_ (by decide) (q := (RX8, TX8, 10)) rfl) rfl rfl hl.1 rfl (lv_room (Nat.le_of_ble_eq_true rfl)) dX2_readArguments_230 ⟨(Nat.le_of_ble_eq_true rfl), (Nat.le_of_ble_eq_true rfl)⟩) g hK (by decide) (by decide) (fx' := [(7, 6, q3_, .int x_974), (7, 5, q3_, .ref a_964), (7, 4, q3_, .ref a_963), (2, 13, a0_, .int x_962), (8, 8, q0_, .int x_955), (2, 14, a0_, .int x_17), (2, 0, a0_, .ref q0_), (2, 1, a0_, .ref q1_), (2, 2, a0_, .ref q2_), (2, 3, a0_, .ref q3_), (0, 0, q2_, .ref q0_), (0, 1, q2_, .ref q1_), (5, 0, q1_, .ref q3_), (5, 1, q1_, .ref q7_), (2, 12, a0_, .int y0_)]) rfl (fun fr_978 H locs hp hMr_978 g => ?_)
                    obtain ⟨x_979, h_980, hF_981⟩ := hp
                    have hG_982 := dOK.frame hMr_978 go_.2.2.2.1 mq3_ kq3_ (by decide) (by decide) hG_973
                    have hG_983 := eOK.frame hMr_978 go_.2.2.2.1 mq2_ kq2_ (by decide) (by decide) hG_977
                    have g := g.more hF_981
                    subst hQ
                    exact W.vret hx hb hr (fun t ht hW => ⟨⟨_, rfl, Or.inr (⟨hG_982, hG_983, x_979, h_980, x_955, h_956, (g.fcts [0, 5] rfl)⟩), q3_of g hK ht hW⟩, g.2.2.1.F ht⟩) g.2.2.1.2.2 dX2_readArguments_233
                · have hG_984 := cOK.frame hMr_901 go_.2.2.2.1 mq3_ kq3_ (by decide) (by decide) hG_897
                  have hG_985 := dOK.frame hMr_901 go_.2.2.2.1 mq3_ kq3_ (by decide) (by decide) hG_898
                  have hG_986 := jS.frame hMr_901 go_.2.2.2.1 mq3_ kq3_ (by decide) (by decide) hG_899
                  have hG_987 := eOK.frame hMr_901 go_.2.2.2.1 mq2_ kq2_ (by decide) (by decide) hG_900
                  have g := g.more hF_907
                  refine lv_iload_n hx hb dX2_readArguments_180 rfl (lv_at hl 2 rfl) ?_
                  refine lv_aload_n hx hb dX2_readArguments_181 rfl (lv_at hl 4 rfl) ?_
                  refine g_getk (C := RX2) (T := TX2) (N := 16) hx hb hts (mc_ inX2) hown hK g rfl 14 (by decide) rfl (hts _ (List.mem_cons_of_mem _ t_430)) (fun _ h9 => h9) 2 rfl dX2_readArguments_182 ?_
                  refine lv_icmp_ge (tgt := 199) hx hb dX2_readArguments_185 (by decide) (fun c_988 => ?_) (fun c_988 => ?_)
                  · have fc_988 := le_f c_988
                    have b_989 : bd 0 2147483647 v69_2 := leR fc_988 b_793 (bdT v69_2) (by decide)
                    refine lv_aload_n hx hb dX2_readArguments_199 rfl (lv_at hl 4 rfl) ?_
                    refine g_getk (C := RX2) (T := TX2) (N := 16) hx hb hts (mc_ inX2) hown hK g rfl 3 (by decide) rfl (hts _ (List.mem_cons_of_mem _ t_419)) (fun _ h9 => h9) 6 rfl dX2_readArguments_200 ?_
                    refine lv_aload_n hx hb dX2_readArguments_203 rfl (lv_at hl 4 rfl) ?_
                    refine g_getk (C := RX2) (T := TX2) (N := 16) hx hb hts (mc_ inX2) hown hK g rfl 12 (by decide) rfl (hts _ (List.mem_cons_of_mem _ t_428)) (fun _ h9 => h9) 11 rfl dX2_readArguments_204 ?_
                    refine lv_aload_n hx hb dX2_readArguments_207 rfl (lv_at hl 4 rfl) ?_
                    refine g_geti (C := RX2) (T := TX2) (N := 16) hx hb hts (mc_ inX2) hown hK g ma0_ ka0_ (by decide) rfl 13 (by decide) rfl (hts _ (List.mem_cons_of_mem _ t_429)) (fun _ h9 => h9) rfl dX2_readArguments_208 (fun x_990 bx_990 g => ?_)
                    obtain ⟨a_991, ma_991, ka_991, g⟩ := g_factr g mq3_ kq3_ (by decide) 4 rfl
                    obtain ⟨a_992, ma_992, ka_992, g⟩ := g_factr g mq3_ kq3_ (by decide) 5 rfl
                    obtain ⟨x_993, bx_993, g⟩ := g_facti g mq3_ kq3_ (by decide) 6 rfl
                    have go_ := g
                    refine g_callv (va_runV (As := [.int y0_, .int x_990]) (rest := []) ⟨hx, hb, hml, hown, hts⟩ (r_X7_emitF l dC dI L kd tys fr_901 H.size g.2.2.2.1 q3_ mq3_ kq3_ a_991 ma_991 ka_991 a_992 ma_992 ka_992 x_993 bx_993 T_ hG_985 y0_ x_990 (g.fcts [2, 1, 0] rfl)) (cwV 2 hts (gV_ t_1301 t_1204 t_1205 t_191 t_1206) rfl rfl rfl (by decide +kernel) ⟨(Nat.le_of_ble_eq_true rfl), (Nat.le_of_ble_eq_true rfl)⟩) (pre3V g hK mq3_ kq3_ (by decide) (q := (RX7, TX7, 19)) rfl) rfl rfl hl.1 rfl (lv_room (Nat.le_of_ble_eq_true rfl)) dX2_readArguments_211 ⟨(Nat.le_of_ble_eq_true rfl), (Nat.le_of_ble_eq_true rfl)⟩) g hK (by decide) (by decide) (fx' := [(7, 5, q3_, .ref a_992), (7, 4, q3_, .ref a_991), (2, 13, a0_, .int x_990), (8, 6, q0_, .int 1201), (8, 8, q0_, .int x_905), (2, 14, a0_, .int x_17), (2, 0, a0_, .ref q0_), (2, 1, a0_, .ref q1_), (2, 2, a0_, .ref q2_), (2, 3, a0_, .ref q3_), (0, 0, q2_, .ref q0_), (0, 1, q2_, .ref q1_), (5, 0, q1_, .ref q3_), (5, 1, q1_, .ref q7_), (2, 12, a0_, .int y0_)]) rfl (fun fr_994 H locs hp hMr_994 g => ?_)
                    obtain ⟨hG_995, x_996, h_997, hF_998⟩ := hp
                    have hG_999 := eOK.frame hMr_994 go_.2.2.2.1 mq2_ kq2_ (by decide) (by decide) hG_987
                    have g := g.more hF_998
                    refine lv_aload_n hx hb dX2_readArguments_214 rfl (lv_at hl 4 rfl) ?_
                    refine g_getk (C := RX2) (T := TX2) (N := 16) hx hb hts (mc_ inX2) hown hK g rfl 3 (by decide) rfl (hts _ (List.mem_cons_of_mem _ t_419)) (fun _ h9 => h9) 10 rfl dX2_readArguments_215 ?_
                    refine lv_bipush (v := 22) hx hb dX2_readArguments_218 (by decide) ?_
                    refine lv_iconst (v := 0) hx hb dX2_readArguments_220 (by decide) ?_
                    have go_ := g
                    refine g_callv (va_runV (As := [.int 22, .int 0]) (rest := []) ⟨hx, hb, hml, hown, hts⟩ (r_X7_emitF l dC dI L kd tys fr_994 H.size g.2.2.2.1 q3_ mq3_ kq3_ a_991 ma_991 ka_991 a_992 ma_992 ka_992 x_996 h_997 T_ hG_995 (22 : Int32) (0 : Int32) (g.fcts [2, 1, 0] rfl)) (cwV 2 hts (gV_ t_1301 t_1204 t_1205 t_191 t_1206) rfl rfl rfl (by decide +kernel) ⟨(Nat.le_of_ble_eq_true rfl), (Nat.le_of_ble_eq_true rfl)⟩) (pre3V g hK mq3_ kq3_ (by decide) (q := (RX7, TX7, 19)) rfl) rfl rfl hl.1 rfl (lv_room (Nat.le_of_ble_eq_true rfl)) dX2_readArguments_221 ⟨(Nat.le_of_ble_eq_true rfl), (Nat.le_of_ble_eq_true rfl)⟩) g hK (by decide) (by decide) (fx' := [(7, 5, q3_, .ref a_992), (7, 4, q3_, .ref a_991), (2, 13, a0_, .int x_990), (8, 6, q0_, .int 1201), (8, 8, q0_, .int x_905), (2, 14, a0_, .int x_17), (2, 0, a0_, .ref q0_), (2, 1, a0_, .ref q1_), (2, 2, a0_, .ref q2_), (2, 3, a0_, .ref q3_), (0, 0, q2_, .ref q0_), (0, 1, q2_, .ref q1_), (5, 0, q1_, .ref q3_), (5, 1, q1_, .ref q7_), (2, 12, a0_, .int y0_)]) rfl (fun fr_1000 H locs hp hMr_1000 g => ?_)
                    obtain ⟨hG_1001, x_1002, h_1003, hF_1004⟩ := hp
                    have hG_1005 := eOK.frame hMr_1000 go_.2.2.2.1 mq2_ kq2_ (by decide) (by decide) hG_999
                    have g := g.more hF_1004
                    refine lv_aload_n hx hb dX2_readArguments_224 rfl (lv_at hl 4 rfl) ?_
                    refine g_getk (C := RX2) (T := TX2) (N := 16) hx hb hts (mc_ inX2) hown hK g rfl 0 (by decide) rfl (hts _ (List.mem_cons_of_mem _ t_416)) (fun _ h9 => h9) 7 rfl dX2_readArguments_225 ?_
                    refine lv_bipush (v := 59) hx hb dX2_readArguments_228 (by decide) ?_
                    have kb_1201 : bd 1201 1201 (1201 : Int32) := ⟨by decide, by decide⟩
                    have go_ := g
                    refine g_callv (va_runV (As := [.int 59]) (rest := []) ⟨hx, hb, hml, hown, hts⟩ (r_X8_take_2 l dC dI L kd tys fr_1000 H.size g.2.2.2.1 q0_ mq0_ kq0_ 59 1201 kb_1201 x_905 h_906 (g.fcts [4, 5] rfl)) (cwV 1 hts (gV_ t_1098 t_1099 t_1100 t_184 t_1101) rfl rfl rfl (by decide +kernel) ⟨(Nat.le_of_ble_eq_true rfl), (Nat.le_of_ble_eq_true rfl)⟩) (pre3V g hK mq0_ kq0_ (by decide) (q := (RX8, TX8, 10)) rfl) rfl rfl hl.1 rfl (lv_room (Nat.le_of_ble_eq_true rfl)) dX2_readArguments_230 ⟨(Nat.le_of_ble_eq_true rfl), (Nat.le_of_ble_eq_true rfl)⟩) g hK (by decide) (by decide) (fx' := [(7, 6, q3_, .int x_1002), (7, 5, q3_, .ref a_992), (7, 4, q3_, .ref a_991), (2, 13, a0_, .int x_990), (8, 8, q0_, .int x_905), (2, 14, a0_, .int x_17), (2, 0, a0_, .ref q0_), (2, 1, a0_, .ref q1_), (2, 2, a0_, .ref q2_), (2, 3, a0_, .ref q3_), (0, 0, q2_, .ref q0_), (0, 1, q2_, .ref q1_), (5, 0, q1_, .ref q3_), (5, 1, q1_, .ref q7_), (2, 12, a0_, .int y0_)]) rfl (fun fr_1006 H locs hp hMr_1006 g => ?_)
                    obtain ⟨x_1007, h_1008, hF_1009⟩ := hp
                    have hG_1010 := dOK.frame hMr_1006 go_.2.2.2.1 mq3_ kq3_ (by decide) (by decide) hG_1001
                    have hG_1011 := eOK.frame hMr_1006 go_.2.2.2.1 mq2_ kq2_ (by decide) (by decide) hG_1005
                    have g := g.more hF_1009
                    subst hQ
                    exact W.vret hx hb hr (fun t ht hW => ⟨⟨_, rfl, Or.inr (⟨hG_1010, hG_1011, x_1007, h_1008, x_905, h_906, (g.fcts [0, 5] rfl)⟩), q3_of g hK ht hW⟩, g.2.2.1.F ht⟩) g.2.2.1.2.2 dX2_readArguments_233
                  · have fc_988 := nle_f c_988
                    have b_1012 : bd (-2147483648) (-1) v69_2 := ltL fc_988 (bdT v69_2) b_793 (by decide)
                    refine lv_aload_n hx hb dX2_readArguments_188 rfl (lv_at hl 4 rfl) ?_
                    refine g_getk (C := RX2) (T := TX2) (N := 16) hx hb hts (mc_ inX2) hown hK g rfl 0 (by decide) rfl (hts _ (List.mem_cons_of_mem _ t_416)) (fun _ h9 => h9) 3 rfl dX2_readArguments_189 ?_
                    refine lv_bipush (v := 6) hx hb dX2_readArguments_192 (by decide) ?_
                    refine lv_iload hx hb dX2_readArguments_194 (lv_at hl 0 rfl) ?_
                    have kb_6 : bd 6 6 (6 : Int32) := ⟨by decide, by decide⟩
                    have go_ := g
                    refine g_callv (va_runV (As := [.int 6, .int r_896]) (rest := []) ⟨hx, hb, hml, hown, hts⟩ (r_X8_fail_2 l dC dI L kd tys fr_901 H.size g.2.2.2.1 q0_ mq0_ kq0_ 6 (bd_sub kb_6 (by decide)) r_896 x_905 h_906 (g.fcts [1] rfl)) (cwV 2 hts (gV_ t_1122 t_1107 t_1108 t_184 t_1109) rfl rfl rfl (by decide +kernel) ⟨(Nat.le_of_ble_eq_true rfl), (Nat.le_of_ble_eq_true rfl)⟩) (pre3V g hK mq0_ kq0_ (by decide) (q := (RX8, TX8, 10)) rfl) rfl rfl hl.1 rfl (lv_room (Nat.le_of_ble_eq_true rfl)) dX2_readArguments_196 ⟨(Nat.le_of_ble_eq_true rfl), (Nat.le_of_ble_eq_true rfl)⟩) g hK (by decide) (by decide) (fx' := [(8, 8, q0_, .int x_905), (2, 14, a0_, .int x_17), (2, 0, a0_, .ref q0_), (2, 1, a0_, .ref q1_), (2, 2, a0_, .ref q2_), (2, 3, a0_, .ref q3_), (0, 0, q2_, .ref q0_), (0, 1, q2_, .ref q1_), (5, 0, q1_, .ref q3_), (5, 1, q1_, .ref q7_), (2, 12, a0_, .int y0_)]) rfl (fun fr_1013 H locs hp hMr_1013 g => ?_)
                    have hF_1014 := hp
                    have hG_1015 := cOK.frame hMr_1013 go_.2.2.2.1 mq3_ kq3_ (by decide) (by decide) hG_984
                    have hG_1016 := dOK.frame hMr_1013 go_.2.2.2.1 mq3_ kq3_ (by decide) (by decide) hG_985
                    have hG_1017 := jS.frame hMr_1013 go_.2.2.2.1 mq3_ kq3_ (by decide) (by decide) hG_986
                    have hG_1018 := eOK.frame hMr_1013 go_.2.2.2.1 mq2_ kq2_ (by decide) (by decide) hG_987
                    have g := g.more hF_1014
                    refine lv_aload_n hx hb dX2_readArguments_199 rfl (lv_at hl 4 rfl) ?_
                    refine g_getk (C := RX2) (T := TX2) (N := 16) hx hb hts (mc_ inX2) hown hK g rfl 3 (by decide) rfl (hts _ (List.mem_cons_of_mem _ t_419)) (fun _ h9 => h9) 6 rfl dX2_readArguments_200 ?_
                    refine lv_aload_n hx hb dX2_readArguments_203 rfl (lv_at hl 4 rfl) ?_
                    refine g_getk (C := RX2) (T := TX2) (N := 16) hx hb hts (mc_ inX2) hown hK g rfl 12 (by decide) rfl (hts _ (List.mem_cons_of_mem _ t_428)) (fun _ h9 => h9) 11 rfl dX2_readArguments_204 ?_
                    refine lv_aload_n hx hb dX2_readArguments_207 rfl (lv_at hl 4 rfl) ?_
                    refine g_geti (C := RX2) (T := TX2) (N := 16) hx hb hts (mc_ inX2) hown hK g ma0_ ka0_ (by decide) rfl 13 (by decide) rfl (hts _ (List.mem_cons_of_mem _ t_429)) (fun _ h9 => h9) rfl dX2_readArguments_208 (fun x_1019 bx_1019 g => ?_)
                    obtain ⟨a_1020, ma_1020, ka_1020, g⟩ := g_factr g mq3_ kq3_ (by decide) 4 rfl
                    obtain ⟨a_1021, ma_1021, ka_1021, g⟩ := g_factr g mq3_ kq3_ (by decide) 5 rfl
                    obtain ⟨x_1022, bx_1022, g⟩ := g_facti g mq3_ kq3_ (by decide) 6 rfl
                    have go_ := g
                    refine g_callv (va_runV (As := [.int y0_, .int x_1019]) (rest := []) ⟨hx, hb, hml, hown, hts⟩ (r_X7_emitF l dC dI L kd tys fr_1013 H.size g.2.2.2.1 q3_ mq3_ kq3_ a_1020 ma_1020 ka_1020 a_1021 ma_1021 ka_1021 x_1022 bx_1022 T_ hG_1016 y0_ x_1019 (g.fcts [2, 1, 0] rfl)) (cwV 2 hts (gV_ t_1301 t_1204 t_1205 t_191 t_1206) rfl rfl rfl (by decide +kernel) ⟨(Nat.le_of_ble_eq_true rfl), (Nat.le_of_ble_eq_true rfl)⟩) (pre3V g hK mq3_ kq3_ (by decide) (q := (RX7, TX7, 19)) rfl) rfl rfl hl.1 rfl (lv_room (Nat.le_of_ble_eq_true rfl)) dX2_readArguments_211 ⟨(Nat.le_of_ble_eq_true rfl), (Nat.le_of_ble_eq_true rfl)⟩) g hK (by decide) (by decide) (fx' := [(7, 5, q3_, .ref a_1021), (7, 4, q3_, .ref a_1020), (2, 13, a0_, .int x_1019), (8, 6, q0_, .int 1201), (8, 8, q0_, .int x_905), (2, 14, a0_, .int x_17), (2, 0, a0_, .ref q0_), (2, 1, a0_, .ref q1_), (2, 2, a0_, .ref q2_), (2, 3, a0_, .ref q3_), (0, 0, q2_, .ref q0_), (0, 1, q2_, .ref q1_), (5, 0, q1_, .ref q3_), (5, 1, q1_, .ref q7_), (2, 12, a0_, .int y0_)]) rfl (fun fr_1023 H locs hp hMr_1023 g => ?_)
                    obtain ⟨hG_1024, x_1025, h_1026, hF_1027⟩ := hp
                    have hG_1028 := eOK.frame hMr_1023 go_.2.2.2.1 mq2_ kq2_ (by decide) (by decide) hG_1018
                    have g := g.more hF_1027
                    refine lv_aload_n hx hb dX2_readArguments_214 rfl (lv_at hl 4 rfl) ?_
                    refine g_getk (C := RX2) (T := TX2) (N := 16) hx hb hts (mc_ inX2) hown hK g rfl 3 (by decide) rfl (hts _ (List.mem_cons_of_mem _ t_419)) (fun _ h9 => h9) 10 rfl dX2_readArguments_215 ?_
                    refine lv_bipush (v := 22) hx hb dX2_readArguments_218 (by decide) ?_
                    refine lv_iconst (v := 0) hx hb dX2_readArguments_220 (by decide) ?_
                    have go_ := g
                    refine g_callv (va_runV (As := [.int 22, .int 0]) (rest := []) ⟨hx, hb, hml, hown, hts⟩ (r_X7_emitF l dC dI L kd tys fr_1023 H.size g.2.2.2.1 q3_ mq3_ kq3_ a_1020 ma_1020 ka_1020 a_1021 ma_1021 ka_1021 x_1025 h_1026 T_ hG_1024 (22 : Int32) (0 : Int32) (g.fcts [2, 1, 0] rfl)) (cwV 2 hts (gV_ t_1301 t_1204 t_1205 t_191 t_1206) rfl rfl rfl (by decide +kernel) ⟨(Nat.le_of_ble_eq_true rfl), (Nat.le_of_ble_eq_true rfl)⟩) (pre3V g hK mq3_ kq3_ (by decide) (q := (RX7, TX7, 19)) rfl) rfl rfl hl.1 rfl (lv_room (Nat.le_of_ble_eq_true rfl)) dX2_readArguments_221 ⟨(Nat.le_of_ble_eq_true rfl), (Nat.le_of_ble_eq_true rfl)⟩) g hK (by decide) (by decide) (fx' := [(7, 5, q3_, .ref a_1021), (7, 4, q3_, .ref a_1020), (2, 13, a0_, .int x_1019), (8, 6, q0_, .int 1201), (8, 8, q0_, .int x_905), (2, 14, a0_, .int x_17), (2, 0, a0_, .ref q0_), (2, 1, a0_, .ref q1_), (2, 2, a0_, .ref q2_), (2, 3, a0_, .ref q3_), (0, 0, q2_, .ref q0_), (0, 1, q2_, .ref q1_), (5, 0, q1_, .ref q3_), (5, 1, q1_, .ref q7_), (2, 12, a0_, .int y0_)]) rfl (fun fr_1029 H locs hp hMr_1029 g => ?_)
                    obtain ⟨hG_1030, x_1031, h_1032, hF_1033⟩ := hp
                    have hG_1034 := eOK.frame hMr_1029 go_.2.2.2.1 mq2_ kq2_ (by decide) (by decide) hG_1028
                    have g := g.more hF_1033
                    refine lv_aload_n hx hb dX2_readArguments_224 rfl (lv_at hl 4 rfl) ?_
                    refine g_getk (C := RX2) (T := TX2) (N := 16) hx hb hts (mc_ inX2) hown hK g rfl 0 (by decide) rfl (hts _ (List.mem_cons_of_mem _ t_416)) (fun _ h9 => h9) 7 rfl dX2_readArguments_225 ?_
                    refine lv_bipush (v := 59) hx hb dX2_readArguments_228 (by decide) ?_
                    have kb_1201 : bd 1201 1201 (1201 : Int32) := ⟨by decide, by decide⟩
                    have go_ := g
                    refine g_callv (va_runV (As := [.int 59]) (rest := []) ⟨hx, hb, hml, hown, hts⟩ (r_X8_take_2 l dC dI L kd tys fr_1029 H.size g.2.2.2.1 q0_ mq0_ kq0_ 59 1201 kb_1201 x_905 h_906 (g.fcts [4, 5] rfl)) (cwV 1 hts (gV_ t_1098 t_1099 t_1100 t_184 t_1101) rfl rfl rfl (by decide +kernel) ⟨(Nat.le_of_ble_eq_true rfl), (Nat.le_of_ble_eq_true rfl)⟩) (pre3V g hK mq0_ kq0_ (by decide) (q := (RX8, TX8, 10)) rfl) rfl rfl hl.1 rfl (lv_room (Nat.le_of_ble_eq_true rfl)) dX2_readArguments_230 ⟨(Nat.le_of_ble_eq_true rfl), (Nat.le_of_ble_eq_true rfl)⟩) g hK (by decide) (by decide) (fx' := [(7, 6, q3_, .int x_1031), (7, 5, q3_, .ref a_1021), (7, 4, q3_, .ref a_1020), (2, 13, a0_, .int x_1019), (8, 8, q0_, .int x_905), (2, 14, a0_, .int x_17), (2, 0, a0_, .ref q0_), (2, 1, a0_, .ref q1_), (2, 2, a0_, .ref q2_), (2, 3, a0_, .ref q3_), (0, 0, q2_, .ref q0_), (0, 1, q2_, .ref q1_), (5, 0, q1_, .ref q3_), (5, 1, q1_, .ref q7_), (2, 12, a0_, .int y0_)]) rfl (fun fr_1035 H locs hp hMr_1035 g => ?_)
                    obtain ⟨x_1036, h_1037, hF_1038⟩ := hp
                    have hG_1039 := dOK.frame hMr_1035 go_.2.2.2.1 mq3_ kq3_ (by decide) (by decide) hG_1030
                    have hG_1040 := eOK.frame hMr_1035 go_.2.2.2.1 mq2_ kq2_ (by decide) (by decide) hG_1034
                    have g := g.more hF_1038
                    subst hQ
                    exact W.vret hx hb hr (fun t ht hW => ⟨⟨_, rfl, Or.inr (⟨hG_1039, hG_1040, x_1036, h_1037, x_905, h_906, (g.fcts [0, 5] rfl)⟩), q3_of g hK ht hW⟩, g.2.2.1.F ht⟩) g.2.2.1.2.2 dX2_readArguments_233
              · have fc_894 := nlt_f c_894
                have b_1041 : bd 0 3 v69_4 := leL fc_894 bv69_4 kb_3 (by decide)
                refine lv_iload_n hx hb dX2_readArguments_75 rfl (lv_at hl 1 rfl) ?_
                refine lv_if_eq (tgt := 162) hx hb dX2_readArguments_76 (by decide) (fun c_1042 => ?_) (fun c_1042 => ?_)
                · have fc_1042 := eq_f c_1042
                  have b_1043 : bd 0 0 v69_3 := eqX fc_1042 bv69_3 kb_0 (by decide)
                  refine lv_aload_n hx hb dX2_readArguments_162 rfl (lv_at hl 4 rfl) ?_
                  refine g_getk (C := RX2) (T := TX2) (N := 16) hx hb hts (mc_ inX2) hown hK g rfl 0 (by decide) rfl (hts _ (List.mem_cons_of_mem _ t_416)) (fun _ h9 => h9) 2 rfl dX2_readArguments_163 ?_
                  have go_ := g
                  refine g_calli (va_runV (As := []) (rest := []) ⟨hx, hb, hml, hown, hts⟩ (r_X8_place l dC dI L kd tys f H.size g.2.2.2.1 q0_ mq0_ kq0_) (cwV 0 hts (gV_ t_1110 t_1111 t_1112 t_184 t_1113) rfl rfl rfl (by decide +kernel) ⟨(Nat.le_of_ble_eq_true rfl), (Nat.le_of_ble_eq_true rfl)⟩) (pre3V g hK mq0_ kq0_ (by decide) (q := (RX8, TX8, 10)) rfl) rfl rfl hl.1 rfl (lv_room (Nat.le_of_ble_eq_true rfl)) dX2_readArguments_166 ⟨(Nat.le_of_ble_eq_true rfl), (Nat.le_of_ble_eq_true rfl)⟩) g hK (by decide) (by decide) (fx' := [(2, 14, a0_, .int x_17), (8, 8, q0_, .int y1_), (2, 0, a0_, .ref q0_), (2, 1, a0_, .ref q1_), (2, 2, a0_, .ref q2_), (2, 3, a0_, .ref q3_), (0, 0, q2_, .ref q0_), (0, 1, q2_, .ref q1_), (5, 0, q1_, .ref q3_), (5, 1, q1_, .ref q7_), (2, 12, a0_, .int y0_)]) rfl (fun r_1044 fr_1044 H locs hp hMr_1044 g => ?_)
                  have hG_1045 := cOK.frame hMr_1044 go_.2.2.2.1 mq3_ kq3_ (by decide) (by decide) hG69_c_q3_
                  have hG_1046 := dOK.frame hMr_1044 go_.2.2.2.1 mq3_ kq3_ (by decide) (by decide) hG69_d_q3_
                  have hG_1047 := jS.frame hMr_1044 go_.2.2.2.1 mq3_ kq3_ (by decide) (by decide) hG69_s_q3_
                  have hG_1048 := eOK.frame hMr_1044 go_.2.2.2.1 mq2_ kq2_ (by decide) (by decide) hG69_e_q2_
                  refine lv_istore (lv' := [(4, .int r_1044), (3, .int v69_3), (2, .int v69_2), (1, .int r_1), (0, .ref a0_)]) hx hb dX2_readArguments_169 hl (by decide) rfl (fun ls hl => ?_)
                  refine lv_aload_n hx hb dX2_readArguments_171 rfl (lv_at hl 4 rfl) ?_
                  refine g_getk (C := RX2) (T := TX2) (N := 16) hx hb hts (mc_ inX2) hown hK g rfl 0 (by decide) rfl (hts _ (List.mem_cons_of_mem _ t_416)) (fun _ h9 => h9) 2 rfl dX2_readArguments_172 ?_
                  refine lv_bipush (v := 41) hx hb dX2_readArguments_175 (by decide) ?_
                  have go_ := g
                  refine g_callv (va_runV (As := [.int 41]) (rest := []) ⟨hx, hb, hml, hown, hts⟩ (r_X8_take l dC dI L kd tys fr_1044 H.size g.2.2.2.1 q0_ mq0_ kq0_ 41 y1_ by1_ (g.fcts [1] rfl)) (cwV 1 hts (gV_ t_1098 t_1099 t_1100 t_184 t_1101) rfl rfl rfl (by decide +kernel) ⟨(Nat.le_of_ble_eq_true rfl), (Nat.le_of_ble_eq_true rfl)⟩) (pre3V g hK mq0_ kq0_ (by decide) (q := (RX8, TX8, 10)) rfl) rfl rfl hl.1 rfl (lv_room (Nat.le_of_ble_eq_true rfl)) dX2_readArguments_177 ⟨(Nat.le_of_ble_eq_true rfl), (Nat.le_of_ble_eq_true rfl)⟩) g hK (by decide) (by decide) (fx' := [(2, 14, a0_, .int x_17), (2, 0, a0_, .ref q0_), (2, 1, a0_, .ref q1_), (2, 2, a0_, .ref q2_), (2, 3, a0_, .ref q3_), (0, 0, q2_, .ref q0_), (0, 1, q2_, .ref q1_), (5, 0, q1_, .ref q3_), (5, 1, q1_, .ref q7_), (2, 12, a0_, .int y0_)]) rfl (fun fr_1049 H locs hp hMr_1049 g => ?_)
                  rcases hp with ⟨x_1050, h_1051, hF_1052⟩ | ⟨x_1053, h_1054, hF_1055⟩
                  · have hG_1056 := cOK.frame hMr_1049 go_.2.2.2.1 mq3_ kq3_ (by decide) (by decide) hG_1045
                    have hG_1057 := dOK.frame hMr_1049 go_.2.2.2.1 mq3_ kq3_ (by decide) (by decide) hG_1046
                    have hG_1058 := jS.frame hMr_1049 go_.2.2.2.1 mq3_ kq3_ (by decide) (by decide) hG_1047
                    have hG_1059 := eOK.frame hMr_1049 go_.2.2.2.1 mq2_ kq2_ (by decide) (by decide) hG_1048
                    have g := g.more hF_1052
                    refine lv_iload_n hx hb dX2_readArguments_180 rfl (lv_at hl 2 rfl) ?_
                    refine lv_aload_n hx hb dX2_readArguments_181 rfl (lv_at hl 4 rfl) ?_
                    refine g_getk (C := RX2) (T := TX2) (N := 16) hx hb hts (mc_ inX2) hown hK g rfl 14 (by decide) rfl (hts _ (List.mem_cons_of_mem _ t_430)) (fun _ h9 => h9) 2 rfl dX2_readArguments_182 ?_
                    refine lv_icmp_ge (tgt := 199) hx hb dX2_readArguments_185 (by decide) (fun c_1060 => ?_) (fun c_1060 => ?_)
                    · have fc_1060 := le_f c_1060
                      have b_1061 : bd 0 2147483647 v69_2 := leR fc_1060 b_793 (bdT v69_2) (by decide)
                      refine lv_aload_n hx hb dX2_readArguments_199 rfl (lv_at hl 4 rfl) ?_
                      refine g_getk (C := RX2) (T := TX2) (N := 16) hx hb hts (mc_ inX2) hown hK g rfl 3 (by decide) rfl (hts _ (List.mem_cons_of_mem _ t_419)) (fun _ h9 => h9) 6 rfl dX2_readArguments_200 ?_
                      refine lv_aload_n hx hb dX2_readArguments_203 rfl (lv_at hl 4 rfl) ?_
                      refine g_getk (C := RX2) (T := TX2) (N := 16) hx hb hts (mc_ inX2) hown hK g rfl 12 (by decide) rfl (hts _ (List.mem_cons_of_mem _ t_428)) (fun _ h9 => h9) 11 rfl dX2_readArguments_204 ?_
                      refine lv_aload_n hx hb dX2_readArguments_207 rfl (lv_at hl 4 rfl) ?_
                      refine g_geti (C := RX2) (T := TX2) (N := 16) hx hb hts (mc_ inX2) hown hK g ma0_ ka0_ (by decide) rfl 13 (by decide) rfl (hts _ (List.mem_cons_of_mem _ t_429)) (fun _ h9 => h9) rfl dX2_readArguments_208 (fun x_1062 bx_1062 g => ?_)
                      obtain ⟨a_1063, ma_1063, ka_1063, g⟩ := g_factr g mq3_ kq3_ (by decide) 4 rfl
                      obtain ⟨a_1064, ma_1064, ka_1064, g⟩ := g_factr g mq3_ kq3_ (by decide) 5 rfl
                      obtain ⟨x_1065, bx_1065, g⟩ := g_facti g mq3_ kq3_ (by decide) 6 rfl
                      have go_ := g
                      refine g_callv (va_runV (As := [.int y0_, .int x_1062]) (rest := []) ⟨hx, hb, hml, hown, hts⟩ (r_X7_emitN l dC dI L kd tys fr_1049 H.size g.2.2.2.1 q3_ mq3_ kq3_ a_1063 ma_1063 ka_1063 a_1064 ma_1064 ka_1064 x_1065 bx_1065 T_ hG_1057 y0_ x_1062 (fun j9 => jOK fr_1049 q3_ j9) hG_1056 (fun _ h9 => h9) ⟨(fun h9 => ⟨(by have h9_0 := b_800; unfold bd at h9_0; have h9_1 := b_1061; unfold bd at h9_1; have h9_2 := b_1043; unfold bd at h9_2; have h9_3 := b_1041; unfold bd at h9_3; have h9_4 := h_1051; unfold bd at h9_4; have h9_5 := bx_1062; unfold bd at h9_5; have h9_6 := bx_1065; unfold bd at h9_6; have h9_7 := b_793; unfold bd at h9_7; have h9_8 := h_8; unfold bd at h9_8; have h9_9 := by0_; unfold bd at h9_9; have h9_10 := by1_; unfold bd at h9_10; have h8_0 := kb_0; unfold bd at h8_0; have h8_1 := kb_3; unfold bd at h8_1; have h8_2 := kb_41; unfold bd at h8_2; omega), (by have h9_0 := b_800; unfold bd at h9_0; have h9_1 := b_1061; unfold bd at h9_1; have h9_2 := b_1043; unfold bd at h9_2; have h9_3 := b_1041; unfold bd at h9_3; have h9_4 := h_1051; unfold bd at h9_4; have h9_5 := bx_1062; unfold bd at h9_5; have h9_6 := bx_1065; unfold bd at h9_6; have h9_7 := b_793; unfold bd at h9_7; have h9_8 := h_8; unfold bd at h9_8; have h9_9 := by0_; unfold bd at h9_9; have h9_10 := by1_; unfold bd at h9_10; have h8_0 := kb_0; unfold bd at h8_0; have h8_1 := kb_3; unfold bd at h8_1; have h8_2 := kb_41; unfold bd at h8_2; omega)⟩), (fun h9 => ⟨(by have h9_0 := b_800; unfold bd at h9_0; have h9_1 := b_1061; unfold bd at h9_1; have h9_2 := b_1043; unfold bd at h9_2; have h9_3 := b_1041; unfold bd at h9_3; have h9_4 := h_1051; unfold bd at h9_4; have h9_5 := bx_1062; unfold bd at h9_5; have h9_6 := bx_1065; unfold bd at h9_6; have h9_7 := b_793; unfold bd at h9_7; have h9_8 := h_8; unfold bd at h9_8; have h9_9 := by0_; unfold bd at h9_9; have h9_10 := by1_; unfold bd at h9_10; have h8_0 := kb_0; unfold bd at h8_0; have h8_1 := kb_3; unfold bd at h8_1; have h8_2 := kb_41; unfold bd at h8_2; omega), (by have h9_0 := b_800; unfold bd at h9_0; have h9_1 := b_1061; unfold bd at h9_1; have h9_2 := b_1043; unfold bd at h9_2; have h9_3 := b_1041; unfold bd at h9_3; have h9_4 := h_1051; unfold bd at h9_4; have h9_5 := bx_1062; unfold bd at h9_5; have h9_6 := bx_1065; unfold bd at h9_6; have h9_7 := b_793; unfold bd at h9_7; have h9_8 := h_8; unfold bd at h9_8; have h9_9 := by0_; unfold bd at h9_9; have h9_10 := by1_; unfold bd at h9_10; have h8_0 := kb_0; unfold bd at h8_0; have h8_1 := kb_3; unfold bd at h8_1; have h8_2 := kb_41; unfold bd at h8_2; omega)⟩), (fun h9 => ⟨(by have h9_0 := b_800; unfold bd at h9_0; have h9_1 := b_1061; unfold bd at h9_1; have h9_2 := b_1043; unfold bd at h9_2; have h9_3 := b_1041; unfold bd at h9_3; have h9_4 := h_1051; unfold bd at h9_4; have h9_5 := bx_1062; unfold bd at h9_5; have h9_6 := bx_1065; unfold bd at h9_6; have h9_7 := b_793; unfold bd at h9_7; have h9_8 := h_8; unfold bd at h9_8; have h9_9 := by0_; unfold bd at h9_9; have h9_10 := by1_; unfold bd at h9_10; have h8_0 := kb_0; unfold bd at h8_0; have h8_1 := kb_3; unfold bd at h8_1; have h8_2 := kb_41; unfold bd at h8_2; omega), (by have h9_0 := b_800; unfold bd at h9_0; have h9_1 := b_1061; unfold bd at h9_1; have h9_2 := b_1043; unfold bd at h9_2; have h9_3 := b_1041; unfold bd at h9_3; have h9_4 := h_1051; unfold bd at h9_4; have h9_5 := bx_1062; unfold bd at h9_5; have h9_6 := bx_1065; unfold bd at h9_6; have h9_7 := b_793; unfold bd at h9_7; have h9_8 := h_8; unfold bd at h9_8; have h9_9 := by0_; unfold bd at h9_9; have h9_10 := by1_; unfold bd at h9_10; have h8_0 := kb_0; unfold bd at h8_0; have h8_1 := kb_3; unfold bd at h8_1; have h8_2 := kb_41; unfold bd at h8_2; omega)⟩)⟩ (g.fcts [2, 1, 0] rfl)) (cwV 2 hts (gV_ t_1301 t_1204 t_1205 t_191 t_1206) rfl rfl rfl (by decide +kernel) ⟨(Nat.le_of_ble_eq_true rfl), (Nat.le_of_ble_eq_true rfl)⟩) (pre3V g hK mq3_ kq3_ (by decide) (q := (RX7, TX7, 19)) rfl) rfl rfl hl.1 rfl (lv_room (Nat.le_of_ble_eq_true rfl)) dX2_readArguments_211 ⟨(Nat.le_of_ble_eq_true rfl), (Nat.le_of_ble_eq_true rfl)⟩) g hK (by decide) (by decide) (fx' := [(7, 5, q3_, .ref a_1064), (7, 4, q3_, .ref a_1063), (2, 13, a0_, .int x_1062), (8, 6, q0_, .int x_1050), (8, 8, q0_, .int y1_), (2, 14, a0_, .int x_17), (2, 0, a0_, .ref q0_), (2, 1, a0_, .ref q1_), (2, 2, a0_, .ref q2_), (2, 3, a0_, .ref q3_), (0, 0, q2_, .ref q0_), (0, 1, q2_, .ref q1_), (5, 0, q1_, .ref q3_), (5, 1, q1_, .ref q7_), (2, 12, a0_, .int y0_)]) rfl (fun fr_1066 H locs hp hMr_1066 g => ?_)
                      obtain ⟨hG_1067, hG_1068, hG_1069, hx_1070, x_1071, h_1072, hF_1073⟩ := hp
                      have hG_1074 := eOK.frame hMr_1066 go_.2.2.2.1 mq2_ kq2_ (by decide) (by decide) hG_1059
                      have g := g.more hF_1073
                      have hs_1075 := jS.mv hG_1058 hG_1069
                      refine lv_aload_n hx hb dX2_readArguments_214 rfl (lv_at hl 4 rfl) ?_
                      refine g_getk (C := RX2) (T := TX2) (N := 16) hx hb hts (mc_ inX2) hown hK g rfl 3 (by decide) rfl (hts _ (List.mem_cons_of_mem _ t_419)) (fun _ h9 => h9) 10 rfl dX2_readArguments_215 ?_
                      refine lv_bipush (v := 22) hx hb dX2_readArguments_218 (by decide) ?_
                      refine lv_iconst (v := 0) hx hb dX2_readArguments_220 (by decide) ?_
                      have kb_22 : bd 22 22 (22 : Int32) := ⟨by decide, by decide⟩
                      have go_ := g
                      refine g_callv (va_runV (As := [.int 22, .int 0]) (rest := []) ⟨hx, hb, hml, hown, hts⟩ (r_X7_emitN l dC dI L kd tys fr_1066 H.size g.2.2.2.1 q3_ mq3_ kq3_ a_1063 ma_1063 ka_1063 a_1064 ma_1064 ka_1064 x_1071 h_1072 T_ hG_1067 (22 : Int32) (0 : Int32) (fun j9 => jOK fr_1066 q3_ j9) hG_1068 (fun _ h9 => h9) ⟨(fun h9 => ⟨(by have h9_0 := b_800; unfold bd at h9_0; have h9_1 := b_1061; unfold bd at h9_1; have h9_2 := b_1043; unfold bd at h9_2; have h9_3 := b_1041; unfold bd at h9_3; have h9_4 := h_1051; unfold bd at h9_4; have h9_5 := bx_1062; unfold bd at h9_5; have h9_6 := bx_1065; unfold bd at h9_6; have h9_7 := h_1072; unfold bd at h9_7; have h9_8 := b_793; unfold bd at h9_8; have h9_9 := h_8; unfold bd at h9_9; have h9_10 := by0_; unfold bd at h9_10; have h9_11 := by1_; unfold bd at h9_11; have h8_0 := kb_0; unfold bd at h8_0; have h8_1 := kb_22; unfold bd at h8_1; have h8_2 := kb_3; unfold bd at h8_2; have h8_3 := kb_41; unfold bd at h8_3; omega), (by have h9_0 := b_800; unfold bd at h9_0; have h9_1 := b_1061; unfold bd at h9_1; have h9_2 := b_1043; unfold bd at h9_2; have h9_3 := b_1041; unfold bd at h9_3; have h9_4 := h_1051; unfold bd at h9_4; have h9_5 := bx_1062; unfold bd at h9_5; have h9_6 := bx_1065; unfold bd at h9_6; have h9_7 := h_1072; unfold bd at h9_7; have h9_8 := b_793; unfold bd at h9_8; have h9_9 := h_8; unfold bd at h9_9; have h9_10 := by0_; unfold bd at h9_10; have h9_11 := by1_; unfold bd at h9_11; have h8_0 := kb_0; unfold bd at h8_0; have h8_1 := kb_22; unfold bd at h8_1; have h8_2 := kb_3; unfold bd at h8_2; have h8_3 := kb_41; unfold bd at h8_3; omega)⟩), (fun h9 => ⟨(by have h9_0 := b_800; unfold bd at h9_0; have h9_1 := b_1061; unfold bd at h9_1; have h9_2 := b_1043; unfold bd at h9_2; have h9_3 := b_1041; unfold bd at h9_3; have h9_4 := h_1051; unfold bd at h9_4; have h9_5 := bx_1062; unfold bd at h9_5; have h9_6 := bx_1065; unfold bd at h9_6; have h9_7 := h_1072; unfold bd at h9_7; have h9_8 := b_793; unfold bd at h9_8; have h9_9 := h_8; unfold bd at h9_9; have h9_10 := by0_; unfold bd at h9_10; have h9_11 := by1_; unfold bd at h9_11; have h8_0 := kb_0; unfold bd at h8_0; have h8_1 := kb_22; unfold bd at h8_1; have h8_2 := kb_3; unfold bd at h8_2; have h8_3 := kb_41; unfold bd at h8_3; omega), (by have h9_0 := b_800; unfold bd at h9_0; have h9_1 := b_1061; unfold bd at h9_1; have h9_2 := b_1043; unfold bd at h9_2; have h9_3 := b_1041; unfold bd at h9_3; have h9_4 := h_1051; unfold bd at h9_4; have h9_5 := bx_1062; unfold bd at h9_5; have h9_6 := bx_1065; unfold bd at h9_6; have h9_7 := h_1072; unfold bd at h9_7; have h9_8 := b_793; unfold bd at h9_8; have h9_9 := h_8; unfold bd at h9_9; have h9_10 := by0_; unfold bd at h9_10; have h9_11 := by1_; unfold bd at h9_11; have h8_0 := kb_0; unfold bd at h8_0; have h8_1 := kb_22; unfold bd at h8_1; have h8_2 := kb_3; unfold bd at h8_2; have h8_3 := kb_41; unfold bd at h8_3; omega)⟩), (fun h9 => ⟨(by have h9_0 := b_800; unfold bd at h9_0; have h9_1 := b_1061; unfold bd at h9_1; have h9_2 := b_1043; unfold bd at h9_2; have h9_3 := b_1041; unfold bd at h9_3; have h9_4 := h_1051; unfold bd at h9_4; have h9_5 := bx_1062; unfold bd at h9_5; have h9_6 := bx_1065; unfold bd at h9_6; have h9_7 := h_1072; unfold bd at h9_7; have h9_8 := b_793; unfold bd at h9_8; have h9_9 := h_8; unfold bd at h9_9; have h9_10 := by0_; unfold bd at h9_10; have h9_11 := by1_; unfold bd at h9_11; have h8_0 := kb_0; unfold bd at h8_0; have h8_1 := kb_22; unfold bd at h8_1; have h8_2 := kb_3; unfold bd at h8_2; have h8_3 := kb_41; unfold bd at h8_3; omega), (by have h9_0 := b_800; unfold bd at h9_0; have h9_1 := b_1061; unfold bd at h9_1; have h9_2 := b_1043; unfold bd at h9_2; have h9_3 := b_1041; unfold bd at h9_3; have h9_4 := h_1051; unfold bd at h9_4; have h9_5 := bx_1062; unfold bd at h9_5; have h9_6 := bx_1065; unfold bd at h9_6; have h9_7 := h_1072; unfold bd at h9_7; have h9_8 := b_793; unfold bd at h9_8; have h9_9 := h_8; unfold bd at h9_9; have h9_10 := by0_; unfold bd at h9_10; have h9_11 := by1_; unfold bd at h9_11; have h8_0 := kb_0; unfold bd at h8_0; have h8_1 := kb_22; unfold bd at h8_1; have h8_2 := kb_3; unfold bd at h8_2; have h8_3 := kb_41; unfold bd at h8_3; omega)⟩)⟩ (g.fcts [2, 1, 0] rfl)) (cwV 2 hts (gV_ t_1301 t_1204 t_1205 t_191 t_1206) rfl rfl rfl (by decide +kernel) ⟨(Nat.le_of_ble_eq_true rfl), (Nat.le_of_ble_eq_true rfl)⟩) (pre3V g hK mq3_ kq3_ (by decide) (q := (RX7, TX7, 19)) rfl) rfl rfl hl.1 rfl (lv_room (Nat.le_of_ble_eq_true rfl)) dX2_readArguments_221 ⟨(Nat.le_of_ble_eq_true rfl), (Nat.le_of_ble_eq_true rfl)⟩) g hK (by decide) (by decide) (fx' := [(7, 5, q3_, .ref a_1064), (7, 4, q3_, .ref a_1063), (2, 13, a0_, .int x_1062), (8, 6, q0_, .int x_1050), (8, 8, q0_, .int y1_), (2, 14, a0_, .int x_17), (2, 0, a0_, .ref q0_), (2, 1, a0_, .ref q1_), (2, 2, a0_, .ref q2_), (2, 3, a0_, .ref q3_), (0, 0, q2_, .ref q0_), (0, 1, q2_, .ref q1_), (5, 0, q1_, .ref q3_), (5, 1, q1_, .ref q7_), (2, 12, a0_, .int y0_)]) rfl (fun fr_1076 H locs hp hMr_1076 g => ?_)
                      obtain ⟨hG_1077, hG_1078, hG_1079, hx_1080, x_1081, h_1082, hF_1083⟩ := hp
                      have hG_1084 := eOK.frame hMr_1076 go_.2.2.2.1 mq2_ kq2_ (by decide) (by decide) hG_1074
                      have g := g.more hF_1083
                      have hs_1085 := jS.mv hs_1075 hG_1079
                      refine lv_aload_n hx hb dX2_readArguments_224 rfl (lv_at hl 4 rfl) ?_
                      refine g_getk (C := RX2) (T := TX2) (N := 16) hx hb hts (mc_ inX2) hown hK g rfl 0 (by decide) rfl (hts _ (List.mem_cons_of_mem _ t_416)) (fun _ h9 => h9) 7 rfl dX2_readArguments_225 ?_
                      refine lv_bipush (v := 59) hx hb dX2_readArguments_228 (by decide) ?_
                      have go_ := g
                      refine g_callv (va_runV (As := [.int 59]) (rest := []) ⟨hx, hb, hml, hown, hts⟩ (r_X8_take l dC dI L kd tys fr_1076 H.size g.2.2.2.1 q0_ mq0_ kq0_ 59 y1_ by1_ (g.fcts [5] rfl)) (cwV 1 hts (gV_ t_1098 t_1099 t_1100 t_184 t_1101) rfl rfl rfl (by decide +kernel) ⟨(Nat.le_of_ble_eq_true rfl), (Nat.le_of_ble_eq_true rfl)⟩) (pre3V g hK mq0_ kq0_ (by decide) (q := (RX8, TX8, 10)) rfl) rfl rfl hl.1 rfl (lv_room (Nat.le_of_ble_eq_true rfl)) dX2_readArguments_230 ⟨(Nat.le_of_ble_eq_true rfl), (Nat.le_of_ble_eq_true rfl)⟩) g hK (by decide) (by decide) (fx' := [(7, 6, q3_, .int x_1081), (7, 5, q3_, .ref a_1064), (7, 4, q3_, .ref a_1063), (2, 13, a0_, .int x_1062), (2, 14, a0_, .int x_17), (2, 0, a0_, .ref q0_), (2, 1, a0_, .ref q1_), (2, 2, a0_, .ref q2_), (2, 3, a0_, .ref q3_), (0, 0, q2_, .ref q0_), (0, 1, q2_, .ref q1_), (5, 0, q1_, .ref q3_), (5, 1, q1_, .ref q7_), (2, 12, a0_, .int y0_)]) rfl (fun fr_1086 H locs hp hMr_1086 g => ?_)
                      rcases hp with ⟨x_1087, h_1088, hF_1089⟩ | ⟨x_1090, h_1091, hF_1092⟩
                      · have hG_1093 := cOK.frame hMr_1086 go_.2.2.2.1 mq3_ kq3_ (by decide) (by decide) hG_1078
                        have hG_1094 := dOK.frame hMr_1086 go_.2.2.2.1 mq3_ kq3_ (by decide) (by decide) hG_1077
                        have hG_1095 := jS.frame hMr_1086 go_.2.2.2.1 mq3_ kq3_ (by decide) (by decide) hs_1085
                        have hG_1096 := eOK.frame hMr_1086 go_.2.2.2.1 mq2_ kq2_ (by decide) (by decide) hG_1084
                        have g := g.more hF_1089
                        subst hQ
                        exact W.vret hx hb hr (fun t ht hW => ⟨⟨_, rfl, Or.inl ⟨hG_1093, hG_1094, hG_1095, hG_1096, x_1087, h_1088, (g.fcts [0, 1] rfl)⟩, q3_of g hK ht hW⟩, g.2.2.1.F ht⟩) g.2.2.1.2.2 dX2_readArguments_233
                      · have hG_1097 := cOK.frame hMr_1086 go_.2.2.2.1 mq3_ kq3_ (by decide) (by decide) hG_1078
                        have hG_1098 := dOK.frame hMr_1086 go_.2.2.2.1 mq3_ kq3_ (by decide) (by decide) hG_1077
                        have hG_1099 := jS.frame hMr_1086 go_.2.2.2.1 mq3_ kq3_ (by decide) (by decide) hs_1085
                        have hG_1100 := eOK.frame hMr_1086 go_.2.2.2.1 mq2_ kq2_ (by decide) (by decide) hG_1084
                        have g := g.more hF_1092
                        have kb_1201 : bd 1201 1201 (1201 : Int32) := ⟨by decide, by decide⟩
                        subst hQ
                        exact W.vret hx hb hr (fun t ht hW => ⟨⟨_, rfl, Or.inr (⟨hG_1098, hG_1100, 1201, kb_1201, x_1090, h_1091, (g.fcts [0, 1] rfl)⟩), q3_of g hK ht hW⟩, g.2.2.1.F ht⟩) g.2.2.1.2.2 dX2_readArguments_233
                    · have fc_1060 := nle_f c_1060
                      have b_1101 : bd (-2147483648) (-1) v69_2 := ltL fc_1060 (bdT v69_2) b_793 (by decide)
                      refine lv_aload_n hx hb dX2_readArguments_188 rfl (lv_at hl 4 rfl) ?_
                      refine g_getk (C := RX2) (T := TX2) (N := 16) hx hb hts (mc_ inX2) hown hK g rfl 0 (by decide) rfl (hts _ (List.mem_cons_of_mem _ t_416)) (fun _ h9 => h9) 3 rfl dX2_readArguments_189 ?_
                      refine lv_bipush (v := 6) hx hb dX2_readArguments_192 (by decide) ?_
                      refine lv_iload hx hb dX2_readArguments_194 (lv_at hl 0 rfl) ?_
                      have kb_6 : bd 6 6 (6 : Int32) := ⟨by decide, by decide⟩
                      have go_ := g
                      refine g_callv (va_runV (As := [.int 6, .int r_1044]) (rest := []) ⟨hx, hb, hml, hown, hts⟩ (r_X8_fail l dC dI L kd tys fr_1049 H.size g.2.2.2.1 q0_ mq0_ kq0_ 6 (bd_sub kb_6 (by decide)) r_1044 y1_ by1_ (g.fcts [1] rfl)) (cwV 2 hts (gV_ t_1122 t_1107 t_1108 t_184 t_1109) rfl rfl rfl (by decide +kernel) ⟨(Nat.le_of_ble_eq_true rfl), (Nat.le_of_ble_eq_true rfl)⟩) (pre3V g hK mq0_ kq0_ (by decide) (q := (RX8, TX8, 10)) rfl) rfl rfl hl.1 rfl (lv_room (Nat.le_of_ble_eq_true rfl)) dX2_readArguments_196 ⟨(Nat.le_of_ble_eq_true rfl), (Nat.le_of_ble_eq_true rfl)⟩) g hK (by decide) (by decide) (fx' := [(2, 14, a0_, .int x_17), (2, 0, a0_, .ref q0_), (2, 1, a0_, .ref q1_), (2, 2, a0_, .ref q2_), (2, 3, a0_, .ref q3_), (0, 0, q2_, .ref q0_), (0, 1, q2_, .ref q1_), (5, 0, q1_, .ref q3_), (5, 1, q1_, .ref q7_), (2, 12, a0_, .int y0_)]) rfl (fun fr_1102 H locs hp hMr_1102 g => ?_)
                      obtain ⟨x_1103, h_1104, hF_1105⟩ := hp
                      have hG_1106 := cOK.frame hMr_1102 go_.2.2.2.1 mq3_ kq3_ (by decide) (by decide) hG_1056
                      have hG_1107 := dOK.frame hMr_1102 go_.2.2.2.1 mq3_ kq3_ (by decide) (by decide) hG_1057
                      have hG_1108 := jS.frame hMr_1102 go_.2.2.2.1 mq3_ kq3_ (by decide) (by decide) hG_1058
                      have hG_1109 := eOK.frame hMr_1102 go_.2.2.2.1 mq2_ kq2_ (by decide) (by decide) hG_1059
                      have g := g.more hF_1105
                      refine lv_aload_n hx hb dX2_readArguments_199 rfl (lv_at hl 4 rfl) ?_
                      refine g_getk (C := RX2) (T := TX2) (N := 16) hx hb hts (mc_ inX2) hown hK g rfl 3 (by decide) rfl (hts _ (List.mem_cons_of_mem _ t_419)) (fun _ h9 => h9) 6 rfl dX2_readArguments_200 ?_
                      refine lv_aload_n hx hb dX2_readArguments_203 rfl (lv_at hl 4 rfl) ?_
                      refine g_getk (C := RX2) (T := TX2) (N := 16) hx hb hts (mc_ inX2) hown hK g rfl 12 (by decide) rfl (hts _ (List.mem_cons_of_mem _ t_428)) (fun _ h9 => h9) 11 rfl dX2_readArguments_204 ?_
                      refine lv_aload_n hx hb dX2_readArguments_207 rfl (lv_at hl 4 rfl) ?_
                      refine g_geti (C := RX2) (T := TX2) (N := 16) hx hb hts (mc_ inX2) hown hK g ma0_ ka0_ (by decide) rfl 13 (by decide) rfl (hts _ (List.mem_cons_of_mem _ t_429)) (fun _ h9 => h9) rfl dX2_readArguments_208 (fun x_1110 bx_1110 g => ?_)
                      obtain ⟨a_1111, ma_1111, ka_1111, g⟩ := g_factr g mq3_ kq3_ (by decide) 4 rfl
                      obtain ⟨a_1112, ma_1112, ka_1112, g⟩ := g_factr g mq3_ kq3_ (by decide) 5 rfl
                      obtain ⟨x_1113, bx_1113, g⟩ := g_facti g mq3_ kq3_ (by decide) 6 rfl
                      have go_ := g
                      refine g_callv (va_runV (As := [.int y0_, .int x_1110]) (rest := []) ⟨hx, hb, hml, hown, hts⟩ (r_X7_emitF l dC dI L kd tys fr_1102 H.size g.2.2.2.1 q3_ mq3_ kq3_ a_1111 ma_1111 ka_1111 a_1112 ma_1112 ka_1112 x_1113 bx_1113 T_ hG_1107 y0_ x_1110 (g.fcts [2, 1, 0] rfl)) (cwV 2 hts (gV_ t_1301 t_1204 t_1205 t_191 t_1206) rfl rfl rfl (by decide +kernel) ⟨(Nat.le_of_ble_eq_true rfl), (Nat.le_of_ble_eq_true rfl)⟩) (pre3V g hK mq3_ kq3_ (by decide) (q := (RX7, TX7, 19)) rfl) rfl rfl hl.1 rfl (lv_room (Nat.le_of_ble_eq_true rfl)) dX2_readArguments_211 ⟨(Nat.le_of_ble_eq_true rfl), (Nat.le_of_ble_eq_true rfl)⟩) g hK (by decide) (by decide) (fx' := [(7, 5, q3_, .ref a_1112), (7, 4, q3_, .ref a_1111), (2, 13, a0_, .int x_1110), (8, 6, q0_, .int 1201), (8, 8, q0_, .int x_1103), (2, 14, a0_, .int x_17), (2, 0, a0_, .ref q0_), (2, 1, a0_, .ref q1_), (2, 2, a0_, .ref q2_), (2, 3, a0_, .ref q3_), (0, 0, q2_, .ref q0_), (0, 1, q2_, .ref q1_), (5, 0, q1_, .ref q3_), (5, 1, q1_, .ref q7_), (2, 12, a0_, .int y0_)]) rfl (fun fr_1114 H locs hp hMr_1114 g => ?_)
                      obtain ⟨hG_1115, x_1116, h_1117, hF_1118⟩ := hp
                      have hG_1119 := eOK.frame hMr_1114 go_.2.2.2.1 mq2_ kq2_ (by decide) (by decide) hG_1109
                      have g := g.more hF_1118
                      refine lv_aload_n hx hb dX2_readArguments_214 rfl (lv_at hl 4 rfl) ?_
                      refine g_getk (C := RX2) (T := TX2) (N := 16) hx hb hts (mc_ inX2) hown hK g rfl 3 (by decide) rfl (hts _ (List.mem_cons_of_mem _ t_419)) (fun _ h9 => h9) 10 rfl dX2_readArguments_215 ?_
                      refine lv_bipush (v := 22) hx hb dX2_readArguments_218 (by decide) ?_
                      refine lv_iconst (v := 0) hx hb dX2_readArguments_220 (by decide) ?_
                      have go_ := g
                      refine g_callv (va_runV (As := [.int 22, .int 0]) (rest := []) ⟨hx, hb, hml, hown, hts⟩ (r_X7_emitF l dC dI L kd tys fr_1114 H.size g.2.2.2.1 q3_ mq3_ kq3_ a_1111 ma_1111 ka_1111 a_1112 ma_1112 ka_1112 x_1116 h_1117 T_ hG_1115 (22 : Int32) (0 : Int32) (g.fcts [2, 1, 0] rfl)) (cwV 2 hts (gV_ t_1301 t_1204 t_1205 t_191 t_1206) rfl rfl rfl (by decide +kernel) ⟨(Nat.le_of_ble_eq_true rfl), (Nat.le_of_ble_eq_true rfl)⟩) (pre3V g hK mq3_ kq3_ (by decide) (q := (RX7, TX7, 19)) rfl) rfl rfl hl.1 rfl (lv_room (Nat.le_of_ble_eq_true rfl)) dX2_readArguments_221 ⟨(Nat.le_of_ble_eq_true rfl), (Nat.le_of_ble_eq_true rfl)⟩) g hK (by decide) (by decide) (fx' := [(7, 5, q3_, .ref a_1112), (7, 4, q3_, .ref a_1111), (2, 13, a0_, .int x_1110), (8, 6, q0_, .int 1201), (8, 8, q0_, .int x_1103), (2, 14, a0_, .int x_17), (2, 0, a0_, .ref q0_), (2, 1, a0_, .ref q1_), (2, 2, a0_, .ref q2_), (2, 3, a0_, .ref q3_), (0, 0, q2_, .ref q0_), (0, 1, q2_, .ref q1_), (5, 0, q1_, .ref q3_), (5, 1, q1_, .ref q7_), (2, 12, a0_, .int y0_)]) rfl (fun fr_1120 H locs hp hMr_1120 g => ?_)
                      obtain ⟨hG_1121, x_1122, h_1123, hF_1124⟩ := hp
                      have hG_1125 := eOK.frame hMr_1120 go_.2.2.2.1 mq2_ kq2_ (by decide) (by decide) hG_1119
                      have g := g.more hF_1124
                      refine lv_aload_n hx hb dX2_readArguments_224 rfl (lv_at hl 4 rfl) ?_
                      refine g_getk (C := RX2) (T := TX2) (N := 16) hx hb hts (mc_ inX2) hown hK g rfl 0 (by decide) rfl (hts _ (List.mem_cons_of_mem _ t_416)) (fun _ h9 => h9) 7 rfl dX2_readArguments_225 ?_
                      refine lv_bipush (v := 59) hx hb dX2_readArguments_228 (by decide) ?_
                      have kb_1201 : bd 1201 1201 (1201 : Int32) := ⟨by decide, by decide⟩
                      have go_ := g
                      refine g_callv (va_runV (As := [.int 59]) (rest := []) ⟨hx, hb, hml, hown, hts⟩ (r_X8_take_2 l dC dI L kd tys fr_1120 H.size g.2.2.2.1 q0_ mq0_ kq0_ 59 1201 kb_1201 x_1103 h_1104 (g.fcts [4, 5] rfl)) (cwV 1 hts (gV_ t_1098 t_1099 t_1100 t_184 t_1101) rfl rfl rfl (by decide +kernel) ⟨(Nat.le_of_ble_eq_true rfl), (Nat.le_of_ble_eq_true rfl)⟩) (pre3V g hK mq0_ kq0_ (by decide) (q := (RX8, TX8, 10)) rfl) rfl rfl hl.1 rfl (lv_room (Nat.le_of_ble_eq_true rfl)) dX2_readArguments_230 ⟨(Nat.le_of_ble_eq_true rfl), (Nat.le_of_ble_eq_true rfl)⟩) g hK (by decide) (by decide) (fx' := [(7, 6, q3_, .int x_1122), (7, 5, q3_, .ref a_1112), (7, 4, q3_, .ref a_1111), (2, 13, a0_, .int x_1110), (8, 8, q0_, .int x_1103), (2, 14, a0_, .int x_17), (2, 0, a0_, .ref q0_), (2, 1, a0_, .ref q1_), (2, 2, a0_, .ref q2_), (2, 3, a0_, .ref q3_), (0, 0, q2_, .ref q0_), (0, 1, q2_, .ref q1_), (5, 0, q1_, .ref q3_), (5, 1, q1_, .ref q7_), (2, 12, a0_, .int y0_)]) rfl (fun fr_1126 H locs hp hMr_1126 g => ?_)
                      obtain ⟨x_1127, h_1128, hF_1129⟩ := hp
                      have hG_1130 := dOK.frame hMr_1126 go_.2.2.2.1 mq3_ kq3_ (by decide) (by decide) hG_1121
                      have hG_1131 := eOK.frame hMr_1126 go_.2.2.2.1 mq2_ kq2_ (by decide) (by decide) hG_1125
                      have g := g.more hF_1129
                      subst hQ
                      exact W.vret hx hb hr (fun t ht hW => ⟨⟨_, rfl, Or.inr (⟨hG_1130, hG_1131, x_1127, h_1128, x_1103, h_1104, (g.fcts [0, 5] rfl)⟩), q3_of g hK ht hW⟩, g.2.2.1.F ht⟩) g.2.2.1.2.2 dX2_readArguments_233
                  · have hG_1132 := cOK.frame hMr_1049 go_.2.2.2.1 mq3_ kq3_ (by decide) (by decide) hG_1045
                    have hG_1133 := dOK.frame hMr_1049 go_.2.2.2.1 mq3_ kq3_ (by decide) (by decide) hG_1046
                    have hG_1134 := jS.frame hMr_1049 go_.2.2.2.1 mq3_ kq3_ (by decide) (by decide) hG_1047
                    have hG_1135 := eOK.frame hMr_1049 go_.2.2.2.1 mq2_ kq2_ (by decide) (by decide) hG_1048
                    have g := g.more hF_1055
                    refine lv_iload_n hx hb dX2_readArguments_180 rfl (lv_at hl 2 rfl) ?_
                    refine lv_aload_n hx hb dX2_readArguments_181 rfl (lv_at hl 4 rfl) ?_
                    refine g_getk (C := RX2) (T := TX2) (N := 16) hx hb hts (mc_ inX2) hown hK g rfl 14 (by decide) rfl (hts _ (List.mem_cons_of_mem _ t_430)) (fun _ h9 => h9) 2 rfl dX2_readArguments_182 ?_
                    refine lv_icmp_ge (tgt := 199) hx hb dX2_readArguments_185 (by decide) (fun c_1136 => ?_) (fun c_1136 => ?_)
                    · have fc_1136 := le_f c_1136
                      have b_1137 : bd 0 2147483647 v69_2 := leR fc_1136 b_793 (bdT v69_2) (by decide)
                      refine lv_aload_n hx hb dX2_readArguments_199 rfl (lv_at hl 4 rfl) ?_
                      refine g_getk (C := RX2) (T := TX2) (N := 16) hx hb hts (mc_ inX2) hown hK g rfl 3 (by decide) rfl (hts _ (List.mem_cons_of_mem _ t_419)) (fun _ h9 => h9) 6 rfl dX2_readArguments_200 ?_
                      refine lv_aload_n hx hb dX2_readArguments_203 rfl (lv_at hl 4 rfl) ?_
                      refine g_getk (C := RX2) (T := TX2) (N := 16) hx hb hts (mc_ inX2) hown hK g rfl 12 (by decide) rfl (hts _ (List.mem_cons_of_mem _ t_428)) (fun _ h9 => h9) 11 rfl dX2_readArguments_204 ?_
                      refine lv_aload_n hx hb dX2_readArguments_207 rfl (lv_at hl 4 rfl) ?_
                      refine g_geti (C := RX2) (T := TX2) (N := 16) hx hb hts (mc_ inX2) hown hK g ma0_ ka0_ (by decide) rfl 13 (by decide) rfl (hts _ (List.mem_cons_of_mem _ t_429)) (fun _ h9 => h9) rfl dX2_readArguments_208 (fun x_1138 bx_1138 g => ?_)
                      obtain ⟨a_1139, ma_1139, ka_1139, g⟩ := g_factr g mq3_ kq3_ (by decide) 4 rfl
                      obtain ⟨a_1140, ma_1140, ka_1140, g⟩ := g_factr g mq3_ kq3_ (by decide) 5 rfl
                      obtain ⟨x_1141, bx_1141, g⟩ := g_facti g mq3_ kq3_ (by decide) 6 rfl
                      have go_ := g
                      refine g_callv (va_runV (As := [.int y0_, .int x_1138]) (rest := []) ⟨hx, hb, hml, hown, hts⟩ (r_X7_emitF l dC dI L kd tys fr_1049 H.size g.2.2.2.1 q3_ mq3_ kq3_ a_1139 ma_1139 ka_1139 a_1140 ma_1140 ka_1140 x_1141 bx_1141 T_ hG_1133 y0_ x_1138 (g.fcts [2, 1, 0] rfl)) (cwV 2 hts (gV_ t_1301 t_1204 t_1205 t_191 t_1206) rfl rfl rfl (by decide +kernel) ⟨(Nat.le_of_ble_eq_true rfl), (Nat.le_of_ble_eq_true rfl)⟩) (pre3V g hK mq3_ kq3_ (by decide) (q := (RX7, TX7, 19)) rfl) rfl rfl hl.1 rfl (lv_room (Nat.le_of_ble_eq_true rfl)) dX2_readArguments_211 ⟨(Nat.le_of_ble_eq_true rfl), (Nat.le_of_ble_eq_true rfl)⟩) g hK (by decide) (by decide) (fx' := [(7, 5, q3_, .ref a_1140), (7, 4, q3_, .ref a_1139), (2, 13, a0_, .int x_1138), (8, 6, q0_, .int 1201), (8, 8, q0_, .int x_1053), (2, 14, a0_, .int x_17), (2, 0, a0_, .ref q0_), (2, 1, a0_, .ref q1_), (2, 2, a0_, .ref q2_), (2, 3, a0_, .ref q3_), (0, 0, q2_, .ref q0_), (0, 1, q2_, .ref q1_), (5, 0, q1_, .ref q3_), (5, 1, q1_, .ref q7_), (2, 12, a0_, .int y0_)]) rfl (fun fr_1142 H locs hp hMr_1142 g => ?_)
                      obtain ⟨hG_1143, x_1144, h_1145, hF_1146⟩ := hp
                      have hG_1147 := eOK.frame hMr_1142 go_.2.2.2.1 mq2_ kq2_ (by decide) (by decide) hG_1135
                      have g := g.more hF_1146
                      refine lv_aload_n hx hb dX2_readArguments_214 rfl (lv_at hl 4 rfl) ?_
                      refine g_getk (C := RX2) (T := TX2) (N := 16) hx hb hts (mc_ inX2) hown hK g rfl 3 (by decide) rfl (hts _ (List.mem_cons_of_mem _ t_419)) (fun _ h9 => h9) 10 rfl dX2_readArguments_215 ?_
                      refine lv_bipush (v := 22) hx hb dX2_readArguments_218 (by decide) ?_
                      refine lv_iconst (v := 0) hx hb dX2_readArguments_220 (by decide) ?_
                      have go_ := g
                      refine g_callv (va_runV (As := [.int 22, .int 0]) (rest := []) ⟨hx, hb, hml, hown, hts⟩ (r_X7_emitF l dC dI L kd tys fr_1142 H.size g.2.2.2.1 q3_ mq3_ kq3_ a_1139 ma_1139 ka_1139 a_1140 ma_1140 ka_1140 x_1144 h_1145 T_ hG_1143 (22 : Int32) (0 : Int32) (g.fcts [2, 1, 0] rfl)) (cwV 2 hts (gV_ t_1301 t_1204 t_1205 t_191 t_1206) rfl rfl rfl (by decide +kernel) ⟨(Nat.le_of_ble_eq_true rfl), (Nat.le_of_ble_eq_true rfl)⟩) (pre3V g hK mq3_ kq3_ (by decide) (q := (RX7, TX7, 19)) rfl) rfl rfl hl.1 rfl (lv_room (Nat.le_of_ble_eq_true rfl)) dX2_readArguments_221 ⟨(Nat.le_of_ble_eq_true rfl), (Nat.le_of_ble_eq_true rfl)⟩) g hK (by decide) (by decide) (fx' := [(7, 5, q3_, .ref a_1140), (7, 4, q3_, .ref a_1139), (2, 13, a0_, .int x_1138), (8, 6, q0_, .int 1201), (8, 8, q0_, .int x_1053), (2, 14, a0_, .int x_17), (2, 0, a0_, .ref q0_), (2, 1, a0_, .ref q1_), (2, 2, a0_, .ref q2_), (2, 3, a0_, .ref q3_), (0, 0, q2_, .ref q0_), (0, 1, q2_, .ref q1_), (5, 0, q1_, .ref q3_), (5, 1, q1_, .ref q7_), (2, 12, a0_, .int y0_)]) rfl (fun fr_1148 H locs hp hMr_1148 g => ?_)
                      obtain ⟨hG_1149, x_1150, h_1151, hF_1152⟩ := hp
                      have hG_1153 := eOK.frame hMr_1148 go_.2.2.2.1 mq2_ kq2_ (by decide) (by decide) hG_1147
                      have g := g.more hF_1152
                      refine lv_aload_n hx hb dX2_readArguments_224 rfl (lv_at hl 4 rfl) ?_
                      refine g_getk (C := RX2) (T := TX2) (N := 16) hx hb hts (mc_ inX2) hown hK g rfl 0 (by decide) rfl (hts _ (List.mem_cons_of_mem _ t_416)) (fun _ h9 => h9) 7 rfl dX2_readArguments_225 ?_
                      refine lv_bipush (v := 59) hx hb dX2_readArguments_228 (by decide) ?_
                      have kb_1201 : bd 1201 1201 (1201 : Int32) := ⟨by decide, by decide⟩
                      have go_ := g
                      refine g_callv (va_runV (As := [.int 59]) (rest := []) ⟨hx, hb, hml, hown, hts⟩ (r_X8_take_2 l dC dI L kd tys fr_1148 H.size g.2.2.2.1 q0_ mq0_ kq0_ 59 1201 kb_1201 x_1053 h_1054 (g.fcts [4, 5] rfl)) (cwV 1 hts (gV_ t_1098 t_1099 t_1100 t_184 t_1101) rfl rfl rfl (by decide +kernel) ⟨(Nat.le_of_ble_eq_true rfl), (Nat.le_of_ble_eq_true rfl)⟩) (pre3V g hK mq0_ kq0_ (by decide) (q := (RX8, TX8, 10)) rfl) rfl rfl hl.1 rfl (lv_room (Nat.le_of_ble_eq_true rfl)) dX2_readArguments_230 ⟨(Nat.le_of_ble_eq_true rfl), (Nat.le_of_ble_eq_true rfl)⟩) g hK (by decide) (by decide) (fx' := [(7, 6, q3_, .int x_1150), (7, 5, q3_, .ref a_1140), (7, 4, q3_, .ref a_1139), (2, 13, a0_, .int x_1138), (8, 8, q0_, .int x_1053), (2, 14, a0_, .int x_17), (2, 0, a0_, .ref q0_), (2, 1, a0_, .ref q1_), (2, 2, a0_, .ref q2_), (2, 3, a0_, .ref q3_), (0, 0, q2_, .ref q0_), (0, 1, q2_, .ref q1_), (5, 0, q1_, .ref q3_), (5, 1, q1_, .ref q7_), (2, 12, a0_, .int y0_)]) rfl (fun fr_1154 H locs hp hMr_1154 g => ?_)
                      obtain ⟨x_1155, h_1156, hF_1157⟩ := hp
                      have hG_1158 := dOK.frame hMr_1154 go_.2.2.2.1 mq3_ kq3_ (by decide) (by decide) hG_1149
                      have hG_1159 := eOK.frame hMr_1154 go_.2.2.2.1 mq2_ kq2_ (by decide) (by decide) hG_1153
                      have g := g.more hF_1157
                      subst hQ
                      exact W.vret hx hb hr (fun t ht hW => ⟨⟨_, rfl, Or.inr (⟨hG_1158, hG_1159, x_1155, h_1156, x_1053, h_1054, (g.fcts [0, 5] rfl)⟩), q3_of g hK ht hW⟩, g.2.2.1.F ht⟩) g.2.2.1.2.2 dX2_readArguments_233
                    · have fc_1136 := nle_f c_1136
                      have b_1160 : bd (-2147483648) (-1) v69_2 := ltL fc_1136 (bdT v69_2) b_793 (by decide)
                      refine lv_aload_n hx hb dX2_readArguments_188 rfl (lv_at hl 4 rfl) ?_
                      refine g_getk (C := RX2) (T := TX2) (N := 16) hx hb hts (mc_ inX2) hown hK g rfl 0 (by decide) rfl (hts _ (List.mem_cons_of_mem _ t_416)) (fun _ h9 => h9) 3 rfl dX2_readArguments_189 ?_
                      refine lv_bipush (v := 6) hx hb dX2_readArguments_192 (by decide) ?_
                      refine lv_iload hx hb dX2_readArguments_194 (lv_at hl 0 rfl) ?_
                      have kb_6 : bd 6 6 (6 : Int32) := ⟨by decide, by decide⟩
                      have go_ := g
                      refine g_callv (va_runV (As := [.int 6, .int r_1044]) (rest := []) ⟨hx, hb, hml, hown, hts⟩ (r_X8_fail_2 l dC dI L kd tys fr_1049 H.size g.2.2.2.1 q0_ mq0_ kq0_ 6 (bd_sub kb_6 (by decide)) r_1044 x_1053 h_1054 (g.fcts [1] rfl)) (cwV 2 hts (gV_ t_1122 t_1107 t_1108 t_184 t_1109) rfl rfl rfl (by decide +kernel) ⟨(Nat.le_of_ble_eq_true rfl), (Nat.le_of_ble_eq_true rfl)⟩) (pre3V g hK mq0_ kq0_ (by decide) (q := (RX8, TX8, 10)) rfl) rfl rfl hl.1 rfl (lv_room (Nat.le_of_ble_eq_true rfl)) dX2_readArguments_196 ⟨(Nat.le_of_ble_eq_true rfl), (Nat.le_of_ble_eq_true rfl)⟩) g hK (by decide) (by decide) (fx' := [(8, 8, q0_, .int x_1053), (2, 14, a0_, .int x_17), (2, 0, a0_, .ref q0_), (2, 1, a0_, .ref q1_), (2, 2, a0_, .ref q2_), (2, 3, a0_, .ref q3_), (0, 0, q2_, .ref q0_), (0, 1, q2_, .ref q1_), (5, 0, q1_, .ref q3_), (5, 1, q1_, .ref q7_), (2, 12, a0_, .int y0_)]) rfl (fun fr_1161 H locs hp hMr_1161 g => ?_)
                      have hF_1162 := hp
                      have hG_1163 := cOK.frame hMr_1161 go_.2.2.2.1 mq3_ kq3_ (by decide) (by decide) hG_1132
                      have hG_1164 := dOK.frame hMr_1161 go_.2.2.2.1 mq3_ kq3_ (by decide) (by decide) hG_1133
                      have hG_1165 := jS.frame hMr_1161 go_.2.2.2.1 mq3_ kq3_ (by decide) (by decide) hG_1134
                      have hG_1166 := eOK.frame hMr_1161 go_.2.2.2.1 mq2_ kq2_ (by decide) (by decide) hG_1135
                      have g := g.more hF_1162
                      refine lv_aload_n hx hb dX2_readArguments_199 rfl (lv_at hl 4 rfl) ?_
                      refine g_getk (C := RX2) (T := TX2) (N := 16) hx hb hts (mc_ inX2) hown hK g rfl 3 (by decide) rfl (hts _ (List.mem_cons_of_mem _ t_419)) (fun _ h9 => h9) 6 rfl dX2_readArguments_200 ?_
                      refine lv_aload_n hx hb dX2_readArguments_203 rfl (lv_at hl 4 rfl) ?_
                      refine g_getk (C := RX2) (T := TX2) (N := 16) hx hb hts (mc_ inX2) hown hK g rfl 12 (by decide) rfl (hts _ (List.mem_cons_of_mem _ t_428)) (fun _ h9 => h9) 11 rfl dX2_readArguments_204 ?_
                      refine lv_aload_n hx hb dX2_readArguments_207 rfl (lv_at hl 4 rfl) ?_
                      refine g_geti (C := RX2) (T := TX2) (N := 16) hx hb hts (mc_ inX2) hown hK g ma0_ ka0_ (by decide) rfl 13 (by decide) rfl (hts _ (List.mem_cons_of_mem _ t_429)) (fun _ h9 => h9) rfl dX2_readArguments_208 (fun x_1167 bx_1167 g => ?_)
                      obtain ⟨a_1168, ma_1168, ka_1168, g⟩ := g_factr g mq3_ kq3_ (by decide) 4 rfl
                      obtain ⟨a_1169, ma_1169, ka_1169, g⟩ := g_factr g mq3_ kq3_ (by decide) 5 rfl
                      obtain ⟨x_1170, bx_1170, g⟩ := g_facti g mq3_ kq3_ (by decide) 6 rfl
                      have go_ := g
                      refine g_callv (va_runV (As := [.int y0_, .int x_1167]) (rest := []) ⟨hx, hb, hml, hown, hts⟩ (r_X7_emitF l dC dI L kd tys fr_1161 H.size g.2.2.2.1 q3_ mq3_ kq3_ a_1168 ma_1168 ka_1168 a_1169 ma_1169 ka_1169 x_1170 bx_1170 T_ hG_1164 y0_ x_1167 (g.fcts [2, 1, 0] rfl)) (cwV 2 hts (gV_ t_1301 t_1204 t_1205 t_191 t_1206) rfl rfl rfl (by decide +kernel) ⟨(Nat.le_of_ble_eq_true rfl), (Nat.le_of_ble_eq_true rfl)⟩) (pre3V g hK mq3_ kq3_ (by decide) (q := (RX7, TX7, 19)) rfl) rfl rfl hl.1 rfl (lv_room (Nat.le_of_ble_eq_true rfl)) dX2_readArguments_211 ⟨(Nat.le_of_ble_eq_true rfl), (Nat.le_of_ble_eq_true rfl)⟩) g hK (by decide) (by decide) (fx' := [(7, 5, q3_, .ref a_1169), (7, 4, q3_, .ref a_1168), (2, 13, a0_, .int x_1167), (8, 6, q0_, .int 1201), (8, 8, q0_, .int x_1053), (2, 14, a0_, .int x_17), (2, 0, a0_, .ref q0_), (2, 1, a0_, .ref q1_), (2, 2, a0_, .ref q2_), (2, 3, a0_, .ref q3_), (0, 0, q2_, .ref q0_), (0, 1, q2_, .ref q1_), (5, 0, q1_, .ref q3_), (5, 1, q1_, .ref q7_), (2, 12, a0_, .int y0_)]) rfl (fun fr_1171 H locs hp hMr_1171 g => ?_)
                      obtain ⟨hG_1172, x_1173, h_1174, hF_1175⟩ := hp
                      have hG_1176 := eOK.frame hMr_1171 go_.2.2.2.1 mq2_ kq2_ (by decide) (by decide) hG_1166
                      have g := g.more hF_1175
                      refine lv_aload_n hx hb dX2_readArguments_214 rfl (lv_at hl 4 rfl) ?_
                      refine g_getk (C := RX2) (T := TX2) (N := 16) hx hb hts (mc_ inX2) hown hK g rfl 3 (by decide) rfl (hts _ (List.mem_cons_of_mem _ t_419)) (fun _ h9 => h9) 10 rfl dX2_readArguments_215 ?_
                      refine lv_bipush (v := 22) hx hb dX2_readArguments_218 (by decide) ?_
                      refine lv_iconst (v := 0) hx hb dX2_readArguments_220 (by decide) ?_
                      have go_ := g
                      refine g_callv (va_runV (As := [.int 22, .int 0]) (rest := []) ⟨hx, hb, hml, hown, hts⟩ (r_X7_emitF l dC dI L kd tys fr_1171 H.size g.2.2.2.1 q3_ mq3_ kq3_ a_1168 ma_1168 ka_1168 a_1169 ma_1169 ka_1169 x_1173 h_1174 T_ hG_1172 (22 : Int32) (0 : Int32) (g.fcts [2, 1, 0] rfl)) (cwV 2 hts (gV_ t_1301 t_1204 t_1205 t_191 t_1206) rfl rfl rfl (by decide +kernel) ⟨(Nat.le_of_ble_eq_true rfl), (Nat.le_of_ble_eq_true rfl)⟩) (pre3V g hK mq3_ kq3_ (by decide) (q := (RX7, TX7, 19)) rfl) rfl rfl hl.1 rfl (lv_room (Nat.le_of_ble_eq_true rfl)) dX2_readArguments_221 ⟨(Nat.le_of_ble_eq_true rfl), (Nat.le_of_ble_eq_true rfl)⟩) g hK (by decide) (by decide) (fx' := [(7, 5, q3_, .ref a_1169), (7, 4, q3_, .ref a_1168), (2, 13, a0_, .int x_1167), (8, 6, q0_, .int 1201), (8, 8, q0_, .int x_1053), (2, 14, a0_, .int x_17), (2, 0, a0_, .ref q0_), (2, 1, a0_, .ref q1_), (2, 2, a0_, .ref q2_), (2, 3, a0_, .ref q3_), (0, 0, q2_, .ref q0_), (0, 1, q2_, .ref q1_), (5, 0, q1_, .ref q3_), (5, 1, q1_, .ref q7_), (2, 12, a0_, .int y0_)]) rfl (fun fr_1177 H locs hp hMr_1177 g => ?_)
                      obtain ⟨hG_1178, x_1179, h_1180, hF_1181⟩ := hp
                      have hG_1182 := eOK.frame hMr_1177 go_.2.2.2.1 mq2_ kq2_ (by decide) (by decide) hG_1176
                      have g := g.more hF_1181
                      refine lv_aload_n hx hb dX2_readArguments_224 rfl (lv_at hl 4 rfl) ?_
                      refine g_getk (C := RX2) (T := TX2) (N := 16) hx hb hts (mc_ inX2) hown hK g rfl 0 (by decide) rfl (hts _ (List.mem_cons_of_mem _ t_416)) (fun _ h9 => h9) 7 rfl dX2_readArguments_225 ?_
                      refine lv_bipush (v := 59) hx hb dX2_readArguments_228 (by decide) ?_
                      have kb_1201 : bd 1201 1201 (1201 : Int32) := ⟨by decide, by decide⟩
                      have go_ := g
                      refine g_callv (va_runV (As := [.int 59]) (rest := []) ⟨hx, hb, hml, hown, hts⟩ (r_X8_take_2 l dC dI L kd tys fr_1177 H.size g.2.2.2.1 q0_ mq0_ kq0_ 59 1201 kb_1201 x_1053 h_1054 (g.fcts [4, 5] rfl)) (cwV 1 hts (gV_ t_1098 t_1099 t_1100 t_184 t_1101) rfl rfl rfl (by decide +kernel) ⟨(Nat.le_of_ble_eq_true rfl), (Nat.le_of_ble_eq_true rfl)⟩) (pre3V g hK mq0_ kq0_ (by decide) (q := (RX8, TX8, 10)) rfl) rfl rfl hl.1 rfl (lv_room (Nat.le_of_ble_eq_true rfl)) dX2_readArguments_230 ⟨(Nat.le_of_ble_eq_true rfl), (Nat.le_of_ble_eq_true rfl)⟩) g hK (by decide) (by decide) (fx' := [(7, 6, q3_, .int x_1179), (7, 5, q3_, .ref a_1169), (7, 4, q3_, .ref a_1168), (2, 13, a0_, .int x_1167), (8, 8, q0_, .int x_1053), (2, 14, a0_, .int x_17), (2, 0, a0_, .ref q0_), (2, 1, a0_, .ref q1_), (2, 2, a0_, .ref q2_), (2, 3, a0_, .ref q3_), (0, 0, q2_, .ref q0_), (0, 1, q2_, .ref q1_), (5, 0, q1_, .ref q3_), (5, 1, q1_, .ref q7_), (2, 12, a0_, .int y0_)]) rfl (fun fr_1183 H locs hp hMr_1183 g => ?_)
                      obtain ⟨x_1184, h_1185, hF_1186⟩ := hp
                      have hG_1187 := dOK.frame hMr_1183 go_.2.2.2.1 mq3_ kq3_ (by decide) (by decide) hG_1178
                      have hG_1188 := eOK.frame hMr_1183 go_.2.2.2.1 mq2_ kq2_ (by decide) (by decide) hG_1182
                      have g := g.more hF_1186
                      subst hQ
                      exact W.vret hx hb hr (fun t ht hW => ⟨⟨_, rfl, Or.inr (⟨hG_1187, hG_1188, x_1184, h_1185, x_1053, h_1054, (g.fcts [0, 5] rfl)⟩), q3_of g hK ht hW⟩, g.2.2.1.F ht⟩) g.2.2.1.2.2 dX2_readArguments_233
                · have fc_1042 := neq_f c_1042
                  have b_1189 : bd 1 1 v69_3 := neX fc_1042 bv69_3 kb_0 (by decide)
                  refine lv_aload_n hx hb dX2_readArguments_79 rfl (lv_at hl 4 rfl) ?_
                  refine g_getk (C := RX2) (T := TX2) (N := 16) hx hb hts (mc_ inX2) hown hK g rfl 0 (by decide) rfl (hts _ (List.mem_cons_of_mem _ t_416)) (fun _ h9 => h9) 2 rfl dX2_readArguments_80 ?_
                  refine g_getk (C := RX8) (T := TX8) (N := 10) hx hb hts (mc_ inX8) hown hK g rfl 8 (by decide) rfl (hts _ (List.mem_cons_of_mem _ t_294)) (fun _ h9 => h9) 1 rfl dX2_readArguments_83 ?_
                  refine lv_if_ne (tgt := 162) hx hb dX2_readArguments_86 (by decide) (fun c_1190 => ?_) (fun c_1190 => ?_)
                  · have fc_1190 := neq_f c_1190
                    have b_1191 : bd 1 (-1) y1_ := neX fc_1190 by1_ kb_0 (by decide)
                    exact bd_no b_1191 (by decide)
                  · have fc_1190 := eq_f c_1190
                    refine lv_aload_n hx hb dX2_readArguments_89 rfl (lv_at hl 4 rfl) ?_
                    refine g_getk (C := RX2) (T := TX2) (N := 16) hx hb hts (mc_ inX2) hown hK g rfl 2 (by decide) rfl (hts _ (List.mem_cons_of_mem _ t_418)) (fun _ h9 => h9) 4 rfl dX2_readArguments_90 ?_
                    have go_ := g
                    refine g_callv (va_runV (As := []) (rest := []) ⟨hx, hb, hml, hown, hts⟩ (r_X0_read l dC dI L kd tys f H.size g.2.2.2.1 q2_ mq2_ kq2_ q0_ mq0_ kq0_ q1_ mq1_ kq1_ q3_ mq3_ kq3_ q7_ mq7_ kq7_ y1_ by1_ T_ (fun j9 => jOK f q3_ j9) hG69_e_q2_ hG69_c_q3_ hG69_d_q3_ (fun _ h9 => h9) (g.fcts [6, 7, 8, 9, 1] rfl)) (cwV 0 hts (gV_ t_1182 t_1183 t_1184 t_190 t_1185) rfl rfl rfl (by decide +kernel) ⟨(Nat.le_of_ble_eq_true rfl), (Nat.le_of_ble_eq_true rfl)⟩) (pre3V g hK mq2_ kq2_ (by decide) (q := (RX0, TX0, 14)) rfl) rfl rfl hl.1 rfl (lv_room (Nat.le_of_ble_eq_true rfl)) dX2_readArguments_93 ⟨(Nat.le_of_ble_eq_true rfl), (Nat.le_of_ble_eq_true rfl)⟩) g hK (by decide) (by decide) (fx' := [(2, 14, a0_, .int x_17), (2, 0, a0_, .ref q0_), (2, 1, a0_, .ref q1_), (2, 2, a0_, .ref q2_), (2, 3, a0_, .ref q3_), (0, 0, q2_, .ref q0_), (0, 1, q2_, .ref q1_), (5, 0, q1_, .ref q3_), (5, 1, q1_, .ref q7_), (2, 12, a0_, .int y0_)]) rfl (fun fr_1192 H locs hp hMr_1192 g => ?_)
                    rcases hp with ⟨hG_1193, hG_1194, hG_1195, hG_1196, hF_1197⟩ | ⟨hG_1198, hG_1199, x_1200, h_1201, x_1202, h_1203, hF_1204⟩
                    · have g := g.more hF_1197
                      have hs_1205 := jS.mv hG69_s_q3_ hG_1196
                      have kb_1 : bd 1 1 (1 : Int32) := ⟨by decide, by decide⟩
                      obtain ⟨y_1206, ey_1206⟩ : ∃ z : Int32, z = v69_2 + 1 := ⟨_, rfl⟩
                      refine lv_iinc (v := y_1206) (lv' := [(2, .int y_1206), (4, .int v69_4), (3, .int v69_3), (1, .int r_1), (0, .ref a0_)]) hx hb dX2_readArguments_96 hl (k := 2) rfl (by rw [ey_1206]; rfl) (by decide) rfl (fun ls hl => ?_)
                      refine lv_aload_n hx hb dX2_readArguments_99 rfl (lv_at hl 4 rfl) ?_
                      refine g_getk (C := RX2) (T := TX2) (N := 16) hx hb hts (mc_ inX2) hown hK g rfl 0 (by decide) rfl (hts _ (List.mem_cons_of_mem _ t_416)) (fun _ h9 => h9) 3 rfl dX2_readArguments_100 ?_
                      have go_ := g
                      refine g_calli (va_runV (As := []) (rest := []) ⟨hx, hb, hml, hown, hts⟩ (r_X8_kind l dC dI L kd tys fr_1192 H.size g.2.2.2.1 q0_ mq0_ kq0_) (cwV 0 hts (gV_ t_1118 t_1119 t_1120 t_184 t_1121) rfl rfl rfl (by decide +kernel) ⟨(Nat.le_of_ble_eq_true rfl), (Nat.le_of_ble_eq_true rfl)⟩) (pre3V g hK mq0_ kq0_ (by decide) (q := (RX8, TX8, 10)) rfl) rfl rfl hl.1 rfl (lv_room (Nat.le_of_ble_eq_true rfl)) dX2_readArguments_103 ⟨(Nat.le_of_ble_eq_true rfl), (Nat.le_of_ble_eq_true rfl)⟩) g hK (by decide) (by decide) (fx' := [(0, 2, q2_, .ref q3_), (8, 8, q0_, .int y1_), (2, 14, a0_, .int x_17), (2, 0, a0_, .ref q0_), (2, 1, a0_, .ref q1_), (2, 2, a0_, .ref q2_), (2, 3, a0_, .ref q3_), (0, 0, q2_, .ref q0_), (0, 1, q2_, .ref q1_), (5, 0, q1_, .ref q3_), (5, 1, q1_, .ref q7_), (2, 12, a0_, .int y0_)]) rfl (fun r_1207 fr_1207 H locs hp hMr_1207 g => ?_)
                      have hG_1208 := cOK.frame hMr_1207 go_.2.2.2.1 mq3_ kq3_ (by decide) (by decide) hG_1194
                      have hG_1209 := dOK.frame hMr_1207 go_.2.2.2.1 mq3_ kq3_ (by decide) (by decide) hG_1195
                      have hG_1210 := jS.frame hMr_1207 go_.2.2.2.1 mq3_ kq3_ (by decide) (by decide) hs_1205
                      have hG_1211 := eOK.frame hMr_1207 go_.2.2.2.1 mq2_ kq2_ (by decide) (by decide) hG_1193
                      refine lv_bipush (v := 44) hx hb dX2_readArguments_106 (by decide) ?_
                      have kb_44 : bd 44 44 (44 : Int32) := ⟨by decide, by decide⟩
                      refine lv_icmp_ne (tgt := 115) hx hb dX2_readArguments_108 (by decide) (fun c_1212 => ?_) (fun c_1212 => ?_)
                      · have fc_1212 := neq_f c_1212
                        refine lv_iconst (v := 0) hx hb dX2_readArguments_115 (by decide) ?_
                        refine lv_istore_n (lv' := [(3, .int 0), (2, .int y_1206), (4, .int v69_4), (1, .int r_1), (0, .ref a0_)]) hx hb dX2_readArguments_116 rfl hl (by decide) rfl (fun ls hl => ?_)
                        refine lv_iload_n hx hb dX2_readArguments_117 rfl (lv_at hl 0 rfl) ?_
                        refine lv_if_eq (tgt := 156) hx hb dX2_readArguments_118 (by decide) (fun c_ => ?_) (fun c_ => absurd (by decide) c_)
                        obtain ⟨y_1213, ey_1213⟩ : ∃ z : Int32, z = v69_4 + 1 := ⟨_, rfl⟩
                        refine lv_iinc (v := y_1213) (lv' := [(4, .int y_1213), (3, .int 0), (2, .int y_1206), (1, .int r_1), (0, .ref a0_)]) hx hb dX2_readArguments_156 hl (k := 2) rfl (by rw [ey_1213]; rfl) (by decide) rfl (fun ls hl => ?_)
                        have ty_1213 := add_bd ey_1213 b_1041 kb_1 (by decide)
                        have b_1214 : bd 1 4 y_1213 := add_rg ty_1213 b_1041 kb_1 (by decide)
                        refine lv_goto (tgt := 69) hx hb dX2_readArguments_159 (by decide) ?_
                        have hl9 := lv_sub hl [0, 1, 2, 3, 4] (by rfl : lv_pick [(4, .int y_1213), (3, .int 0), (2, .int y_1206), (1, .int r_1), (0, .ref a0_)] [0, 1, 2, 3, 4] = [(4, .int y_1213), (3, .int 0), (2, .int y_1206), (1, .int r_1), (0, .ref a0_)])
                        have g9 := g.sub (fx' := [(2, 14, a0_, .int x_17), (8, 8, q0_, .int y1_), (2, 0, a0_, .ref q0_), (2, 1, a0_, .ref q1_), (2, 2, a0_, .ref q2_), (2, 3, a0_, .ref q3_), (0, 0, q2_, .ref q0_), (0, 1, q2_, .ref q1_), (5, 0, q1_, .ref q3_), (5, 1, q1_, .ref q7_), (2, 12, a0_, .int y0_)]) [2, 1, 3, 4, 5, 6, 7, 8, 9, 10, 11] rfl
                        exact ih69  y_1213 0 y_1206 (bd_sub b_1214 (by decide)) (bd_sub kb_0 (by decide)) (by have h9_0 := b_1214; unfold bd at h9_0; have h9_1 := bdT v69_2; unfold bd at h9_1; have h9_2 := bdT y_1206; unfold bd at h9_2; have h9_3 := bv69_3; unfold bd at h9_3; have h9_4 := bv69_4; unfold bd at h9_4; have h9_5 := kb_0; unfold bd at h9_5; have h9_6 := kb_1; unfold bd at h9_6; have h9_7 := kb_3; unfold bd at h9_7; have h9_8 := kb_41; unfold bd at h9_8; have h9_9 := kb_44; unfold bd at h9_9; omega) _ _ _ _ g9 hG_1208 hG_1209 hG_1210 hG_1211 hl9
                      · have fc_1212 := eq_f c_1212
                        have b_1215 : bd 44 44 r_1207 := eqX fc_1212 (bdT r_1207) kb_44 (by decide)
                        refine lv_iconst (v := 1) hx hb dX2_readArguments_111 (by decide) ?_
                        refine lv_goto (tgt := 116) hx hb dX2_readArguments_112 (by decide) ?_
                        refine lv_istore_n (lv' := [(3, .int 1), (2, .int y_1206), (4, .int v69_4), (1, .int r_1), (0, .ref a0_)]) hx hb dX2_readArguments_116 rfl hl (by decide) rfl (fun ls hl => ?_)
                        refine lv_iload_n hx hb dX2_readArguments_117 rfl (lv_at hl 0 rfl) ?_
                        refine lv_if_eq (tgt := 156) hx hb dX2_readArguments_118 (by decide) (fun c_ => absurd c_ (by decide)) (fun c_ => ?_)
                        refine lv_aload_n hx hb dX2_readArguments_121 rfl (lv_at hl 4 rfl) ?_
                        refine g_getk (C := RX2) (T := TX2) (N := 16) hx hb hts (mc_ inX2) hown hK g rfl 0 (by decide) rfl (hts _ (List.mem_cons_of_mem _ t_416)) (fun _ h9 => h9) 3 rfl dX2_readArguments_122 ?_
                        have go_ := g
                        refine g_calli (va_runV (As := []) (rest := []) ⟨hx, hb, hml, hown, hts⟩ (r_X8_place l dC dI L kd tys fr_1207 H.size g.2.2.2.1 q0_ mq0_ kq0_) (cwV 0 hts (gV_ t_1110 t_1111 t_1112 t_184 t_1113) rfl rfl rfl (by decide +kernel) ⟨(Nat.le_of_ble_eq_true rfl), (Nat.le_of_ble_eq_true rfl)⟩) (pre3V g hK mq0_ kq0_ (by decide) (q := (RX8, TX8, 10)) rfl) rfl rfl hl.1 rfl (lv_room (Nat.le_of_ble_eq_true rfl)) dX2_readArguments_125 ⟨(Nat.le_of_ble_eq_true rfl), (Nat.le_of_ble_eq_true rfl)⟩) g hK (by decide) (by decide) (fx' := [(0, 2, q2_, .ref q3_), (8, 8, q0_, .int y1_), (2, 14, a0_, .int x_17), (2, 0, a0_, .ref q0_), (2, 1, a0_, .ref q1_), (2, 2, a0_, .ref q2_), (2, 3, a0_, .ref q3_), (0, 0, q2_, .ref q0_), (0, 1, q2_, .ref q1_), (5, 0, q1_, .ref q3_), (5, 1, q1_, .ref q7_), (2, 12, a0_, .int y0_)]) rfl (fun r_1216 fr_1216 H locs hp hMr_1216 g => ?_)
                        have hG_1217 := cOK.frame hMr_1216 go_.2.2.2.1 mq3_ kq3_ (by decide) (by decide) hG_1208
                        have hG_1218 := dOK.frame hMr_1216 go_.2.2.2.1 mq3_ kq3_ (by decide) (by decide) hG_1209
                        have hG_1219 := jS.frame hMr_1216 go_.2.2.2.1 mq3_ kq3_ (by decide) (by decide) hG_1210
                        have hG_1220 := eOK.frame hMr_1216 go_.2.2.2.1 mq2_ kq2_ (by decide) (by decide) hG_1211
                        refine lv_istore (lv' := [(5, .int r_1216), (3, .int 1), (2, .int y_1206), (4, .int v69_4), (1, .int r_1), (0, .ref a0_)]) hx hb dX2_readArguments_128 hl (by decide) rfl (fun ls hl => ?_)
                        refine lv_aload_n hx hb dX2_readArguments_130 rfl (lv_at hl 5 rfl) ?_
                        refine g_getk (C := RX2) (T := TX2) (N := 16) hx hb hts (mc_ inX2) hown hK g rfl 0 (by decide) rfl (hts _ (List.mem_cons_of_mem _ t_416)) (fun _ h9 => h9) 3 rfl dX2_readArguments_131 ?_
                        have go_ := g
                        refine g_callv (va_runV (As := []) (rest := []) ⟨hx, hb, hml, hown, hts⟩ (r_X8_next l dC dI L kd tys fr_1216 H.size g.2.2.2.1 q0_ mq0_ kq0_) (cwV 0 hts (gV_ t_1131 t_1103 t_1104 t_184 t_1105) rfl rfl rfl (by decide +kernel) ⟨(Nat.le_of_ble_eq_true rfl), (Nat.le_of_ble_eq_true rfl)⟩) (pre3V g hK mq0_ kq0_ (by decide) (q := (RX8, TX8, 10)) rfl) rfl rfl hl.1 rfl (lv_room (Nat.le_of_ble_eq_true rfl)) dX2_readArguments_134 ⟨(Nat.le_of_ble_eq_true rfl), (Nat.le_of_ble_eq_true rfl)⟩) g hK (by decide) (by decide) (fx' := [(0, 2, q2_, .ref q3_), (8, 8, q0_, .int y1_), (2, 14, a0_, .int x_17), (2, 0, a0_, .ref q0_), (2, 1, a0_, .ref q1_), (2, 2, a0_, .ref q2_), (2, 3, a0_, .ref q3_), (0, 0, q2_, .ref q0_), (0, 1, q2_, .ref q1_), (5, 0, q1_, .ref q3_), (5, 1, q1_, .ref q7_), (2, 12, a0_, .int y0_)]) rfl (fun fr_1221 H locs hp hMr_1221 g => ?_)
                        obtain ⟨x_1222, h_1223, hF_1224⟩ := hp
                        have hG_1225 := cOK.frame hMr_1221 go_.2.2.2.1 mq3_ kq3_ (by decide) (by decide) hG_1217
                        have hG_1226 := dOK.frame hMr_1221 go_.2.2.2.1 mq3_ kq3_ (by decide) (by decide) hG_1218
                        have hG_1227 := jS.frame hMr_1221 go_.2.2.2.1 mq3_ kq3_ (by decide) (by decide) hG_1219
                        have hG_1228 := eOK.frame hMr_1221 go_.2.2.2.1 mq2_ kq2_ (by decide) (by decide) hG_1220
                        have g := g.more hF_1224
                        refine lv_iload_n hx hb dX2_readArguments_137 rfl (lv_at hl 2 rfl) ?_
                        refine lv_aload_n hx hb dX2_readArguments_138 rfl (lv_at hl 5 rfl) ?_
                        refine g_getk (C := RX2) (T := TX2) (N := 16) hx hb hts (mc_ inX2) hown hK g rfl 14 (by decide) rfl (hts _ (List.mem_cons_of_mem _ t_430)) (fun _ h9 => h9) 3 rfl dX2_readArguments_139 ?_
                        refine lv_icmp_lt (tgt := 156) hx hb dX2_readArguments_142 (by decide) (fun c_1229 => ?_) (fun c_1229 => ?_)
                        · have fc_1229 := lt_f c_1229
                          have b_1230 : bd (-2147483648) (-1) y_1206 := ltL fc_1229 (bdT y_1206) b_793 (by decide)
                          obtain ⟨y_1231, ey_1231⟩ : ∃ z : Int32, z = v69_4 + 1 := ⟨_, rfl⟩
                          refine lv_iinc (v := y_1231) (lv' := [(4, .int y_1231), (5, .int r_1216), (3, .int 1), (2, .int y_1206), (1, .int r_1), (0, .ref a0_)]) hx hb dX2_readArguments_156 hl (k := 3) rfl (by rw [ey_1231]; rfl) (by decide) rfl (fun ls hl => ?_)
                          have ty_1231 := add_bd ey_1231 b_1041 kb_1 (by decide)
                          have b_1232 : bd 1 4 y_1231 := add_rg ty_1231 b_1041 kb_1 (by decide)
                          refine lv_goto (tgt := 69) hx hb dX2_readArguments_159 (by decide) ?_
                          have hl9 := lv_sub hl [0, 2, 3, 4, 5] (by rfl : lv_pick [(4, .int y_1231), (5, .int r_1216), (3, .int 1), (2, .int y_1206), (1, .int r_1), (0, .ref a0_)] [0, 2, 3, 4, 5] = [(4, .int y_1231), (3, .int 1), (2, .int y_1206), (1, .int r_1), (0, .ref a0_)])
                          have g9 := g.sub (fx' := [(2, 14, a0_, .int x_17), (8, 8, q0_, .int y1_), (2, 0, a0_, .ref q0_), (2, 1, a0_, .ref q1_), (2, 2, a0_, .ref q2_), (2, 3, a0_, .ref q3_), (0, 0, q2_, .ref q0_), (0, 1, q2_, .ref q1_), (5, 0, q1_, .ref q3_), (5, 1, q1_, .ref q7_), (2, 12, a0_, .int y0_)]) [3, 2, 4, 5, 6, 7, 8, 9, 10, 11, 12] rfl
                          exact ih69  y_1231 1 y_1206 (bd_sub b_1232 (by decide)) (bd_sub kb_1 (by decide)) (by have h9_0 := b_1230; unfold bd at h9_0; have h9_1 := b_1232; unfold bd at h9_1; have h9_2 := bdT v69_2; unfold bd at h9_2; have h9_3 := bv69_3; unfold bd at h9_3; have h9_4 := bv69_4; unfold bd at h9_4; have h9_5 := kb_0; unfold bd at h9_5; have h9_6 := kb_1; unfold bd at h9_6; have h9_7 := kb_3; unfold bd at h9_7; have h9_8 := kb_41; unfold bd at h9_8; have h9_9 := kb_44; unfold bd at h9_9; omega) _ _ _ _ g9 hG_1225 hG_1226 hG_1227 hG_1228 hl9
                        · have fc_1229 := nlt_f c_1229
                          have b_1233 : bd 0 2147483647 y_1206 := leR fc_1229 b_793 (bdT y_1206) (by decide)
                          refine lv_aload_n hx hb dX2_readArguments_145 rfl (lv_at hl 5 rfl) ?_
                          refine g_getk (C := RX2) (T := TX2) (N := 16) hx hb hts (mc_ inX2) hown hK g rfl 0 (by decide) rfl (hts _ (List.mem_cons_of_mem _ t_416)) (fun _ h9 => h9) 4 rfl dX2_readArguments_146 ?_
                          refine lv_bipush (v := 6) hx hb dX2_readArguments_149 (by decide) ?_
                          refine lv_iload hx hb dX2_readArguments_151 (lv_at hl 0 rfl) ?_
                          have kb_6 : bd 6 6 (6 : Int32) := ⟨by decide, by decide⟩
                          have go_ := g
                          refine g_callv (va_runV (As := [.int 6, .int r_1216]) (rest := []) ⟨hx, hb, hml, hown, hts⟩ (r_X8_fail l dC dI L kd tys fr_1221 H.size g.2.2.2.1 q0_ mq0_ kq0_ 6 (bd_sub kb_6 (by decide)) r_1216 y1_ by1_ (g.fcts [2] rfl)) (cwV 2 hts (gV_ t_1122 t_1107 t_1108 t_184 t_1109) rfl rfl rfl (by decide +kernel) ⟨(Nat.le_of_ble_eq_true rfl), (Nat.le_of_ble_eq_true rfl)⟩) (pre3V g hK mq0_ kq0_ (by decide) (q := (RX8, TX8, 10)) rfl) rfl rfl hl.1 rfl (lv_room (Nat.le_of_ble_eq_true rfl)) dX2_readArguments_153 ⟨(Nat.le_of_ble_eq_true rfl), (Nat.le_of_ble_eq_true rfl)⟩) g hK (by decide) (by decide) (fx' := [(0, 2, q2_, .ref q3_), (2, 14, a0_, .int x_17), (2, 0, a0_, .ref q0_), (2, 1, a0_, .ref q1_), (2, 2, a0_, .ref q2_), (2, 3, a0_, .ref q3_), (0, 0, q2_, .ref q0_), (0, 1, q2_, .ref q1_), (5, 0, q1_, .ref q3_), (5, 1, q1_, .ref q7_), (2, 12, a0_, .int y0_)]) rfl (fun fr_1234 H locs hp hMr_1234 g => ?_)
                          obtain ⟨x_1235, h_1236, hF_1237⟩ := hp
                          have hG_1238 := cOK.frame hMr_1234 go_.2.2.2.1 mq3_ kq3_ (by decide) (by decide) hG_1225
                          have hG_1239 := dOK.frame hMr_1234 go_.2.2.2.1 mq3_ kq3_ (by decide) (by decide) hG_1226
                          have hG_1240 := jS.frame hMr_1234 go_.2.2.2.1 mq3_ kq3_ (by decide) (by decide) hG_1227
                          have hG_1241 := eOK.frame hMr_1234 go_.2.2.2.1 mq2_ kq2_ (by decide) (by decide) hG_1228
                          have g := g.more hF_1237
                          obtain ⟨y_1242, ey_1242⟩ : ∃ z : Int32, z = v69_4 + 1 := ⟨_, rfl⟩
                          refine lv_iinc (v := y_1242) (lv' := [(4, .int y_1242), (5, .int r_1216), (3, .int 1), (2, .int y_1206), (1, .int r_1), (0, .ref a0_)]) hx hb dX2_readArguments_156 hl (k := 3) rfl (by rw [ey_1242]; rfl) (by decide) rfl (fun ls hl => ?_)
                          have ty_1242 := add_bd ey_1242 b_1041 kb_1 (by decide)
                          have b_1243 : bd 1 4 y_1242 := add_rg ty_1242 b_1041 kb_1 (by decide)
                          refine lv_goto (tgt := 69) hx hb dX2_readArguments_159 (by decide) ?_
                          refine lv_iload hx hb dX2_readArguments_69 (lv_at hl 0 rfl) ?_
                          refine lv_iconst (v := 3) hx hb dX2_readArguments_71 (by decide) ?_
                          refine lv_icmp_gt (tgt := 162) hx hb dX2_readArguments_72 (by decide) (fun c_1244 => ?_) (fun c_1244 => ?_)
                          · have fc_1244 := lt_f c_1244
                            have b_1245 : bd 4 4 y_1242 := ltR fc_1244 kb_3 b_1243 (by decide)
                            have b_1246 : bd 3 3 v69_4 := add_inv ty_1242 b_1245 b_1041 kb_1 (by decide)
                            refine lv_aload_n hx hb dX2_readArguments_162 rfl (lv_at hl 5 rfl) ?_
                            refine g_getk (C := RX2) (T := TX2) (N := 16) hx hb hts (mc_ inX2) hown hK g rfl 0 (by decide) rfl (hts _ (List.mem_cons_of_mem _ t_416)) (fun _ h9 => h9) 4 rfl dX2_readArguments_163 ?_
                            have go_ := g
                            refine g_calli (va_runV (As := []) (rest := []) ⟨hx, hb, hml, hown, hts⟩ (r_X8_place l dC dI L kd tys fr_1234 H.size g.2.2.2.1 q0_ mq0_ kq0_) (cwV 0 hts (gV_ t_1110 t_1111 t_1112 t_184 t_1113) rfl rfl rfl (by decide +kernel) ⟨(Nat.le_of_ble_eq_true rfl), (Nat.le_of_ble_eq_true rfl)⟩) (pre3V g hK mq0_ kq0_ (by decide) (q := (RX8, TX8, 10)) rfl) rfl rfl hl.1 rfl (lv_room (Nat.le_of_ble_eq_true rfl)) dX2_readArguments_166 ⟨(Nat.le_of_ble_eq_true rfl), (Nat.le_of_ble_eq_true rfl)⟩) g hK (by decide) (by decide) (fx' := [(8, 6, q0_, .int 1201), (8, 8, q0_, .int x_1235), (0, 2, q2_, .ref q3_), (2, 14, a0_, .int x_17), (2, 0, a0_, .ref q0_), (2, 1, a0_, .ref q1_), (2, 2, a0_, .ref q2_), (2, 3, a0_, .ref q3_), (0, 0, q2_, .ref q0_), (0, 1, q2_, .ref q1_), (5, 0, q1_, .ref q3_), (5, 1, q1_, .ref q7_), (2, 12, a0_, .int y0_)]) rfl (fun r_1247 fr_1247 H locs hp hMr_1247 g => ?_)
                            have hG_1248 := cOK.frame hMr_1247 go_.2.2.2.1 mq3_ kq3_ (by decide) (by decide) hG_1238
                            have hG_1249 := dOK.frame hMr_1247 go_.2.2.2.1 mq3_ kq3_ (by decide) (by decide) hG_1239
                            have hG_1250 := jS.frame hMr_1247 go_.2.2.2.1 mq3_ kq3_ (by decide) (by decide) hG_1240
                            have hG_1251 := eOK.frame hMr_1247 go_.2.2.2.1 mq2_ kq2_ (by decide) (by decide) hG_1241
                            refine lv_istore (lv' := [(4, .int r_1247), (5, .int r_1216), (3, .int 1), (2, .int y_1206), (1, .int r_1), (0, .ref a0_)]) hx hb dX2_readArguments_169 hl (by decide) rfl (fun ls hl => ?_)
                            refine lv_aload_n hx hb dX2_readArguments_171 rfl (lv_at hl 5 rfl) ?_
                            refine g_getk (C := RX2) (T := TX2) (N := 16) hx hb hts (mc_ inX2) hown hK g rfl 0 (by decide) rfl (hts _ (List.mem_cons_of_mem _ t_416)) (fun _ h9 => h9) 4 rfl dX2_readArguments_172 ?_
                            refine lv_bipush (v := 41) hx hb dX2_readArguments_175 (by decide) ?_
                            have kb_1201 : bd 1201 1201 (1201 : Int32) := ⟨by decide, by decide⟩
                            have go_ := g
                            refine g_callv (va_runV (As := [.int 41]) (rest := []) ⟨hx, hb, hml, hown, hts⟩ (r_X8_take_2 l dC dI L kd tys fr_1247 H.size g.2.2.2.1 q0_ mq0_ kq0_ 41 1201 kb_1201 x_1235 h_1236 (g.fcts [0, 1] rfl)) (cwV 1 hts (gV_ t_1098 t_1099 t_1100 t_184 t_1101) rfl rfl rfl (by decide +kernel) ⟨(Nat.le_of_ble_eq_true rfl), (Nat.le_of_ble_eq_true rfl)⟩) (pre3V g hK mq0_ kq0_ (by decide) (q := (RX8, TX8, 10)) rfl) rfl rfl hl.1 rfl (lv_room (Nat.le_of_ble_eq_true rfl)) dX2_readArguments_177 ⟨(Nat.le_of_ble_eq_true rfl), (Nat.le_of_ble_eq_true rfl)⟩) g hK (by decide) (by decide) (fx' := [(8, 8, q0_, .int x_1235), (0, 2, q2_, .ref q3_), (2, 14, a0_, .int x_17), (2, 0, a0_, .ref q0_), (2, 1, a0_, .ref q1_), (2, 2, a0_, .ref q2_), (2, 3, a0_, .ref q3_), (0, 0, q2_, .ref q0_), (0, 1, q2_, .ref q1_), (5, 0, q1_, .ref q3_), (5, 1, q1_, .ref q7_), (2, 12, a0_, .int y0_)]) rfl (fun fr_1252 H locs hp hMr_1252 g => ?_)
                            obtain ⟨x_1253, h_1254, hF_1255⟩ := hp
                            have hG_1256 := cOK.frame hMr_1252 go_.2.2.2.1 mq3_ kq3_ (by decide) (by decide) hG_1248
                            have hG_1257 := dOK.frame hMr_1252 go_.2.2.2.1 mq3_ kq3_ (by decide) (by decide) hG_1249
                            have hG_1258 := jS.frame hMr_1252 go_.2.2.2.1 mq3_ kq3_ (by decide) (by decide) hG_1250
                            have hG_1259 := eOK.frame hMr_1252 go_.2.2.2.1 mq2_ kq2_ (by decide) (by decide) hG_1251
                            have g := g.more hF_1255
                            refine lv_iload_n hx hb dX2_readArguments_180 rfl (lv_at hl 3 rfl) ?_
                            refine lv_aload_n hx hb dX2_readArguments_181 rfl (lv_at hl 5 rfl) ?_
                            refine g_getk (C := RX2) (T := TX2) (N := 16) hx hb hts (mc_ inX2) hown hK g rfl 14 (by decide) rfl (hts _ (List.mem_cons_of_mem _ t_430)) (fun _ h9 => h9) 3 rfl dX2_readArguments_182 ?_
                            refine lv_icmp_ge (tgt := 199) hx hb dX2_readArguments_185 (by decide) (fun c_1260 => ?_) (fun c_1260 => ?_)
                            · have fc_1260 := le_f c_1260
                              refine lv_aload_n hx hb dX2_readArguments_199 rfl (lv_at hl 5 rfl) ?_
                              refine g_getk (C := RX2) (T := TX2) (N := 16) hx hb hts (mc_ inX2) hown hK g rfl 3 (by decide) rfl (hts _ (List.mem_cons_of_mem _ t_419)) (fun _ h9 => h9) 7 rfl dX2_readArguments_200 ?_
                              refine lv_aload_n hx hb dX2_readArguments_203 rfl (lv_at hl 5 rfl) ?_
                              refine g_getk (C := RX2) (T := TX2) (N := 16) hx hb hts (mc_ inX2) hown hK g rfl 12 (by decide) rfl (hts _ (List.mem_cons_of_mem _ t_428)) (fun _ h9 => h9) 12 rfl dX2_readArguments_204 ?_
                              refine lv_aload_n hx hb dX2_readArguments_207 rfl (lv_at hl 5 rfl) ?_
                              refine g_geti (C := RX2) (T := TX2) (N := 16) hx hb hts (mc_ inX2) hown hK g ma0_ ka0_ (by decide) rfl 13 (by decide) rfl (hts _ (List.mem_cons_of_mem _ t_429)) (fun _ h9 => h9) rfl dX2_readArguments_208 (fun x_1261 bx_1261 g => ?_)
                              obtain ⟨a_1262, ma_1262, ka_1262, g⟩ := g_factr g mq3_ kq3_ (by decide) 4 rfl
                              obtain ⟨a_1263, ma_1263, ka_1263, g⟩ := g_factr g mq3_ kq3_ (by decide) 5 rfl
                              obtain ⟨x_1264, bx_1264, g⟩ := g_facti g mq3_ kq3_ (by decide) 6 rfl
                              have go_ := g
                              refine g_callv (va_runV (As := [.int y0_, .int x_1261]) (rest := []) ⟨hx, hb, hml, hown, hts⟩ (r_X7_emitF l dC dI L kd tys fr_1252 H.size g.2.2.2.1 q3_ mq3_ kq3_ a_1262 ma_1262 ka_1262 a_1263 ma_1263 ka_1263 x_1264 bx_1264 T_ hG_1257 y0_ x_1261 (g.fcts [2, 1, 0] rfl)) (cwV 2 hts (gV_ t_1301 t_1204 t_1205 t_191 t_1206) rfl rfl rfl (by decide +kernel) ⟨(Nat.le_of_ble_eq_true rfl), (Nat.le_of_ble_eq_true rfl)⟩) (pre3V g hK mq3_ kq3_ (by decide) (q := (RX7, TX7, 19)) rfl) rfl rfl hl.1 rfl (lv_room (Nat.le_of_ble_eq_true rfl)) dX2_readArguments_211 ⟨(Nat.le_of_ble_eq_true rfl), (Nat.le_of_ble_eq_true rfl)⟩) g hK (by decide) (by decide) (fx' := [(7, 5, q3_, .ref a_1263), (7, 4, q3_, .ref a_1262), (2, 13, a0_, .int x_1261), (8, 6, q0_, .int x_1253), (8, 8, q0_, .int x_1235), (0, 2, q2_, .ref q3_), (2, 14, a0_, .int x_17), (2, 0, a0_, .ref q0_), (2, 1, a0_, .ref q1_), (2, 2, a0_, .ref q2_), (2, 3, a0_, .ref q3_), (0, 0, q2_, .ref q0_), (0, 1, q2_, .ref q1_), (5, 0, q1_, .ref q3_), (5, 1, q1_, .ref q7_), (2, 12, a0_, .int y0_)]) rfl (fun fr_1265 H locs hp hMr_1265 g => ?_)
                              obtain ⟨hG_1266, x_1267, h_1268, hF_1269⟩ := hp
                              have hG_1270 := eOK.frame hMr_1265 go_.2.2.2.1 mq2_ kq2_ (by decide) (by decide) hG_1259
                              have g := g.more hF_1269
                              refine lv_aload_n hx hb dX2_readArguments_214 rfl (lv_at hl 5 rfl) ?_
                              refine g_getk (C := RX2) (T := TX2) (N := 16) hx hb hts (mc_ inX2) hown hK g rfl 3 (by decide) rfl (hts _ (List.mem_cons_of_mem _ t_419)) (fun _ h9 => h9) 11 rfl dX2_readArguments_215 ?_
                              refine lv_bipush (v := 22) hx hb dX2_readArguments_218 (by decide) ?_
                              refine lv_iconst (v := 0) hx hb dX2_readArguments_220 (by decide) ?_
                              have go_ := g
                              refine g_callv (va_runV (As := [.int 22, .int 0]) (rest := []) ⟨hx, hb, hml, hown, hts⟩ (r_X7_emitF l dC dI L kd tys fr_1265 H.size g.2.2.2.1 q3_ mq3_ kq3_ a_1262 ma_1262 ka_1262 a_1263 ma_1263 ka_1263 x_1267 h_1268 T_ hG_1266 (22 : Int32) (0 : Int32) (g.fcts [2, 1, 0] rfl)) (cwV 2 hts (gV_ t_1301 t_1204 t_1205 t_191 t_1206) rfl rfl rfl (by decide +kernel) ⟨(Nat.le_of_ble_eq_true rfl), (Nat.le_of_ble_eq_true rfl)⟩) (pre3V g hK mq3_ kq3_ (by decide) (q := (RX7, TX7, 19)) rfl) rfl rfl hl.1 rfl (lv_room (Nat.le_of_ble_eq_true rfl)) dX2_readArguments_221 ⟨(Nat.le_of_ble_eq_true rfl), (Nat.le_of_ble_eq_true rfl)⟩) g hK (by decide) (by decide) (fx' := [(7, 5, q3_, .ref a_1263), (7, 4, q3_, .ref a_1262), (2, 13, a0_, .int x_1261), (8, 6, q0_, .int x_1253), (8, 8, q0_, .int x_1235), (0, 2, q2_, .ref q3_), (2, 14, a0_, .int x_17), (2, 0, a0_, .ref q0_), (2, 1, a0_, .ref q1_), (2, 2, a0_, .ref q2_), (2, 3, a0_, .ref q3_), (0, 0, q2_, .ref q0_), (0, 1, q2_, .ref q1_), (5, 0, q1_, .ref q3_), (5, 1, q1_, .ref q7_), (2, 12, a0_, .int y0_)]) rfl (fun fr_1271 H locs hp hMr_1271 g => ?_)
                              obtain ⟨hG_1272, x_1273, h_1274, hF_1275⟩ := hp
                              have hG_1276 := eOK.frame hMr_1271 go_.2.2.2.1 mq2_ kq2_ (by decide) (by decide) hG_1270
                              have g := g.more hF_1275
                              refine lv_aload_n hx hb dX2_readArguments_224 rfl (lv_at hl 5 rfl) ?_
                              refine g_getk (C := RX2) (T := TX2) (N := 16) hx hb hts (mc_ inX2) hown hK g rfl 0 (by decide) rfl (hts _ (List.mem_cons_of_mem _ t_416)) (fun _ h9 => h9) 8 rfl dX2_readArguments_225 ?_
                              refine lv_bipush (v := 59) hx hb dX2_readArguments_228 (by decide) ?_
                              have go_ := g
                              refine g_callv (va_runV (As := [.int 59]) (rest := []) ⟨hx, hb, hml, hown, hts⟩ (r_X8_take_2 l dC dI L kd tys fr_1271 H.size g.2.2.2.1 q0_ mq0_ kq0_ 59 x_1253 h_1254 x_1235 h_1236 (g.fcts [4, 5] rfl)) (cwV 1 hts (gV_ t_1098 t_1099 t_1100 t_184 t_1101) rfl rfl rfl (by decide +kernel) ⟨(Nat.le_of_ble_eq_true rfl), (Nat.le_of_ble_eq_true rfl)⟩) (pre3V g hK mq0_ kq0_ (by decide) (q := (RX8, TX8, 10)) rfl) rfl rfl hl.1 rfl (lv_room (Nat.le_of_ble_eq_true rfl)) dX2_readArguments_230 ⟨(Nat.le_of_ble_eq_true rfl), (Nat.le_of_ble_eq_true rfl)⟩) g hK (by decide) (by decide) (fx' := [(7, 6, q3_, .int x_1273), (7, 5, q3_, .ref a_1263), (7, 4, q3_, .ref a_1262), (2, 13, a0_, .int x_1261), (8, 8, q0_, .int x_1235), (0, 2, q2_, .ref q3_), (2, 14, a0_, .int x_17), (2, 0, a0_, .ref q0_), (2, 1, a0_, .ref q1_), (2, 2, a0_, .ref q2_), (2, 3, a0_, .ref q3_), (0, 0, q2_, .ref q0_), (0, 1, q2_, .ref q1_), (5, 0, q1_, .ref q3_), (5, 1, q1_, .ref q7_), (2, 12, a0_, .int y0_)]) rfl (fun fr_1277 H locs hp hMr_1277 g => ?_)
                              obtain ⟨x_1278, h_1279, hF_1280⟩ := hp
                              have hG_1281 := dOK.frame hMr_1277 go_.2.2.2.1 mq3_ kq3_ (by decide) (by decide) hG_1272
                              have hG_1282 := eOK.frame hMr_1277 go_.2.2.2.1 mq2_ kq2_ (by decide) (by decide) hG_1276
                              have g := g.more hF_1280
                              subst hQ
                              exact W.vret hx hb hr (fun t ht hW => ⟨⟨_, rfl, Or.inr (⟨hG_1281, hG_1282, x_1278, h_1279, x_1235, h_1236, (g.fcts [0, 5] rfl)⟩), q3_of g hK ht hW⟩, g.2.2.1.F ht⟩) g.2.2.1.2.2 dX2_readArguments_233
                            · have fc_1260 := nle_f c_1260
                              have b_1283 : bd 0 (-1) y_1206 := ltL fc_1260 b_1233 b_793 (by decide)
                              exact bd_no b_1283 (by decide)
                          · have fc_1244 := nlt_f c_1244
                            have b_1284 : bd 1 3 y_1242 := leL fc_1244 b_1243 kb_3 (by decide)
                            have b_1285 : bd 0 2 v69_4 := add_inv ty_1242 b_1284 b_1041 kb_1 (by decide)
                            refine lv_iload_n hx hb dX2_readArguments_75 rfl (lv_at hl 2 rfl) ?_
                            refine lv_if_eq (tgt := 162) hx hb dX2_readArguments_76 (by decide) (fun c_ => absurd c_ (by decide)) (fun c_ => ?_)
                            refine lv_aload_n hx hb dX2_readArguments_79 rfl (lv_at hl 5 rfl) ?_
                            refine g_getk (C := RX2) (T := TX2) (N := 16) hx hb hts (mc_ inX2) hown hK g rfl 0 (by decide) rfl (hts _ (List.mem_cons_of_mem _ t_416)) (fun _ h9 => h9) 4 rfl dX2_readArguments_80 ?_
                            refine g_getk (C := RX8) (T := TX8) (N := 10) hx hb hts (mc_ inX8) hown hK g rfl 8 (by decide) rfl (hts _ (List.mem_cons_of_mem _ t_294)) (fun _ h9 => h9) 1 rfl dX2_readArguments_83 ?_
                            refine lv_if_ne (tgt := 162) hx hb dX2_readArguments_86 (by decide) (fun c_1286 => ?_) (fun c_1286 => ?_)
                            · have fc_1286 := neq_f c_1286
                              refine lv_aload_n hx hb dX2_readArguments_162 rfl (lv_at hl 5 rfl) ?_
                              refine g_getk (C := RX2) (T := TX2) (N := 16) hx hb hts (mc_ inX2) hown hK g rfl 0 (by decide) rfl (hts _ (List.mem_cons_of_mem _ t_416)) (fun _ h9 => h9) 4 rfl dX2_readArguments_163 ?_
                              have go_ := g
                              refine g_calli (va_runV (As := []) (rest := []) ⟨hx, hb, hml, hown, hts⟩ (r_X8_place l dC dI L kd tys fr_1234 H.size g.2.2.2.1 q0_ mq0_ kq0_) (cwV 0 hts (gV_ t_1110 t_1111 t_1112 t_184 t_1113) rfl rfl rfl (by decide +kernel) ⟨(Nat.le_of_ble_eq_true rfl), (Nat.le_of_ble_eq_true rfl)⟩) (pre3V g hK mq0_ kq0_ (by decide) (q := (RX8, TX8, 10)) rfl) rfl rfl hl.1 rfl (lv_room (Nat.le_of_ble_eq_true rfl)) dX2_readArguments_166 ⟨(Nat.le_of_ble_eq_true rfl), (Nat.le_of_ble_eq_true rfl)⟩) g hK (by decide) (by decide) (fx' := [(8, 6, q0_, .int 1201), (8, 8, q0_, .int x_1235), (0, 2, q2_, .ref q3_), (2, 14, a0_, .int x_17), (2, 0, a0_, .ref q0_), (2, 1, a0_, .ref q1_), (2, 2, a0_, .ref q2_), (2, 3, a0_, .ref q3_), (0, 0, q2_, .ref q0_), (0, 1, q2_, .ref q1_), (5, 0, q1_, .ref q3_), (5, 1, q1_, .ref q7_), (2, 12, a0_, .int y0_)]) rfl (fun r_1287 fr_1287 H locs hp hMr_1287 g => ?_)
                              have hG_1288 := cOK.frame hMr_1287 go_.2.2.2.1 mq3_ kq3_ (by decide) (by decide) hG_1238
                              have hG_1289 := dOK.frame hMr_1287 go_.2.2.2.1 mq3_ kq3_ (by decide) (by decide) hG_1239
                              have hG_1290 := jS.frame hMr_1287 go_.2.2.2.1 mq3_ kq3_ (by decide) (by decide) hG_1240
                              have hG_1291 := eOK.frame hMr_1287 go_.2.2.2.1 mq2_ kq2_ (by decide) (by decide) hG_1241
                              refine lv_istore (lv' := [(4, .int r_1287), (5, .int r_1216), (3, .int 1), (2, .int y_1206), (1, .int r_1), (0, .ref a0_)]) hx hb dX2_readArguments_169 hl (by decide) rfl (fun ls hl => ?_)
                              refine lv_aload_n hx hb dX2_readArguments_171 rfl (lv_at hl 5 rfl) ?_
                              refine g_getk (C := RX2) (T := TX2) (N := 16) hx hb hts (mc_ inX2) hown hK g rfl 0 (by decide) rfl (hts _ (List.mem_cons_of_mem _ t_416)) (fun _ h9 => h9) 4 rfl dX2_readArguments_172 ?_
                              refine lv_bipush (v := 41) hx hb dX2_readArguments_175 (by decide) ?_
                              have kb_1201 : bd 1201 1201 (1201 : Int32) := ⟨by decide, by decide⟩
                              have go_ := g
                              refine g_callv (va_runV (As := [.int 41]) (rest := []) ⟨hx, hb, hml, hown, hts⟩ (r_X8_take_2 l dC dI L kd tys fr_1287 H.size g.2.2.2.1 q0_ mq0_ kq0_ 41 1201 kb_1201 x_1235 h_1236 (g.fcts [0, 1] rfl)) (cwV 1 hts (gV_ t_1098 t_1099 t_1100 t_184 t_1101) rfl rfl rfl (by decide +kernel) ⟨(Nat.le_of_ble_eq_true rfl), (Nat.le_of_ble_eq_true rfl)⟩) (pre3V g hK mq0_ kq0_ (by decide) (q := (RX8, TX8, 10)) rfl) rfl rfl hl.1 rfl (lv_room (Nat.le_of_ble_eq_true rfl)) dX2_readArguments_177 ⟨(Nat.le_of_ble_eq_true rfl), (Nat.le_of_ble_eq_true rfl)⟩) g hK (by decide) (by decide) (fx' := [(8, 8, q0_, .int x_1235), (0, 2, q2_, .ref q3_), (2, 14, a0_, .int x_17), (2, 0, a0_, .ref q0_), (2, 1, a0_, .ref q1_), (2, 2, a0_, .ref q2_), (2, 3, a0_, .ref q3_), (0, 0, q2_, .ref q0_), (0, 1, q2_, .ref q1_), (5, 0, q1_, .ref q3_), (5, 1, q1_, .ref q7_), (2, 12, a0_, .int y0_)]) rfl (fun fr_1292 H locs hp hMr_1292 g => ?_)
                              obtain ⟨x_1293, h_1294, hF_1295⟩ := hp
                              have hG_1296 := cOK.frame hMr_1292 go_.2.2.2.1 mq3_ kq3_ (by decide) (by decide) hG_1288
                              have hG_1297 := dOK.frame hMr_1292 go_.2.2.2.1 mq3_ kq3_ (by decide) (by decide) hG_1289
                              have hG_1298 := jS.frame hMr_1292 go_.2.2.2.1 mq3_ kq3_ (by decide) (by decide) hG_1290
                              have hG_1299 := eOK.frame hMr_1292 go_.2.2.2.1 mq2_ kq2_ (by decide) (by decide) hG_1291
                              have g := g.more hF_1295
                              refine lv_iload_n hx hb dX2_readArguments_180 rfl (lv_at hl 3 rfl) ?_
                              refine lv_aload_n hx hb dX2_readArguments_181 rfl (lv_at hl 5 rfl) ?_
                              refine g_getk (C := RX2) (T := TX2) (N := 16) hx hb hts (mc_ inX2) hown hK g rfl 14 (by decide) rfl (hts _ (List.mem_cons_of_mem _ t_430)) (fun _ h9 => h9) 3 rfl dX2_readArguments_182 ?_
                              refine lv_icmp_ge (tgt := 199) hx hb dX2_readArguments_185 (by decide) (fun c_1300 => ?_) (fun c_1300 => ?_)
                              · have fc_1300 := le_f c_1300
                                refine lv_aload_n hx hb dX2_readArguments_199 rfl (lv_at hl 5 rfl) ?_
                                refine g_getk (C := RX2) (T := TX2) (N := 16) hx hb hts (mc_ inX2) hown hK g rfl 3 (by decide) rfl (hts _ (List.mem_cons_of_mem _ t_419)) (fun _ h9 => h9) 7 rfl dX2_readArguments_200 ?_
                                refine lv_aload_n hx hb dX2_readArguments_203 rfl (lv_at hl 5 rfl) ?_
                                refine g_getk (C := RX2) (T := TX2) (N := 16) hx hb hts (mc_ inX2) hown hK g rfl 12 (by decide) rfl (hts _ (List.mem_cons_of_mem _ t_428)) (fun _ h9 => h9) 12 rfl dX2_readArguments_204 ?_
                                refine lv_aload_n hx hb dX2_readArguments_207 rfl (lv_at hl 5 rfl) ?_
                                refine g_geti (C := RX2) (T := TX2) (N := 16) hx hb hts (mc_ inX2) hown hK g ma0_ ka0_ (by decide) rfl 13 (by decide) rfl (hts _ (List.mem_cons_of_mem _ t_429)) (fun _ h9 => h9) rfl dX2_readArguments_208 (fun x_1301 bx_1301 g => ?_)
                                obtain ⟨a_1302, ma_1302, ka_1302, g⟩ := g_factr g mq3_ kq3_ (by decide) 4 rfl
                                obtain ⟨a_1303, ma_1303, ka_1303, g⟩ := g_factr g mq3_ kq3_ (by decide) 5 rfl
                                obtain ⟨x_1304, bx_1304, g⟩ := g_facti g mq3_ kq3_ (by decide) 6 rfl
                                have go_ := g
                                refine g_callv (va_runV (As := [.int y0_, .int x_1301]) (rest := []) ⟨hx, hb, hml, hown, hts⟩ (r_X7_emitF l dC dI L kd tys fr_1292 H.size g.2.2.2.1 q3_ mq3_ kq3_ a_1302 ma_1302 ka_1302 a_1303 ma_1303 ka_1303 x_1304 bx_1304 T_ hG_1297 y0_ x_1301 (g.fcts [2, 1, 0] rfl)) (cwV 2 hts (gV_ t_1301 t_1204 t_1205 t_191 t_1206) rfl rfl rfl (by decide +kernel) ⟨(Nat.le_of_ble_eq_true rfl), (Nat.le_of_ble_eq_true rfl)⟩) (pre3V g hK mq3_ kq3_ (by decide) (q := (RX7, TX7, 19)) rfl) rfl rfl hl.1 rfl (lv_room (Nat.le_of_ble_eq_true rfl)) dX2_readArguments_211 ⟨(Nat.le_of_ble_eq_true rfl), (Nat.le_of_ble_eq_true rfl)⟩) g hK (by decide) (by decide) (fx' := [(7, 5, q3_, .ref a_1303), (7, 4, q3_, .ref a_1302), (2, 13, a0_, .int x_1301), (8, 6, q0_, .int x_1293), (8, 8, q0_, .int x_1235), (0, 2, q2_, .ref q3_), (2, 14, a0_, .int x_17), (2, 0, a0_, .ref q0_), (2, 1, a0_, .ref q1_), (2, 2, a0_, .ref q2_), (2, 3, a0_, .ref q3_), (0, 0, q2_, .ref q0_), (0, 1, q2_, .ref q1_), (5, 0, q1_, .ref q3_), (5, 1, q1_, .ref q7_), (2, 12, a0_, .int y0_)]) rfl (fun fr_1305 H locs hp hMr_1305 g => ?_)
                                obtain ⟨hG_1306, x_1307, h_1308, hF_1309⟩ := hp
                                have hG_1310 := eOK.frame hMr_1305 go_.2.2.2.1 mq2_ kq2_ (by decide) (by decide) hG_1299
                                have g := g.more hF_1309
                                refine lv_aload_n hx hb dX2_readArguments_214 rfl (lv_at hl 5 rfl) ?_
                                refine g_getk (C := RX2) (T := TX2) (N := 16) hx hb hts (mc_ inX2) hown hK g rfl 3 (by decide) rfl (hts _ (List.mem_cons_of_mem _ t_419)) (fun _ h9 => h9) 11 rfl dX2_readArguments_215 ?_
                                refine lv_bipush (v := 22) hx hb dX2_readArguments_218 (by decide) ?_
                                refine lv_iconst (v := 0) hx hb dX2_readArguments_220 (by decide) ?_
                                have go_ := g
                                refine g_callv (va_runV (As := [.int 22, .int 0]) (rest := []) ⟨hx, hb, hml, hown, hts⟩ (r_X7_emitF l dC dI L kd tys fr_1305 H.size g.2.2.2.1 q3_ mq3_ kq3_ a_1302 ma_1302 ka_1302 a_1303 ma_1303 ka_1303 x_1307 h_1308 T_ hG_1306 (22 : Int32) (0 : Int32) (g.fcts [2, 1, 0] rfl)) (cwV 2 hts (gV_ t_1301 t_1204 t_1205 t_191 t_1206) rfl rfl rfl (by decide +kernel) ⟨(Nat.le_of_ble_eq_true rfl), (Nat.le_of_ble_eq_true rfl)⟩) (pre3V g hK mq3_ kq3_ (by decide) (q := (RX7, TX7, 19)) rfl) rfl rfl hl.1 rfl (lv_room (Nat.le_of_ble_eq_true rfl)) dX2_readArguments_221 ⟨(Nat.le_of_ble_eq_true rfl), (Nat.le_of_ble_eq_true rfl)⟩) g hK (by decide) (by decide) (fx' := [(7, 5, q3_, .ref a_1303), (7, 4, q3_, .ref a_1302), (2, 13, a0_, .int x_1301), (8, 6, q0_, .int x_1293), (8, 8, q0_, .int x_1235), (0, 2, q2_, .ref q3_), (2, 14, a0_, .int x_17), (2, 0, a0_, .ref q0_), (2, 1, a0_, .ref q1_), (2, 2, a0_, .ref q2_), (2, 3, a0_, .ref q3_), (0, 0, q2_, .ref q0_), (0, 1, q2_, .ref q1_), (5, 0, q1_, .ref q3_), (5, 1, q1_, .ref q7_), (2, 12, a0_, .int y0_)]) rfl (fun fr_1311 H locs hp hMr_1311 g => ?_)
                                obtain ⟨hG_1312, x_1313, h_1314, hF_1315⟩ := hp
                                have hG_1316 := eOK.frame hMr_1311 go_.2.2.2.1 mq2_ kq2_ (by decide) (by decide) hG_1310
                                have g := g.more hF_1315
                                refine lv_aload_n hx hb dX2_readArguments_224 rfl (lv_at hl 5 rfl) ?_
                                refine g_getk (C := RX2) (T := TX2) (N := 16) hx hb hts (mc_ inX2) hown hK g rfl 0 (by decide) rfl (hts _ (List.mem_cons_of_mem _ t_416)) (fun _ h9 => h9) 8 rfl dX2_readArguments_225 ?_
                                refine lv_bipush (v := 59) hx hb dX2_readArguments_228 (by decide) ?_
                                have go_ := g
                                refine g_callv (va_runV (As := [.int 59]) (rest := []) ⟨hx, hb, hml, hown, hts⟩ (r_X8_take_2 l dC dI L kd tys fr_1311 H.size g.2.2.2.1 q0_ mq0_ kq0_ 59 x_1293 h_1294 x_1235 h_1236 (g.fcts [4, 5] rfl)) (cwV 1 hts (gV_ t_1098 t_1099 t_1100 t_184 t_1101) rfl rfl rfl (by decide +kernel) ⟨(Nat.le_of_ble_eq_true rfl), (Nat.le_of_ble_eq_true rfl)⟩) (pre3V g hK mq0_ kq0_ (by decide) (q := (RX8, TX8, 10)) rfl) rfl rfl hl.1 rfl (lv_room (Nat.le_of_ble_eq_true rfl)) dX2_readArguments_230 ⟨(Nat.le_of_ble_eq_true rfl), (Nat.le_of_ble_eq_true rfl)⟩) g hK (by decide) (by decide) (fx' := [(7, 6, q3_, .int x_1313), (7, 5, q3_, .ref a_1303), (7, 4, q3_, .ref a_1302), (2, 13, a0_, .int x_1301), (8, 8, q0_, .int x_1235), (0, 2, q2_, .ref q3_), (2, 14, a0_, .int x_17), (2, 0, a0_, .ref q0_), (2, 1, a0_, .ref q1_), (2, 2, a0_, .ref q2_), (2, 3, a0_, .ref q3_), (0, 0, q2_, .ref q0_), (0, 1, q2_, .ref q1_), (5, 0, q1_, .ref q3_), (5, 1, q1_, .ref q7_), (2, 12, a0_, .int y0_)]) rfl (fun fr_1317 H locs hp hMr_1317 g => ?_)
                                obtain ⟨x_1318, h_1319, hF_1320⟩ := hp
                                have hG_1321 := dOK.frame hMr_1317 go_.2.2.2.1 mq3_ kq3_ (by decide) (by decide) hG_1312
                                have hG_1322 := eOK.frame hMr_1317 go_.2.2.2.1 mq2_ kq2_ (by decide) (by decide) hG_1316
                                have g := g.more hF_1320
                                subst hQ
                                exact W.vret hx hb hr (fun t ht hW => ⟨⟨_, rfl, Or.inr (⟨hG_1321, hG_1322, x_1318, h_1319, x_1235, h_1236, (g.fcts [0, 5] rfl)⟩), q3_of g hK ht hW⟩, g.2.2.1.F ht⟩) g.2.2.1.2.2 dX2_readArguments_233
                              · have fc_1300 := nle_f c_1300
                                have b_1323 : bd 0 (-1) y_1206 := ltL fc_1300 b_1233 b_793 (by decide)
                                exact bd_no b_1323 (by decide)
                            · have fc_1286 := eq_f c_1286
                              have b_1324 : bd 1 0 x_1235 := eqX fc_1286 h_1236 kb_0 (by decide)
                              exact bd_no b_1324 (by decide)
                    · have g := g.more hF_1204
                      have kb_1 : bd 1 1 (1 : Int32) := ⟨by decide, by decide⟩
                      obtain ⟨y_1325, ey_1325⟩ : ∃ z : Int32, z = v69_2 + 1 := ⟨_, rfl⟩
                      refine lv_iinc (v := y_1325) (lv' := [(2, .int y_1325), (4, .int v69_4), (3, .int v69_3), (1, .int r_1), (0, .ref a0_)]) hx hb dX2_readArguments_96 hl (k := 2) rfl (by rw [ey_1325]; rfl) (by decide) rfl (fun ls hl => ?_)
                      refine lv_aload_n hx hb dX2_readArguments_99 rfl (lv_at hl 4 rfl) ?_
                      refine g_getk (C := RX2) (T := TX2) (N := 16) hx hb hts (mc_ inX2) hown hK g rfl 0 (by decide) rfl (hts _ (List.mem_cons_of_mem _ t_416)) (fun _ h9 => h9) 4 rfl dX2_readArguments_100 ?_
                      have go_ := g
                      refine g_calli (va_runV (As := []) (rest := []) ⟨hx, hb, hml, hown, hts⟩ (r_X8_kind_2 l dC dI L kd tys fr_1192 H.size g.2.2.2.1 q0_ mq0_ kq0_ x_1200 h_1201 (g.fcts [0] rfl)) (cwV 0 hts (gV_ t_1118 t_1119 t_1120 t_184 t_1121) rfl rfl rfl (by decide +kernel) ⟨(Nat.le_of_ble_eq_true rfl), (Nat.le_of_ble_eq_true rfl)⟩) (pre3V g hK mq0_ kq0_ (by decide) (q := (RX8, TX8, 10)) rfl) rfl rfl hl.1 rfl (lv_room (Nat.le_of_ble_eq_true rfl)) dX2_readArguments_103 ⟨(Nat.le_of_ble_eq_true rfl), (Nat.le_of_ble_eq_true rfl)⟩) g hK (by decide) (by decide) (fx' := [(8, 6, q0_, .int x_1200), (8, 8, q0_, .int x_1202), (0, 2, q2_, .ref q3_), (2, 14, a0_, .int x_17), (2, 0, a0_, .ref q0_), (2, 1, a0_, .ref q1_), (2, 2, a0_, .ref q2_), (2, 3, a0_, .ref q3_), (0, 0, q2_, .ref q0_), (0, 1, q2_, .ref q1_), (5, 0, q1_, .ref q3_), (5, 1, q1_, .ref q7_), (2, 12, a0_, .int y0_)]) rfl (fun r_1326 fr_1326 H locs hp hMr_1326 g => ?_)
                      obtain ⟨h_1327, -⟩ := hp
                      have hG_1328 := dOK.frame hMr_1326 go_.2.2.2.1 mq3_ kq3_ (by decide) (by decide) hG_1199
                      have hG_1329 := eOK.frame hMr_1326 go_.2.2.2.1 mq2_ kq2_ (by decide) (by decide) hG_1198
                      obtain rfl : r_1326 = 0 := h_1327
                      refine lv_bipush (v := 44) hx hb dX2_readArguments_106 (by decide) ?_
                      refine lv_icmp_ne (tgt := 115) hx hb dX2_readArguments_108 (by decide) (fun c_ => ?_) (fun c_ => absurd c_ (by decide))
                      refine lv_iconst (v := 0) hx hb dX2_readArguments_115 (by decide) ?_
                      refine lv_istore_n (lv' := [(3, .int 0), (2, .int y_1325), (4, .int v69_4), (1, .int r_1), (0, .ref a0_)]) hx hb dX2_readArguments_116 rfl hl (by decide) rfl (fun ls hl => ?_)
                      refine lv_iload_n hx hb dX2_readArguments_117 rfl (lv_at hl 0 rfl) ?_
                      refine lv_if_eq (tgt := 156) hx hb dX2_readArguments_118 (by decide) (fun c_ => ?_) (fun c_ => absurd (by decide) c_)
                      obtain ⟨y_1330, ey_1330⟩ : ∃ z : Int32, z = v69_4 + 1 := ⟨_, rfl⟩
                      refine lv_iinc (v := y_1330) (lv' := [(4, .int y_1330), (3, .int 0), (2, .int y_1325), (1, .int r_1), (0, .ref a0_)]) hx hb dX2_readArguments_156 hl (k := 2) rfl (by rw [ey_1330]; rfl) (by decide) rfl (fun ls hl => ?_)
                      have ty_1330 := add_bd ey_1330 b_1041 kb_1 (by decide)
                      have b_1331 : bd 1 4 y_1330 := add_rg ty_1330 b_1041 kb_1 (by decide)
                      refine lv_goto (tgt := 69) hx hb dX2_readArguments_159 (by decide) ?_
                      refine lv_iload hx hb dX2_readArguments_69 (lv_at hl 0 rfl) ?_
                      refine lv_iconst (v := 3) hx hb dX2_readArguments_71 (by decide) ?_
                      refine lv_icmp_gt (tgt := 162) hx hb dX2_readArguments_72 (by decide) (fun c_1332 => ?_) (fun c_1332 => ?_)
                      · have fc_1332 := lt_f c_1332
                        have b_1333 : bd 4 4 y_1330 := ltR fc_1332 kb_3 b_1331 (by decide)
                        have b_1334 : bd 3 3 v69_4 := add_inv ty_1330 b_1333 b_1041 kb_1 (by decide)
                        refine lv_aload_n hx hb dX2_readArguments_162 rfl (lv_at hl 4 rfl) ?_
                        refine g_getk (C := RX2) (T := TX2) (N := 16) hx hb hts (mc_ inX2) hown hK g rfl 0 (by decide) rfl (hts _ (List.mem_cons_of_mem _ t_416)) (fun _ h9 => h9) 4 rfl dX2_readArguments_163 ?_
                        have go_ := g
                        refine g_calli (va_runV (As := []) (rest := []) ⟨hx, hb, hml, hown, hts⟩ (r_X8_place l dC dI L kd tys fr_1326 H.size g.2.2.2.1 q0_ mq0_ kq0_) (cwV 0 hts (gV_ t_1110 t_1111 t_1112 t_184 t_1113) rfl rfl rfl (by decide +kernel) ⟨(Nat.le_of_ble_eq_true rfl), (Nat.le_of_ble_eq_true rfl)⟩) (pre3V g hK mq0_ kq0_ (by decide) (q := (RX8, TX8, 10)) rfl) rfl rfl hl.1 rfl (lv_room (Nat.le_of_ble_eq_true rfl)) dX2_readArguments_166 ⟨(Nat.le_of_ble_eq_true rfl), (Nat.le_of_ble_eq_true rfl)⟩) g hK (by decide) (by decide) (fx' := [(8, 6, q0_, .int x_1200), (8, 8, q0_, .int x_1202), (0, 2, q2_, .ref q3_), (2, 14, a0_, .int x_17), (2, 0, a0_, .ref q0_), (2, 1, a0_, .ref q1_), (2, 2, a0_, .ref q2_), (2, 3, a0_, .ref q3_), (0, 0, q2_, .ref q0_), (0, 1, q2_, .ref q1_), (5, 0, q1_, .ref q3_), (5, 1, q1_, .ref q7_), (2, 12, a0_, .int y0_)]) rfl (fun r_1335 fr_1335 H locs hp hMr_1335 g => ?_)
                        have hG_1336 := dOK.frame hMr_1335 go_.2.2.2.1 mq3_ kq3_ (by decide) (by decide) hG_1328
                        have hG_1337 := eOK.frame hMr_1335 go_.2.2.2.1 mq2_ kq2_ (by decide) (by decide) hG_1329
                        refine lv_istore (lv' := [(4, .int r_1335), (3, .int 0), (2, .int y_1325), (1, .int r_1), (0, .ref a0_)]) hx hb dX2_readArguments_169 hl (by decide) rfl (fun ls hl => ?_)
                        refine lv_aload_n hx hb dX2_readArguments_171 rfl (lv_at hl 4 rfl) ?_
                        refine g_getk (C := RX2) (T := TX2) (N := 16) hx hb hts (mc_ inX2) hown hK g rfl 0 (by decide) rfl (hts _ (List.mem_cons_of_mem _ t_416)) (fun _ h9 => h9) 4 rfl dX2_readArguments_172 ?_
                        refine lv_bipush (v := 41) hx hb dX2_readArguments_175 (by decide) ?_
                        have go_ := g
                        refine g_callv (va_runV (As := [.int 41]) (rest := []) ⟨hx, hb, hml, hown, hts⟩ (r_X8_take_2 l dC dI L kd tys fr_1335 H.size g.2.2.2.1 q0_ mq0_ kq0_ 41 x_1200 h_1201 x_1202 h_1203 (g.fcts [0, 1] rfl)) (cwV 1 hts (gV_ t_1098 t_1099 t_1100 t_184 t_1101) rfl rfl rfl (by decide +kernel) ⟨(Nat.le_of_ble_eq_true rfl), (Nat.le_of_ble_eq_true rfl)⟩) (pre3V g hK mq0_ kq0_ (by decide) (q := (RX8, TX8, 10)) rfl) rfl rfl hl.1 rfl (lv_room (Nat.le_of_ble_eq_true rfl)) dX2_readArguments_177 ⟨(Nat.le_of_ble_eq_true rfl), (Nat.le_of_ble_eq_true rfl)⟩) g hK (by decide) (by decide) (fx' := [(8, 8, q0_, .int x_1202), (0, 2, q2_, .ref q3_), (2, 14, a0_, .int x_17), (2, 0, a0_, .ref q0_), (2, 1, a0_, .ref q1_), (2, 2, a0_, .ref q2_), (2, 3, a0_, .ref q3_), (0, 0, q2_, .ref q0_), (0, 1, q2_, .ref q1_), (5, 0, q1_, .ref q3_), (5, 1, q1_, .ref q7_), (2, 12, a0_, .int y0_)]) rfl (fun fr_1338 H locs hp hMr_1338 g => ?_)
                        obtain ⟨x_1339, h_1340, hF_1341⟩ := hp
                        have hG_1342 := dOK.frame hMr_1338 go_.2.2.2.1 mq3_ kq3_ (by decide) (by decide) hG_1336
                        have hG_1343 := eOK.frame hMr_1338 go_.2.2.2.1 mq2_ kq2_ (by decide) (by decide) hG_1337
                        have g := g.more hF_1341
                        refine lv_iload_n hx hb dX2_readArguments_180 rfl (lv_at hl 2 rfl) ?_
                        refine lv_aload_n hx hb dX2_readArguments_181 rfl (lv_at hl 4 rfl) ?_
                        refine g_getk (C := RX2) (T := TX2) (N := 16) hx hb hts (mc_ inX2) hown hK g rfl 14 (by decide) rfl (hts _ (List.mem_cons_of_mem _ t_430)) (fun _ h9 => h9) 3 rfl dX2_readArguments_182 ?_
                        refine lv_icmp_ge (tgt := 199) hx hb dX2_readArguments_185 (by decide) (fun c_1344 => ?_) (fun c_1344 => ?_)
                        · have fc_1344 := le_f c_1344
                          have b_1345 : bd 0 2147483647 y_1325 := leR fc_1344 b_793 (bdT y_1325) (by decide)
                          refine lv_aload_n hx hb dX2_readArguments_199 rfl (lv_at hl 4 rfl) ?_
                          refine g_getk (C := RX2) (T := TX2) (N := 16) hx hb hts (mc_ inX2) hown hK g rfl 3 (by decide) rfl (hts _ (List.mem_cons_of_mem _ t_419)) (fun _ h9 => h9) 7 rfl dX2_readArguments_200 ?_
                          refine lv_aload_n hx hb dX2_readArguments_203 rfl (lv_at hl 4 rfl) ?_
                          refine g_getk (C := RX2) (T := TX2) (N := 16) hx hb hts (mc_ inX2) hown hK g rfl 12 (by decide) rfl (hts _ (List.mem_cons_of_mem _ t_428)) (fun _ h9 => h9) 12 rfl dX2_readArguments_204 ?_
                          refine lv_aload_n hx hb dX2_readArguments_207 rfl (lv_at hl 4 rfl) ?_
                          refine g_geti (C := RX2) (T := TX2) (N := 16) hx hb hts (mc_ inX2) hown hK g ma0_ ka0_ (by decide) rfl 13 (by decide) rfl (hts _ (List.mem_cons_of_mem _ t_429)) (fun _ h9 => h9) rfl dX2_readArguments_208 (fun x_1346 bx_1346 g => ?_)
                          obtain ⟨a_1347, ma_1347, ka_1347, g⟩ := g_factr g mq3_ kq3_ (by decide) 4 rfl
                          obtain ⟨a_1348, ma_1348, ka_1348, g⟩ := g_factr g mq3_ kq3_ (by decide) 5 rfl
                          obtain ⟨x_1349, bx_1349, g⟩ := g_facti g mq3_ kq3_ (by decide) 6 rfl
                          have go_ := g
                          refine g_callv (va_runV (As := [.int y0_, .int x_1346]) (rest := []) ⟨hx, hb, hml, hown, hts⟩ (r_X7_emitF l dC dI L kd tys fr_1338 H.size g.2.2.2.1 q3_ mq3_ kq3_ a_1347 ma_1347 ka_1347 a_1348 ma_1348 ka_1348 x_1349 bx_1349 T_ hG_1342 y0_ x_1346 (g.fcts [2, 1, 0] rfl)) (cwV 2 hts (gV_ t_1301 t_1204 t_1205 t_191 t_1206) rfl rfl rfl (by decide +kernel) ⟨(Nat.le_of_ble_eq_true rfl), (Nat.le_of_ble_eq_true rfl)⟩) (pre3V g hK mq3_ kq3_ (by decide) (q := (RX7, TX7, 19)) rfl) rfl rfl hl.1 rfl (lv_room (Nat.le_of_ble_eq_true rfl)) dX2_readArguments_211 ⟨(Nat.le_of_ble_eq_true rfl), (Nat.le_of_ble_eq_true rfl)⟩) g hK (by decide) (by decide) (fx' := [(7, 5, q3_, .ref a_1348), (7, 4, q3_, .ref a_1347), (2, 13, a0_, .int x_1346), (8, 6, q0_, .int x_1339), (8, 8, q0_, .int x_1202), (0, 2, q2_, .ref q3_), (2, 14, a0_, .int x_17), (2, 0, a0_, .ref q0_), (2, 1, a0_, .ref q1_), (2, 2, a0_, .ref q2_), (2, 3, a0_, .ref q3_), (0, 0, q2_, .ref q0_), (0, 1, q2_, .ref q1_), (5, 0, q1_, .ref q3_), (5, 1, q1_, .ref q7_), (2, 12, a0_, .int y0_)]) rfl (fun fr_1350 H locs hp hMr_1350 g => ?_)
                          obtain ⟨hG_1351, x_1352, h_1353, hF_1354⟩ := hp
                          have hG_1355 := eOK.frame hMr_1350 go_.2.2.2.1 mq2_ kq2_ (by decide) (by decide) hG_1343
                          have g := g.more hF_1354
                          refine lv_aload_n hx hb dX2_readArguments_214 rfl (lv_at hl 4 rfl) ?_
                          refine g_getk (C := RX2) (T := TX2) (N := 16) hx hb hts (mc_ inX2) hown hK g rfl 3 (by decide) rfl (hts _ (List.mem_cons_of_mem _ t_419)) (fun _ h9 => h9) 11 rfl dX2_readArguments_215 ?_
                          refine lv_bipush (v := 22) hx hb dX2_readArguments_218 (by decide) ?_
                          refine lv_iconst (v := 0) hx hb dX2_readArguments_220 (by decide) ?_
                          have go_ := g
                          refine g_callv (va_runV (As := [.int 22, .int 0]) (rest := []) ⟨hx, hb, hml, hown, hts⟩ (r_X7_emitF l dC dI L kd tys fr_1350 H.size g.2.2.2.1 q3_ mq3_ kq3_ a_1347 ma_1347 ka_1347 a_1348 ma_1348 ka_1348 x_1352 h_1353 T_ hG_1351 (22 : Int32) (0 : Int32) (g.fcts [2, 1, 0] rfl)) (cwV 2 hts (gV_ t_1301 t_1204 t_1205 t_191 t_1206) rfl rfl rfl (by decide +kernel) ⟨(Nat.le_of_ble_eq_true rfl), (Nat.le_of_ble_eq_true rfl)⟩) (pre3V g hK mq3_ kq3_ (by decide) (q := (RX7, TX7, 19)) rfl) rfl rfl hl.1 rfl (lv_room (Nat.le_of_ble_eq_true rfl)) dX2_readArguments_221 ⟨(Nat.le_of_ble_eq_true rfl), (Nat.le_of_ble_eq_true rfl)⟩) g hK (by decide) (by decide) (fx' := [(7, 5, q3_, .ref a_1348), (7, 4, q3_, .ref a_1347), (2, 13, a0_, .int x_1346), (8, 6, q0_, .int x_1339), (8, 8, q0_, .int x_1202), (0, 2, q2_, .ref q3_), (2, 14, a0_, .int x_17), (2, 0, a0_, .ref q0_), (2, 1, a0_, .ref q1_), (2, 2, a0_, .ref q2_), (2, 3, a0_, .ref q3_), (0, 0, q2_, .ref q0_), (0, 1, q2_, .ref q1_), (5, 0, q1_, .ref q3_), (5, 1, q1_, .ref q7_), (2, 12, a0_, .int y0_)]) rfl (fun fr_1356 H locs hp hMr_1356 g => ?_)
                          obtain ⟨hG_1357, x_1358, h_1359, hF_1360⟩ := hp
                          have hG_1361 := eOK.frame hMr_1356 go_.2.2.2.1 mq2_ kq2_ (by decide) (by decide) hG_1355
                          have g := g.more hF_1360
                          refine lv_aload_n hx hb dX2_readArguments_224 rfl (lv_at hl 4 rfl) ?_
                          refine g_getk (C := RX2) (T := TX2) (N := 16) hx hb hts (mc_ inX2) hown hK g rfl 0 (by decide) rfl (hts _ (List.mem_cons_of_mem _ t_416)) (fun _ h9 => h9) 8 rfl dX2_readArguments_225 ?_
                          refine lv_bipush (v := 59) hx hb dX2_readArguments_228 (by decide) ?_
                          have go_ := g
                          refine g_callv (va_runV (As := [.int 59]) (rest := []) ⟨hx, hb, hml, hown, hts⟩ (r_X8_take_2 l dC dI L kd tys fr_1356 H.size g.2.2.2.1 q0_ mq0_ kq0_ 59 x_1339 h_1340 x_1202 h_1203 (g.fcts [4, 5] rfl)) (cwV 1 hts (gV_ t_1098 t_1099 t_1100 t_184 t_1101) rfl rfl rfl (by decide +kernel) ⟨(Nat.le_of_ble_eq_true rfl), (Nat.le_of_ble_eq_true rfl)⟩) (pre3V g hK mq0_ kq0_ (by decide) (q := (RX8, TX8, 10)) rfl) rfl rfl hl.1 rfl (lv_room (Nat.le_of_ble_eq_true rfl)) dX2_readArguments_230 ⟨(Nat.le_of_ble_eq_true rfl), (Nat.le_of_ble_eq_true rfl)⟩) g hK (by decide) (by decide) (fx' := [(7, 6, q3_, .int x_1358), (7, 5, q3_, .ref a_1348), (7, 4, q3_, .ref a_1347), (2, 13, a0_, .int x_1346), (8, 8, q0_, .int x_1202), (0, 2, q2_, .ref q3_), (2, 14, a0_, .int x_17), (2, 0, a0_, .ref q0_), (2, 1, a0_, .ref q1_), (2, 2, a0_, .ref q2_), (2, 3, a0_, .ref q3_), (0, 0, q2_, .ref q0_), (0, 1, q2_, .ref q1_), (5, 0, q1_, .ref q3_), (5, 1, q1_, .ref q7_), (2, 12, a0_, .int y0_)]) rfl (fun fr_1362 H locs hp hMr_1362 g => ?_)
                          obtain ⟨x_1363, h_1364, hF_1365⟩ := hp
                          have hG_1366 := dOK.frame hMr_1362 go_.2.2.2.1 mq3_ kq3_ (by decide) (by decide) hG_1357
                          have hG_1367 := eOK.frame hMr_1362 go_.2.2.2.1 mq2_ kq2_ (by decide) (by decide) hG_1361
                          have g := g.more hF_1365
                          subst hQ
                          exact W.vret hx hb hr (fun t ht hW => ⟨⟨_, rfl, Or.inr (⟨hG_1366, hG_1367, x_1363, h_1364, x_1202, h_1203, (g.fcts [0, 5] rfl)⟩), q3_of g hK ht hW⟩, g.2.2.1.F ht⟩) g.2.2.1.2.2 dX2_readArguments_233
                        · have fc_1344 := nle_f c_1344
                          have b_1368 : bd (-2147483648) (-1) y_1325 := ltL fc_1344 (bdT y_1325) b_793 (by decide)
                          refine lv_aload_n hx hb dX2_readArguments_188 rfl (lv_at hl 4 rfl) ?_
                          refine g_getk (C := RX2) (T := TX2) (N := 16) hx hb hts (mc_ inX2) hown hK g rfl 0 (by decide) rfl (hts _ (List.mem_cons_of_mem _ t_416)) (fun _ h9 => h9) 4 rfl dX2_readArguments_189 ?_
                          refine lv_bipush (v := 6) hx hb dX2_readArguments_192 (by decide) ?_
                          refine lv_iload hx hb dX2_readArguments_194 (lv_at hl 0 rfl) ?_
                          have kb_6 : bd 6 6 (6 : Int32) := ⟨by decide, by decide⟩
                          have go_ := g
                          refine g_callv (va_runV (As := [.int 6, .int r_1335]) (rest := []) ⟨hx, hb, hml, hown, hts⟩ (r_X8_fail_2 l dC dI L kd tys fr_1338 H.size g.2.2.2.1 q0_ mq0_ kq0_ 6 (bd_sub kb_6 (by decide)) r_1335 x_1202 h_1203 (g.fcts [1] rfl)) (cwV 2 hts (gV_ t_1122 t_1107 t_1108 t_184 t_1109) rfl rfl rfl (by decide +kernel) ⟨(Nat.le_of_ble_eq_true rfl), (Nat.le_of_ble_eq_true rfl)⟩) (pre3V g hK mq0_ kq0_ (by decide) (q := (RX8, TX8, 10)) rfl) rfl rfl hl.1 rfl (lv_room (Nat.le_of_ble_eq_true rfl)) dX2_readArguments_196 ⟨(Nat.le_of_ble_eq_true rfl), (Nat.le_of_ble_eq_true rfl)⟩) g hK (by decide) (by decide) (fx' := [(8, 8, q0_, .int x_1202), (0, 2, q2_, .ref q3_), (2, 14, a0_, .int x_17), (2, 0, a0_, .ref q0_), (2, 1, a0_, .ref q1_), (2, 2, a0_, .ref q2_), (2, 3, a0_, .ref q3_), (0, 0, q2_, .ref q0_), (0, 1, q2_, .ref q1_), (5, 0, q1_, .ref q3_), (5, 1, q1_, .ref q7_), (2, 12, a0_, .int y0_)]) rfl (fun fr_1369 H locs hp hMr_1369 g => ?_)
                          have hF_1370 := hp
                          have hG_1371 := dOK.frame hMr_1369 go_.2.2.2.1 mq3_ kq3_ (by decide) (by decide) hG_1342
                          have hG_1372 := eOK.frame hMr_1369 go_.2.2.2.1 mq2_ kq2_ (by decide) (by decide) hG_1343
                          have g := g.more hF_1370
                          refine lv_aload_n hx hb dX2_readArguments_199 rfl (lv_at hl 4 rfl) ?_
                          refine g_getk (C := RX2) (T := TX2) (N := 16) hx hb hts (mc_ inX2) hown hK g rfl 3 (by decide) rfl (hts _ (List.mem_cons_of_mem _ t_419)) (fun _ h9 => h9) 7 rfl dX2_readArguments_200 ?_
                          refine lv_aload_n hx hb dX2_readArguments_203 rfl (lv_at hl 4 rfl) ?_
                          refine g_getk (C := RX2) (T := TX2) (N := 16) hx hb hts (mc_ inX2) hown hK g rfl 12 (by decide) rfl (hts _ (List.mem_cons_of_mem _ t_428)) (fun _ h9 => h9) 12 rfl dX2_readArguments_204 ?_
                          refine lv_aload_n hx hb dX2_readArguments_207 rfl (lv_at hl 4 rfl) ?_
                          refine g_geti (C := RX2) (T := TX2) (N := 16) hx hb hts (mc_ inX2) hown hK g ma0_ ka0_ (by decide) rfl 13 (by decide) rfl (hts _ (List.mem_cons_of_mem _ t_429)) (fun _ h9 => h9) rfl dX2_readArguments_208 (fun x_1373 bx_1373 g => ?_)
                          obtain ⟨a_1374, ma_1374, ka_1374, g⟩ := g_factr g mq3_ kq3_ (by decide) 4 rfl
                          obtain ⟨a_1375, ma_1375, ka_1375, g⟩ := g_factr g mq3_ kq3_ (by decide) 5 rfl
                          obtain ⟨x_1376, bx_1376, g⟩ := g_facti g mq3_ kq3_ (by decide) 6 rfl
                          have go_ := g
                          refine g_callv (va_runV (As := [.int y0_, .int x_1373]) (rest := []) ⟨hx, hb, hml, hown, hts⟩ (r_X7_emitF l dC dI L kd tys fr_1369 H.size g.2.2.2.1 q3_ mq3_ kq3_ a_1374 ma_1374 ka_1374 a_1375 ma_1375 ka_1375 x_1376 bx_1376 T_ hG_1371 y0_ x_1373 (g.fcts [2, 1, 0] rfl)) (cwV 2 hts (gV_ t_1301 t_1204 t_1205 t_191 t_1206) rfl rfl rfl (by decide +kernel) ⟨(Nat.le_of_ble_eq_true rfl), (Nat.le_of_ble_eq_true rfl)⟩) (pre3V g hK mq3_ kq3_ (by decide) (q := (RX7, TX7, 19)) rfl) rfl rfl hl.1 rfl (lv_room (Nat.le_of_ble_eq_true rfl)) dX2_readArguments_211 ⟨(Nat.le_of_ble_eq_true rfl), (Nat.le_of_ble_eq_true rfl)⟩) g hK (by decide) (by decide) (fx' := [(7, 5, q3_, .ref a_1375), (7, 4, q3_, .ref a_1374), (2, 13, a0_, .int x_1373), (8, 6, q0_, .int 1201), (8, 8, q0_, .int x_1202), (0, 2, q2_, .ref q3_), (2, 14, a0_, .int x_17), (2, 0, a0_, .ref q0_), (2, 1, a0_, .ref q1_), (2, 2, a0_, .ref q2_), (2, 3, a0_, .ref q3_), (0, 0, q2_, .ref q0_), (0, 1, q2_, .ref q1_), (5, 0, q1_, .ref q3_), (5, 1, q1_, .ref q7_), (2, 12, a0_, .int y0_)]) rfl (fun fr_1377 H locs hp hMr_1377 g => ?_)
                          obtain ⟨hG_1378, x_1379, h_1380, hF_1381⟩ := hp
                          have hG_1382 := eOK.frame hMr_1377 go_.2.2.2.1 mq2_ kq2_ (by decide) (by decide) hG_1372
                          have g := g.more hF_1381
                          refine lv_aload_n hx hb dX2_readArguments_214 rfl (lv_at hl 4 rfl) ?_
                          refine g_getk (C := RX2) (T := TX2) (N := 16) hx hb hts (mc_ inX2) hown hK g rfl 3 (by decide) rfl (hts _ (List.mem_cons_of_mem _ t_419)) (fun _ h9 => h9) 11 rfl dX2_readArguments_215 ?_
                          refine lv_bipush (v := 22) hx hb dX2_readArguments_218 (by decide) ?_
                          refine lv_iconst (v := 0) hx hb dX2_readArguments_220 (by decide) ?_
                          have go_ := g
                          refine g_callv (va_runV (As := [.int 22, .int 0]) (rest := []) ⟨hx, hb, hml, hown, hts⟩ (r_X7_emitF l dC dI L kd tys fr_1377 H.size g.2.2.2.1 q3_ mq3_ kq3_ a_1374 ma_1374 ka_1374 a_1375 ma_1375 ka_1375 x_1379 h_1380 T_ hG_1378 (22 : Int32) (0 : Int32) (g.fcts [2, 1, 0] rfl)) (cwV 2 hts (gV_ t_1301 t_1204 t_1205 t_191 t_1206) rfl rfl rfl (by decide +kernel) ⟨(Nat.le_of_ble_eq_true rfl), (Nat.le_of_ble_eq_true rfl)⟩) (pre3V g hK mq3_ kq3_ (by decide) (q := (RX7, TX7, 19)) rfl) rfl rfl hl.1 rfl (lv_room (Nat.le_of_ble_eq_true rfl)) dX2_readArguments_221 ⟨(Nat.le_of_ble_eq_true rfl), (Nat.le_of_ble_eq_true rfl)⟩) g hK (by decide) (by decide) (fx' := [(7, 5, q3_, .ref a_1375), (7, 4, q3_, .ref a_1374), (2, 13, a0_, .int x_1373), (8, 6, q0_, .int 1201), (8, 8, q0_, .int x_1202), (0, 2, q2_, .ref q3_), (2, 14, a0_, .int x_17), (2, 0, a0_, .ref q0_), (2, 1, a0_, .ref q1_), (2, 2, a0_, .ref q2_), (2, 3, a0_, .ref q3_), (0, 0, q2_, .ref q0_), (0, 1, q2_, .ref q1_), (5, 0, q1_, .ref q3_), (5, 1, q1_, .ref q7_), (2, 12, a0_, .int y0_)]) rfl (fun fr_1383 H locs hp hMr_1383 g => ?_)
                          obtain ⟨hG_1384, x_1385, h_1386, hF_1387⟩ := hp
                          have hG_1388 := eOK.frame hMr_1383 go_.2.2.2.1 mq2_ kq2_ (by decide) (by decide) hG_1382
                          have g := g.more hF_1387
                          refine lv_aload_n hx hb dX2_readArguments_224 rfl (lv_at hl 4 rfl) ?_
                          refine g_getk (C := RX2) (T := TX2) (N := 16) hx hb hts (mc_ inX2) hown hK g rfl 0 (by decide) rfl (hts _ (List.mem_cons_of_mem _ t_416)) (fun _ h9 => h9) 8 rfl dX2_readArguments_225 ?_
                          refine lv_bipush (v := 59) hx hb dX2_readArguments_228 (by decide) ?_
                          have kb_1201 : bd 1201 1201 (1201 : Int32) := ⟨by decide, by decide⟩
                          have go_ := g
                          refine g_callv (va_runV (As := [.int 59]) (rest := []) ⟨hx, hb, hml, hown, hts⟩ (r_X8_take_2 l dC dI L kd tys fr_1383 H.size g.2.2.2.1 q0_ mq0_ kq0_ 59 1201 kb_1201 x_1202 h_1203 (g.fcts [4, 5] rfl)) (cwV 1 hts (gV_ t_1098 t_1099 t_1100 t_184 t_1101) rfl rfl rfl (by decide +kernel) ⟨(Nat.le_of_ble_eq_true rfl), (Nat.le_of_ble_eq_true rfl)⟩) (pre3V g hK mq0_ kq0_ (by decide) (q := (RX8, TX8, 10)) rfl) rfl rfl hl.1 rfl (lv_room (Nat.le_of_ble_eq_true rfl)) dX2_readArguments_230 ⟨(Nat.le_of_ble_eq_true rfl), (Nat.le_of_ble_eq_true rfl)⟩) g hK (by decide) (by decide) (fx' := [(7, 6, q3_, .int x_1385), (7, 5, q3_, .ref a_1375), (7, 4, q3_, .ref a_1374), (2, 13, a0_, .int x_1373), (8, 8, q0_, .int x_1202), (0, 2, q2_, .ref q3_), (2, 14, a0_, .int x_17), (2, 0, a0_, .ref q0_), (2, 1, a0_, .ref q1_), (2, 2, a0_, .ref q2_), (2, 3, a0_, .ref q3_), (0, 0, q2_, .ref q0_), (0, 1, q2_, .ref q1_), (5, 0, q1_, .ref q3_), (5, 1, q1_, .ref q7_), (2, 12, a0_, .int y0_)]) rfl (fun fr_1389 H locs hp hMr_1389 g => ?_)
                          obtain ⟨x_1390, h_1391, hF_1392⟩ := hp
                          have hG_1393 := dOK.frame hMr_1389 go_.2.2.2.1 mq3_ kq3_ (by decide) (by decide) hG_1384
                          have hG_1394 := eOK.frame hMr_1389 go_.2.2.2.1 mq2_ kq2_ (by decide) (by decide) hG_1388
                          have g := g.more hF_1392
                          subst hQ
                          exact W.vret hx hb hr (fun t ht hW => ⟨⟨_, rfl, Or.inr (⟨hG_1393, hG_1394, x_1390, h_1391, x_1202, h_1203, (g.fcts [0, 5] rfl)⟩), q3_of g hK ht hW⟩, g.2.2.1.F ht⟩) g.2.2.1.2.2 dX2_readArguments_233
                      · have fc_1332 := nlt_f c_1332
                        have b_1395 : bd 1 3 y_1330 := leL fc_1332 b_1331 kb_3 (by decide)
                        have b_1396 : bd 0 2 v69_4 := add_inv ty_1330 b_1395 b_1041 kb_1 (by decide)
                        refine lv_iload_n hx hb dX2_readArguments_75 rfl (lv_at hl 1 rfl) ?_
                        refine lv_if_eq (tgt := 162) hx hb dX2_readArguments_76 (by decide) (fun c_ => ?_) (fun c_ => absurd (by decide) c_)
                        refine lv_aload_n hx hb dX2_readArguments_162 rfl (lv_at hl 4 rfl) ?_
                        refine g_getk (C := RX2) (T := TX2) (N := 16) hx hb hts (mc_ inX2) hown hK g rfl 0 (by decide) rfl (hts _ (List.mem_cons_of_mem _ t_416)) (fun _ h9 => h9) 4 rfl dX2_readArguments_163 ?_
                        have go_ := g
                        refine g_calli (va_runV (As := []) (rest := []) ⟨hx, hb, hml, hown, hts⟩ (r_X8_place l dC dI L kd tys fr_1326 H.size g.2.2.2.1 q0_ mq0_ kq0_) (cwV 0 hts (gV_ t_1110 t_1111 t_1112 t_184 t_1113) rfl rfl rfl (by decide +kernel) ⟨(Nat.le_of_ble_eq_true rfl), (Nat.le_of_ble_eq_true rfl)⟩) (pre3V g hK mq0_ kq0_ (by decide) (q := (RX8, TX8, 10)) rfl) rfl rfl hl.1 rfl (lv_room (Nat.le_of_ble_eq_true rfl)) dX2_readArguments_166 ⟨(Nat.le_of_ble_eq_true rfl), (Nat.le_of_ble_eq_true rfl)⟩) g hK (by decide) (by decide) (fx' := [(8, 6, q0_, .int x_1200), (8, 8, q0_, .int x_1202), (0, 2, q2_, .ref q3_), (2, 14, a0_, .int x_17), (2, 0, a0_, .ref q0_), (2, 1, a0_, .ref q1_), (2, 2, a0_, .ref q2_), (2, 3, a0_, .ref q3_), (0, 0, q2_, .ref q0_), (0, 1, q2_, .ref q1_), (5, 0, q1_, .ref q3_), (5, 1, q1_, .ref q7_), (2, 12, a0_, .int y0_)]) rfl (fun r_1397 fr_1397 H locs hp hMr_1397 g => ?_)
                        have hG_1398 := dOK.frame hMr_1397 go_.2.2.2.1 mq3_ kq3_ (by decide) (by decide) hG_1328
                        have hG_1399 := eOK.frame hMr_1397 go_.2.2.2.1 mq2_ kq2_ (by decide) (by decide) hG_1329
                        refine lv_istore (lv' := [(4, .int r_1397), (3, .int 0), (2, .int y_1325), (1, .int r_1), (0, .ref a0_)]) hx hb dX2_readArguments_169 hl (by decide) rfl (fun ls hl => ?_)
                        refine lv_aload_n hx hb dX2_readArguments_171 rfl (lv_at hl 4 rfl) ?_
                        refine g_getk (C := RX2) (T := TX2) (N := 16) hx hb hts (mc_ inX2) hown hK g rfl 0 (by decide) rfl (hts _ (List.mem_cons_of_mem _ t_416)) (fun _ h9 => h9) 4 rfl dX2_readArguments_172 ?_
                        refine lv_bipush (v := 41) hx hb dX2_readArguments_175 (by decide) ?_
                        have go_ := g
                        refine g_callv (va_runV (As := [.int 41]) (rest := []) ⟨hx, hb, hml, hown, hts⟩ (r_X8_take_2 l dC dI L kd tys fr_1397 H.size g.2.2.2.1 q0_ mq0_ kq0_ 41 x_1200 h_1201 x_1202 h_1203 (g.fcts [0, 1] rfl)) (cwV 1 hts (gV_ t_1098 t_1099 t_1100 t_184 t_1101) rfl rfl rfl (by decide +kernel) ⟨(Nat.le_of_ble_eq_true rfl), (Nat.le_of_ble_eq_true rfl)⟩) (pre3V g hK mq0_ kq0_ (by decide) (q := (RX8, TX8, 10)) rfl) rfl rfl hl.1 rfl (lv_room (Nat.le_of_ble_eq_true rfl)) dX2_readArguments_177 ⟨(Nat.le_of_ble_eq_true rfl), (Nat.le_of_ble_eq_true rfl)⟩) g hK (by decide) (by decide) (fx' := [(8, 8, q0_, .int x_1202), (0, 2, q2_, .ref q3_), (2, 14, a0_, .int x_17), (2, 0, a0_, .ref q0_), (2, 1, a0_, .ref q1_), (2, 2, a0_, .ref q2_), (2, 3, a0_, .ref q3_), (0, 0, q2_, .ref q0_), (0, 1, q2_, .ref q1_), (5, 0, q1_, .ref q3_), (5, 1, q1_, .ref q7_), (2, 12, a0_, .int y0_)]) rfl (fun fr_1400 H locs hp hMr_1400 g => ?_)
                        obtain ⟨x_1401, h_1402, hF_1403⟩ := hp
                        have hG_1404 := dOK.frame hMr_1400 go_.2.2.2.1 mq3_ kq3_ (by decide) (by decide) hG_1398
                        have hG_1405 := eOK.frame hMr_1400 go_.2.2.2.1 mq2_ kq2_ (by decide) (by decide) hG_1399
                        have g := g.more hF_1403
                        refine lv_iload_n hx hb dX2_readArguments_180 rfl (lv_at hl 2 rfl) ?_
                        refine lv_aload_n hx hb dX2_readArguments_181 rfl (lv_at hl 4 rfl) ?_
                        refine g_getk (C := RX2) (T := TX2) (N := 16) hx hb hts (mc_ inX2) hown hK g rfl 14 (by decide) rfl (hts _ (List.mem_cons_of_mem _ t_430)) (fun _ h9 => h9) 3 rfl dX2_readArguments_182 ?_
                        refine lv_icmp_ge (tgt := 199) hx hb dX2_readArguments_185 (by decide) (fun c_1406 => ?_) (fun c_1406 => ?_)
                        · have fc_1406 := le_f c_1406
                          have b_1407 : bd 0 2147483647 y_1325 := leR fc_1406 b_793 (bdT y_1325) (by decide)
                          refine lv_aload_n hx hb dX2_readArguments_199 rfl (lv_at hl 4 rfl) ?_
                          refine g_getk (C := RX2) (T := TX2) (N := 16) hx hb hts (mc_ inX2) hown hK g rfl 3 (by decide) rfl (hts _ (List.mem_cons_of_mem _ t_419)) (fun _ h9 => h9) 7 rfl dX2_readArguments_200 ?_
                          refine lv_aload_n hx hb dX2_readArguments_203 rfl (lv_at hl 4 rfl) ?_
                          refine g_getk (C := RX2) (T := TX2) (N := 16) hx hb hts (mc_ inX2) hown hK g rfl 12 (by decide) rfl (hts _ (List.mem_cons_of_mem _ t_428)) (fun _ h9 => h9) 12 rfl dX2_readArguments_204 ?_
                          refine lv_aload_n hx hb dX2_readArguments_207 rfl (lv_at hl 4 rfl) ?_
                          refine g_geti (C := RX2) (T := TX2) (N := 16) hx hb hts (mc_ inX2) hown hK g ma0_ ka0_ (by decide) rfl 13 (by decide) rfl (hts _ (List.mem_cons_of_mem _ t_429)) (fun _ h9 => h9) rfl dX2_readArguments_208 (fun x_1408 bx_1408 g => ?_)
                          obtain ⟨a_1409, ma_1409, ka_1409, g⟩ := g_factr g mq3_ kq3_ (by decide) 4 rfl
                          obtain ⟨a_1410, ma_1410, ka_1410, g⟩ := g_factr g mq3_ kq3_ (by decide) 5 rfl
                          obtain ⟨x_1411, bx_1411, g⟩ := g_facti g mq3_ kq3_ (by decide) 6 rfl
                          have go_ := g
                          refine g_callv (va_runV (As := [.int y0_, .int x_1408]) (rest := []) ⟨hx, hb, hml, hown, hts⟩ (r_X7_emitF l dC dI L kd tys fr_1400 H.size g.2.2.2.1 q3_ mq3_ kq3_ a_1409 ma_1409 ka_1409 a_1410 ma_1410 ka_1410 x_1411 bx_1411 T_ hG_1404 y0_ x_1408 (g.fcts [2, 1, 0] rfl)) (cwV 2 hts (gV_ t_1301 t_1204 t_1205 t_191 t_1206) rfl rfl rfl (by decide +kernel) ⟨(Nat.le_of_ble_eq_true rfl), (Nat.le_of_ble_eq_true rfl)⟩) (pre3V g hK mq3_ kq3_ (by decide) (q := (RX7, TX7, 19)) rfl) rfl rfl hl.1 rfl (lv_room (Nat.le_of_ble_eq_true rfl)) dX2_readArguments_211 ⟨(Nat.le_of_ble_eq_true rfl), (Nat.le_of_ble_eq_true rfl)⟩) g hK (by decide) (by decide) (fx' := [(7, 5, q3_, .ref a_1410), (7, 4, q3_, .ref a_1409), (2, 13, a0_, .int x_1408), (8, 6, q0_, .int x_1401), (8, 8, q0_, .int x_1202), (0, 2, q2_, .ref q3_), (2, 14, a0_, .int x_17), (2, 0, a0_, .ref q0_), (2, 1, a0_, .ref q1_), (2, 2, a0_, .ref q2_), (2, 3, a0_, .ref q3_), (0, 0, q2_, .ref q0_), (0, 1, q2_, .ref q1_), (5, 0, q1_, .ref q3_), (5, 1, q1_, .ref q7_), (2, 12, a0_, .int y0_)]) rfl (fun fr_1412 H locs hp hMr_1412 g => ?_)
                          obtain ⟨hG_1413, x_1414, h_1415, hF_1416⟩ := hp
                          have hG_1417 := eOK.frame hMr_1412 go_.2.2.2.1 mq2_ kq2_ (by decide) (by decide) hG_1405
                          have g := g.more hF_1416
                          refine lv_aload_n hx hb dX2_readArguments_214 rfl (lv_at hl 4 rfl) ?_
                          refine g_getk (C := RX2) (T := TX2) (N := 16) hx hb hts (mc_ inX2) hown hK g rfl 3 (by decide) rfl (hts _ (List.mem_cons_of_mem _ t_419)) (fun _ h9 => h9) 11 rfl dX2_readArguments_215 ?_
                          refine lv_bipush (v := 22) hx hb dX2_readArguments_218 (by decide) ?_
                          refine lv_iconst (v := 0) hx hb dX2_readArguments_220 (by decide) ?_
                          have go_ := g
                          refine g_callv (va_runV (As := [.int 22, .int 0]) (rest := []) ⟨hx, hb, hml, hown, hts⟩ (r_X7_emitF l dC dI L kd tys fr_1412 H.size g.2.2.2.1 q3_ mq3_ kq3_ a_1409 ma_1409 ka_1409 a_1410 ma_1410 ka_1410 x_1414 h_1415 T_ hG_1413 (22 : Int32) (0 : Int32) (g.fcts [2, 1, 0] rfl)) (cwV 2 hts (gV_ t_1301 t_1204 t_1205 t_191 t_1206) rfl rfl rfl (by decide +kernel) ⟨(Nat.le_of_ble_eq_true rfl), (Nat.le_of_ble_eq_true rfl)⟩) (pre3V g hK mq3_ kq3_ (by decide) (q := (RX7, TX7, 19)) rfl) rfl rfl hl.1 rfl (lv_room (Nat.le_of_ble_eq_true rfl)) dX2_readArguments_221 ⟨(Nat.le_of_ble_eq_true rfl), (Nat.le_of_ble_eq_true rfl)⟩) g hK (by decide) (by decide) (fx' := [(7, 5, q3_, .ref a_1410), (7, 4, q3_, .ref a_1409), (2, 13, a0_, .int x_1408), (8, 6, q0_, .int x_1401), (8, 8, q0_, .int x_1202), (0, 2, q2_, .ref q3_), (2, 14, a0_, .int x_17), (2, 0, a0_, .ref q0_), (2, 1, a0_, .ref q1_), (2, 2, a0_, .ref q2_), (2, 3, a0_, .ref q3_), (0, 0, q2_, .ref q0_), (0, 1, q2_, .ref q1_), (5, 0, q1_, .ref q3_), (5, 1, q1_, .ref q7_), (2, 12, a0_, .int y0_)]) rfl (fun fr_1418 H locs hp hMr_1418 g => ?_)
                          obtain ⟨hG_1419, x_1420, h_1421, hF_1422⟩ := hp
                          have hG_1423 := eOK.frame hMr_1418 go_.2.2.2.1 mq2_ kq2_ (by decide) (by decide) hG_1417
                          have g := g.more hF_1422
                          refine lv_aload_n hx hb dX2_readArguments_224 rfl (lv_at hl 4 rfl) ?_
                          refine g_getk (C := RX2) (T := TX2) (N := 16) hx hb hts (mc_ inX2) hown hK g rfl 0 (by decide) rfl (hts _ (List.mem_cons_of_mem _ t_416)) (fun _ h9 => h9) 8 rfl dX2_readArguments_225 ?_
                          refine lv_bipush (v := 59) hx hb dX2_readArguments_228 (by decide) ?_
                          have go_ := g
                          refine g_callv (va_runV (As := [.int 59]) (rest := []) ⟨hx, hb, hml, hown, hts⟩ (r_X8_take_2 l dC dI L kd tys fr_1418 H.size g.2.2.2.1 q0_ mq0_ kq0_ 59 x_1401 h_1402 x_1202 h_1203 (g.fcts [4, 5] rfl)) (cwV 1 hts (gV_ t_1098 t_1099 t_1100 t_184 t_1101) rfl rfl rfl (by decide +kernel) ⟨(Nat.le_of_ble_eq_true rfl), (Nat.le_of_ble_eq_true rfl)⟩) (pre3V g hK mq0_ kq0_ (by decide) (q := (RX8, TX8, 10)) rfl) rfl rfl hl.1 rfl (lv_room (Nat.le_of_ble_eq_true rfl)) dX2_readArguments_230 ⟨(Nat.le_of_ble_eq_true rfl), (Nat.le_of_ble_eq_true rfl)⟩) g hK (by decide) (by decide) (fx' := [(7, 6, q3_, .int x_1420), (7, 5, q3_, .ref a_1410), (7, 4, q3_, .ref a_1409), (2, 13, a0_, .int x_1408), (8, 8, q0_, .int x_1202), (0, 2, q2_, .ref q3_), (2, 14, a0_, .int x_17), (2, 0, a0_, .ref q0_), (2, 1, a0_, .ref q1_), (2, 2, a0_, .ref q2_), (2, 3, a0_, .ref q3_), (0, 0, q2_, .ref q0_), (0, 1, q2_, .ref q1_), (5, 0, q1_, .ref q3_), (5, 1, q1_, .ref q7_), (2, 12, a0_, .int y0_)]) rfl (fun fr_1424 H locs hp hMr_1424 g => ?_)
                          obtain ⟨x_1425, h_1426, hF_1427⟩ := hp
                          have hG_1428 := dOK.frame hMr_1424 go_.2.2.2.1 mq3_ kq3_ (by decide) (by decide) hG_1419
                          have hG_1429 := eOK.frame hMr_1424 go_.2.2.2.1 mq2_ kq2_ (by decide) (by decide) hG_1423
                          have g := g.more hF_1427
                          subst hQ
                          exact W.vret hx hb hr (fun t ht hW => ⟨⟨_, rfl, Or.inr (⟨hG_1428, hG_1429, x_1425, h_1426, x_1202, h_1203, (g.fcts [0, 5] rfl)⟩), q3_of g hK ht hW⟩, g.2.2.1.F ht⟩) g.2.2.1.2.2 dX2_readArguments_233
                        · have fc_1406 := nle_f c_1406
                          have b_1430 : bd (-2147483648) (-1) y_1325 := ltL fc_1406 (bdT y_1325) b_793 (by decide)
                          refine lv_aload_n hx hb dX2_readArguments_188 rfl (lv_at hl 4 rfl) ?_
                          refine g_getk (C := RX2) (T := TX2) (N := 16) hx hb hts (mc_ inX2) hown hK g rfl 0 (by decide) rfl (hts _ (List.mem_cons_of_mem _ t_416)) (fun _ h9 => h9) 4 rfl dX2_readArguments_189 ?_
                          refine lv_bipush (v := 6) hx hb dX2_readArguments_192 (by decide) ?_
                          refine lv_iload hx hb dX2_readArguments_194 (lv_at hl 0 rfl) ?_
                          have kb_6 : bd 6 6 (6 : Int32) := ⟨by decide, by decide⟩
                          have go_ := g
                          refine g_callv (va_runV (As := [.int 6, .int r_1397]) (rest := []) ⟨hx, hb, hml, hown, hts⟩ (r_X8_fail_2 l dC dI L kd tys fr_1400 H.size g.2.2.2.1 q0_ mq0_ kq0_ 6 (bd_sub kb_6 (by decide)) r_1397 x_1202 h_1203 (g.fcts [1] rfl)) (cwV 2 hts (gV_ t_1122 t_1107 t_1108 t_184 t_1109) rfl rfl rfl (by decide +kernel) ⟨(Nat.le_of_ble_eq_true rfl), (Nat.le_of_ble_eq_true rfl)⟩) (pre3V g hK mq0_ kq0_ (by decide) (q := (RX8, TX8, 10)) rfl) rfl rfl hl.1 rfl (lv_room (Nat.le_of_ble_eq_true rfl)) dX2_readArguments_196 ⟨(Nat.le_of_ble_eq_true rfl), (Nat.le_of_ble_eq_true rfl)⟩) g hK (by decide) (by decide) (fx' := [(8, 8, q0_, .int x_1202), (0, 2, q2_, .ref q3_), (2, 14, a0_, .int x_17), (2, 0, a0_, .ref q0_), (2, 1, a0_, .ref q1_), (2, 2, a0_, .ref q2_), (2, 3, a0_, .ref q3_), (0, 0, q2_, .ref q0_), (0, 1, q2_, .ref q1_), (5, 0, q1_, .ref q3_), (5, 1, q1_, .ref q7_), (2, 12, a0_, .int y0_)]) rfl (fun fr_1431 H locs hp hMr_1431 g => ?_)
                          have hF_1432 := hp
                          have hG_1433 := dOK.frame hMr_1431 go_.2.2.2.1 mq3_ kq3_ (by decide) (by decide) hG_1404
                          have hG_1434 := eOK.frame hMr_1431 go_.2.2.2.1 mq2_ kq2_ (by decide) (by decide) hG_1405
                          have g := g.more hF_1432
                          refine lv_aload_n hx hb dX2_readArguments_199 rfl (lv_at hl 4 rfl) ?_
                          refine g_getk (C := RX2) (T := TX2) (N := 16) hx hb hts (mc_ inX2) hown hK g rfl 3 (by decide) rfl (hts _ (List.mem_cons_of_mem _ t_419)) (fun _ h9 => h9) 7 rfl dX2_readArguments_200 ?_
                          refine lv_aload_n hx hb dX2_readArguments_203 rfl (lv_at hl 4 rfl) ?_
                          refine g_getk (C := RX2) (T := TX2) (N := 16) hx hb hts (mc_ inX2) hown hK g rfl 12 (by decide) rfl (hts _ (List.mem_cons_of_mem _ t_428)) (fun _ h9 => h9) 12 rfl dX2_readArguments_204 ?_
                          refine lv_aload_n hx hb dX2_readArguments_207 rfl (lv_at hl 4 rfl) ?_
                          refine g_geti (C := RX2) (T := TX2) (N := 16) hx hb hts (mc_ inX2) hown hK g ma0_ ka0_ (by decide) rfl 13 (by decide) rfl (hts _ (List.mem_cons_of_mem _ t_429)) (fun _ h9 => h9) rfl dX2_readArguments_208 (fun x_1435 bx_1435 g => ?_)
                          obtain ⟨a_1436, ma_1436, ka_1436, g⟩ := g_factr g mq3_ kq3_ (by decide) 4 rfl
                          obtain ⟨a_1437, ma_1437, ka_1437, g⟩ := g_factr g mq3_ kq3_ (by decide) 5 rfl
                          obtain ⟨x_1438, bx_1438, g⟩ := g_facti g mq3_ kq3_ (by decide) 6 rfl
                          have go_ := g
                          refine g_callv (va_runV (As := [.int y0_, .int x_1435]) (rest := []) ⟨hx, hb, hml, hown, hts⟩ (r_X7_emitF l dC dI L kd tys fr_1431 H.size g.2.2.2.1 q3_ mq3_ kq3_ a_1436 ma_1436 ka_1436 a_1437 ma_1437 ka_1437 x_1438 bx_1438 T_ hG_1433 y0_ x_1435 (g.fcts [2, 1, 0] rfl)) (cwV 2 hts (gV_ t_1301 t_1204 t_1205 t_191 t_1206) rfl rfl rfl (by decide +kernel) ⟨(Nat.le_of_ble_eq_true rfl), (Nat.le_of_ble_eq_true rfl)⟩) (pre3V g hK mq3_ kq3_ (by decide) (q := (RX7, TX7, 19)) rfl) rfl rfl hl.1 rfl (lv_room (Nat.le_of_ble_eq_true rfl)) dX2_readArguments_211 ⟨(Nat.le_of_ble_eq_true rfl), (Nat.le_of_ble_eq_true rfl)⟩) g hK (by decide) (by decide) (fx' := [(7, 5, q3_, .ref a_1437), (7, 4, q3_, .ref a_1436), (2, 13, a0_, .int x_1435), (8, 6, q0_, .int 1201), (8, 8, q0_, .int x_1202), (0, 2, q2_, .ref q3_), (2, 14, a0_, .int x_17), (2, 0, a0_, .ref q0_), (2, 1, a0_, .ref q1_), (2, 2, a0_, .ref q2_), (2, 3, a0_, .ref q3_), (0, 0, q2_, .ref q0_), (0, 1, q2_, .ref q1_), (5, 0, q1_, .ref q3_), (5, 1, q1_, .ref q7_), (2, 12, a0_, .int y0_)]) rfl (fun fr_1439 H locs hp hMr_1439 g => ?_)
                          obtain ⟨hG_1440, x_1441, h_1442, hF_1443⟩ := hp
                          have hG_1444 := eOK.frame hMr_1439 go_.2.2.2.1 mq2_ kq2_ (by decide) (by decide) hG_1434
                          have g := g.more hF_1443
                          refine lv_aload_n hx hb dX2_readArguments_214 rfl (lv_at hl 4 rfl) ?_
                          refine g_getk (C := RX2) (T := TX2) (N := 16) hx hb hts (mc_ inX2) hown hK g rfl 3 (by decide) rfl (hts _ (List.mem_cons_of_mem _ t_419)) (fun _ h9 => h9) 11 rfl dX2_readArguments_215 ?_
                          refine lv_bipush (v := 22) hx hb dX2_readArguments_218 (by decide) ?_
                          refine lv_iconst (v := 0) hx hb dX2_readArguments_220 (by decide) ?_
                          have go_ := g
                          refine g_callv (va_runV (As := [.int 22, .int 0]) (rest := []) ⟨hx, hb, hml, hown, hts⟩ (r_X7_emitF l dC dI L kd tys fr_1439 H.size g.2.2.2.1 q3_ mq3_ kq3_ a_1436 ma_1436 ka_1436 a_1437 ma_1437 ka_1437 x_1441 h_1442 T_ hG_1440 (22 : Int32) (0 : Int32) (g.fcts [2, 1, 0] rfl)) (cwV 2 hts (gV_ t_1301 t_1204 t_1205 t_191 t_1206) rfl rfl rfl (by decide +kernel) ⟨(Nat.le_of_ble_eq_true rfl), (Nat.le_of_ble_eq_true rfl)⟩) (pre3V g hK mq3_ kq3_ (by decide) (q := (RX7, TX7, 19)) rfl) rfl rfl hl.1 rfl (lv_room (Nat.le_of_ble_eq_true rfl)) dX2_readArguments_221 ⟨(Nat.le_of_ble_eq_true rfl), (Nat.le_of_ble_eq_true rfl)⟩) g hK (by decide) (by decide) (fx' := [(7, 5, q3_, .ref a_1437), (7, 4, q3_, .ref a_1436), (2, 13, a0_, .int x_1435), (8, 6, q0_, .int 1201), (8, 8, q0_, .int x_1202), (0, 2, q2_, .ref q3_), (2, 14, a0_, .int x_17), (2, 0, a0_, .ref q0_), (2, 1, a0_, .ref q1_), (2, 2, a0_, .ref q2_), (2, 3, a0_, .ref q3_), (0, 0, q2_, .ref q0_), (0, 1, q2_, .ref q1_), (5, 0, q1_, .ref q3_), (5, 1, q1_, .ref q7_), (2, 12, a0_, .int y0_)]) rfl (fun fr_1445 H locs hp hMr_1445 g => ?_)
                          obtain ⟨hG_1446, x_1447, h_1448, hF_1449⟩ := hp
                          have hG_1450 := eOK.frame hMr_1445 go_.2.2.2.1 mq2_ kq2_ (by decide) (by decide) hG_1444
                          have g := g.more hF_1449
                          refine lv_aload_n hx hb dX2_readArguments_224 rfl (lv_at hl 4 rfl) ?_
                          refine g_getk (C := RX2) (T := TX2) (N := 16) hx hb hts (mc_ inX2) hown hK g rfl 0 (by decide) rfl (hts _ (List.mem_cons_of_mem _ t_416)) (fun _ h9 => h9) 8 rfl dX2_readArguments_225 ?_
                          refine lv_bipush (v := 59) hx hb dX2_readArguments_228 (by decide) ?_
                          have kb_1201 : bd 1201 1201 (1201 : Int32) := ⟨by decide, by decide⟩
                          have go_ := g
                          refine g_callv (va_runV (As := [.int 59]) (rest := []) ⟨hx, hb, hml, hown, hts⟩ (r_X8_take_2 l dC dI L kd tys fr_1445 H.size g.2.2.2.1 q0_ mq0_ kq0_ 59 1201 kb_1201 x_1202 h_1203 (g.fcts [4, 5] rfl)) (cwV 1 hts (gV_ t_1098 t_1099 t_1100 t_184 t_1101) rfl rfl rfl (by decide +kernel) ⟨(Nat.le_of_ble_eq_true rfl), (Nat.le_of_ble_eq_true rfl)⟩) (pre3V g hK mq0_ kq0_ (by decide) (q := (RX8, TX8, 10)) rfl) rfl rfl hl.1 rfl (lv_room (Nat.le_of_ble_eq_true rfl)) dX2_readArguments_230 ⟨(Nat.le_of_ble_eq_true rfl), (Nat.le_of_ble_eq_true rfl)⟩) g hK (by decide) (by decide) (fx' := [(7, 6, q3_, .int x_1447), (7, 5, q3_, .ref a_1437), (7, 4, q3_, .ref a_1436), (2, 13, a0_, .int x_1435), (8, 8, q0_, .int x_1202), (0, 2, q2_, .ref q3_), (2, 14, a0_, .int x_17), (2, 0, a0_, .ref q0_), (2, 1, a0_, .ref q1_), (2, 2, a0_, .ref q2_), (2, 3, a0_, .ref q3_), (0, 0, q2_, .ref q0_), (0, 1, q2_, .ref q1_), (5, 0, q1_, .ref q3_), (5, 1, q1_, .ref q7_), (2, 12, a0_, .int y0_)]) rfl (fun fr_1451 H locs hp hMr_1451 g => ?_)
                          obtain ⟨x_1452, h_1453, hF_1454⟩ := hp
                          have hG_1455 := dOK.frame hMr_1451 go_.2.2.2.1 mq3_ kq3_ (by decide) (by decide) hG_1446
                          have hG_1456 := eOK.frame hMr_1451 go_.2.2.2.1 mq2_ kq2_ (by decide) (by decide) hG_1450
                          have g := g.more hF_1454
                          subst hQ
                          exact W.vret hx hb hr (fun t ht hW => ⟨⟨_, rfl, Or.inr (⟨hG_1455, hG_1456, x_1452, h_1453, x_1202, h_1203, (g.fcts [0, 5] rfl)⟩), q3_of g hK ht hW⟩, g.2.2.1.F ht⟩) g.2.2.1.2.2 dX2_readArguments_233
          have kb_1 : bd 1 1 (1 : Int32) := ⟨by decide, by decide⟩
          have hl9 := lv_sub hl [0, 1, 2, 3, 4] (by rfl : lv_pick [(4, .int 0), (3, .int 1), (2, .int 0), (1, .int r_1), (0, .ref a0_)] [0, 1, 2, 3, 4] = [(4, .int 0), (3, .int 1), (2, .int 0), (1, .int r_1), (0, .ref a0_)])
          have g9 := g.sub (fx' := [(2, 14, a0_, .int x_17), (8, 8, q0_, .int y1_), (2, 0, a0_, .ref q0_), (2, 1, a0_, .ref q1_), (2, 2, a0_, .ref q2_), (2, 3, a0_, .ref q3_), (0, 0, q2_, .ref q0_), (0, 1, q2_, .ref q1_), (5, 0, q1_, .ref q3_), (5, 1, q1_, .ref q7_), (2, 12, a0_, .int y0_)]) [0, 2, 3, 4, 5, 6, 7, 8, 9, 10, 11] rfl
          exact loop_893 (11) 0 1 0 (bd_sub kb_0 (by decide)) (bd_sub kb_1 (by decide)) (by have h9_0 := kb_0; unfold bd at h9_0; have h9_1 := kb_1; unfold bd at h9_1; have h9_2 := kb_41; unfold bd at h9_2; omega) _ _ _ _ g9 hG_802 hG_803 hG_804 hG_805 hl9
      · have fc_799 := neq_f c_799
        refine lv_aload_n hx hb dX2_readArguments_36 rfl (lv_at hl 1 rfl) ?_
        refine g_getk (C := RX2) (T := TX2) (N := 16) hx hb hts (mc_ inX2) hown hK g rfl 0 (by decide) rfl (hts _ (List.mem_cons_of_mem _ t_416)) (fun _ h9 => h9) 3 rfl dX2_readArguments_37 ?_
        refine lv_bipush (v := 6) hx hb dX2_readArguments_40 (by decide) ?_
        refine lv_iload_n hx hb dX2_readArguments_42 rfl (lv_at hl 0 rfl) ?_
        have kb_6 : bd 6 6 (6 : Int32) := ⟨by decide, by decide⟩
        have go_ := g
        refine g_callv (va_runV (As := [.int 6, .int r_1]) (rest := []) ⟨hx, hb, hml, hown, hts⟩ (r_X8_fail l dC dI L kd tys fr_794 H.size g.2.2.2.1 q0_ mq0_ kq0_ 6 (bd_sub kb_6 (by decide)) r_1 y1_ by1_ (g.fcts [2] rfl)) (cwV 2 hts (gV_ t_1122 t_1107 t_1108 t_184 t_1109) rfl rfl rfl (by decide +kernel) ⟨(Nat.le_of_ble_eq_true rfl), (Nat.le_of_ble_eq_true rfl)⟩) (pre3V g hK mq0_ kq0_ (by decide) (q := (RX8, TX8, 10)) rfl) rfl rfl hl.1 rfl (lv_room (Nat.le_of_ble_eq_true rfl)) dX2_readArguments_43 ⟨(Nat.le_of_ble_eq_true rfl), (Nat.le_of_ble_eq_true rfl)⟩) g hK (by decide) (by decide) (fx' := [(2, 14, a0_, .int x_17), (2, 0, a0_, .ref q0_), (2, 1, a0_, .ref q1_), (2, 2, a0_, .ref q2_), (2, 3, a0_, .ref q3_), (0, 0, q2_, .ref q0_), (0, 1, q2_, .ref q1_), (5, 0, q1_, .ref q3_), (5, 1, q1_, .ref q7_), (2, 12, a0_, .int y0_)]) rfl (fun fr_1457 H locs hp hMr_1457 g => ?_)
        obtain ⟨x_1458, h_1459, hF_1460⟩ := hp
        have hG_1461 := cOK.frame hMr_1457 go_.2.2.2.1 mq3_ kq3_ (by decide) (by decide) hG_795
        have hG_1462 := dOK.frame hMr_1457 go_.2.2.2.1 mq3_ kq3_ (by decide) (by decide) hG_796
        have hG_1463 := jS.frame hMr_1457 go_.2.2.2.1 mq3_ kq3_ (by decide) (by decide) hG_797
        have hG_1464 := eOK.frame hMr_1457 go_.2.2.2.1 mq2_ kq2_ (by decide) (by decide) hG_798
        have g := g.more hF_1460
        refine lv_iconst (v := 0) hx hb dX2_readArguments_46 (by decide) ?_
        refine lv_istore_n (lv' := [(2, .int 0), (1, .int r_1), (0, .ref a0_)]) hx hb dX2_readArguments_47 rfl hl (by decide) rfl (fun ls hl => ?_)
        refine lv_aload_n hx hb dX2_readArguments_48 rfl (lv_at hl 2 rfl) ?_
        refine g_getk (C := RX2) (T := TX2) (N := 16) hx hb hts (mc_ inX2) hown hK g rfl 0 (by decide) rfl (hts _ (List.mem_cons_of_mem _ t_416)) (fun _ h9 => h9) 3 rfl dX2_readArguments_49 ?_
        have kb_1201 : bd 1201 1201 (1201 : Int32) := ⟨by decide, by decide⟩
        have go_ := g
        refine g_calli (va_runV (As := []) (rest := []) ⟨hx, hb, hml, hown, hts⟩ (r_X8_kind_2 l dC dI L kd tys fr_1457 H.size g.2.2.2.1 q0_ mq0_ kq0_ 1201 kb_1201 (g.fcts [0] rfl)) (cwV 0 hts (gV_ t_1118 t_1119 t_1120 t_184 t_1121) rfl rfl rfl (by decide +kernel) ⟨(Nat.le_of_ble_eq_true rfl), (Nat.le_of_ble_eq_true rfl)⟩) (pre3V g hK mq0_ kq0_ (by decide) (q := (RX8, TX8, 10)) rfl) rfl rfl hl.1 rfl (lv_room (Nat.le_of_ble_eq_true rfl)) dX2_readArguments_52 ⟨(Nat.le_of_ble_eq_true rfl), (Nat.le_of_ble_eq_true rfl)⟩) g hK (by decide) (by decide) (fx' := [(8, 6, q0_, .int 1201), (8, 8, q0_, .int x_1458), (2, 14, a0_, .int x_17), (2, 0, a0_, .ref q0_), (2, 1, a0_, .ref q1_), (2, 2, a0_, .ref q2_), (2, 3, a0_, .ref q3_), (0, 0, q2_, .ref q0_), (0, 1, q2_, .ref q1_), (5, 0, q1_, .ref q3_), (5, 1, q1_, .ref q7_), (2, 12, a0_, .int y0_)]) rfl (fun r_1465 fr_1465 H locs hp hMr_1465 g => ?_)
        obtain ⟨h_1466, -⟩ := hp
        have hG_1467 := cOK.frame hMr_1465 go_.2.2.2.1 mq3_ kq3_ (by decide) (by decide) hG_1461
        have hG_1468 := dOK.frame hMr_1465 go_.2.2.2.1 mq3_ kq3_ (by decide) (by decide) hG_1462
        have hG_1469 := jS.frame hMr_1465 go_.2.2.2.1 mq3_ kq3_ (by decide) (by decide) hG_1463
        have hG_1470 := eOK.frame hMr_1465 go_.2.2.2.1 mq2_ kq2_ (by decide) (by decide) hG_1464
        obtain rfl : r_1465 = 0 := h_1466
        refine lv_bipush (v := 41) hx hb dX2_readArguments_55 (by decide) ?_
        refine lv_icmp_eq (tgt := 64) hx hb dX2_readArguments_57 (by decide) (fun c_ => absurd c_ (by decide)) (fun c_ => ?_)
        refine lv_iconst (v := 1) hx hb dX2_readArguments_60 (by decide) ?_
        refine lv_goto (tgt := 65) hx hb dX2_readArguments_61 (by decide) ?_
        refine lv_istore_n (lv' := [(3, .int 1), (2, .int 0), (1, .int r_1), (0, .ref a0_)]) hx hb dX2_readArguments_65 rfl hl (by decide) rfl (fun ls hl => ?_)
        refine lv_iconst (v := 0) hx hb dX2_readArguments_66 (by decide) ?_
        refine lv_istore (lv' := [(4, .int 0), (3, .int 1), (2, .int 0), (1, .int r_1), (0, .ref a0_)]) hx hb dX2_readArguments_67 hl (by decide) rfl (fun ls hl => ?_)
        refine lv_iload hx hb dX2_readArguments_69 (lv_at hl 0 rfl) ?_
        refine lv_iconst (v := 3) hx hb dX2_readArguments_71 (by decide) ?_
        refine lv_icmp_gt (tgt := 162) hx hb dX2_readArguments_72 (by decide) (fun c_ => absurd c_ (by decide)) (fun c_ => ?_)
        refine lv_iload_n hx hb dX2_readArguments_75 rfl (lv_at hl 1 rfl) ?_
        refine lv_if_eq (tgt := 162) hx hb dX2_readArguments_76 (by decide) (fun c_ => absurd c_ (by decide)) (fun c_ => ?_)
        refine lv_aload_n hx hb dX2_readArguments_79 rfl (lv_at hl 4 rfl) ?_
        refine g_getk (C := RX2) (T := TX2) (N := 16) hx hb hts (mc_ inX2) hown hK g rfl 0 (by decide) rfl (hts _ (List.mem_cons_of_mem _ t_416)) (fun _ h9 => h9) 3 rfl dX2_readArguments_80 ?_
        refine g_getk (C := RX8) (T := TX8) (N := 10) hx hb hts (mc_ inX8) hown hK g rfl 8 (by decide) rfl (hts _ (List.mem_cons_of_mem _ t_294)) (fun _ h9 => h9) 1 rfl dX2_readArguments_83 ?_
        refine lv_if_ne (tgt := 162) hx hb dX2_readArguments_86 (by decide) (fun c_1471 => ?_) (fun c_1471 => ?_)
        · have fc_1471 := neq_f c_1471
          refine lv_aload_n hx hb dX2_readArguments_162 rfl (lv_at hl 4 rfl) ?_
          refine g_getk (C := RX2) (T := TX2) (N := 16) hx hb hts (mc_ inX2) hown hK g rfl 0 (by decide) rfl (hts _ (List.mem_cons_of_mem _ t_416)) (fun _ h9 => h9) 3 rfl dX2_readArguments_163 ?_
          have go_ := g
          refine g_calli (va_runV (As := []) (rest := []) ⟨hx, hb, hml, hown, hts⟩ (r_X8_place l dC dI L kd tys fr_1465 H.size g.2.2.2.1 q0_ mq0_ kq0_) (cwV 0 hts (gV_ t_1110 t_1111 t_1112 t_184 t_1113) rfl rfl rfl (by decide +kernel) ⟨(Nat.le_of_ble_eq_true rfl), (Nat.le_of_ble_eq_true rfl)⟩) (pre3V g hK mq0_ kq0_ (by decide) (q := (RX8, TX8, 10)) rfl) rfl rfl hl.1 rfl (lv_room (Nat.le_of_ble_eq_true rfl)) dX2_readArguments_166 ⟨(Nat.le_of_ble_eq_true rfl), (Nat.le_of_ble_eq_true rfl)⟩) g hK (by decide) (by decide) (fx' := [(8, 6, q0_, .int 1201), (8, 8, q0_, .int x_1458), (2, 14, a0_, .int x_17), (2, 0, a0_, .ref q0_), (2, 1, a0_, .ref q1_), (2, 2, a0_, .ref q2_), (2, 3, a0_, .ref q3_), (0, 0, q2_, .ref q0_), (0, 1, q2_, .ref q1_), (5, 0, q1_, .ref q3_), (5, 1, q1_, .ref q7_), (2, 12, a0_, .int y0_)]) rfl (fun r_1472 fr_1472 H locs hp hMr_1472 g => ?_)
          have hG_1473 := cOK.frame hMr_1472 go_.2.2.2.1 mq3_ kq3_ (by decide) (by decide) hG_1467
          have hG_1474 := dOK.frame hMr_1472 go_.2.2.2.1 mq3_ kq3_ (by decide) (by decide) hG_1468
          have hG_1475 := jS.frame hMr_1472 go_.2.2.2.1 mq3_ kq3_ (by decide) (by decide) hG_1469
          have hG_1476 := eOK.frame hMr_1472 go_.2.2.2.1 mq2_ kq2_ (by decide) (by decide) hG_1470
          refine lv_istore (lv' := [(4, .int r_1472), (3, .int 1), (2, .int 0), (1, .int r_1), (0, .ref a0_)]) hx hb dX2_readArguments_169 hl (by decide) rfl (fun ls hl => ?_)
          refine lv_aload_n hx hb dX2_readArguments_171 rfl (lv_at hl 4 rfl) ?_
          refine g_getk (C := RX2) (T := TX2) (N := 16) hx hb hts (mc_ inX2) hown hK g rfl 0 (by decide) rfl (hts _ (List.mem_cons_of_mem _ t_416)) (fun _ h9 => h9) 3 rfl dX2_readArguments_172 ?_
          refine lv_bipush (v := 41) hx hb dX2_readArguments_175 (by decide) ?_
          have go_ := g
          refine g_callv (va_runV (As := [.int 41]) (rest := []) ⟨hx, hb, hml, hown, hts⟩ (r_X8_take_2 l dC dI L kd tys fr_1472 H.size g.2.2.2.1 q0_ mq0_ kq0_ 41 1201 kb_1201 x_1458 h_1459 (g.fcts [0, 1] rfl)) (cwV 1 hts (gV_ t_1098 t_1099 t_1100 t_184 t_1101) rfl rfl rfl (by decide +kernel) ⟨(Nat.le_of_ble_eq_true rfl), (Nat.le_of_ble_eq_true rfl)⟩) (pre3V g hK mq0_ kq0_ (by decide) (q := (RX8, TX8, 10)) rfl) rfl rfl hl.1 rfl (lv_room (Nat.le_of_ble_eq_true rfl)) dX2_readArguments_177 ⟨(Nat.le_of_ble_eq_true rfl), (Nat.le_of_ble_eq_true rfl)⟩) g hK (by decide) (by decide) (fx' := [(8, 8, q0_, .int x_1458), (2, 14, a0_, .int x_17), (2, 0, a0_, .ref q0_), (2, 1, a0_, .ref q1_), (2, 2, a0_, .ref q2_), (2, 3, a0_, .ref q3_), (0, 0, q2_, .ref q0_), (0, 1, q2_, .ref q1_), (5, 0, q1_, .ref q3_), (5, 1, q1_, .ref q7_), (2, 12, a0_, .int y0_)]) rfl (fun fr_1477 H locs hp hMr_1477 g => ?_)
          obtain ⟨x_1478, h_1479, hF_1480⟩ := hp
          have hG_1481 := cOK.frame hMr_1477 go_.2.2.2.1 mq3_ kq3_ (by decide) (by decide) hG_1473
          have hG_1482 := dOK.frame hMr_1477 go_.2.2.2.1 mq3_ kq3_ (by decide) (by decide) hG_1474
          have hG_1483 := jS.frame hMr_1477 go_.2.2.2.1 mq3_ kq3_ (by decide) (by decide) hG_1475
          have hG_1484 := eOK.frame hMr_1477 go_.2.2.2.1 mq2_ kq2_ (by decide) (by decide) hG_1476
          have g := g.more hF_1480
          refine lv_iload_n hx hb dX2_readArguments_180 rfl (lv_at hl 2 rfl) ?_
          refine lv_aload_n hx hb dX2_readArguments_181 rfl (lv_at hl 4 rfl) ?_
          refine g_getk (C := RX2) (T := TX2) (N := 16) hx hb hts (mc_ inX2) hown hK g rfl 14 (by decide) rfl (hts _ (List.mem_cons_of_mem _ t_430)) (fun _ h9 => h9) 2 rfl dX2_readArguments_182 ?_
          refine lv_icmp_ge (tgt := 199) hx hb dX2_readArguments_185 (by decide) (fun c_1485 => ?_) (fun c_1485 => ?_)
          · have fc_1485 := le_f c_1485
            refine lv_aload_n hx hb dX2_readArguments_199 rfl (lv_at hl 4 rfl) ?_
            refine g_getk (C := RX2) (T := TX2) (N := 16) hx hb hts (mc_ inX2) hown hK g rfl 3 (by decide) rfl (hts _ (List.mem_cons_of_mem _ t_419)) (fun _ h9 => h9) 6 rfl dX2_readArguments_200 ?_
            refine lv_aload_n hx hb dX2_readArguments_203 rfl (lv_at hl 4 rfl) ?_
            refine g_getk (C := RX2) (T := TX2) (N := 16) hx hb hts (mc_ inX2) hown hK g rfl 12 (by decide) rfl (hts _ (List.mem_cons_of_mem _ t_428)) (fun _ h9 => h9) 11 rfl dX2_readArguments_204 ?_
            refine lv_aload_n hx hb dX2_readArguments_207 rfl (lv_at hl 4 rfl) ?_
            refine g_geti (C := RX2) (T := TX2) (N := 16) hx hb hts (mc_ inX2) hown hK g ma0_ ka0_ (by decide) rfl 13 (by decide) rfl (hts _ (List.mem_cons_of_mem _ t_429)) (fun _ h9 => h9) rfl dX2_readArguments_208 (fun x_1486 bx_1486 g => ?_)
            obtain ⟨a_1487, ma_1487, ka_1487, g⟩ := g_factr g mq3_ kq3_ (by decide) 4 rfl
            obtain ⟨a_1488, ma_1488, ka_1488, g⟩ := g_factr g mq3_ kq3_ (by decide) 5 rfl
            obtain ⟨x_1489, bx_1489, g⟩ := g_facti g mq3_ kq3_ (by decide) 6 rfl
            have go_ := g
            refine g_callv (va_runV (As := [.int y0_, .int x_1486]) (rest := []) ⟨hx, hb, hml, hown, hts⟩ (r_X7_emitF l dC dI L kd tys fr_1477 H.size g.2.2.2.1 q3_ mq3_ kq3_ a_1487 ma_1487 ka_1487 a_1488 ma_1488 ka_1488 x_1489 bx_1489 T_ hG_1482 y0_ x_1486 (g.fcts [2, 1, 0] rfl)) (cwV 2 hts (gV_ t_1301 t_1204 t_1205 t_191 t_1206) rfl rfl rfl (by decide +kernel) ⟨(Nat.le_of_ble_eq_true rfl), (Nat.le_of_ble_eq_true rfl)⟩) (pre3V g hK mq3_ kq3_ (by decide) (q := (RX7, TX7, 19)) rfl) rfl rfl hl.1 rfl (lv_room (Nat.le_of_ble_eq_true rfl)) dX2_readArguments_211 ⟨(Nat.le_of_ble_eq_true rfl), (Nat.le_of_ble_eq_true rfl)⟩) g hK (by decide) (by decide) (fx' := [(7, 5, q3_, .ref a_1488), (7, 4, q3_, .ref a_1487), (2, 13, a0_, .int x_1486), (8, 6, q0_, .int x_1478), (8, 8, q0_, .int x_1458), (2, 14, a0_, .int x_17), (2, 0, a0_, .ref q0_), (2, 1, a0_, .ref q1_), (2, 2, a0_, .ref q2_), (2, 3, a0_, .ref q3_), (0, 0, q2_, .ref q0_), (0, 1, q2_, .ref q1_), (5, 0, q1_, .ref q3_), (5, 1, q1_, .ref q7_), (2, 12, a0_, .int y0_)]) rfl (fun fr_1490 H locs hp hMr_1490 g => ?_)
            obtain ⟨hG_1491, x_1492, h_1493, hF_1494⟩ := hp
            have hG_1495 := eOK.frame hMr_1490 go_.2.2.2.1 mq2_ kq2_ (by decide) (by decide) hG_1484
            have g := g.more hF_1494
            refine lv_aload_n hx hb dX2_readArguments_214 rfl (lv_at hl 4 rfl) ?_
            refine g_getk (C := RX2) (T := TX2) (N := 16) hx hb hts (mc_ inX2) hown hK g rfl 3 (by decide) rfl (hts _ (List.mem_cons_of_mem _ t_419)) (fun _ h9 => h9) 10 rfl dX2_readArguments_215 ?_
            refine lv_bipush (v := 22) hx hb dX2_readArguments_218 (by decide) ?_
            refine lv_iconst (v := 0) hx hb dX2_readArguments_220 (by decide) ?_
            have go_ := g
            refine g_callv (va_runV (As := [.int 22, .int 0]) (rest := []) ⟨hx, hb, hml, hown, hts⟩ (r_X7_emitF l dC dI L kd tys fr_1490 H.size g.2.2.2.1 q3_ mq3_ kq3_ a_1487 ma_1487 ka_1487 a_1488 ma_1488 ka_1488 x_1492 h_1493 T_ hG_1491 (22 : Int32) (0 : Int32) (g.fcts [2, 1, 0] rfl)) (cwV 2 hts (gV_ t_1301 t_1204 t_1205 t_191 t_1206) rfl rfl rfl (by decide +kernel) ⟨(Nat.le_of_ble_eq_true rfl), (Nat.le_of_ble_eq_true rfl)⟩) (pre3V g hK mq3_ kq3_ (by decide) (q := (RX7, TX7, 19)) rfl) rfl rfl hl.1 rfl (lv_room (Nat.le_of_ble_eq_true rfl)) dX2_readArguments_221 ⟨(Nat.le_of_ble_eq_true rfl), (Nat.le_of_ble_eq_true rfl)⟩) g hK (by decide) (by decide) (fx' := [(7, 5, q3_, .ref a_1488), (7, 4, q3_, .ref a_1487), (2, 13, a0_, .int x_1486), (8, 6, q0_, .int x_1478), (8, 8, q0_, .int x_1458), (2, 14, a0_, .int x_17), (2, 0, a0_, .ref q0_), (2, 1, a0_, .ref q1_), (2, 2, a0_, .ref q2_), (2, 3, a0_, .ref q3_), (0, 0, q2_, .ref q0_), (0, 1, q2_, .ref q1_), (5, 0, q1_, .ref q3_), (5, 1, q1_, .ref q7_), (2, 12, a0_, .int y0_)]) rfl (fun fr_1496 H locs hp hMr_1496 g => ?_)
            obtain ⟨hG_1497, x_1498, h_1499, hF_1500⟩ := hp
            have hG_1501 := eOK.frame hMr_1496 go_.2.2.2.1 mq2_ kq2_ (by decide) (by decide) hG_1495
            have g := g.more hF_1500
            refine lv_aload_n hx hb dX2_readArguments_224 rfl (lv_at hl 4 rfl) ?_
            refine g_getk (C := RX2) (T := TX2) (N := 16) hx hb hts (mc_ inX2) hown hK g rfl 0 (by decide) rfl (hts _ (List.mem_cons_of_mem _ t_416)) (fun _ h9 => h9) 7 rfl dX2_readArguments_225 ?_
            refine lv_bipush (v := 59) hx hb dX2_readArguments_228 (by decide) ?_
            have go_ := g
            refine g_callv (va_runV (As := [.int 59]) (rest := []) ⟨hx, hb, hml, hown, hts⟩ (r_X8_take_2 l dC dI L kd tys fr_1496 H.size g.2.2.2.1 q0_ mq0_ kq0_ 59 x_1478 h_1479 x_1458 h_1459 (g.fcts [4, 5] rfl)) (cwV 1 hts (gV_ t_1098 t_1099 t_1100 t_184 t_1101) rfl rfl rfl (by decide +kernel) ⟨(Nat.le_of_ble_eq_true rfl), (Nat.le_of_ble_eq_true rfl)⟩) (pre3V g hK mq0_ kq0_ (by decide) (q := (RX8, TX8, 10)) rfl) rfl rfl hl.1 rfl (lv_room (Nat.le_of_ble_eq_true rfl)) dX2_readArguments_230 ⟨(Nat.le_of_ble_eq_true rfl), (Nat.le_of_ble_eq_true rfl)⟩) g hK (by decide) (by decide) (fx' := [(7, 6, q3_, .int x_1498), (7, 5, q3_, .ref a_1488), (7, 4, q3_, .ref a_1487), (2, 13, a0_, .int x_1486), (8, 8, q0_, .int x_1458), (2, 14, a0_, .int x_17), (2, 0, a0_, .ref q0_), (2, 1, a0_, .ref q1_), (2, 2, a0_, .ref q2_), (2, 3, a0_, .ref q3_), (0, 0, q2_, .ref q0_), (0, 1, q2_, .ref q1_), (5, 0, q1_, .ref q3_), (5, 1, q1_, .ref q7_), (2, 12, a0_, .int y0_)]) rfl (fun fr_1502 H locs hp hMr_1502 g => ?_)
            obtain ⟨x_1503, h_1504, hF_1505⟩ := hp
            have hG_1506 := dOK.frame hMr_1502 go_.2.2.2.1 mq3_ kq3_ (by decide) (by decide) hG_1497
            have hG_1507 := eOK.frame hMr_1502 go_.2.2.2.1 mq2_ kq2_ (by decide) (by decide) hG_1501
            have g := g.more hF_1505
            subst hQ
            exact W.vret hx hb hr (fun t ht hW => ⟨⟨_, rfl, Or.inr (⟨hG_1506, hG_1507, x_1503, h_1504, x_1458, h_1459, (g.fcts [0, 5] rfl)⟩), q3_of g hK ht hW⟩, g.2.2.1.F ht⟩) g.2.2.1.2.2 dX2_readArguments_233
          · have fc_1485 := nle_f c_1485
            have b_1508 : bd 0 (-1) (0 : Int32) := ltL fc_1485 kb_0 b_793 (by decide)
            exact bd_no (eqX rfl b_1508 kb_0 (lo := 0) (hi := (-1)) (by decide)) (by decide)
        · have fc_1471 := eq_f c_1471
          have b_1509 : bd 1 0 x_1458 := eqX fc_1471 h_1459 kb_0 (by decide)
          exact bd_no b_1509 (by decide)
  · have hG_1510 := cOK.frame hMr_6 go_.2.2.2.1 mq3_ kq3_ (by decide) (by decide) hG_2
    have hG_1511 := dOK.frame hMr_6 go_.2.2.2.1 mq3_ kq3_ (by decide) (by decide) hG_3
    have hG_1512 := jS.frame hMr_6 go_.2.2.2.1 mq3_ kq3_ (by decide) (by decide) hG_4
    have hG_1513 := eOK.frame hMr_6 go_.2.2.2.1 mq2_ kq2_ (by decide) (by decide) hG_5
    have g := g.more hF_12
    refine lv_aload_n hx hb dX2_readArguments_17 rfl (lv_at hl 1 rfl) ?_
    refine g_geti (C := RX2) (T := TX2) (N := 16) hx hb hts (mc_ inX2) hown hK g ma0_ ka0_ (by decide) rfl 14 (by decide) rfl (hts _ (List.mem_cons_of_mem _ t_430)) (fun _ h9 => h9) rfl dX2_readArguments_18 (fun x_1514 bx_1514 g => ?_)
    have kb_0 : bd 0 0 (0 : Int32) := ⟨by decide, by decide⟩
    refine lv_if_ne (tgt := 46) hx hb dX2_readArguments_21 (by decide) (fun c_1515 => ?_) (fun c_1515 => ?_)
    · have fc_1515 := neq_f c_1515
      refine lv_iconst (v := 0) hx hb dX2_readArguments_46 (by decide) ?_
      refine lv_istore_n (lv' := [(2, .int 0), (1, .int r_1), (0, .ref a0_)]) hx hb dX2_readArguments_47 rfl hl (by decide) rfl (fun ls hl => ?_)
      refine lv_aload_n hx hb dX2_readArguments_48 rfl (lv_at hl 2 rfl) ?_
      refine g_getk (C := RX2) (T := TX2) (N := 16) hx hb hts (mc_ inX2) hown hK g rfl 0 (by decide) rfl (hts _ (List.mem_cons_of_mem _ t_416)) (fun _ h9 => h9) 3 rfl dX2_readArguments_49 ?_
      have kb_1201 : bd 1201 1201 (1201 : Int32) := ⟨by decide, by decide⟩
      have go_ := g
      refine g_calli (va_runV (As := []) (rest := []) ⟨hx, hb, hml, hown, hts⟩ (r_X8_kind_2 l dC dI L kd tys fr_6 H.size g.2.2.2.1 q0_ mq0_ kq0_ 1201 kb_1201 (g.fcts [1] rfl)) (cwV 0 hts (gV_ t_1118 t_1119 t_1120 t_184 t_1121) rfl rfl rfl (by decide +kernel) ⟨(Nat.le_of_ble_eq_true rfl), (Nat.le_of_ble_eq_true rfl)⟩) (pre3V g hK mq0_ kq0_ (by decide) (q := (RX8, TX8, 10)) rfl) rfl rfl hl.1 rfl (lv_room (Nat.le_of_ble_eq_true rfl)) dX2_readArguments_52 ⟨(Nat.le_of_ble_eq_true rfl), (Nat.le_of_ble_eq_true rfl)⟩) g hK (by decide) (by decide) (fx' := [(2, 14, a0_, .int x_1514), (8, 6, q0_, .int 1201), (8, 8, q0_, .int x_10), (2, 0, a0_, .ref q0_), (2, 1, a0_, .ref q1_), (2, 2, a0_, .ref q2_), (2, 3, a0_, .ref q3_), (0, 0, q2_, .ref q0_), (0, 1, q2_, .ref q1_), (5, 0, q1_, .ref q3_), (5, 1, q1_, .ref q7_), (2, 12, a0_, .int y0_)]) rfl (fun r_1516 fr_1516 H locs hp hMr_1516 g => ?_)
      obtain ⟨h_1517, -⟩ := hp
      have hG_1518 := cOK.frame hMr_1516 go_.2.2.2.1 mq3_ kq3_ (by decide) (by decide) hG_1510
      have hG_1519 := dOK.frame hMr_1516 go_.2.2.2.1 mq3_ kq3_ (by decide) (by decide) hG_1511
      have hG_1520 := jS.frame hMr_1516 go_.2.2.2.1 mq3_ kq3_ (by decide) (by decide) hG_1512
      have hG_1521 := eOK.frame hMr_1516 go_.2.2.2.1 mq2_ kq2_ (by decide) (by decide) hG_1513
      obtain rfl : r_1516 = 0 := h_1517
      refine lv_bipush (v := 41) hx hb dX2_readArguments_55 (by decide) ?_
      refine lv_icmp_eq (tgt := 64) hx hb dX2_readArguments_57 (by decide) (fun c_ => absurd c_ (by decide)) (fun c_ => ?_)
      refine lv_iconst (v := 1) hx hb dX2_readArguments_60 (by decide) ?_
      refine lv_goto (tgt := 65) hx hb dX2_readArguments_61 (by decide) ?_
      refine lv_istore_n (lv' := [(3, .int 1), (2, .int 0), (1, .int r_1), (0, .ref a0_)]) hx hb dX2_readArguments_65 rfl hl (by decide) rfl (fun ls hl => ?_)
      refine lv_iconst (v := 0) hx hb dX2_readArguments_66 (by decide) ?_
      refine lv_istore (lv' := [(4, .int 0), (3, .int 1), (2, .int 0), (1, .int r_1), (0, .ref a0_)]) hx hb dX2_readArguments_67 hl (by decide) rfl (fun ls hl => ?_)
      refine lv_iload hx hb dX2_readArguments_69 (lv_at hl 0 rfl) ?_
      refine lv_iconst (v := 3) hx hb dX2_readArguments_71 (by decide) ?_
      refine lv_icmp_gt (tgt := 162) hx hb dX2_readArguments_72 (by decide) (fun c_ => absurd c_ (by decide)) (fun c_ => ?_)
      refine lv_iload_n hx hb dX2_readArguments_75 rfl (lv_at hl 1 rfl) ?_
      refine lv_if_eq (tgt := 162) hx hb dX2_readArguments_76 (by decide) (fun c_ => absurd c_ (by decide)) (fun c_ => ?_)
      refine lv_aload_n hx hb dX2_readArguments_79 rfl (lv_at hl 4 rfl) ?_
      refine g_getk (C := RX2) (T := TX2) (N := 16) hx hb hts (mc_ inX2) hown hK g rfl 0 (by decide) rfl (hts _ (List.mem_cons_of_mem _ t_416)) (fun _ h9 => h9) 3 rfl dX2_readArguments_80 ?_
      refine g_getk (C := RX8) (T := TX8) (N := 10) hx hb hts (mc_ inX8) hown hK g rfl 8 (by decide) rfl (hts _ (List.mem_cons_of_mem _ t_294)) (fun _ h9 => h9) 2 rfl dX2_readArguments_83 ?_
      refine lv_if_ne (tgt := 162) hx hb dX2_readArguments_86 (by decide) (fun c_1522 => ?_) (fun c_1522 => ?_)
      · have fc_1522 := neq_f c_1522
        refine lv_aload_n hx hb dX2_readArguments_162 rfl (lv_at hl 4 rfl) ?_
        refine g_getk (C := RX2) (T := TX2) (N := 16) hx hb hts (mc_ inX2) hown hK g rfl 0 (by decide) rfl (hts _ (List.mem_cons_of_mem _ t_416)) (fun _ h9 => h9) 3 rfl dX2_readArguments_163 ?_
        have go_ := g
        refine g_calli (va_runV (As := []) (rest := []) ⟨hx, hb, hml, hown, hts⟩ (r_X8_place l dC dI L kd tys fr_1516 H.size g.2.2.2.1 q0_ mq0_ kq0_) (cwV 0 hts (gV_ t_1110 t_1111 t_1112 t_184 t_1113) rfl rfl rfl (by decide +kernel) ⟨(Nat.le_of_ble_eq_true rfl), (Nat.le_of_ble_eq_true rfl)⟩) (pre3V g hK mq0_ kq0_ (by decide) (q := (RX8, TX8, 10)) rfl) rfl rfl hl.1 rfl (lv_room (Nat.le_of_ble_eq_true rfl)) dX2_readArguments_166 ⟨(Nat.le_of_ble_eq_true rfl), (Nat.le_of_ble_eq_true rfl)⟩) g hK (by decide) (by decide) (fx' := [(2, 14, a0_, .int x_1514), (8, 6, q0_, .int 1201), (8, 8, q0_, .int x_10), (2, 0, a0_, .ref q0_), (2, 1, a0_, .ref q1_), (2, 2, a0_, .ref q2_), (2, 3, a0_, .ref q3_), (0, 0, q2_, .ref q0_), (0, 1, q2_, .ref q1_), (5, 0, q1_, .ref q3_), (5, 1, q1_, .ref q7_), (2, 12, a0_, .int y0_)]) rfl (fun r_1523 fr_1523 H locs hp hMr_1523 g => ?_)
        have hG_1524 := cOK.frame hMr_1523 go_.2.2.2.1 mq3_ kq3_ (by decide) (by decide) hG_1518
        have hG_1525 := dOK.frame hMr_1523 go_.2.2.2.1 mq3_ kq3_ (by decide) (by decide) hG_1519
        have hG_1526 := jS.frame hMr_1523 go_.2.2.2.1 mq3_ kq3_ (by decide) (by decide) hG_1520
        have hG_1527 := eOK.frame hMr_1523 go_.2.2.2.1 mq2_ kq2_ (by decide) (by decide) hG_1521
        refine lv_istore (lv' := [(4, .int r_1523), (3, .int 1), (2, .int 0), (1, .int r_1), (0, .ref a0_)]) hx hb dX2_readArguments_169 hl (by decide) rfl (fun ls hl => ?_)
        refine lv_aload_n hx hb dX2_readArguments_171 rfl (lv_at hl 4 rfl) ?_
        refine g_getk (C := RX2) (T := TX2) (N := 16) hx hb hts (mc_ inX2) hown hK g rfl 0 (by decide) rfl (hts _ (List.mem_cons_of_mem _ t_416)) (fun _ h9 => h9) 3 rfl dX2_readArguments_172 ?_
        refine lv_bipush (v := 41) hx hb dX2_readArguments_175 (by decide) ?_
        have go_ := g
        refine g_callv (va_runV (As := [.int 41]) (rest := []) ⟨hx, hb, hml, hown, hts⟩ (r_X8_take_2 l dC dI L kd tys fr_1523 H.size g.2.2.2.1 q0_ mq0_ kq0_ 41 1201 kb_1201 x_10 h_11 (g.fcts [1, 2] rfl)) (cwV 1 hts (gV_ t_1098 t_1099 t_1100 t_184 t_1101) rfl rfl rfl (by decide +kernel) ⟨(Nat.le_of_ble_eq_true rfl), (Nat.le_of_ble_eq_true rfl)⟩) (pre3V g hK mq0_ kq0_ (by decide) (q := (RX8, TX8, 10)) rfl) rfl rfl hl.1 rfl (lv_room (Nat.le_of_ble_eq_true rfl)) dX2_readArguments_177 ⟨(Nat.le_of_ble_eq_true rfl), (Nat.le_of_ble_eq_true rfl)⟩) g hK (by decide) (by decide) (fx' := [(2, 14, a0_, .int x_1514), (8, 8, q0_, .int x_10), (2, 0, a0_, .ref q0_), (2, 1, a0_, .ref q1_), (2, 2, a0_, .ref q2_), (2, 3, a0_, .ref q3_), (0, 0, q2_, .ref q0_), (0, 1, q2_, .ref q1_), (5, 0, q1_, .ref q3_), (5, 1, q1_, .ref q7_), (2, 12, a0_, .int y0_)]) rfl (fun fr_1528 H locs hp hMr_1528 g => ?_)
        obtain ⟨x_1529, h_1530, hF_1531⟩ := hp
        have hG_1532 := cOK.frame hMr_1528 go_.2.2.2.1 mq3_ kq3_ (by decide) (by decide) hG_1524
        have hG_1533 := dOK.frame hMr_1528 go_.2.2.2.1 mq3_ kq3_ (by decide) (by decide) hG_1525
        have hG_1534 := jS.frame hMr_1528 go_.2.2.2.1 mq3_ kq3_ (by decide) (by decide) hG_1526
        have hG_1535 := eOK.frame hMr_1528 go_.2.2.2.1 mq2_ kq2_ (by decide) (by decide) hG_1527
        have g := g.more hF_1531
        refine lv_iload_n hx hb dX2_readArguments_180 rfl (lv_at hl 2 rfl) ?_
        refine lv_aload_n hx hb dX2_readArguments_181 rfl (lv_at hl 4 rfl) ?_
        refine g_getk (C := RX2) (T := TX2) (N := 16) hx hb hts (mc_ inX2) hown hK g rfl 14 (by decide) rfl (hts _ (List.mem_cons_of_mem _ t_430)) (fun _ h9 => h9) 1 rfl dX2_readArguments_182 ?_
        refine lv_icmp_ge (tgt := 199) hx hb dX2_readArguments_185 (by decide) (fun c_1536 => ?_) (fun c_1536 => ?_)
        · have fc_1536 := le_f c_1536
          have b_1537 : bd (-2147483648) 0 x_1514 := leL fc_1536 (bdT x_1514) kb_0 (by decide)
          refine lv_aload_n hx hb dX2_readArguments_199 rfl (lv_at hl 4 rfl) ?_
          refine g_getk (C := RX2) (T := TX2) (N := 16) hx hb hts (mc_ inX2) hown hK g rfl 3 (by decide) rfl (hts _ (List.mem_cons_of_mem _ t_419)) (fun _ h9 => h9) 6 rfl dX2_readArguments_200 ?_
          refine lv_aload_n hx hb dX2_readArguments_203 rfl (lv_at hl 4 rfl) ?_
          refine g_getk (C := RX2) (T := TX2) (N := 16) hx hb hts (mc_ inX2) hown hK g rfl 12 (by decide) rfl (hts _ (List.mem_cons_of_mem _ t_428)) (fun _ h9 => h9) 11 rfl dX2_readArguments_204 ?_
          refine lv_aload_n hx hb dX2_readArguments_207 rfl (lv_at hl 4 rfl) ?_
          refine g_geti (C := RX2) (T := TX2) (N := 16) hx hb hts (mc_ inX2) hown hK g ma0_ ka0_ (by decide) rfl 13 (by decide) rfl (hts _ (List.mem_cons_of_mem _ t_429)) (fun _ h9 => h9) rfl dX2_readArguments_208 (fun x_1538 bx_1538 g => ?_)
          obtain ⟨a_1539, ma_1539, ka_1539, g⟩ := g_factr g mq3_ kq3_ (by decide) 4 rfl
          obtain ⟨a_1540, ma_1540, ka_1540, g⟩ := g_factr g mq3_ kq3_ (by decide) 5 rfl
          obtain ⟨x_1541, bx_1541, g⟩ := g_facti g mq3_ kq3_ (by decide) 6 rfl
          have go_ := g
          refine g_callv (va_runV (As := [.int y0_, .int x_1538]) (rest := []) ⟨hx, hb, hml, hown, hts⟩ (r_X7_emitF l dC dI L kd tys fr_1528 H.size g.2.2.2.1 q3_ mq3_ kq3_ a_1539 ma_1539 ka_1539 a_1540 ma_1540 ka_1540 x_1541 bx_1541 T_ hG_1533 y0_ x_1538 (g.fcts [2, 1, 0] rfl)) (cwV 2 hts (gV_ t_1301 t_1204 t_1205 t_191 t_1206) rfl rfl rfl (by decide +kernel) ⟨(Nat.le_of_ble_eq_true rfl), (Nat.le_of_ble_eq_true rfl)⟩) (pre3V g hK mq3_ kq3_ (by decide) (q := (RX7, TX7, 19)) rfl) rfl rfl hl.1 rfl (lv_room (Nat.le_of_ble_eq_true rfl)) dX2_readArguments_211 ⟨(Nat.le_of_ble_eq_true rfl), (Nat.le_of_ble_eq_true rfl)⟩) g hK (by decide) (by decide) (fx' := [(7, 5, q3_, .ref a_1540), (7, 4, q3_, .ref a_1539), (2, 13, a0_, .int x_1538), (8, 6, q0_, .int x_1529), (2, 14, a0_, .int x_1514), (8, 8, q0_, .int x_10), (2, 0, a0_, .ref q0_), (2, 1, a0_, .ref q1_), (2, 2, a0_, .ref q2_), (2, 3, a0_, .ref q3_), (0, 0, q2_, .ref q0_), (0, 1, q2_, .ref q1_), (5, 0, q1_, .ref q3_), (5, 1, q1_, .ref q7_), (2, 12, a0_, .int y0_)]) rfl (fun fr_1542 H locs hp hMr_1542 g => ?_)
          obtain ⟨hG_1543, x_1544, h_1545, hF_1546⟩ := hp
          have hG_1547 := eOK.frame hMr_1542 go_.2.2.2.1 mq2_ kq2_ (by decide) (by decide) hG_1535
          have g := g.more hF_1546
          refine lv_aload_n hx hb dX2_readArguments_214 rfl (lv_at hl 4 rfl) ?_
          refine g_getk (C := RX2) (T := TX2) (N := 16) hx hb hts (mc_ inX2) hown hK g rfl 3 (by decide) rfl (hts _ (List.mem_cons_of_mem _ t_419)) (fun _ h9 => h9) 10 rfl dX2_readArguments_215 ?_
          refine lv_bipush (v := 22) hx hb dX2_readArguments_218 (by decide) ?_
          refine lv_iconst (v := 0) hx hb dX2_readArguments_220 (by decide) ?_
          have go_ := g
          refine g_callv (va_runV (As := [.int 22, .int 0]) (rest := []) ⟨hx, hb, hml, hown, hts⟩ (r_X7_emitF l dC dI L kd tys fr_1542 H.size g.2.2.2.1 q3_ mq3_ kq3_ a_1539 ma_1539 ka_1539 a_1540 ma_1540 ka_1540 x_1544 h_1545 T_ hG_1543 (22 : Int32) (0 : Int32) (g.fcts [2, 1, 0] rfl)) (cwV 2 hts (gV_ t_1301 t_1204 t_1205 t_191 t_1206) rfl rfl rfl (by decide +kernel) ⟨(Nat.le_of_ble_eq_true rfl), (Nat.le_of_ble_eq_true rfl)⟩) (pre3V g hK mq3_ kq3_ (by decide) (q := (RX7, TX7, 19)) rfl) rfl rfl hl.1 rfl (lv_room (Nat.le_of_ble_eq_true rfl)) dX2_readArguments_221 ⟨(Nat.le_of_ble_eq_true rfl), (Nat.le_of_ble_eq_true rfl)⟩) g hK (by decide) (by decide) (fx' := [(7, 5, q3_, .ref a_1540), (7, 4, q3_, .ref a_1539), (2, 13, a0_, .int x_1538), (8, 6, q0_, .int x_1529), (2, 14, a0_, .int x_1514), (8, 8, q0_, .int x_10), (2, 0, a0_, .ref q0_), (2, 1, a0_, .ref q1_), (2, 2, a0_, .ref q2_), (2, 3, a0_, .ref q3_), (0, 0, q2_, .ref q0_), (0, 1, q2_, .ref q1_), (5, 0, q1_, .ref q3_), (5, 1, q1_, .ref q7_), (2, 12, a0_, .int y0_)]) rfl (fun fr_1548 H locs hp hMr_1548 g => ?_)
          obtain ⟨hG_1549, x_1550, h_1551, hF_1552⟩ := hp
          have hG_1553 := eOK.frame hMr_1548 go_.2.2.2.1 mq2_ kq2_ (by decide) (by decide) hG_1547
          have g := g.more hF_1552
          refine lv_aload_n hx hb dX2_readArguments_224 rfl (lv_at hl 4 rfl) ?_
          refine g_getk (C := RX2) (T := TX2) (N := 16) hx hb hts (mc_ inX2) hown hK g rfl 0 (by decide) rfl (hts _ (List.mem_cons_of_mem _ t_416)) (fun _ h9 => h9) 7 rfl dX2_readArguments_225 ?_
          refine lv_bipush (v := 59) hx hb dX2_readArguments_228 (by decide) ?_
          have go_ := g
          refine g_callv (va_runV (As := [.int 59]) (rest := []) ⟨hx, hb, hml, hown, hts⟩ (r_X8_take_2 l dC dI L kd tys fr_1548 H.size g.2.2.2.1 q0_ mq0_ kq0_ 59 x_1529 h_1530 x_10 h_11 (g.fcts [4, 6] rfl)) (cwV 1 hts (gV_ t_1098 t_1099 t_1100 t_184 t_1101) rfl rfl rfl (by decide +kernel) ⟨(Nat.le_of_ble_eq_true rfl), (Nat.le_of_ble_eq_true rfl)⟩) (pre3V g hK mq0_ kq0_ (by decide) (q := (RX8, TX8, 10)) rfl) rfl rfl hl.1 rfl (lv_room (Nat.le_of_ble_eq_true rfl)) dX2_readArguments_230 ⟨(Nat.le_of_ble_eq_true rfl), (Nat.le_of_ble_eq_true rfl)⟩) g hK (by decide) (by decide) (fx' := [(7, 6, q3_, .int x_1550), (7, 5, q3_, .ref a_1540), (7, 4, q3_, .ref a_1539), (2, 13, a0_, .int x_1538), (2, 14, a0_, .int x_1514), (8, 8, q0_, .int x_10), (2, 0, a0_, .ref q0_), (2, 1, a0_, .ref q1_), (2, 2, a0_, .ref q2_), (2, 3, a0_, .ref q3_), (0, 0, q2_, .ref q0_), (0, 1, q2_, .ref q1_), (5, 0, q1_, .ref q3_), (5, 1, q1_, .ref q7_), (2, 12, a0_, .int y0_)]) rfl (fun fr_1554 H locs hp hMr_1554 g => ?_)
          obtain ⟨x_1555, h_1556, hF_1557⟩ := hp
          have hG_1558 := dOK.frame hMr_1554 go_.2.2.2.1 mq3_ kq3_ (by decide) (by decide) hG_1549
          have hG_1559 := eOK.frame hMr_1554 go_.2.2.2.1 mq2_ kq2_ (by decide) (by decide) hG_1553
          have g := g.more hF_1557
          subst hQ
          exact W.vret hx hb hr (fun t ht hW => ⟨⟨_, rfl, Or.inr (⟨hG_1558, hG_1559, x_1555, h_1556, x_10, h_11, (g.fcts [0, 6] rfl)⟩), q3_of g hK ht hW⟩, g.2.2.1.F ht⟩) g.2.2.1.2.2 dX2_readArguments_233
        · have fc_1536 := nle_f c_1536
          have b_1560 : bd 1 2147483647 x_1514 := ltR fc_1536 kb_0 (bdT x_1514) (by decide)
          refine lv_aload_n hx hb dX2_readArguments_188 rfl (lv_at hl 4 rfl) ?_
          refine g_getk (C := RX2) (T := TX2) (N := 16) hx hb hts (mc_ inX2) hown hK g rfl 0 (by decide) rfl (hts _ (List.mem_cons_of_mem _ t_416)) (fun _ h9 => h9) 3 rfl dX2_readArguments_189 ?_
          refine lv_bipush (v := 6) hx hb dX2_readArguments_192 (by decide) ?_
          refine lv_iload hx hb dX2_readArguments_194 (lv_at hl 0 rfl) ?_
          have kb_6 : bd 6 6 (6 : Int32) := ⟨by decide, by decide⟩
          have go_ := g
          refine g_callv (va_runV (As := [.int 6, .int r_1523]) (rest := []) ⟨hx, hb, hml, hown, hts⟩ (r_X8_fail_2 l dC dI L kd tys fr_1528 H.size g.2.2.2.1 q0_ mq0_ kq0_ 6 (bd_sub kb_6 (by decide)) r_1523 x_10 h_11 (g.fcts [2] rfl)) (cwV 2 hts (gV_ t_1122 t_1107 t_1108 t_184 t_1109) rfl rfl rfl (by decide +kernel) ⟨(Nat.le_of_ble_eq_true rfl), (Nat.le_of_ble_eq_true rfl)⟩) (pre3V g hK mq0_ kq0_ (by decide) (q := (RX8, TX8, 10)) rfl) rfl rfl hl.1 rfl (lv_room (Nat.le_of_ble_eq_true rfl)) dX2_readArguments_196 ⟨(Nat.le_of_ble_eq_true rfl), (Nat.le_of_ble_eq_true rfl)⟩) g hK (by decide) (by decide) (fx' := [(2, 14, a0_, .int x_1514), (8, 8, q0_, .int x_10), (2, 0, a0_, .ref q0_), (2, 1, a0_, .ref q1_), (2, 2, a0_, .ref q2_), (2, 3, a0_, .ref q3_), (0, 0, q2_, .ref q0_), (0, 1, q2_, .ref q1_), (5, 0, q1_, .ref q3_), (5, 1, q1_, .ref q7_), (2, 12, a0_, .int y0_)]) rfl (fun fr_1561 H locs hp hMr_1561 g => ?_)
          have hF_1562 := hp
          have hG_1563 := cOK.frame hMr_1561 go_.2.2.2.1 mq3_ kq3_ (by decide) (by decide) hG_1532
          have hG_1564 := dOK.frame hMr_1561 go_.2.2.2.1 mq3_ kq3_ (by decide) (by decide) hG_1533
          have hG_1565 := jS.frame hMr_1561 go_.2.2.2.1 mq3_ kq3_ (by decide) (by decide) hG_1534
          have hG_1566 := eOK.frame hMr_1561 go_.2.2.2.1 mq2_ kq2_ (by decide) (by decide) hG_1535
          have g := g.more hF_1562
          refine lv_aload_n hx hb dX2_readArguments_199 rfl (lv_at hl 4 rfl) ?_
          refine g_getk (C := RX2) (T := TX2) (N := 16) hx hb hts (mc_ inX2) hown hK g rfl 3 (by decide) rfl (hts _ (List.mem_cons_of_mem _ t_419)) (fun _ h9 => h9) 6 rfl dX2_readArguments_200 ?_
          refine lv_aload_n hx hb dX2_readArguments_203 rfl (lv_at hl 4 rfl) ?_
          refine g_getk (C := RX2) (T := TX2) (N := 16) hx hb hts (mc_ inX2) hown hK g rfl 12 (by decide) rfl (hts _ (List.mem_cons_of_mem _ t_428)) (fun _ h9 => h9) 11 rfl dX2_readArguments_204 ?_
          refine lv_aload_n hx hb dX2_readArguments_207 rfl (lv_at hl 4 rfl) ?_
          refine g_geti (C := RX2) (T := TX2) (N := 16) hx hb hts (mc_ inX2) hown hK g ma0_ ka0_ (by decide) rfl 13 (by decide) rfl (hts _ (List.mem_cons_of_mem _ t_429)) (fun _ h9 => h9) rfl dX2_readArguments_208 (fun x_1567 bx_1567 g => ?_)
          obtain ⟨a_1568, ma_1568, ka_1568, g⟩ := g_factr g mq3_ kq3_ (by decide) 4 rfl
          obtain ⟨a_1569, ma_1569, ka_1569, g⟩ := g_factr g mq3_ kq3_ (by decide) 5 rfl
          obtain ⟨x_1570, bx_1570, g⟩ := g_facti g mq3_ kq3_ (by decide) 6 rfl
          have go_ := g
          refine g_callv (va_runV (As := [.int y0_, .int x_1567]) (rest := []) ⟨hx, hb, hml, hown, hts⟩ (r_X7_emitF l dC dI L kd tys fr_1561 H.size g.2.2.2.1 q3_ mq3_ kq3_ a_1568 ma_1568 ka_1568 a_1569 ma_1569 ka_1569 x_1570 bx_1570 T_ hG_1564 y0_ x_1567 (g.fcts [2, 1, 0] rfl)) (cwV 2 hts (gV_ t_1301 t_1204 t_1205 t_191 t_1206) rfl rfl rfl (by decide +kernel) ⟨(Nat.le_of_ble_eq_true rfl), (Nat.le_of_ble_eq_true rfl)⟩) (pre3V g hK mq3_ kq3_ (by decide) (q := (RX7, TX7, 19)) rfl) rfl rfl hl.1 rfl (lv_room (Nat.le_of_ble_eq_true rfl)) dX2_readArguments_211 ⟨(Nat.le_of_ble_eq_true rfl), (Nat.le_of_ble_eq_true rfl)⟩) g hK (by decide) (by decide) (fx' := [(7, 5, q3_, .ref a_1569), (7, 4, q3_, .ref a_1568), (2, 13, a0_, .int x_1567), (8, 6, q0_, .int 1201), (2, 14, a0_, .int x_1514), (8, 8, q0_, .int x_10), (2, 0, a0_, .ref q0_), (2, 1, a0_, .ref q1_), (2, 2, a0_, .ref q2_), (2, 3, a0_, .ref q3_), (0, 0, q2_, .ref q0_), (0, 1, q2_, .ref q1_), (5, 0, q1_, .ref q3_), (5, 1, q1_, .ref q7_), (2, 12, a0_, .int y0_)]) rfl (fun fr_1571 H locs hp hMr_1571 g => ?_)
          obtain ⟨hG_1572, x_1573, h_1574, hF_1575⟩ := hp
          have hG_1576 := eOK.frame hMr_1571 go_.2.2.2.1 mq2_ kq2_ (by decide) (by decide) hG_1566
          have g := g.more hF_1575
          refine lv_aload_n hx hb dX2_readArguments_214 rfl (lv_at hl 4 rfl) ?_
          refine g_getk (C := RX2) (T := TX2) (N := 16) hx hb hts (mc_ inX2) hown hK g rfl 3 (by decide) rfl (hts _ (List.mem_cons_of_mem _ t_419)) (fun _ h9 => h9) 10 rfl dX2_readArguments_215 ?_
          refine lv_bipush (v := 22) hx hb dX2_readArguments_218 (by decide) ?_
          refine lv_iconst (v := 0) hx hb dX2_readArguments_220 (by decide) ?_
          have go_ := g
          refine g_callv (va_runV (As := [.int 22, .int 0]) (rest := []) ⟨hx, hb, hml, hown, hts⟩ (r_X7_emitF l dC dI L kd tys fr_1571 H.size g.2.2.2.1 q3_ mq3_ kq3_ a_1568 ma_1568 ka_1568 a_1569 ma_1569 ka_1569 x_1573 h_1574 T_ hG_1572 (22 : Int32) (0 : Int32) (g.fcts [2, 1, 0] rfl)) (cwV 2 hts (gV_ t_1301 t_1204 t_1205 t_191 t_1206) rfl rfl rfl (by decide +kernel) ⟨(Nat.le_of_ble_eq_true rfl), (Nat.le_of_ble_eq_true rfl)⟩) (pre3V g hK mq3_ kq3_ (by decide) (q := (RX7, TX7, 19)) rfl) rfl rfl hl.1 rfl (lv_room (Nat.le_of_ble_eq_true rfl)) dX2_readArguments_221 ⟨(Nat.le_of_ble_eq_true rfl), (Nat.le_of_ble_eq_true rfl)⟩) g hK (by decide) (by decide) (fx' := [(7, 5, q3_, .ref a_1569), (7, 4, q3_, .ref a_1568), (2, 13, a0_, .int x_1567), (8, 6, q0_, .int 1201), (2, 14, a0_, .int x_1514), (8, 8, q0_, .int x_10), (2, 0, a0_, .ref q0_), (2, 1, a0_, .ref q1_), (2, 2, a0_, .ref q2_), (2, 3, a0_, .ref q3_), (0, 0, q2_, .ref q0_), (0, 1, q2_, .ref q1_), (5, 0, q1_, .ref q3_), (5, 1, q1_, .ref q7_), (2, 12, a0_, .int y0_)]) rfl (fun fr_1577 H locs hp hMr_1577 g => ?_)
          obtain ⟨hG_1578, x_1579, h_1580, hF_1581⟩ := hp
          have hG_1582 := eOK.frame hMr_1577 go_.2.2.2.1 mq2_ kq2_ (by decide) (by decide) hG_1576
          have g := g.more hF_1581
          refine lv_aload_n hx hb dX2_readArguments_224 rfl (lv_at hl 4 rfl) ?_
          refine g_getk (C := RX2) (T := TX2) (N := 16) hx hb hts (mc_ inX2) hown hK g rfl 0 (by decide) rfl (hts _ (List.mem_cons_of_mem _ t_416)) (fun _ h9 => h9) 7 rfl dX2_readArguments_225 ?_
          refine lv_bipush (v := 59) hx hb dX2_readArguments_228 (by decide) ?_
          have go_ := g
          refine g_callv (va_runV (As := [.int 59]) (rest := []) ⟨hx, hb, hml, hown, hts⟩ (r_X8_take_2 l dC dI L kd tys fr_1577 H.size g.2.2.2.1 q0_ mq0_ kq0_ 59 1201 kb_1201 x_10 h_11 (g.fcts [4, 6] rfl)) (cwV 1 hts (gV_ t_1098 t_1099 t_1100 t_184 t_1101) rfl rfl rfl (by decide +kernel) ⟨(Nat.le_of_ble_eq_true rfl), (Nat.le_of_ble_eq_true rfl)⟩) (pre3V g hK mq0_ kq0_ (by decide) (q := (RX8, TX8, 10)) rfl) rfl rfl hl.1 rfl (lv_room (Nat.le_of_ble_eq_true rfl)) dX2_readArguments_230 ⟨(Nat.le_of_ble_eq_true rfl), (Nat.le_of_ble_eq_true rfl)⟩) g hK (by decide) (by decide) (fx' := [(7, 6, q3_, .int x_1579), (7, 5, q3_, .ref a_1569), (7, 4, q3_, .ref a_1568), (2, 13, a0_, .int x_1567), (2, 14, a0_, .int x_1514), (8, 8, q0_, .int x_10), (2, 0, a0_, .ref q0_), (2, 1, a0_, .ref q1_), (2, 2, a0_, .ref q2_), (2, 3, a0_, .ref q3_), (0, 0, q2_, .ref q0_), (0, 1, q2_, .ref q1_), (5, 0, q1_, .ref q3_), (5, 1, q1_, .ref q7_), (2, 12, a0_, .int y0_)]) rfl (fun fr_1583 H locs hp hMr_1583 g => ?_)
          obtain ⟨x_1584, h_1585, hF_1586⟩ := hp
          have hG_1587 := dOK.frame hMr_1583 go_.2.2.2.1 mq3_ kq3_ (by decide) (by decide) hG_1578
          have hG_1588 := eOK.frame hMr_1583 go_.2.2.2.1 mq2_ kq2_ (by decide) (by decide) hG_1582
          have g := g.more hF_1586
          subst hQ
          exact W.vret hx hb hr (fun t ht hW => ⟨⟨_, rfl, Or.inr (⟨hG_1587, hG_1588, x_1584, h_1585, x_10, h_11, (g.fcts [0, 6] rfl)⟩), q3_of g hK ht hW⟩, g.2.2.1.F ht⟩) g.2.2.1.2.2 dX2_readArguments_233
      · have fc_1522 := eq_f c_1522
        have b_1589 : bd 1 0 x_10 := eqX fc_1522 h_11 kb_0 (by decide)
        exact bd_no b_1589 (by decide)
    · have fc_1515 := eq_f c_1515
      have b_1590 : bd 0 0 x_1514 := eqX fc_1515 (bdT x_1514) kb_0 (by decide)
      refine lv_aload_n hx hb dX2_readArguments_24 rfl (lv_at hl 1 rfl) ?_
      refine g_getk (C := RX2) (T := TX2) (N := 16) hx hb hts (mc_ inX2) hown hK g rfl 0 (by decide) rfl (hts _ (List.mem_cons_of_mem _ t_416)) (fun _ h9 => h9) 3 rfl dX2_readArguments_25 ?_
      have kb_1201 : bd 1201 1201 (1201 : Int32) := ⟨by decide, by decide⟩
      have go_ := g
      refine g_calli (va_runV (As := []) (rest := []) ⟨hx, hb, hml, hown, hts⟩ (r_X8_kind_2 l dC dI L kd tys fr_6 H.size g.2.2.2.1 q0_ mq0_ kq0_ 1201 kb_1201 (g.fcts [1] rfl)) (cwV 0 hts (gV_ t_1118 t_1119 t_1120 t_184 t_1121) rfl rfl rfl (by decide +kernel) ⟨(Nat.le_of_ble_eq_true rfl), (Nat.le_of_ble_eq_true rfl)⟩) (pre3V g hK mq0_ kq0_ (by decide) (q := (RX8, TX8, 10)) rfl) rfl rfl hl.1 rfl (lv_room (Nat.le_of_ble_eq_true rfl)) dX2_readArguments_28 ⟨(Nat.le_of_ble_eq_true rfl), (Nat.le_of_ble_eq_true rfl)⟩) g hK (by decide) (by decide) (fx' := [(2, 14, a0_, .int x_1514), (8, 6, q0_, .int 1201), (8, 8, q0_, .int x_10), (2, 0, a0_, .ref q0_), (2, 1, a0_, .ref q1_), (2, 2, a0_, .ref q2_), (2, 3, a0_, .ref q3_), (0, 0, q2_, .ref q0_), (0, 1, q2_, .ref q1_), (5, 0, q1_, .ref q3_), (5, 1, q1_, .ref q7_), (2, 12, a0_, .int y0_)]) rfl (fun r_1591 fr_1591 H locs hp hMr_1591 g => ?_)
      obtain ⟨h_1592, -⟩ := hp
      have hG_1593 := cOK.frame hMr_1591 go_.2.2.2.1 mq3_ kq3_ (by decide) (by decide) hG_1510
      have hG_1594 := dOK.frame hMr_1591 go_.2.2.2.1 mq3_ kq3_ (by decide) (by decide) hG_1511
      have hG_1595 := jS.frame hMr_1591 go_.2.2.2.1 mq3_ kq3_ (by decide) (by decide) hG_1512
      have hG_1596 := eOK.frame hMr_1591 go_.2.2.2.1 mq2_ kq2_ (by decide) (by decide) hG_1513
      obtain rfl : r_1591 = 0 := h_1592
      refine lv_bipush (v := 41) hx hb dX2_readArguments_31 (by decide) ?_
      refine lv_icmp_eq (tgt := 46) hx hb dX2_readArguments_33 (by decide) (fun c_ => absurd c_ (by decide)) (fun c_ => ?_)
      refine lv_aload_n hx hb dX2_readArguments_36 rfl (lv_at hl 1 rfl) ?_
      refine g_getk (C := RX2) (T := TX2) (N := 16) hx hb hts (mc_ inX2) hown hK g rfl 0 (by decide) rfl (hts _ (List.mem_cons_of_mem _ t_416)) (fun _ h9 => h9) 3 rfl dX2_readArguments_37 ?_
      refine lv_bipush (v := 6) hx hb dX2_readArguments_40 (by decide) ?_
      refine lv_iload_n hx hb dX2_readArguments_42 rfl (lv_at hl 0 rfl) ?_
      have kb_6 : bd 6 6 (6 : Int32) := ⟨by decide, by decide⟩
      have go_ := g
      refine g_callv (va_runV (As := [.int 6, .int r_1]) (rest := []) ⟨hx, hb, hml, hown, hts⟩ (r_X8_fail_2 l dC dI L kd tys fr_1591 H.size g.2.2.2.1 q0_ mq0_ kq0_ 6 (bd_sub kb_6 (by decide)) r_1 x_10 h_11 (g.fcts [2] rfl)) (cwV 2 hts (gV_ t_1122 t_1107 t_1108 t_184 t_1109) rfl rfl rfl (by decide +kernel) ⟨(Nat.le_of_ble_eq_true rfl), (Nat.le_of_ble_eq_true rfl)⟩) (pre3V g hK mq0_ kq0_ (by decide) (q := (RX8, TX8, 10)) rfl) rfl rfl hl.1 rfl (lv_room (Nat.le_of_ble_eq_true rfl)) dX2_readArguments_43 ⟨(Nat.le_of_ble_eq_true rfl), (Nat.le_of_ble_eq_true rfl)⟩) g hK (by decide) (by decide) (fx' := [(2, 14, a0_, .int x_1514), (8, 8, q0_, .int x_10), (2, 0, a0_, .ref q0_), (2, 1, a0_, .ref q1_), (2, 2, a0_, .ref q2_), (2, 3, a0_, .ref q3_), (0, 0, q2_, .ref q0_), (0, 1, q2_, .ref q1_), (5, 0, q1_, .ref q3_), (5, 1, q1_, .ref q7_), (2, 12, a0_, .int y0_)]) rfl (fun fr_1597 H locs hp hMr_1597 g => ?_)
      have hF_1598 := hp
      have hG_1599 := cOK.frame hMr_1597 go_.2.2.2.1 mq3_ kq3_ (by decide) (by decide) hG_1593
      have hG_1600 := dOK.frame hMr_1597 go_.2.2.2.1 mq3_ kq3_ (by decide) (by decide) hG_1594
      have hG_1601 := jS.frame hMr_1597 go_.2.2.2.1 mq3_ kq3_ (by decide) (by decide) hG_1595
      have hG_1602 := eOK.frame hMr_1597 go_.2.2.2.1 mq2_ kq2_ (by decide) (by decide) hG_1596
      have g := g.more hF_1598
      refine lv_iconst (v := 0) hx hb dX2_readArguments_46 (by decide) ?_
      refine lv_istore_n (lv' := [(2, .int 0), (1, .int r_1), (0, .ref a0_)]) hx hb dX2_readArguments_47 rfl hl (by decide) rfl (fun ls hl => ?_)
      refine lv_aload_n hx hb dX2_readArguments_48 rfl (lv_at hl 2 rfl) ?_
      refine g_getk (C := RX2) (T := TX2) (N := 16) hx hb hts (mc_ inX2) hown hK g rfl 0 (by decide) rfl (hts _ (List.mem_cons_of_mem _ t_416)) (fun _ h9 => h9) 3 rfl dX2_readArguments_49 ?_
      have go_ := g
      refine g_calli (va_runV (As := []) (rest := []) ⟨hx, hb, hml, hown, hts⟩ (r_X8_kind_2 l dC dI L kd tys fr_1597 H.size g.2.2.2.1 q0_ mq0_ kq0_ 1201 kb_1201 (g.fcts [0] rfl)) (cwV 0 hts (gV_ t_1118 t_1119 t_1120 t_184 t_1121) rfl rfl rfl (by decide +kernel) ⟨(Nat.le_of_ble_eq_true rfl), (Nat.le_of_ble_eq_true rfl)⟩) (pre3V g hK mq0_ kq0_ (by decide) (q := (RX8, TX8, 10)) rfl) rfl rfl hl.1 rfl (lv_room (Nat.le_of_ble_eq_true rfl)) dX2_readArguments_52 ⟨(Nat.le_of_ble_eq_true rfl), (Nat.le_of_ble_eq_true rfl)⟩) g hK (by decide) (by decide) (fx' := [(8, 6, q0_, .int 1201), (2, 14, a0_, .int x_1514), (8, 8, q0_, .int x_10), (2, 0, a0_, .ref q0_), (2, 1, a0_, .ref q1_), (2, 2, a0_, .ref q2_), (2, 3, a0_, .ref q3_), (0, 0, q2_, .ref q0_), (0, 1, q2_, .ref q1_), (5, 0, q1_, .ref q3_), (5, 1, q1_, .ref q7_), (2, 12, a0_, .int y0_)]) rfl (fun r_1603 fr_1603 H locs hp hMr_1603 g => ?_)
      obtain ⟨h_1604, -⟩ := hp
      have hG_1605 := cOK.frame hMr_1603 go_.2.2.2.1 mq3_ kq3_ (by decide) (by decide) hG_1599
      have hG_1606 := dOK.frame hMr_1603 go_.2.2.2.1 mq3_ kq3_ (by decide) (by decide) hG_1600
      have hG_1607 := jS.frame hMr_1603 go_.2.2.2.1 mq3_ kq3_ (by decide) (by decide) hG_1601
      have hG_1608 := eOK.frame hMr_1603 go_.2.2.2.1 mq2_ kq2_ (by decide) (by decide) hG_1602
      obtain rfl : r_1603 = 0 := h_1604
      refine lv_bipush (v := 41) hx hb dX2_readArguments_55 (by decide) ?_
      refine lv_icmp_eq (tgt := 64) hx hb dX2_readArguments_57 (by decide) (fun c_ => absurd c_ (by decide)) (fun c_ => ?_)
      refine lv_iconst (v := 1) hx hb dX2_readArguments_60 (by decide) ?_
      refine lv_goto (tgt := 65) hx hb dX2_readArguments_61 (by decide) ?_
      refine lv_istore_n (lv' := [(3, .int 1), (2, .int 0), (1, .int r_1), (0, .ref a0_)]) hx hb dX2_readArguments_65 rfl hl (by decide) rfl (fun ls hl => ?_)
      refine lv_iconst (v := 0) hx hb dX2_readArguments_66 (by decide) ?_
      refine lv_istore (lv' := [(4, .int 0), (3, .int 1), (2, .int 0), (1, .int r_1), (0, .ref a0_)]) hx hb dX2_readArguments_67 hl (by decide) rfl (fun ls hl => ?_)
      refine lv_iload hx hb dX2_readArguments_69 (lv_at hl 0 rfl) ?_
      refine lv_iconst (v := 3) hx hb dX2_readArguments_71 (by decide) ?_
      refine lv_icmp_gt (tgt := 162) hx hb dX2_readArguments_72 (by decide) (fun c_ => absurd c_ (by decide)) (fun c_ => ?_)
      refine lv_iload_n hx hb dX2_readArguments_75 rfl (lv_at hl 1 rfl) ?_
      refine lv_if_eq (tgt := 162) hx hb dX2_readArguments_76 (by decide) (fun c_ => absurd c_ (by decide)) (fun c_ => ?_)
      refine lv_aload_n hx hb dX2_readArguments_79 rfl (lv_at hl 4 rfl) ?_
      refine g_getk (C := RX2) (T := TX2) (N := 16) hx hb hts (mc_ inX2) hown hK g rfl 0 (by decide) rfl (hts _ (List.mem_cons_of_mem _ t_416)) (fun _ h9 => h9) 3 rfl dX2_readArguments_80 ?_
      refine g_getk (C := RX8) (T := TX8) (N := 10) hx hb hts (mc_ inX8) hown hK g rfl 8 (by decide) rfl (hts _ (List.mem_cons_of_mem _ t_294)) (fun _ h9 => h9) 2 rfl dX2_readArguments_83 ?_
      refine lv_if_ne (tgt := 162) hx hb dX2_readArguments_86 (by decide) (fun c_1609 => ?_) (fun c_1609 => ?_)
      · have fc_1609 := neq_f c_1609
        refine lv_aload_n hx hb dX2_readArguments_162 rfl (lv_at hl 4 rfl) ?_
        refine g_getk (C := RX2) (T := TX2) (N := 16) hx hb hts (mc_ inX2) hown hK g rfl 0 (by decide) rfl (hts _ (List.mem_cons_of_mem _ t_416)) (fun _ h9 => h9) 3 rfl dX2_readArguments_163 ?_
        have go_ := g
        refine g_calli (va_runV (As := []) (rest := []) ⟨hx, hb, hml, hown, hts⟩ (r_X8_place l dC dI L kd tys fr_1603 H.size g.2.2.2.1 q0_ mq0_ kq0_) (cwV 0 hts (gV_ t_1110 t_1111 t_1112 t_184 t_1113) rfl rfl rfl (by decide +kernel) ⟨(Nat.le_of_ble_eq_true rfl), (Nat.le_of_ble_eq_true rfl)⟩) (pre3V g hK mq0_ kq0_ (by decide) (q := (RX8, TX8, 10)) rfl) rfl rfl hl.1 rfl (lv_room (Nat.le_of_ble_eq_true rfl)) dX2_readArguments_166 ⟨(Nat.le_of_ble_eq_true rfl), (Nat.le_of_ble_eq_true rfl)⟩) g hK (by decide) (by decide) (fx' := [(8, 6, q0_, .int 1201), (2, 14, a0_, .int x_1514), (8, 8, q0_, .int x_10), (2, 0, a0_, .ref q0_), (2, 1, a0_, .ref q1_), (2, 2, a0_, .ref q2_), (2, 3, a0_, .ref q3_), (0, 0, q2_, .ref q0_), (0, 1, q2_, .ref q1_), (5, 0, q1_, .ref q3_), (5, 1, q1_, .ref q7_), (2, 12, a0_, .int y0_)]) rfl (fun r_1610 fr_1610 H locs hp hMr_1610 g => ?_)
        have hG_1611 := cOK.frame hMr_1610 go_.2.2.2.1 mq3_ kq3_ (by decide) (by decide) hG_1605
        have hG_1612 := dOK.frame hMr_1610 go_.2.2.2.1 mq3_ kq3_ (by decide) (by decide) hG_1606
        have hG_1613 := jS.frame hMr_1610 go_.2.2.2.1 mq3_ kq3_ (by decide) (by decide) hG_1607
        have hG_1614 := eOK.frame hMr_1610 go_.2.2.2.1 mq2_ kq2_ (by decide) (by decide) hG_1608
        refine lv_istore (lv' := [(4, .int r_1610), (3, .int 1), (2, .int 0), (1, .int r_1), (0, .ref a0_)]) hx hb dX2_readArguments_169 hl (by decide) rfl (fun ls hl => ?_)
        refine lv_aload_n hx hb dX2_readArguments_171 rfl (lv_at hl 4 rfl) ?_
        refine g_getk (C := RX2) (T := TX2) (N := 16) hx hb hts (mc_ inX2) hown hK g rfl 0 (by decide) rfl (hts _ (List.mem_cons_of_mem _ t_416)) (fun _ h9 => h9) 3 rfl dX2_readArguments_172 ?_
        refine lv_bipush (v := 41) hx hb dX2_readArguments_175 (by decide) ?_
        have go_ := g
        refine g_callv (va_runV (As := [.int 41]) (rest := []) ⟨hx, hb, hml, hown, hts⟩ (r_X8_take_2 l dC dI L kd tys fr_1610 H.size g.2.2.2.1 q0_ mq0_ kq0_ 41 1201 kb_1201 x_10 h_11 (g.fcts [0, 2] rfl)) (cwV 1 hts (gV_ t_1098 t_1099 t_1100 t_184 t_1101) rfl rfl rfl (by decide +kernel) ⟨(Nat.le_of_ble_eq_true rfl), (Nat.le_of_ble_eq_true rfl)⟩) (pre3V g hK mq0_ kq0_ (by decide) (q := (RX8, TX8, 10)) rfl) rfl rfl hl.1 rfl (lv_room (Nat.le_of_ble_eq_true rfl)) dX2_readArguments_177 ⟨(Nat.le_of_ble_eq_true rfl), (Nat.le_of_ble_eq_true rfl)⟩) g hK (by decide) (by decide) (fx' := [(2, 14, a0_, .int x_1514), (8, 8, q0_, .int x_10), (2, 0, a0_, .ref q0_), (2, 1, a0_, .ref q1_), (2, 2, a0_, .ref q2_), (2, 3, a0_, .ref q3_), (0, 0, q2_, .ref q0_), (0, 1, q2_, .ref q1_), (5, 0, q1_, .ref q3_), (5, 1, q1_, .ref q7_), (2, 12, a0_, .int y0_)]) rfl (fun fr_1615 H locs hp hMr_1615 g => ?_)
        obtain ⟨x_1616, h_1617, hF_1618⟩ := hp
        have hG_1619 := cOK.frame hMr_1615 go_.2.2.2.1 mq3_ kq3_ (by decide) (by decide) hG_1611
        have hG_1620 := dOK.frame hMr_1615 go_.2.2.2.1 mq3_ kq3_ (by decide) (by decide) hG_1612
        have hG_1621 := jS.frame hMr_1615 go_.2.2.2.1 mq3_ kq3_ (by decide) (by decide) hG_1613
        have hG_1622 := eOK.frame hMr_1615 go_.2.2.2.1 mq2_ kq2_ (by decide) (by decide) hG_1614
        have g := g.more hF_1618
        refine lv_iload_n hx hb dX2_readArguments_180 rfl (lv_at hl 2 rfl) ?_
        refine lv_aload_n hx hb dX2_readArguments_181 rfl (lv_at hl 4 rfl) ?_
        refine g_getk (C := RX2) (T := TX2) (N := 16) hx hb hts (mc_ inX2) hown hK g rfl 14 (by decide) rfl (hts _ (List.mem_cons_of_mem _ t_430)) (fun _ h9 => h9) 1 rfl dX2_readArguments_182 ?_
        refine lv_icmp_ge (tgt := 199) hx hb dX2_readArguments_185 (by decide) (fun c_1623 => ?_) (fun c_1623 => ?_)
        · have fc_1623 := le_f c_1623
          refine lv_aload_n hx hb dX2_readArguments_199 rfl (lv_at hl 4 rfl) ?_
          refine g_getk (C := RX2) (T := TX2) (N := 16) hx hb hts (mc_ inX2) hown hK g rfl 3 (by decide) rfl (hts _ (List.mem_cons_of_mem _ t_419)) (fun _ h9 => h9) 6 rfl dX2_readArguments_200 ?_
          refine lv_aload_n hx hb dX2_readArguments_203 rfl (lv_at hl 4 rfl) ?_
          refine g_getk (C := RX2) (T := TX2) (N := 16) hx hb hts (mc_ inX2) hown hK g rfl 12 (by decide) rfl (hts _ (List.mem_cons_of_mem _ t_428)) (fun _ h9 => h9) 11 rfl dX2_readArguments_204 ?_
          refine lv_aload_n hx hb dX2_readArguments_207 rfl (lv_at hl 4 rfl) ?_
          refine g_geti (C := RX2) (T := TX2) (N := 16) hx hb hts (mc_ inX2) hown hK g ma0_ ka0_ (by decide) rfl 13 (by decide) rfl (hts _ (List.mem_cons_of_mem _ t_429)) (fun _ h9 => h9) rfl dX2_readArguments_208 (fun x_1624 bx_1624 g => ?_)
          obtain ⟨a_1625, ma_1625, ka_1625, g⟩ := g_factr g mq3_ kq3_ (by decide) 4 rfl
          obtain ⟨a_1626, ma_1626, ka_1626, g⟩ := g_factr g mq3_ kq3_ (by decide) 5 rfl
          obtain ⟨x_1627, bx_1627, g⟩ := g_facti g mq3_ kq3_ (by decide) 6 rfl
          have go_ := g
          refine g_callv (va_runV (As := [.int y0_, .int x_1624]) (rest := []) ⟨hx, hb, hml, hown, hts⟩ (r_X7_emitF l dC dI L kd tys fr_1615 H.size g.2.2.2.1 q3_ mq3_ kq3_ a_1625 ma_1625 ka_1625 a_1626 ma_1626 ka_1626 x_1627 bx_1627 T_ hG_1620 y0_ x_1624 (g.fcts [2, 1, 0] rfl)) (cwV 2 hts (gV_ t_1301 t_1204 t_1205 t_191 t_1206) rfl rfl rfl (by decide +kernel) ⟨(Nat.le_of_ble_eq_true rfl), (Nat.le_of_ble_eq_true rfl)⟩) (pre3V g hK mq3_ kq3_ (by decide) (q := (RX7, TX7, 19)) rfl) rfl rfl hl.1 rfl (lv_room (Nat.le_of_ble_eq_true rfl)) dX2_readArguments_211 ⟨(Nat.le_of_ble_eq_true rfl), (Nat.le_of_ble_eq_true rfl)⟩) g hK (by decide) (by decide) (fx' := [(7, 5, q3_, .ref a_1626), (7, 4, q3_, .ref a_1625), (2, 13, a0_, .int x_1624), (8, 6, q0_, .int x_1616), (2, 14, a0_, .int x_1514), (8, 8, q0_, .int x_10), (2, 0, a0_, .ref q0_), (2, 1, a0_, .ref q1_), (2, 2, a0_, .ref q2_), (2, 3, a0_, .ref q3_), (0, 0, q2_, .ref q0_), (0, 1, q2_, .ref q1_), (5, 0, q1_, .ref q3_), (5, 1, q1_, .ref q7_), (2, 12, a0_, .int y0_)]) rfl (fun fr_1628 H locs hp hMr_1628 g => ?_)
          obtain ⟨hG_1629, x_1630, h_1631, hF_1632⟩ := hp
          have hG_1633 := eOK.frame hMr_1628 go_.2.2.2.1 mq2_ kq2_ (by decide) (by decide) hG_1622
          have g := g.more hF_1632
          refine lv_aload_n hx hb dX2_readArguments_214 rfl (lv_at hl 4 rfl) ?_
          refine g_getk (C := RX2) (T := TX2) (N := 16) hx hb hts (mc_ inX2) hown hK g rfl 3 (by decide) rfl (hts _ (List.mem_cons_of_mem _ t_419)) (fun _ h9 => h9) 10 rfl dX2_readArguments_215 ?_
          refine lv_bipush (v := 22) hx hb dX2_readArguments_218 (by decide) ?_
          refine lv_iconst (v := 0) hx hb dX2_readArguments_220 (by decide) ?_
          have go_ := g
          refine g_callv (va_runV (As := [.int 22, .int 0]) (rest := []) ⟨hx, hb, hml, hown, hts⟩ (r_X7_emitF l dC dI L kd tys fr_1628 H.size g.2.2.2.1 q3_ mq3_ kq3_ a_1625 ma_1625 ka_1625 a_1626 ma_1626 ka_1626 x_1630 h_1631 T_ hG_1629 (22 : Int32) (0 : Int32) (g.fcts [2, 1, 0] rfl)) (cwV 2 hts (gV_ t_1301 t_1204 t_1205 t_191 t_1206) rfl rfl rfl (by decide +kernel) ⟨(Nat.le_of_ble_eq_true rfl), (Nat.le_of_ble_eq_true rfl)⟩) (pre3V g hK mq3_ kq3_ (by decide) (q := (RX7, TX7, 19)) rfl) rfl rfl hl.1 rfl (lv_room (Nat.le_of_ble_eq_true rfl)) dX2_readArguments_221 ⟨(Nat.le_of_ble_eq_true rfl), (Nat.le_of_ble_eq_true rfl)⟩) g hK (by decide) (by decide) (fx' := [(7, 5, q3_, .ref a_1626), (7, 4, q3_, .ref a_1625), (2, 13, a0_, .int x_1624), (8, 6, q0_, .int x_1616), (2, 14, a0_, .int x_1514), (8, 8, q0_, .int x_10), (2, 0, a0_, .ref q0_), (2, 1, a0_, .ref q1_), (2, 2, a0_, .ref q2_), (2, 3, a0_, .ref q3_), (0, 0, q2_, .ref q0_), (0, 1, q2_, .ref q1_), (5, 0, q1_, .ref q3_), (5, 1, q1_, .ref q7_), (2, 12, a0_, .int y0_)]) rfl (fun fr_1634 H locs hp hMr_1634 g => ?_)
          obtain ⟨hG_1635, x_1636, h_1637, hF_1638⟩ := hp
          have hG_1639 := eOK.frame hMr_1634 go_.2.2.2.1 mq2_ kq2_ (by decide) (by decide) hG_1633
          have g := g.more hF_1638
          refine lv_aload_n hx hb dX2_readArguments_224 rfl (lv_at hl 4 rfl) ?_
          refine g_getk (C := RX2) (T := TX2) (N := 16) hx hb hts (mc_ inX2) hown hK g rfl 0 (by decide) rfl (hts _ (List.mem_cons_of_mem _ t_416)) (fun _ h9 => h9) 7 rfl dX2_readArguments_225 ?_
          refine lv_bipush (v := 59) hx hb dX2_readArguments_228 (by decide) ?_
          have go_ := g
          refine g_callv (va_runV (As := [.int 59]) (rest := []) ⟨hx, hb, hml, hown, hts⟩ (r_X8_take_2 l dC dI L kd tys fr_1634 H.size g.2.2.2.1 q0_ mq0_ kq0_ 59 x_1616 h_1617 x_10 h_11 (g.fcts [4, 6] rfl)) (cwV 1 hts (gV_ t_1098 t_1099 t_1100 t_184 t_1101) rfl rfl rfl (by decide +kernel) ⟨(Nat.le_of_ble_eq_true rfl), (Nat.le_of_ble_eq_true rfl)⟩) (pre3V g hK mq0_ kq0_ (by decide) (q := (RX8, TX8, 10)) rfl) rfl rfl hl.1 rfl (lv_room (Nat.le_of_ble_eq_true rfl)) dX2_readArguments_230 ⟨(Nat.le_of_ble_eq_true rfl), (Nat.le_of_ble_eq_true rfl)⟩) g hK (by decide) (by decide) (fx' := [(7, 6, q3_, .int x_1636), (7, 5, q3_, .ref a_1626), (7, 4, q3_, .ref a_1625), (2, 13, a0_, .int x_1624), (2, 14, a0_, .int x_1514), (8, 8, q0_, .int x_10), (2, 0, a0_, .ref q0_), (2, 1, a0_, .ref q1_), (2, 2, a0_, .ref q2_), (2, 3, a0_, .ref q3_), (0, 0, q2_, .ref q0_), (0, 1, q2_, .ref q1_), (5, 0, q1_, .ref q3_), (5, 1, q1_, .ref q7_), (2, 12, a0_, .int y0_)]) rfl (fun fr_1640 H locs hp hMr_1640 g => ?_)
          obtain ⟨x_1641, h_1642, hF_1643⟩ := hp
          have hG_1644 := dOK.frame hMr_1640 go_.2.2.2.1 mq3_ kq3_ (by decide) (by decide) hG_1635
          have hG_1645 := eOK.frame hMr_1640 go_.2.2.2.1 mq2_ kq2_ (by decide) (by decide) hG_1639
          have g := g.more hF_1643
          subst hQ
          exact W.vret hx hb hr (fun t ht hW => ⟨⟨_, rfl, Or.inr (⟨hG_1644, hG_1645, x_1641, h_1642, x_10, h_11, (g.fcts [0, 6] rfl)⟩), q3_of g hK ht hW⟩, g.2.2.1.F ht⟩) g.2.2.1.2.2 dX2_readArguments_233
        · have fc_1623 := nle_f c_1623
          have b_1646 : bd 0 (-1) (0 : Int32) := ltL fc_1623 kb_0 b_1590 (by decide)
          exact bd_no (eqX rfl b_1646 kb_0 (lo := 0) (hi := (-1)) (by decide)) (by decide)
      · have fc_1609 := eq_f c_1609
        have b_1647 : bd 1 0 x_10 := eqX fc_1609 h_11 kb_0 (by decide)
        exact bd_no b_1647 (by decide)
