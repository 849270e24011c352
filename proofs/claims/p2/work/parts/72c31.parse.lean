set_option maxHeartbeats 4000000 in
set_option maxRecDepth 100000 in
theorem r_X2_readArguments_2 (l : Launch) (dC : Nat → ClassId) (dI : Nat → Nat → Nat) (L : List Nat) (kd : Nat → Nat) (tys : List (ClassId × FieldType)) (f0 : Nat → va_E) (sz : Nat) (hWT : WT L kd tys f0) (a0_ : Nat) (ma0_ : a0_ ∈ L) (ka0_ : kd a0_ = 2) (q0_ : Nat) (mq0_ : q0_ ∈ L) (kq0_ : kd q0_ = 8) (q1_ : Nat) (mq1_ : q1_ ∈ L) (kq1_ : kd q1_ = 5) (q2_ : Nat) (mq2_ : q2_ ∈ L) (kq2_ : kd q2_ = 0) (q3_ : Nat) (mq3_ : q3_ ∈ L) (kq3_ : kd q3_ = 7) (q7_ : Nat) (mq7_ : q7_ ∈ L) (kq7_ : kd q7_ = 9) (y0_ : Int32) (by0_ : bd 0 0 y0_) (T_ : Nat) (J_ : Int32 → Prop) (hGcq3_ : cOK f0 q3_) (hGdq3_ : dOK L kd f0 q3_ T_) (hGsq3_ : jS f0 q3_ J_) (hGeq2_ : eOK f0 q2_) (hfx : Fs L kd f0 [(2, 0, a0_, .ref q0_), (2, 1, a0_, .ref q1_), (2, 2, a0_, .ref q2_), (2, 3, a0_, .ref q3_), (0, 0, q2_, .ref q0_), (0, 1, q2_, .ref q1_), (5, 0, q1_, .ref q3_), (5, 1, q1_, .ref q7_), (8, 8, q0_, .int y0_)]) : Met l yX2_readArguments (.code yX2_readArguments cX2_readArguments 6 none :: lw_g) ({ frames := 4, cells := 0, slots := 0, locals := 97 }) (va_Pc [.ref a0_] (P3 (dC, dI) L tys f0 sz)) (va_Qv (fun (f : Nat → va_E) => (cOK f q3_ ∧ dOK L kd f q3_ T_ ∧ jS f q3_ J_ ∧ eOK f q2_ ∧ ∃ z0_ : Int32, bd 1 1201 z0_ ∧ Fs L kd f [(8, 6, q0_, .int z0_), (8, 8, q0_, .int y0_)]) ∨ (dOK L kd f q3_ T_ ∧ eOK f q2_ ∧ ∃ z0_ : Int32, bd 1201 1201 z0_ ∧ ∃ z1_ : Int32, bd 1 7 z1_ ∧ Fs L kd f [(8, 6, q0_, .int z0_), (8, 8, q0_, .int z1_)])) (Q3 (dC, dI) L kd tys [(0, 2), (0, 8), (0, 10), (0, 11), (0, 12), (0, 13), (7, 6), (7, 18), (8, 6), (8, 8), (8, 9)] [110, 111, 112, 113, 114, 115, 138, 139] f0 sz) (pA L sz)) 0 0 (pA L sz) := by
  refine Met.ofW (cc := cX2_readArguments) (maxL := 6) (ret := none) (by decide) rfl ?_
  intro p e s m args below meth c s₁ B hml hv
  obtain ⟨rfl, hsz, hP, hK, hD0⟩ := hv
  have hx := B.exec
  have hb := B.bytes
  have hr := B.returns
  have hts := atoms_spec (ws := (.code yX2_readArguments cX2_readArguments 6 none :: lw_g)) B.pre
  have hown : s.vm.findClass RX2 = some m.cls := findClass_of_methodNamed B.named
  have hlocks := B.notSynchronized
  subst hsz
  have g : G3 (dC, dI) L kd tys s f0 [(0, 2), (0, 8), (0, 10), (0, 11), (0, 12), (0, 13), (7, 6), (7, 18), (8, 6), (8, 8), (8, 9)] [110, 111, 112, 113, 114, 115, 138, 139] f0 s.heap [] [(2, 0, a0_, .ref q0_), (2, 1, a0_, .ref q1_), (2, 2, a0_, .ref q2_), (2, 3, a0_, .ref q3_), (0, 0, q2_, .ref q0_), (0, 1, q2_, .ref q1_), (5, 0, q1_, .ref q3_), (5, 1, q1_, .ref q7_), (8, 8, q0_, .int y0_)] := G3.start hP hD0 hWT hfx
  have hl := lv_entry ([.ref a0_]) (n := 6) (Nat.le_of_ble_eq_true rfl)
  rw [lg_entry_eq]
  generalize (lg_sl ([.ref a0_]) ++ List.replicate (6 - (lg_sl ([.ref a0_])).length) Slot.unset).toArray = ls at hl ⊢
  have hl : lv_has ls 6 [(0, .ref a0_)] := hl
  refine W_q (fun Q hQ => ?_)
  refine lv_aload_n hx hb dX2_readArguments_0 rfl (lv_at hl 0 rfl) ?_
  refine g_getk (C := RX2) (T := TX2) (N := 16) hx hb hts (mc_ inX2) hown hK g rfl 0 (by decide) rfl (hts _ (List.mem_cons_of_mem _ t_416)) (fun _ h9 => h9) 0 rfl dX2_readArguments_1 ?_
  have go_ := g
  refine g_calli (va_runV (As := []) (rest := []) ⟨hx, hb, hml, hown, hts⟩ (r_X8_place l dC dI L kd tys f0 s.heap.size g.2.2.2.1 q0_ mq0_ kq0_) (cwV 0 hts (gV_ t_1110 t_1111 t_1112 t_184 t_1113) rfl rfl rfl (by decide +kernel) ⟨(Nat.le_of_ble_eq_true rfl), (Nat.le_of_ble_eq_true rfl)⟩) (pre3V g hK mq0_ kq0_ (by decide) (q := (RX8, TX8, 10)) rfl) rfl rfl hl.1 rfl (lv_room (Nat.le_of_ble_eq_true rfl)) dX2_readArguments_4 ⟨(Nat.le_of_ble_eq_true rfl), (Nat.le_of_ble_eq_true rfl)⟩) g hK (by decide) (by decide) (fx' := [(2, 0, a0_, .ref q0_), (2, 1, a0_, .ref q1_), (2, 2, a0_, .ref q2_), (2, 3, a0_, .ref q3_), (0, 0, q2_, .ref q0_), (0, 1, q2_, .ref q1_), (5, 0, q1_, .ref q3_), (5, 1, q1_, .ref q7_), (8, 8, q0_, .int y0_)]) rfl (fun r_1 fr_1 H locs hp hMr_1 g => ?_)
  have hG_2 := cOK.frame hMr_1 go_.2.2.2.1 mq3_ kq3_ (by decide) (by decide) hGcq3_
  have hG_3 := dOK.frame hMr_1 go_.2.2.2.1 mq3_ kq3_ (by decide) (by decide) hGdq3_
  have hG_4 := jS.frame hMr_1 go_.2.2.2.1 mq3_ kq3_ (by decide) (by decide) hGsq3_
  have hG_5 := eOK.frame hMr_1 go_.2.2.2.1 mq2_ kq2_ (by decide) (by decide) hGeq2_
  refine lv_istore_n (lv' := [(1, .int r_1), (0, .ref a0_)]) hx hb dX2_readArguments_7 rfl hl (by decide) rfl (fun ls hl => ?_)
  refine lv_aload_n hx hb dX2_readArguments_8 rfl (lv_at hl 1 rfl) ?_
  refine g_getk (C := RX2) (T := TX2) (N := 16) hx hb hts (mc_ inX2) hown hK g rfl 0 (by decide) rfl (hts _ (List.mem_cons_of_mem _ t_416)) (fun _ h9 => h9) 0 rfl dX2_readArguments_9 ?_
  refine lv_bipush (v := 40) hx hb dX2_readArguments_12 (by decide) ?_
  have go_ := g
  refine g_callv (va_runV (As := [.int 40]) (rest := []) ⟨hx, hb, hml, hown, hts⟩ (r_X8_take l dC dI L kd tys fr_1 H.size g.2.2.2.1 q0_ mq0_ kq0_ 40 y0_ by0_ (g.fcts [8] rfl)) (cwV 1 hts (gV_ t_1098 t_1099 t_1100 t_184 t_1101) rfl rfl rfl (by decide +kernel) ⟨(Nat.le_of_ble_eq_true rfl), (Nat.le_of_ble_eq_true rfl)⟩) (pre3V g hK mq0_ kq0_ (by decide) (q := (RX8, TX8, 10)) rfl) rfl rfl hl.1 rfl (lv_room (Nat.le_of_ble_eq_true rfl)) dX2_readArguments_14 ⟨(Nat.le_of_ble_eq_true rfl), (Nat.le_of_ble_eq_true rfl)⟩) g hK (by decide) (by decide) (fx' := [(2, 0, a0_, .ref q0_), (2, 1, a0_, .ref q1_), (2, 2, a0_, .ref q2_), (2, 3, a0_, .ref q3_), (0, 0, q2_, .ref q0_), (0, 1, q2_, .ref q1_), (5, 0, q1_, .ref q3_), (5, 1, q1_, .ref q7_)]) rfl (fun fr_6 H locs hp hMr_6 g => ?_)
  rcases hp with ⟨x_7, h_8, hF_9⟩ | ⟨x_10, h_11, hF_12⟩
  · have hG_13 := cOK.frame hMr_6 go_.2.2.2.1 mq3_ kq3_ (by decide) (by decide) hG_2
    have hG_14 := dOK.frame hMr_6 go_.2.2.2.1 mq3_ kq3_ (by decide) (by decide) hG_3
    have hG_15 := jS.frame hMr_6 go_.2.2.2.1 mq3_ kq3_ (by decide) (by decide) hG_4
    have hG_16 := eOK.frame hMr_6 go_.2.2.2.1 mq2_ kq2_ (by decide) (by decide) hG_5
    have g := g.more hF_9
    refine lv_aload_n hx hb dX2_readArguments_17 rfl (lv_at hl 1 rfl) ?_
    refine g_geti (C := RX2) (T := TX2) (N := 16) hx hb hts (mc_ inX2) hown hK g ma0_ ka0_ (by decide) rfl 14 (by decide) rfl (hts _ (List.mem_cons_of_mem _ t_430)) (fun _ h9 => h9) rfl dX2_readArguments_18 (fun x_17 bx_17 g => ?_)
    have kb_0 : bd 0 0 (0 : Int32) := ⟨by decide, by decide⟩
    refine lv_if_ne (tgt := 46) hx hb dX2_readArguments_21 (by decide) (fun c_18 => ?_) (fun c_18 => ?_)
    · have fc_18 := neq_f c_18
      refine lv_iconst (v := 0) hx hb dX2_readArguments_46 (by decide) ?_
      refine lv_istore_n (lv' := [(2, .int 0), (1, .int r_1), (0, .ref a0_)]) hx hb dX2_readArguments_47 rfl hl (by decide) rfl (fun ls hl => ?_)
      refine lv_aload_n hx hb dX2_readArguments_48 rfl (lv_at hl 2 rfl) ?_
      refine g_getk (C := RX2) (T := TX2) (N := 16) hx hb hts (mc_ inX2) hown hK g rfl 0 (by decide) rfl (hts _ (List.mem_cons_of_mem _ t_416)) (fun _ h9 => h9) 3 rfl dX2_readArguments_49 ?_
      have go_ := g
      refine g_calli (va_runV (As := []) (rest := []) ⟨hx, hb, hml, hown, hts⟩ (r_X8_kind l dC dI L kd tys fr_6 H.size g.2.2.2.1 q0_ mq0_ kq0_) (cwV 0 hts (gV_ t_1118 t_1119 t_1120 t_184 t_1121) rfl rfl rfl (by decide +kernel) ⟨(Nat.le_of_ble_eq_true rfl), (Nat.le_of_ble_eq_true rfl)⟩) (pre3V g hK mq0_ kq0_ (by decide) (q := (RX8, TX8, 10)) rfl) rfl rfl hl.1 rfl (lv_room (Nat.le_of_ble_eq_true rfl)) dX2_readArguments_52 ⟨(Nat.le_of_ble_eq_true rfl), (Nat.le_of_ble_eq_true rfl)⟩) g hK (by decide) (by decide) (fx' := [(2, 14, a0_, .int x_17), (8, 6, q0_, .int x_7), (8, 8, q0_, .int y0_), (2, 0, a0_, .ref q0_), (2, 1, a0_, .ref q1_), (2, 2, a0_, .ref q2_), (2, 3, a0_, .ref q3_), (0, 0, q2_, .ref q0_), (0, 1, q2_, .ref q1_), (5, 0, q1_, .ref q3_), (5, 1, q1_, .ref q7_)]) rfl (fun r_19 fr_19 H locs hp hMr_19 g => ?_)
      have hG_20 := cOK.frame hMr_19 go_.2.2.2.1 mq3_ kq3_ (by decide) (by decide) hG_13
      have hG_21 := dOK.frame hMr_19 go_.2.2.2.1 mq3_ kq3_ (by decide) (by decide) hG_14
      have hG_22 := jS.frame hMr_19 go_.2.2.2.1 mq3_ kq3_ (by decide) (by decide) hG_15
      have hG_23 := eOK.frame hMr_19 go_.2.2.2.1 mq2_ kq2_ (by decide) (by decide) hG_16
      refine lv_bipush (v := 41) hx hb dX2_readArguments_55 (by decide) ?_
      have kb_41 : bd 41 41 (41 : Int32) := ⟨by decide, by decide⟩
      refine lv_icmp_eq (tgt := 64) hx hb dX2_readArguments_57 (by decide) (fun c_24 => ?_) (fun c_24 => ?_)
      · have fc_24 := eq_f c_24
        have b_25 : bd 41 41 r_19 := eqX fc_24 (bdT r_19) kb_41 (by decide)
        refine lv_iconst (v := 0) hx hb dX2_readArguments_64 (by decide) ?_
        refine lv_istore_n (lv' := [(3, .int 0), (2, .int 0), (1, .int r_1), (0, .ref a0_)]) hx hb dX2_readArguments_65 rfl hl (by decide) rfl (fun ls hl => ?_)
        refine lv_iconst (v := 0) hx hb dX2_readArguments_66 (by decide) ?_
        refine lv_istore (lv' := [(4, .int 0), (3, .int 0), (2, .int 0), (1, .int r_1), (0, .ref a0_)]) hx hb dX2_readArguments_67 hl (by decide) rfl (fun ls hl => ?_)
        refine lv_iload hx hb dX2_readArguments_69 (lv_at hl 0 rfl) ?_
        refine lv_iconst (v := 3) hx hb dX2_readArguments_71 (by decide) ?_
        refine lv_icmp_gt (tgt := 162) hx hb dX2_readArguments_72 (by decide) (fun c_ => absurd c_ (by decide)) (fun c_ => ?_)
        refine lv_iload_n hx hb dX2_readArguments_75 rfl (lv_at hl 1 rfl) ?_
        refine lv_if_eq (tgt := 162) hx hb dX2_readArguments_76 (by decide) (fun c_ => ?_) (fun c_ => absurd (by decide) c_)
        refine lv_aload_n hx hb dX2_readArguments_162 rfl (lv_at hl 4 rfl) ?_
        refine g_getk (C := RX2) (T := TX2) (N := 16) hx hb hts (mc_ inX2) hown hK g rfl 0 (by decide) rfl (hts _ (List.mem_cons_of_mem _ t_416)) (fun _ h9 => h9) 3 rfl dX2_readArguments_163 ?_
        have go_ := g
        refine g_calli (va_runV (As := []) (rest := []) ⟨hx, hb, hml, hown, hts⟩ (r_X8_place l dC dI L kd tys fr_19 H.size g.2.2.2.1 q0_ mq0_ kq0_) (cwV 0 hts (gV_ t_1110 t_1111 t_1112 t_184 t_1113) rfl rfl rfl (by decide +kernel) ⟨(Nat.le_of_ble_eq_true rfl), (Nat.le_of_ble_eq_true rfl)⟩) (pre3V g hK mq0_ kq0_ (by decide) (q := (RX8, TX8, 10)) rfl) rfl rfl hl.1 rfl (lv_room (Nat.le_of_ble_eq_true rfl)) dX2_readArguments_166 ⟨(Nat.le_of_ble_eq_true rfl), (Nat.le_of_ble_eq_true rfl)⟩) g hK (by decide) (by decide) (fx' := [(2, 14, a0_, .int x_17), (8, 6, q0_, .int x_7), (8, 8, q0_, .int y0_), (2, 0, a0_, .ref q0_), (2, 1, a0_, .ref q1_), (2, 2, a0_, .ref q2_), (2, 3, a0_, .ref q3_), (0, 0, q2_, .ref q0_), (0, 1, q2_, .ref q1_), (5, 0, q1_, .ref q3_), (5, 1, q1_, .ref q7_)]) rfl (fun r_26 fr_26 H locs hp hMr_26 g => ?_)
        have hG_27 := cOK.frame hMr_26 go_.2.2.2.1 mq3_ kq3_ (by decide) (by decide) hG_20
        have hG_28 := dOK.frame hMr_26 go_.2.2.2.1 mq3_ kq3_ (by decide) (by decide) hG_21
        have hG_29 := jS.frame hMr_26 go_.2.2.2.1 mq3_ kq3_ (by decide) (by decide) hG_22
        have hG_30 := eOK.frame hMr_26 go_.2.2.2.1 mq2_ kq2_ (by decide) (by decide) hG_23
        refine lv_istore (lv' := [(4, .int r_26), (3, .int 0), (2, .int 0), (1, .int r_1), (0, .ref a0_)]) hx hb dX2_readArguments_169 hl (by decide) rfl (fun ls hl => ?_)
        refine lv_aload_n hx hb dX2_readArguments_171 rfl (lv_at hl 4 rfl) ?_
        refine g_getk (C := RX2) (T := TX2) (N := 16) hx hb hts (mc_ inX2) hown hK g rfl 0 (by decide) rfl (hts _ (List.mem_cons_of_mem _ t_416)) (fun _ h9 => h9) 3 rfl dX2_readArguments_172 ?_
        refine lv_bipush (v := 41) hx hb dX2_readArguments_175 (by decide) ?_
        have go_ := g
        refine g_callv (va_runV (As := [.int 41]) (rest := []) ⟨hx, hb, hml, hown, hts⟩ (r_X8_take l dC dI L kd tys fr_26 H.size g.2.2.2.1 q0_ mq0_ kq0_ 41 y0_ by0_ (g.fcts [2] rfl)) (cwV 1 hts (gV_ t_1098 t_1099 t_1100 t_184 t_1101) rfl rfl rfl (by decide +kernel) ⟨(Nat.le_of_ble_eq_true rfl), (Nat.le_of_ble_eq_true rfl)⟩) (pre3V g hK mq0_ kq0_ (by decide) (q := (RX8, TX8, 10)) rfl) rfl rfl hl.1 rfl (lv_room (Nat.le_of_ble_eq_true rfl)) dX2_readArguments_177 ⟨(Nat.le_of_ble_eq_true rfl), (Nat.le_of_ble_eq_true rfl)⟩) g hK (by decide) (by decide) (fx' := [(2, 14, a0_, .int x_17), (2, 0, a0_, .ref q0_), (2, 1, a0_, .ref q1_), (2, 2, a0_, .ref q2_), (2, 3, a0_, .ref q3_), (0, 0, q2_, .ref q0_), (0, 1, q2_, .ref q1_), (5, 0, q1_, .ref q3_), (5, 1, q1_, .ref q7_)]) rfl (fun fr_31 H locs hp hMr_31 g => ?_)
        rcases hp with ⟨x_32, h_33, hF_34⟩ | ⟨x_35, h_36, hF_37⟩
        · have hG_38 := cOK.frame hMr_31 go_.2.2.2.1 mq3_ kq3_ (by decide) (by decide) hG_27
          have hG_39 := dOK.frame hMr_31 go_.2.2.2.1 mq3_ kq3_ (by decide) (by decide) hG_28
          have hG_40 := jS.frame hMr_31 go_.2.2.2.1 mq3_ kq3_ (by decide) (by decide) hG_29
          have hG_41 := eOK.frame hMr_31 go_.2.2.2.1 mq2_ kq2_ (by decide) (by decide) hG_30
          have g := g.more hF_34
          refine lv_iload_n hx hb dX2_readArguments_180 rfl (lv_at hl 2 rfl) ?_
          refine lv_aload_n hx hb dX2_readArguments_181 rfl (lv_at hl 4 rfl) ?_
          refine g_getk (C := RX2) (T := TX2) (N := 16) hx hb hts (mc_ inX2) hown hK g rfl 14 (by decide) rfl (hts _ (List.mem_cons_of_mem _ t_430)) (fun _ h9 => h9) 2 rfl dX2_readArguments_182 ?_
          refine lv_icmp_ge (tgt := 199) hx hb dX2_readArguments_185 (by decide) (fun c_42 => ?_) (fun c_42 => ?_)
          · have fc_42 := le_f c_42
            have b_43 : bd (-2147483648) 0 x_17 := leL fc_42 (bdT x_17) kb_0 (by decide)
            refine lv_aload_n hx hb dX2_readArguments_199 rfl (lv_at hl 4 rfl) ?_
            refine g_getk (C := RX2) (T := TX2) (N := 16) hx hb hts (mc_ inX2) hown hK g rfl 3 (by decide) rfl (hts _ (List.mem_cons_of_mem _ t_419)) (fun _ h9 => h9) 6 rfl dX2_readArguments_200 ?_
            refine lv_aload_n hx hb dX2_readArguments_203 rfl (lv_at hl 4 rfl) ?_
            refine g_geti (C := RX2) (T := TX2) (N := 16) hx hb hts (mc_ inX2) hown hK g ma0_ ka0_ (by decide) rfl 12 (by decide) rfl (hts _ (List.mem_cons_of_mem _ t_428)) (fun _ h9 => h9) rfl dX2_readArguments_204 (fun x_44 bx_44 g => ?_)
            refine lv_aload_n hx hb dX2_readArguments_207 rfl (lv_at hl 4 rfl) ?_
            refine g_geti (C := RX2) (T := TX2) (N := 16) hx hb hts (mc_ inX2) hown hK g ma0_ ka0_ (by decide) rfl 13 (by decide) rfl (hts _ (List.mem_cons_of_mem _ t_429)) (fun _ h9 => h9) rfl dX2_readArguments_208 (fun x_45 bx_45 g => ?_)
            obtain ⟨a_46, ma_46, ka_46, g⟩ := g_factr g mq3_ kq3_ (by decide) 4 rfl
            obtain ⟨a_47, ma_47, ka_47, g⟩ := g_factr g mq3_ kq3_ (by decide) 5 rfl
            obtain ⟨x_48, bx_48, g⟩ := g_facti g mq3_ kq3_ (by decide) 6 rfl
            have go_ := g
            refine g_callv (va_runV (As := [.int x_44, .int x_45]) (rest := []) ⟨hx, hb, hml, hown, hts⟩ (r_X7_emitN l dC dI L kd tys fr_31 H.size g.2.2.2.1 q3_ mq3_ kq3_ a_46 ma_46 ka_46 a_47 ma_47 ka_47 x_48 bx_48 T_ hG_39 x_44 x_45 (fun j9 => jOK fr_31 q3_ j9) hG_38 (fun _ h9 => h9) ⟨(fun h9 => ⟨(by have h9_0 := b_25; unfold bd at h9_0; have h9_1 := b_43; unfold bd at h9_1; have h9_2 := h_33; unfold bd at h9_2; have h9_3 := bx_45; unfold bd at h9_3; have h9_4 := bx_48; unfold bd at h9_4; have h9_5 := h_8; unfold bd at h9_5; have h9_6 := by0_; unfold bd at h9_6; have h8_0 := kb_0; unfold bd at h8_0; have h8_1 := kb_41; unfold bd at h8_1; omega), (by have h9_0 := b_25; unfold bd at h9_0; have h9_1 := b_43; unfold bd at h9_1; have h9_2 := h_33; unfold bd at h9_2; have h9_3 := bx_45; unfold bd at h9_3; have h9_4 := bx_48; unfold bd at h9_4; have h9_5 := h_8; unfold bd at h9_5; have h9_6 := by0_; unfold bd at h9_6; have h8_0 := kb_0; unfold bd at h8_0; have h8_1 := kb_41; unfold bd at h8_1; omega)⟩), (fun h9 => ⟨(by have h9_0 := b_25; unfold bd at h9_0; have h9_1 := b_43; unfold bd at h9_1; have h9_2 := h_33; unfold bd at h9_2; have h9_3 := bx_45; unfold bd at h9_3; have h9_4 := bx_48; unfold bd at h9_4; have h9_5 := h_8; unfold bd at h9_5; have h9_6 := by0_; unfold bd at h9_6; have h8_0 := kb_0; unfold bd at h8_0; have h8_1 := kb_41; unfold bd at h8_1; omega), (by have h9_0 := b_25; unfold bd at h9_0; have h9_1 := b_43; unfold bd at h9_1; have h9_2 := h_33; unfold bd at h9_2; have h9_3 := bx_45; unfold bd at h9_3; have h9_4 := bx_48; unfold bd at h9_4; have h9_5 := h_8; unfold bd at h9_5; have h9_6 := by0_; unfold bd at h9_6; have h8_0 := kb_0; unfold bd at h8_0; have h8_1 := kb_41; unfold bd at h8_1; omega)⟩), (fun h9 => ⟨(by have h9_0 := b_25; unfold bd at h9_0; have h9_1 := b_43; unfold bd at h9_1; have h9_2 := h_33; unfold bd at h9_2; have h9_3 := bx_45; unfold bd at h9_3; have h9_4 := bx_48; unfold bd at h9_4; have h9_5 := h_8; unfold bd at h9_5; have h9_6 := by0_; unfold bd at h9_6; have h8_0 := kb_0; unfold bd at h8_0; have h8_1 := kb_41; unfold bd at h8_1; omega), (by have h9_0 := b_25; unfold bd at h9_0; have h9_1 := b_43; unfold bd at h9_1; have h9_2 := h_33; unfold bd at h9_2; have h9_3 := bx_45; unfold bd at h9_3; have h9_4 := bx_48; unfold bd at h9_4; have h9_5 := h_8; unfold bd at h9_5; have h9_6 := by0_; unfold bd at h9_6; have h8_0 := kb_0; unfold bd at h8_0; have h8_1 := kb_41; unfold bd at h8_1; omega)⟩)⟩ (g.fcts [2, 1, 0] rfl)) (cwV 2 hts (gV_ t_1301 t_1204 t_1205 t_191 t_1206) rfl rfl rfl (by decide +kernel) ⟨(Nat.le_of_ble_eq_true rfl), (Nat.le_of_ble_eq_true rfl)⟩) (pre3V g hK mq3_ kq3_ (by decide) (q := (RX7, TX7, 19)) rfl) rfl rfl hl.1 rfl (lv_room (Nat.le_of_ble_eq_true rfl)) dX2_readArguments_211 ⟨(Nat.le_of_ble_eq_true rfl), (Nat.le_of_ble_eq_true rfl)⟩) g hK (by decide) (by decide) (fx' := [(7, 5, q3_, .ref a_47), (7, 4, q3_, .ref a_46), (2, 13, a0_, .int x_45), (2, 12, a0_, .int x_44), (8, 6, q0_, .int x_32), (8, 8, q0_, .int y0_), (2, 14, a0_, .int x_17), (2, 0, a0_, .ref q0_), (2, 1, a0_, .ref q1_), (2, 2, a0_, .ref q2_), (2, 3, a0_, .ref q3_), (0, 0, q2_, .ref q0_), (0, 1, q2_, .ref q1_), (5, 0, q1_, .ref q3_), (5, 1, q1_, .ref q7_)]) rfl (fun fr_49 H locs hp hMr_49 g => ?_)
            obtain ⟨hG_50, hG_51, hG_52, hx_53, x_54, h_55, hF_56⟩ := hp
            have hG_57 := eOK.frame hMr_49 go_.2.2.2.1 mq2_ kq2_ (by decide) (by decide) hG_41
            have g := g.more hF_56
            have hs_58 := jS.mv hG_40 hG_52
            refine lv_aload_n hx hb dX2_readArguments_214 rfl (lv_at hl 4 rfl) ?_
            refine g_getk (C := RX2) (T := TX2) (N := 16) hx hb hts (mc_ inX2) hown hK g rfl 3 (by decide) rfl (hts _ (List.mem_cons_of_mem _ t_419)) (fun _ h9 => h9) 11 rfl dX2_readArguments_215 ?_
            refine lv_bipush (v := 22) hx hb dX2_readArguments_218 (by decide) ?_
            refine lv_iconst (v := 0) hx hb dX2_readArguments_220 (by decide) ?_
            have kb_22 : bd 22 22 (22 : Int32) := ⟨by decide, by decide⟩
            have go_ := g
            refine g_callv (va_runV (As := [.int 22, .int 0]) (rest := []) ⟨hx, hb, hml, hown, hts⟩ (r_X7_emitN l dC dI L kd tys fr_49 H.size g.2.2.2.1 q3_ mq3_ kq3_ a_46 ma_46 ka_46 a_47 ma_47 ka_47 x_54 h_55 T_ hG_50 (22 : Int32) (0 : Int32) (fun j9 => jOK fr_49 q3_ j9) hG_51 (fun _ h9 => h9) ⟨(fun h9 => ⟨(by have h9_0 := b_25; unfold bd at h9_0; have h9_1 := b_43; unfold bd at h9_1; have h9_2 := h_33; unfold bd at h9_2; have h9_3 := bx_45; unfold bd at h9_3; have h9_4 := bx_48; unfold bd at h9_4; have h9_5 := h_55; unfold bd at h9_5; have h9_6 := h_8; unfold bd at h9_6; have h9_7 := by0_; unfold bd at h9_7; have h8_0 := kb_0; unfold bd at h8_0; have h8_1 := kb_22; unfold bd at h8_1; have h8_2 := kb_41; unfold bd at h8_2; omega), (by have h9_0 := b_25; unfold bd at h9_0; have h9_1 := b_43; unfold bd at h9_1; have h9_2 := h_33; unfold bd at h9_2; have h9_3 := bx_45; unfold bd at h9_3; have h9_4 := bx_48; unfold bd at h9_4; have h9_5 := h_55; unfold bd at h9_5; have h9_6 := h_8; unfold bd at h9_6; have h9_7 := by0_; unfold bd at h9_7; have h8_0 := kb_0; unfold bd at h8_0; have h8_1 := kb_22; unfold bd at h8_1; have h8_2 := kb_41; unfold bd at h8_2; omega)⟩), (fun h9 => ⟨(by have h9_0 := b_25; unfold bd at h9_0; have h9_1 := b_43; unfold bd at h9_1; have h9_2 := h_33; unfold bd at h9_2; have h9_3 := bx_45; unfold bd at h9_3; have h9_4 := bx_48; unfold bd at h9_4; have h9_5 := h_55; unfold bd at h9_5; have h9_6 := h_8; unfold bd at h9_6; have h9_7 := by0_; unfold bd at h9_7; have h8_0 := kb_0; unfold bd at h8_0; have h8_1 := kb_22; unfold bd at h8_1; have h8_2 := kb_41; unfold bd at h8_2; omega), (by have h9_0 := b_25; unfold bd at h9_0; have h9_1 := b_43; unfold bd at h9_1; have h9_2 := h_33; unfold bd at h9_2; have h9_3 := bx_45; unfold bd at h9_3; have h9_4 := bx_48; unfold bd at h9_4; have h9_5 := h_55; unfold bd at h9_5; have h9_6 := h_8; unfold bd at h9_6; have h9_7 := by0_; unfold bd at h9_7; have h8_0 := kb_0; unfold bd at h8_0; have h8_1 := kb_22; unfold bd at h8_1; have h8_2 := kb_41; unfold bd at h8_2; omega)⟩), (fun h9 => ⟨(by have h9_0 := b_25; unfold bd at h9_0; have h9_1 := b_43; unfold bd at h9_1; have h9_2 := h_33; unfold bd at h9_2; have h9_3 := bx_45; unfold bd at h9_3; have h9_4 := bx_48; unfold bd at h9_4; have h9_5 := h_55; unfold bd at h9_5; have h9_6 := h_8; unfold bd at h9_6; have h9_7 := by0_; unfold bd at h9_7; have h8_0 := kb_0; unfold bd at h8_0; have h8_1 := kb_22; unfold bd at h8_1; have h8_2 := kb_41; unfold bd at h8_2; omega), (by have h9_0 := b_25; unfold bd at h9_0; have h9_1 := b_43; unfold bd at h9_1; have h9_2 := h_33; unfold bd at h9_2; have h9_3 := bx_45; unfold bd at h9_3; have h9_4 := bx_48; unfold bd at h9_4; have h9_5 := h_55; unfold bd at h9_5; have h9_6 := h_8; unfold bd at h9_6; have h9_7 := by0_; unfold bd at h9_7; have h8_0 := kb_0; unfold bd at h8_0; have h8_1 := kb_22; unfold bd at h8_1; have h8_2 := kb_41; unfold bd at h8_2; omega)⟩)⟩ (g.fcts [2, 1, 0] rfl)) (cwV 2 hts (gV_ t_1301 t_1204 t_1205 t_191 t_1206) rfl rfl rfl (by decide +kernel) ⟨(Nat.le_of_ble_eq_true rfl), (Nat.le_of_ble_eq_true rfl)⟩) (pre3V g hK mq3_ kq3_ (by decide) (q := (RX7, TX7, 19)) rfl) rfl rfl hl.1 rfl (lv_room (Nat.le_of_ble_eq_true rfl)) dX2_readArguments_221 ⟨(Nat.le_of_ble_eq_true rfl), (Nat.le_of_ble_eq_true rfl)⟩) g hK (by decide) (by decide) (fx' := [(7, 5, q3_, .ref a_47), (7, 4, q3_, .ref a_46), (2, 13, a0_, .int x_45), (2, 12, a0_, .int x_44), (8, 6, q0_, .int x_32), (8, 8, q0_, .int y0_), (2, 14, a0_, .int x_17), (2, 0, a0_, .ref q0_), (2, 1, a0_, .ref q1_), (2, 2, a0_, .ref q2_), (2, 3, a0_, .ref q3_), (0, 0, q2_, .ref q0_), (0, 1, q2_, .ref q1_), (5, 0, q1_, .ref q3_), (5, 1, q1_, .ref q7_)]) rfl (fun fr_59 H locs hp hMr_59 g => ?_)
            obtain ⟨hG_60, hG_61, hG_62, hx_63, x_64, h_65, hF_66⟩ := hp
            have hG_67 := eOK.frame hMr_59 go_.2.2.2.1 mq2_ kq2_ (by decide) (by decide) hG_57
            have g := g.more hF_66
            have hs_68 := jS.mv hs_58 hG_62
            refine lv_aload_n hx hb dX2_readArguments_224 rfl (lv_at hl 4 rfl) ?_
            refine g_getk (C := RX2) (T := TX2) (N := 16) hx hb hts (mc_ inX2) hown hK g rfl 0 (by decide) rfl (hts _ (List.mem_cons_of_mem _ t_416)) (fun _ h9 => h9) 8 rfl dX2_readArguments_225 ?_
            refine lv_bipush (v := 59) hx hb dX2_readArguments_228 (by decide) ?_
            have go_ := g
            refine g_callv (va_runV (As := [.int 59]) (rest := []) ⟨hx, hb, hml, hown, hts⟩ (r_X8_take l dC dI L kd tys fr_59 H.size g.2.2.2.1 q0_ mq0_ kq0_ 59 y0_ by0_ (g.fcts [6] rfl)) (cwV 1 hts (gV_ t_1098 t_1099 t_1100 t_184 t_1101) rfl rfl rfl (by decide +kernel) ⟨(Nat.le_of_ble_eq_true rfl), (Nat.le_of_ble_eq_true rfl)⟩) (pre3V g hK mq0_ kq0_ (by decide) (q := (RX8, TX8, 10)) rfl) rfl rfl hl.1 rfl (lv_room (Nat.le_of_ble_eq_true rfl)) dX2_readArguments_230 ⟨(Nat.le_of_ble_eq_true rfl), (Nat.le_of_ble_eq_true rfl)⟩) g hK (by decide) (by decide) (fx' := [(7, 6, q3_, .int x_64), (7, 5, q3_, .ref a_47), (7, 4, q3_, .ref a_46), (2, 13, a0_, .int x_45), (2, 12, a0_, .int x_44), (2, 14, a0_, .int x_17), (2, 0, a0_, .ref q0_), (2, 1, a0_, .ref q1_), (2, 2, a0_, .ref q2_), (2, 3, a0_, .ref q3_), (0, 0, q2_, .ref q0_), (0, 1, q2_, .ref q1_), (5, 0, q1_, .ref q3_), (5, 1, q1_, .ref q7_)]) rfl (fun fr_69 H locs hp hMr_69 g => ?_)
            rcases hp with ⟨x_70, h_71, hF_72⟩ | ⟨x_73, h_74, hF_75⟩
            · have hG_76 := cOK.frame hMr_69 go_.2.2.2.1 mq3_ kq3_ (by decide) (by decide) hG_61
              have hG_77 := dOK.frame hMr_69 go_.2.2.2.1 mq3_ kq3_ (by decide) (by decide) hG_60
              have hG_78 := jS.frame hMr_69 go_.2.2.2.1 mq3_ kq3_ (by decide) (by decide) hs_68
              have hG_79 := eOK.frame hMr_69 go_.2.2.2.1 mq2_ kq2_ (by decide) (by decide) hG_67
              have g := g.more hF_72
              subst hQ
              exact W.vret hx hb hr (fun t ht hW => ⟨⟨_, rfl, Or.inl ⟨hG_76, hG_77, hG_78, hG_79, x_70, h_71, (g.fcts [0, 1] rfl)⟩, q3_of g hK ht hW⟩, g.2.2.1.F ht⟩) g.2.2.1.2.2 dX2_readArguments_233
            · have hG_80 := cOK.frame hMr_69 go_.2.2.2.1 mq3_ kq3_ (by decide) (by decide) hG_61
              have hG_81 := dOK.frame hMr_69 go_.2.2.2.1 mq3_ kq3_ (by decide) (by decide) hG_60
              have hG_82 := jS.frame hMr_69 go_.2.2.2.1 mq3_ kq3_ (by decide) (by decide) hs_68
              have hG_83 := eOK.frame hMr_69 go_.2.2.2.1 mq2_ kq2_ (by decide) (by decide) hG_67
              have g := g.more hF_75
              have kb_1201 : bd 1201 1201 (1201 : Int32) := ⟨by decide, by decide⟩
              subst hQ
              exact W.vret hx hb hr (fun t ht hW => ⟨⟨_, rfl, Or.inr (⟨hG_81, hG_83, 1201, kb_1201, x_73, h_74, (g.fcts [0, 1] rfl)⟩), q3_of g hK ht hW⟩, g.2.2.1.F ht⟩) g.2.2.1.2.2 dX2_readArguments_233
          · have fc_42 := nle_f c_42
            have b_84 : bd 1 2147483647 x_17 := ltR fc_42 kb_0 (bdT x_17) (by decide)
            refine lv_aload_n hx hb dX2_readArguments_188 rfl (lv_at hl 4 rfl) ?_
            refine g_getk (C := RX2) (T := TX2) (N := 16) hx hb hts (mc_ inX2) hown hK g rfl 0 (by decide) rfl (hts _ (List.mem_cons_of_mem _ t_416)) (fun _ h9 => h9) 3 rfl dX2_readArguments_189 ?_
            refine lv_bipush (v := 6) hx hb dX2_readArguments_192 (by decide) ?_
            refine lv_iload hx hb dX2_readArguments_194 (lv_at hl 0 rfl) ?_
            have kb_6 : bd 6 6 (6 : Int32) := ⟨by decide, by decide⟩
            have go_ := g
            refine g_callv (va_runV (As := [.int 6, .int r_26]) (rest := []) ⟨hx, hb, hml, hown, hts⟩ (r_X8_fail l dC dI L kd tys fr_31 H.size g.2.2.2.1 q0_ mq0_ kq0_ 6 (bd_sub kb_6 (by decide)) r_26 y0_ by0_ (g.fcts [1] rfl)) (cwV 2 hts (gV_ t_1122 t_1107 t_1108 t_184 t_1109) rfl rfl rfl (by decide +kernel) ⟨(Nat.le_of_ble_eq_true rfl), (Nat.le_of_ble_eq_true rfl)⟩) (pre3V g hK mq0_ kq0_ (by decide) (q := (RX8, TX8, 10)) rfl) rfl rfl hl.1 rfl (lv_room (Nat.le_of_ble_eq_true rfl)) dX2_readArguments_196 ⟨(Nat.le_of_ble_eq_true rfl), (Nat.le_of_ble_eq_true rfl)⟩) g hK (by decide) (by decide) (fx' := [(2, 14, a0_, .int x_17), (2, 0, a0_, .ref q0_), (2, 1, a0_, .ref q1_), (2, 2, a0_, .ref q2_), (2, 3, a0_, .ref q3_), (0, 0, q2_, .ref q0_), (0, 1, q2_, .ref q1_), (5, 0, q1_, .ref q3_), (5, 1, q1_, .ref q7_)]) rfl (fun fr_85 H locs hp hMr_85 g => ?_)
            obtain ⟨x_86, h_87, hF_88⟩ := hp
            have hG_89 := cOK.frame hMr_85 go_.2.2.2.1 mq3_ kq3_ (by decide) (by decide) hG_38
            have hG_90 := dOK.frame hMr_85 go_.2.2.2.1 mq3_ kq3_ (by decide) (by decide) hG_39
            have hG_91 := jS.frame hMr_85 go_.2.2.2.1 mq3_ kq3_ (by decide) (by decide) hG_40
            have hG_92 := eOK.frame hMr_85 go_.2.2.2.1 mq2_ kq2_ (by decide) (by decide) hG_41
            have g := g.more hF_88
            refine lv_aload_n hx hb dX2_readArguments_199 rfl (lv_at hl 4 rfl) ?_
            refine g_getk (C := RX2) (T := TX2) (N := 16) hx hb hts (mc_ inX2) hown hK g rfl 3 (by decide) rfl (hts _ (List.mem_cons_of_mem _ t_419)) (fun _ h9 => h9) 6 rfl dX2_readArguments_200 ?_
            refine lv_aload_n hx hb dX2_readArguments_203 rfl (lv_at hl 4 rfl) ?_
            refine g_geti (C := RX2) (T := TX2) (N := 16) hx hb hts (mc_ inX2) hown hK g ma0_ ka0_ (by decide) rfl 12 (by decide) rfl (hts _ (List.mem_cons_of_mem _ t_428)) (fun _ h9 => h9) rfl dX2_readArguments_204 (fun x_93 bx_93 g => ?_)
            refine lv_aload_n hx hb dX2_readArguments_207 rfl (lv_at hl 4 rfl) ?_
            refine g_geti (C := RX2) (T := TX2) (N := 16) hx hb hts (mc_ inX2) hown hK g ma0_ ka0_ (by decide) rfl 13 (by decide) rfl (hts _ (List.mem_cons_of_mem _ t_429)) (fun _ h9 => h9) rfl dX2_readArguments_208 (fun x_94 bx_94 g => ?_)
            obtain ⟨a_95, ma_95, ka_95, g⟩ := g_factr g mq3_ kq3_ (by decide) 4 rfl
            obtain ⟨a_96, ma_96, ka_96, g⟩ := g_factr g mq3_ kq3_ (by decide) 5 rfl
            obtain ⟨x_97, bx_97, g⟩ := g_facti g mq3_ kq3_ (by decide) 6 rfl
            have go_ := g
            refine g_callv (va_runV (As := [.int x_93, .int x_94]) (rest := []) ⟨hx, hb, hml, hown, hts⟩ (r_X7_emitF l dC dI L kd tys fr_85 H.size g.2.2.2.1 q3_ mq3_ kq3_ a_95 ma_95 ka_95 a_96 ma_96 ka_96 x_97 bx_97 T_ hG_90 x_93 x_94 (g.fcts [2, 1, 0] rfl)) (cwV 2 hts (gV_ t_1301 t_1204 t_1205 t_191 t_1206) rfl rfl rfl (by decide +kernel) ⟨(Nat.le_of_ble_eq_true rfl), (Nat.le_of_ble_eq_true rfl)⟩) (pre3V g hK mq3_ kq3_ (by decide) (q := (RX7, TX7, 19)) rfl) rfl rfl hl.1 rfl (lv_room (Nat.le_of_ble_eq_true rfl)) dX2_readArguments_211 ⟨(Nat.le_of_ble_eq_true rfl), (Nat.le_of_ble_eq_true rfl)⟩) g hK (by decide) (by decide) (fx' := [(7, 5, q3_, .ref a_96), (7, 4, q3_, .ref a_95), (2, 13, a0_, .int x_94), (2, 12, a0_, .int x_93), (8, 6, q0_, .int 1201), (8, 8, q0_, .int x_86), (2, 14, a0_, .int x_17), (2, 0, a0_, .ref q0_), (2, 1, a0_, .ref q1_), (2, 2, a0_, .ref q2_), (2, 3, a0_, .ref q3_), (0, 0, q2_, .ref q0_), (0, 1, q2_, .ref q1_), (5, 0, q1_, .ref q3_), (5, 1, q1_, .ref q7_)]) rfl (fun fr_98 H locs hp hMr_98 g => ?_)
            obtain ⟨hG_99, x_100, h_101, hF_102⟩ := hp
            have hG_103 := eOK.frame hMr_98 go_.2.2.2.1 mq2_ kq2_ (by decide) (by decide) hG_92
            have g := g.more hF_102
            refine lv_aload_n hx hb dX2_readArguments_214 rfl (lv_at hl 4 rfl) ?_
            refine g_getk (C := RX2) (T := TX2) (N := 16) hx hb hts (mc_ inX2) hown hK g rfl 3 (by decide) rfl (hts _ (List.mem_cons_of_mem _ t_419)) (fun _ h9 => h9) 11 rfl dX2_readArguments_215 ?_
            refine lv_bipush (v := 22) hx hb dX2_readArguments_218 (by decide) ?_
            refine lv_iconst (v := 0) hx hb dX2_readArguments_220 (by decide) ?_
            have go_ := g
            refine g_callv (va_runV (As := [.int 22, .int 0]) (rest := []) ⟨hx, hb, hml, hown, hts⟩ (r_X7_emitF l dC dI L kd tys fr_98 H.size g.2.2.2.1 q3_ mq3_ kq3_ a_95 ma_95 ka_95 a_96 ma_96 ka_96 x_100 h_101 T_ hG_99 (22 : Int32) (0 : Int32) (g.fcts [2, 1, 0] rfl)) (cwV 2 hts (gV_ t_1301 t_1204 t_1205 t_191 t_1206) rfl rfl rfl (by decide +kernel) ⟨(Nat.le_of_ble_eq_true rfl), (Nat.le_of_ble_eq_true rfl)⟩) (pre3V g hK mq3_ kq3_ (by decide) (q := (RX7, TX7, 19)) rfl) rfl rfl hl.1 rfl (lv_room (Nat.le_of_ble_eq_true rfl)) dX2_readArguments_221 ⟨(Nat.le_of_ble_eq_true rfl), (Nat.le_of_ble_eq_true rfl)⟩) g hK (by decide) (by decide) (fx' := [(7, 5, q3_, .ref a_96), (7, 4, q3_, .ref a_95), (2, 13, a0_, .int x_94), (2, 12, a0_, .int x_93), (8, 6, q0_, .int 1201), (8, 8, q0_, .int x_86), (2, 14, a0_, .int x_17), (2, 0, a0_, .ref q0_), (2, 1, a0_, .ref q1_), (2, 2, a0_, .ref q2_), (2, 3, a0_, .ref q3_), (0, 0, q2_, .ref q0_), (0, 1, q2_, .ref q1_), (5, 0, q1_, .ref q3_), (5, 1, q1_, .ref q7_)]) rfl (fun fr_104 H locs hp hMr_104 g => ?_)
            obtain ⟨hG_105, x_106, h_107, hF_108⟩ := hp
            have hG_109 := eOK.frame hMr_104 go_.2.2.2.1 mq2_ kq2_ (by decide) (by decide) hG_103
            have g := g.more hF_108
            refine lv_aload_n hx hb dX2_readArguments_224 rfl (lv_at hl 4 rfl) ?_
            refine g_getk (C := RX2) (T := TX2) (N := 16) hx hb hts (mc_ inX2) hown hK g rfl 0 (by decide) rfl (hts _ (List.mem_cons_of_mem _ t_416)) (fun _ h9 => h9) 8 rfl dX2_readArguments_225 ?_
            refine lv_bipush (v := 59) hx hb dX2_readArguments_228 (by decide) ?_
            have kb_1201 : bd 1201 1201 (1201 : Int32) := ⟨by decide, by decide⟩
            have go_ := g
            refine g_callv (va_runV (As := [.int 59]) (rest := []) ⟨hx, hb, hml, hown, hts⟩ (r_X8_take_2 l dC dI L kd tys fr_104 H.size g.2.2.2.1 q0_ mq0_ kq0_ 59 1201 kb_1201 x_86 h_87 (g.fcts [5, 6] rfl)) (cwV 1 hts (gV_ t_1098 t_1099 t_1100 t_184 t_1101) rfl rfl rfl (by decide +kernel) ⟨(Nat.le_of_ble_eq_true rfl), (Nat.le_of_ble_eq_true rfl)⟩) (pre3V g hK mq0_ kq0_ (by decide) (q := (RX8, TX8, 10)) rfl) rfl rfl hl.1 rfl (lv_room (Nat.le_of_ble_eq_true rfl)) dX2_readArguments_230 ⟨(Nat.le_of_ble_eq_true rfl), (Nat.le_of_ble_eq_true rfl)⟩) g hK (by decide) (by decide) (fx' := [(7, 6, q3_, .int x_106), (7, 5, q3_, .ref a_96), (7, 4, q3_, .ref a_95), (2, 13, a0_, .int x_94), (2, 12, a0_, .int x_93), (8, 8, q0_, .int x_86), (2, 14, a0_, .int x_17), (2, 0, a0_, .ref q0_), (2, 1, a0_, .ref q1_), (2, 2, a0_, .ref q2_), (2, 3, a0_, .ref q3_), (0, 0, q2_, .ref q0_), (0, 1, q2_, .ref q1_), (5, 0, q1_, .ref q3_), (5, 1, q1_, .ref q7_)]) rfl (fun fr_110 H locs hp hMr_110 g => ?_)
            obtain ⟨x_111, h_112, hF_113⟩ := hp
            have hG_114 := dOK.frame hMr_110 go_.2.2.2.1 mq3_ kq3_ (by decide) (by decide) hG_105
            have hG_115 := eOK.frame hMr_110 go_.2.2.2.1 mq2_ kq2_ (by decide) (by decide) hG_109
            have g := g.more hF_113
            subst hQ
            exact W.vret hx hb hr (fun t ht hW => ⟨⟨_, rfl, Or.inr (⟨hG_114, hG_115, x_111, h_112, x_86, h_87, (g.fcts [0, 6] rfl)⟩), q3_of g hK ht hW⟩, g.2.2.1.F ht⟩) g.2.2.1.2.2 dX2_readArguments_233
        · have hG_116 := cOK.frame hMr_31 go_.2.2.2.1 mq3_ kq3_ (by decide) (by decide) hG_27
          have hG_117 := dOK.frame hMr_31 go_.2.2.2.1 mq3_ kq3_ (by decide) (by decide) hG_28
          have hG_118 := jS.frame hMr_31 go_.2.2.2.1 mq3_ kq3_ (by decide) (by decide) hG_29
          have hG_119 := eOK.frame hMr_31 go_.2.2.2.1 mq2_ kq2_ (by decide) (by decide) hG_30
          have g := g.more hF_37
          refine lv_iload_n hx hb dX2_readArguments_180 rfl (lv_at hl 2 rfl) ?_
          refine lv_aload_n hx hb dX2_readArguments_181 rfl (lv_at hl 4 rfl) ?_
          refine g_getk (C := RX2) (T := TX2) (N := 16) hx hb hts (mc_ inX2) hown hK g rfl 14 (by decide) rfl (hts _ (List.mem_cons_of_mem _ t_430)) (fun _ h9 => h9) 2 rfl dX2_readArguments_182 ?_
          refine lv_icmp_ge (tgt := 199) hx hb dX2_readArguments_185 (by decide) (fun c_120 => ?_) (fun c_120 => ?_)
          · have fc_120 := le_f c_120
            have b_121 : bd (-2147483648) 0 x_17 := leL fc_120 (bdT x_17) kb_0 (by decide)
            refine lv_aload_n hx hb dX2_readArguments_199 rfl (lv_at hl 4 rfl) ?_
            refine g_getk (C := RX2) (T := TX2) (N := 16) hx hb hts (mc_ inX2) hown hK g rfl 3 (by decide) rfl (hts _ (List.mem_cons_of_mem _ t_419)) (fun _ h9 => h9) 6 rfl dX2_readArguments_200 ?_
            refine lv_aload_n hx hb dX2_readArguments_203 rfl (lv_at hl 4 rfl) ?_
            refine g_geti (C := RX2) (T := TX2) (N := 16) hx hb hts (mc_ inX2) hown hK g ma0_ ka0_ (by decide) rfl 12 (by decide) rfl (hts _ (List.mem_cons_of_mem _ t_428)) (fun _ h9 => h9) rfl dX2_readArguments_204 (fun x_122 bx_122 g => ?_)
            refine lv_aload_n hx hb dX2_readArguments_207 rfl (lv_at hl 4 rfl) ?_
            refine g_geti (C := RX2) (T := TX2) (N := 16) hx hb hts (mc_ inX2) hown hK g ma0_ ka0_ (by decide) rfl 13 (by decide) rfl (hts _ (List.mem_cons_of_mem _ t_429)) (fun _ h9 => h9) rfl dX2_readArguments_208 (fun x_123 bx_123 g => ?_)
            obtain ⟨a_124, ma_124, ka_124, g⟩ := g_factr g mq3_ kq3_ (by decide) 4 rfl
            obtain ⟨a_125, ma_125, ka_125, g⟩ := g_factr g mq3_ kq3_ (by decide) 5 rfl
            obtain ⟨x_126, bx_126, g⟩ := g_facti g mq3_ kq3_ (by decide) 6 rfl
            have go_ := g
            refine g_callv (va_runV (As := [.int x_122, .int x_123]) (rest := []) ⟨hx, hb, hml, hown, hts⟩ (r_X7_emitF l dC dI L kd tys fr_31 H.size g.2.2.2.1 q3_ mq3_ kq3_ a_124 ma_124 ka_124 a_125 ma_125 ka_125 x_126 bx_126 T_ hG_117 x_122 x_123 (g.fcts [2, 1, 0] rfl)) (cwV 2 hts (gV_ t_1301 t_1204 t_1205 t_191 t_1206) rfl rfl rfl (by decide +kernel) ⟨(Nat.le_of_ble_eq_true rfl), (Nat.le_of_ble_eq_true rfl)⟩) (pre3V g hK mq3_ kq3_ (by decide) (q := (RX7, TX7, 19)) rfl) rfl rfl hl.1 rfl (lv_room (Nat.le_of_ble_eq_true rfl)) dX2_readArguments_211 ⟨(Nat.le_of_ble_eq_true rfl), (Nat.le_of_ble_eq_true rfl)⟩) g hK (by decide) (by decide) (fx' := [(7, 5, q3_, .ref a_125), (7, 4, q3_, .ref a_124), (2, 13, a0_, .int x_123), (2, 12, a0_, .int x_122), (8, 6, q0_, .int 1201), (8, 8, q0_, .int x_35), (2, 14, a0_, .int x_17), (2, 0, a0_, .ref q0_), (2, 1, a0_, .ref q1_), (2, 2, a0_, .ref q2_), (2, 3, a0_, .ref q3_), (0, 0, q2_, .ref q0_), (0, 1, q2_, .ref q1_), (5, 0, q1_, .ref q3_), (5, 1, q1_, .ref q7_)]) rfl (fun fr_127 H locs hp hMr_127 g => ?_)
            obtain ⟨hG_128, x_129, h_130, hF_131⟩ := hp
            have hG_132 := eOK.frame hMr_127 go_.2.2.2.1 mq2_ kq2_ (by decide) (by decide) hG_119
            have g := g.more hF_131
            refine lv_aload_n hx hb dX2_readArguments_214 rfl (lv_at hl 4 rfl) ?_
            refine g_getk (C := RX2) (T := TX2) (N := 16) hx hb hts (mc_ inX2) hown hK g rfl 3 (by decide) rfl (hts _ (List.mem_cons_of_mem _ t_419)) (fun _ h9 => h9) 11 rfl dX2_readArguments_215 ?_
            refine lv_bipush (v := 22) hx hb dX2_readArguments_218 (by decide) ?_
            refine lv_iconst (v := 0) hx hb dX2_readArguments_220 (by decide) ?_
            have go_ := g
            refine g_callv (va_runV (As := [.int 22, .int 0]) (rest := []) ⟨hx, hb, hml, hown, hts⟩ (r_X7_emitF l dC dI L kd tys fr_127 H.size g.2.2.2.1 q3_ mq3_ kq3_ a_124 ma_124 ka_124 a_125 ma_125 ka_125 x_129 h_130 T_ hG_128 (22 : Int32) (0 : Int32) (g.fcts [2, 1, 0] rfl)) (cwV 2 hts (gV_ t_1301 t_1204 t_1205 t_191 t_1206) rfl rfl rfl (by decide +kernel) ⟨(Nat.le_of_ble_eq_true rfl), (Nat.le_of_ble_eq_true rfl)⟩) (pre3V g hK mq3_ kq3_ (by decide) (q := (RX7, TX7, 19)) rfl) rfl rfl hl.1 rfl (lv_room (Nat.le_of_ble_eq_true rfl)) dX2_readArguments_221 ⟨(Nat.le_of_ble_eq_true rfl), (Nat.le_of_ble_eq_true rfl)⟩) g hK (by decide) (by decide) (fx' := [(7, 5, q3_, .ref a_125), (7, 4, q3_, .ref a_124), (2, 13, a0_, .int x_123), (2, 12, a0_, .int x_122), (8, 6, q0_, .int 1201), (8, 8, q0_, .int x_35), (2, 14, a0_, .int x_17), (2, 0, a0_, .ref q0_), (2, 1, a0_, .ref q1_), (2, 2, a0_, .ref q2_), (2, 3, a0_, .ref q3_), (0, 0, q2_, .ref q0_), (0, 1, q2_, .ref q1_), (5, 0, q1_, .ref q3_), (5, 1, q1_, .ref q7_)]) rfl (fun fr_133 H locs hp hMr_133 g => ?_)
            obtain ⟨hG_134, x_135, h_136, hF_137⟩ := hp
            have hG_138 := eOK.frame hMr_133 go_.2.2.2.1 mq2_ kq2_ (by decide) (by decide) hG_132
            have g := g.more hF_137
            refine lv_aload_n hx hb dX2_readArguments_224 rfl (lv_at hl 4 rfl) ?_
            refine g_getk (C := RX2) (T := TX2) (N := 16) hx hb hts (mc_ inX2) hown hK g rfl 0 (by decide) rfl (hts _ (List.mem_cons_of_mem _ t_416)) (fun _ h9 => h9) 8 rfl dX2_readArguments_225 ?_
            refine lv_bipush (v := 59) hx hb dX2_readArguments_228 (by decide) ?_
            have kb_1201 : bd 1201 1201 (1201 : Int32) := ⟨by decide, by decide⟩
            have go_ := g
            refine g_callv (va_runV (As := [.int 59]) (rest := []) ⟨hx, hb, hml, hown, hts⟩ (r_X8_take_2 l dC dI L kd tys fr_133 H.size g.2.2.2.1 q0_ mq0_ kq0_ 59 1201 kb_1201 x_35 h_36 (g.fcts [5, 6] rfl)) (cwV 1 hts (gV_ t_1098 t_1099 t_1100 t_184 t_1101) rfl rfl rfl (by decide +kernel) ⟨(Nat.le_of_ble_eq_true rfl), (Nat.le_of_ble_eq_true rfl)⟩) (pre3V g hK mq0_ kq0_ (by decide) (q := (RX8, TX8, 10)) rfl) rfl rfl hl.1 rfl (lv_room (Nat.le_of_ble_eq_true rfl)) dX2_readArguments_230 ⟨(Nat.le_of_ble_eq_true rfl), (Nat.le_of_ble_eq_true rfl)⟩) g hK (by decide) (by decide) (fx' := [(7, 6, q3_, .int x_135), (7, 5, q3_, .ref a_125), (7, 4, q3_, .ref a_124), (2, 13, a0_, .int x_123), (2, 12, a0_, .int x_122), (8, 8, q0_, .int x_35), (2, 14, a0_, .int x_17), (2, 0, a0_, .ref q0_), (2, 1, a0_, .ref q1_), (2, 2, a0_, .ref q2_), (2, 3, a0_, .ref q3_), (0, 0, q2_, .ref q0_), (0, 1, q2_, .ref q1_), (5, 0, q1_, .ref q3_), (5, 1, q1_, .ref q7_)]) rfl (fun fr_139 H locs hp hMr_139 g => ?_)
            obtain ⟨x_140, h_141, hF_142⟩ := hp
            have hG_143 := dOK.frame hMr_139 go_.2.2.2.1 mq3_ kq3_ (by decide) (by decide) hG_134
            have hG_144 := eOK.frame hMr_139 go_.2.2.2.1 mq2_ kq2_ (by decide) (by decide) hG_138
            have g := g.more hF_142
            subst hQ
            exact W.vret hx hb hr (fun t ht hW => ⟨⟨_, rfl, Or.inr (⟨hG_143, hG_144, x_140, h_141, x_35, h_36, (g.fcts [0, 6] rfl)⟩), q3_of g hK ht hW⟩, g.2.2.1.F ht⟩) g.2.2.1.2.2 dX2_readArguments_233
          · have fc_120 := nle_f c_120
            have b_145 : bd 1 2147483647 x_17 := ltR fc_120 kb_0 (bdT x_17) (by decide)
            refine lv_aload_n hx hb dX2_readArguments_188 rfl (lv_at hl 4 rfl) ?_
            refine g_getk (C := RX2) (T := TX2) (N := 16) hx hb hts (mc_ inX2) hown hK g rfl 0 (by decide) rfl (hts _ (List.mem_cons_of_mem _ t_416)) (fun _ h9 => h9) 3 rfl dX2_readArguments_189 ?_
            refine lv_bipush (v := 6) hx hb dX2_readArguments_192 (by decide) ?_
            refine lv_iload hx hb dX2_readArguments_194 (lv_at hl 0 rfl) ?_
            have kb_6 : bd 6 6 (6 : Int32) := ⟨by decide, by decide⟩
            have go_ := g
            refine g_callv (va_runV (As := [.int 6, .int r_26]) (rest := []) ⟨hx, hb, hml, hown, hts⟩ (r_X8_fail_2 l dC dI L kd tys fr_31 H.size g.2.2.2.1 q0_ mq0_ kq0_ 6 (bd_sub kb_6 (by decide)) r_26 x_35 h_36 (g.fcts [1] rfl)) (cwV 2 hts (gV_ t_1122 t_1107 t_1108 t_184 t_1109) rfl rfl rfl (by decide +kernel) ⟨(Nat.le_of_ble_eq_true rfl), (Nat.le_of_ble_eq_true rfl)⟩) (pre3V g hK mq0_ kq0_ (by decide) (q := (RX8, TX8, 10)) rfl) rfl rfl hl.1 rfl (lv_room (Nat.le_of_ble_eq_true rfl)) dX2_readArguments_196 ⟨(Nat.le_of_ble_eq_true rfl), (Nat.le_of_ble_eq_true rfl)⟩) g hK (by decide) (by decide) (fx' := [(8, 8, q0_, .int x_35), (2, 14, a0_, .int x_17), (2, 0, a0_, .ref q0_), (2, 1, a0_, .ref q1_), (2, 2, a0_, .ref q2_), (2, 3, a0_, .ref q3_), (0, 0, q2_, .ref q0_), (0, 1, q2_, .ref q1_), (5, 0, q1_, .ref q3_), (5, 1, q1_, .ref q7_)]) rfl (fun fr_146 H locs hp hMr_146 g => ?_)
            have hF_147 := hp
            have hG_148 := cOK.frame hMr_146 go_.2.2.2.1 mq3_ kq3_ (by decide) (by decide) hG_116
            have hG_149 := dOK.frame hMr_146 go_.2.2.2.1 mq3_ kq3_ (by decide) (by decide) hG_117
            have hG_150 := jS.frame hMr_146 go_.2.2.2.1 mq3_ kq3_ (by decide) (by decide) hG_118
            have hG_151 := eOK.frame hMr_146 go_.2.2.2.1 mq2_ kq2_ (by decide) (by decide) hG_119
            have g := g.more hF_147
            refine lv_aload_n hx hb dX2_readArguments_199 rfl (lv_at hl 4 rfl) ?_
            refine g_getk (C := RX2) (T := TX2) (N := 16) hx hb hts (mc_ inX2) hown hK g rfl 3 (by decide) rfl (hts _ (List.mem_cons_of_mem _ t_419)) (fun _ h9 => h9) 6 rfl dX2_readArguments_200 ?_
            refine lv_aload_n hx hb dX2_readArguments_203 rfl (lv_at hl 4 rfl) ?_
            refine g_geti (C := RX2) (T := TX2) (N := 16) hx hb hts (mc_ inX2) hown hK g ma0_ ka0_ (by decide) rfl 12 (by decide) rfl (hts _ (List.mem_cons_of_mem _ t_428)) (fun _ h9 => h9) rfl dX2_readArguments_204 (fun x_152 bx_152 g => ?_)
            refine lv_aload_n hx hb dX2_readArguments_207 rfl (lv_at hl 4 rfl) ?_
            refine g_geti (C := RX2) (T := TX2) (N := 16) hx hb hts (mc_ inX2) hown hK g ma0_ ka0_ (by decide) rfl 13 (by decide) rfl (hts _ (List.mem_cons_of_mem _ t_429)) (fun _ h9 => h9) rfl dX2_readArguments_208 (fun x_153 bx_153 g => ?_)
            obtain ⟨a_154, ma_154, ka_154, g⟩ := g_factr g mq3_ kq3_ (by decide) 4 rfl
            obtain ⟨a_155, ma_155, ka_155, g⟩ := g_factr g mq3_ kq3_ (by decide) 5 rfl
            obtain ⟨x_156, bx_156, g⟩ := g_facti g mq3_ kq3_ (by decide) 6 rfl
            have go_ := g
            refine g_callv (va_runV (As := [.int x_152, .int x_153]) (rest := []) ⟨hx, hb, hml, hown, hts⟩ (r_X7_emitF l dC dI L kd tys fr_146 H.size g.2.2.2.1 q3_ mq3_ kq3_ a_154 ma_154 ka_154 a_155 ma_155 ka_155 x_156 bx_156 T_ hG_149 x_152 x_153 (g.fcts [2, 1, 0] rfl)) (cwV 2 hts (gV_ t_1301 t_1204 t_1205 t_191 t_1206) rfl rfl rfl (by decide +kernel) ⟨(Nat.le_of_ble_eq_true rfl), (Nat.le_of_ble_eq_true rfl)⟩) (pre3V g hK mq3_ kq3_ (by decide) (q := (RX7, TX7, 19)) rfl) rfl rfl hl.1 rfl (lv_room (Nat.le_of_ble_eq_true rfl)) dX2_readArguments_211 ⟨(Nat.le_of_ble_eq_true rfl), (Nat.le_of_ble_eq_true rfl)⟩) g hK (by decide) (by decide) (fx' := [(7, 5, q3_, .ref a_155), (7, 4, q3_, .ref a_154), (2, 13, a0_, .int x_153), (2, 12, a0_, .int x_152), (8, 6, q0_, .int 1201), (8, 8, q0_, .int x_35), (2, 14, a0_, .int x_17), (2, 0, a0_, .ref q0_), (2, 1, a0_, .ref q1_), (2, 2, a0_, .ref q2_), (2, 3, a0_, .ref q3_), (0, 0, q2_, .ref q0_), (0, 1, q2_, .ref q1_), (5, 0, q1_, .ref q3_), (5, 1, q1_, .ref q7_)]) rfl (fun fr_157 H locs hp hMr_157 g => ?_)
            obtain ⟨hG_158, x_159, h_160, hF_161⟩ := hp
            have hG_162 := eOK.frame hMr_157 go_.2.2.2.1 mq2_ kq2_ (by decide) (by decide) hG_151
            have g := g.more hF_161
            refine lv_aload_n hx hb dX2_readArguments_214 rfl (lv_at hl 4 rfl) ?_
            refine g_getk (C := RX2) (T := TX2) (N := 16) hx hb hts (mc_ inX2) hown hK g rfl 3 (by decide) rfl (hts _ (List.mem_cons_of_mem _ t_419)) (fun _ h9 => h9) 11 rfl dX2_readArguments_215 ?_
            refine lv_bipush (v := 22) hx hb dX2_readArguments_218 (by decide) ?_
            refine lv_iconst (v := 0) hx hb dX2_readArguments_220 (by decide) ?_
            have go_ := g
            refine g_callv (va_runV (As := [.int 22, .int 0]) (rest := []) ⟨hx, hb, hml, hown, hts⟩ (r_X7_emitF l dC dI L kd tys fr_157 H.size g.2.2.2.1 q3_ mq3_ kq3_ a_154 ma_154 ka_154 a_155 ma_155 ka_155 x_159 h_160 T_ hG_158 (22 : Int32) (0 : Int32) (g.fcts [2, 1, 0] rfl)) (cwV 2 hts (gV_ t_1301 t_1204 t_1205 t_191 t_1206) rfl rfl rfl (by decide +kernel) ⟨(Nat.le_of_ble_eq_true rfl), (Nat.le_of_ble_eq_true rfl)⟩) (pre3V g hK mq3_ kq3_ (by decide) (q := (RX7, TX7, 19)) rfl) rfl rfl hl.1 rfl (lv_room (Nat.le_of_ble_eq_true rfl)) dX2_readArguments_221 ⟨(Nat.le_of_ble_eq_true rfl), (Nat.le_of_ble_eq_true rfl)⟩) g hK (by decide) (by decide) (fx' := [(7, 5, q3_, .ref a_155), (7, 4, q3_, .ref a_154), (2, 13, a0_, .int x_153), (2, 12, a0_, .int x_152), (8, 6, q0_, .int 1201), (8, 8, q0_, .int x_35), (2, 14, a0_, .int x_17), (2, 0, a0_, .ref q0_), (2, 1, a0_, .ref q1_), (2, 2, a0_, .ref q2_), (2, 3, a0_, .ref q3_), (0, 0, q2_, .ref q0_), (0, 1, q2_, .ref q1_), (5, 0, q1_, .ref q3_), (5, 1, q1_, .ref q7_)]) rfl (fun fr_163 H locs hp hMr_163 g => ?_)
            obtain ⟨hG_164, x_165, h_166, hF_167⟩ := hp
            have hG_168 := eOK.frame hMr_163 go_.2.2.2.1 mq2_ kq2_ (by decide) (by decide) hG_162
            have g := g.more hF_167
            refine lv_aload_n hx hb dX2_readArguments_224 rfl (lv_at hl 4 rfl) ?_
            refine g_getk (C := RX2) (T := TX2) (N := 16) hx hb hts (mc_ inX2) hown hK g rfl 0 (by decide) rfl (hts _ (List.mem_cons_of_mem _ t_416)) (fun _ h9 => h9) 8 rfl dX2_readArguments_225 ?_
            refine lv_bipush (v := 59) hx hb dX2_readArguments_228 (by decide) ?_
            have kb_1201 : bd 1201 1201 (1201 : Int32) := ⟨by decide, by decide⟩
            have go_ := g
            refine g_callv (va_runV (As := [.int 59]) (rest := []) ⟨hx, hb, hml, hown, hts⟩ (r_X8_take_2 l dC dI L kd tys fr_163 H.size g.2.2.2.1 q0_ mq0_ kq0_ 59 1201 kb_1201 x_35 h_36 (g.fcts [5, 6] rfl)) (cwV 1 hts (gV_ t_1098 t_1099 t_1100 t_184 t_1101) rfl rfl rfl (by decide +kernel) ⟨(Nat.le_of_ble_eq_true rfl), (Nat.le_of_ble_eq_true rfl)⟩) (pre3V g hK mq0_ kq0_ (by decide) (q := (RX8, TX8, 10)) rfl) rfl rfl hl.1 rfl (lv_room (Nat.le_of_ble_eq_true rfl)) dX2_readArguments_230 ⟨(Nat.le_of_ble_eq_true rfl), (Nat.le_of_ble_eq_true rfl)⟩) g hK (by decide) (by decide) (fx' := [(7, 6, q3_, .int x_165), (7, 5, q3_, .ref a_155), (7, 4, q3_, .ref a_154), (2, 13, a0_, .int x_153), (2, 12, a0_, .int x_152), (8, 8, q0_, .int x_35), (2, 14, a0_, .int x_17), (2, 0, a0_, .ref q0_), (2, 1, a0_, .ref q1_), (2, 2, a0_, .ref q2_), (2, 3, a0_, .ref q3_), (0, 0, q2_, .ref q0_), (0, 1, q2_, .ref q1_), (5, 0, q1_, .ref q3_), (5, 1, q1_, .ref q7_)]) rfl (fun fr_169 H locs hp hMr_169 g => ?_)
            obtain ⟨x_170, h_171, hF_172⟩ := hp
            have hG_173 := dOK.frame hMr_169 go_.2.2.2.1 mq3_ kq3_ (by decide) (by decide) hG_164
            have hG_174 := eOK.frame hMr_169 go_.2.2.2.1 mq2_ kq2_ (by decide) (by decide) hG_168
            have g := g.more hF_172
            subst hQ
            exact W.vret hx hb hr (fun t ht hW => ⟨⟨_, rfl, Or.inr (⟨hG_173, hG_174, x_170, h_171, x_35, h_36, (g.fcts [0, 6] rfl)⟩), q3_of g hK ht hW⟩, g.2.2.1.F ht⟩) g.2.2.1.2.2 dX2_readArguments_233
      · have fc_24 := neq_f c_24
        refine lv_iconst (v := 1) hx hb dX2_readArguments_60 (by decide) ?_
        refine lv_goto (tgt := 65) hx hb dX2_readArguments_61 (by decide) ?_
        refine lv_istore_n (lv' := [(3, .int 1), (2, .int 0), (1, .int r_1), (0, .ref a0_)]) hx hb dX2_readArguments_65 rfl hl (by decide) rfl (fun ls hl => ?_)
        refine lv_iconst (v := 0) hx hb dX2_readArguments_66 (by decide) ?_
        refine lv_istore (lv' := [(4, .int 0), (3, .int 1), (2, .int 0), (1, .int r_1), (0, .ref a0_)]) hx hb dX2_readArguments_67 hl (by decide) rfl (fun ls hl => ?_)
        have loop_175 : ∀ (n : Nat) (v69_4 : Int32) (v69_3 : Int32) (v69_2 : Int32), bd 0 4 v69_4 → bd 0 1 v69_3 → (4 - v69_4.toInt < (n : Int)) → ∀ (f : Nat → va_E) (H : Heap) (locs : List Loc) (ls : Array Slot), G3 (dC, dI) L kd tys s f0 [(0, 2), (0, 8), (0, 10), (0, 11), (0, 12), (0, 13), (7, 6), (7, 18), (8, 6), (8, 8), (8, 9)] [110, 111, 112, 113, 114, 115, 138, 139] f H locs [(2, 14, a0_, .int x_17), (8, 8, q0_, .int y0_), (2, 0, a0_, .ref q0_), (2, 1, a0_, .ref q1_), (2, 2, a0_, .ref q2_), (2, 3, a0_, .ref q3_), (0, 0, q2_, .ref q0_), (0, 1, q2_, .ref q1_), (5, 0, q1_, .ref q3_), (5, 1, q1_, .ref q7_)] → cOK f q3_ → dOK L kd f q3_ T_ → jS f q3_ J_ → eOK f q2_ → lv_has ls 6 [(4, .int v69_4), (3, .int v69_3), (2, .int v69_2), (1, .int r_1), (0, .ref a0_)] → W p l e ({ frames := 4, cells := 0, slots := 0, locals := 97 } : Room) s m [.ref a0_].toArray below meth c H locs 0 0 Q (F0 m 69 ls []) := by
          intro n69
          induction n69 with
          | zero =>
            intro v69_4 v69_3 v69_2 bv69_4 bv69_3  hm69 f H locs ls g hG69_c_q3_ hG69_d_q3_ hG69_s_q3_ hG69_e_q2_ hl
            exact absurd hm69 (by have h9_v69_4 := bv69_4; unfold bd at h9_v69_4; have h9_v69_3 := bv69_3; unfold bd at h9_v69_3; have h9_v69_2 := bdT v69_2; unfold bd at h9_v69_2; omega)
          | succ n69 ih69 =>
            intro v69_4 v69_3 v69_2 bv69_4 bv69_3  hm69 f H locs ls g hG69_c_q3_ hG69_d_q3_ hG69_s_q3_ hG69_e_q2_ hl
            refine lv_iload hx hb dX2_readArguments_69 (lv_at hl 0 rfl) ?_
            refine lv_iconst (v := 3) hx hb dX2_readArguments_71 (by decide) ?_
            have kb_3 : bd 3 3 (3 : Int32) := ⟨by decide, by decide⟩
            refine lv_icmp_gt (tgt := 162) hx hb dX2_readArguments_72 (by decide) (fun c_176 => ?_) (fun c_176 => ?_)
            · have fc_176 := lt_f c_176
              have b_177 : bd 4 4 v69_4 := ltR fc_176 kb_3 bv69_4 (by decide)
              refine lv_aload_n hx hb dX2_readArguments_162 rfl (lv_at hl 4 rfl) ?_
              refine g_getk (C := RX2) (T := TX2) (N := 16) hx hb hts (mc_ inX2) hown hK g rfl 0 (by decide) rfl (hts _ (List.mem_cons_of_mem _ t_416)) (fun _ h9 => h9) 2 rfl dX2_readArguments_163 ?_
              have go_ := g
              refine g_calli (va_runV (As := []) (rest := []) ⟨hx, hb, hml, hown, hts⟩ (r_X8_place l dC dI L kd tys f H.size g.2.2.2.1 q0_ mq0_ kq0_) (cwV 0 hts (gV_ t_1110 t_1111 t_1112 t_184 t_1113) rfl rfl rfl (by decide +kernel) ⟨(Nat.le_of_ble_eq_true rfl), (Nat.le_of_ble_eq_true rfl)⟩) (pre3V g hK mq0_ kq0_ (by decide) (q := (RX8, TX8, 10)) rfl) rfl rfl hl.1 rfl (lv_room (Nat.le_of_ble_eq_true rfl)) dX2_readArguments_166 ⟨(Nat.le_of_ble_eq_true rfl), (Nat.le_of_ble_eq_true rfl)⟩) g hK (by decide) (by decide) (fx' := [(2, 14, a0_, .int x_17), (8, 8, q0_, .int y0_), (2, 0, a0_, .ref q0_), (2, 1, a0_, .ref q1_), (2, 2, a0_, .ref q2_), (2, 3, a0_, .ref q3_), (0, 0, q2_, .ref q0_), (0, 1, q2_, .ref q1_), (5, 0, q1_, .ref q3_), (5, 1, q1_, .ref q7_)]) rfl (fun r_178 fr_178 H locs hp hMr_178 g => ?_)
              have hG_179 := cOK.frame hMr_178 go_.2.2.2.1 mq3_ kq3_ (by decide) (by decide) hG69_c_q3_
              have hG_180 := dOK.frame hMr_178 go_.2.2.2.1 mq3_ kq3_ (by decide) (by decide) hG69_d_q3_
              have hG_181 := jS.frame hMr_178 go_.2.2.2.1 mq3_ kq3_ (by decide) (by decide) hG69_s_q3_
              have hG_182 := eOK.frame hMr_178 go_.2.2.2.1 mq2_ kq2_ (by decide) (by decide) hG69_e_q2_
              refine lv_istore (lv' := [(4, .int r_178), (3, .int v69_3), (2, .int v69_2), (1, .int r_1), (0, .ref a0_)]) hx hb dX2_readArguments_169 hl (by decide) rfl (fun ls hl => ?_)
              refine lv_aload_n hx hb dX2_readArguments_171 rfl (lv_at hl 4 rfl) ?_
              refine g_getk (C := RX2) (T := TX2) (N := 16) hx hb hts (mc_ inX2) hown hK g rfl 0 (by decide) rfl (hts _ (List.mem_cons_of_mem _ t_416)) (fun _ h9 => h9) 2 rfl dX2_readArguments_172 ?_
              refine lv_bipush (v := 41) hx hb dX2_readArguments_175 (by decide) ?_
              have go_ := g
              refine g_callv (va_runV (As := [.int 41]) (rest := []) ⟨hx, hb, hml, hown, hts⟩ (r_X8_take l dC dI L kd tys fr_178 H.size g.2.2.2.1 q0_ mq0_ kq0_ 41 y0_ by0_ (g.fcts [1] rfl)) (cwV 1 hts (gV_ t_1098 t_1099 t_1100 t_184 t_1101) rfl rfl rfl (by decide +kernel) ⟨(Nat.le_of_ble_eq_true rfl), (Nat.le_of_ble_eq_true rfl)⟩) (pre3V g hK mq0_ kq0_ (by decide) (q := (RX8, TX8, 10)) rfl) rfl rfl hl.1 rfl (lv_room (Nat.le_of_ble_eq_true rfl)) dX2_readArguments_177 ⟨(Nat.le_of_ble_eq_true rfl), (Nat.le_of_ble_eq_true rfl)⟩) g hK (by decide) (by decide) (fx' := [(2, 14, a0_, .int x_17), (2, 0, a0_, .ref q0_), (2, 1, a0_, .ref q1_), (2, 2, a0_, .ref q2_), (2, 3, a0_, .ref q3_), (0, 0, q2_, .ref q0_), (0, 1, q2_, .ref q1_), (5, 0, q1_, .ref q3_), (5, 1, q1_, .ref q7_)]) rfl (fun fr_183 H locs hp hMr_183 g => ?_)
              rcases hp with ⟨x_184, h_185, hF_186⟩ | ⟨x_187, h_188, hF_189⟩
              · have hG_190 := cOK.frame hMr_183 go_.2.2.2.1 mq3_ kq3_ (by decide) (by decide) hG_179
                have hG_191 := dOK.frame hMr_183 go_.2.2.2.1 mq3_ kq3_ (by decide) (by decide) hG_180
                have hG_192 := jS.frame hMr_183 go_.2.2.2.1 mq3_ kq3_ (by decide) (by decide) hG_181
                have hG_193 := eOK.frame hMr_183 go_.2.2.2.1 mq2_ kq2_ (by decide) (by decide) hG_182
                have g := g.more hF_186
                refine lv_iload_n hx hb dX2_readArguments_180 rfl (lv_at hl 2 rfl) ?_
                refine lv_aload_n hx hb dX2_readArguments_181 rfl (lv_at hl 4 rfl) ?_
                refine g_getk (C := RX2) (T := TX2) (N := 16) hx hb hts (mc_ inX2) hown hK g rfl 14 (by decide) rfl (hts _ (List.mem_cons_of_mem _ t_430)) (fun _ h9 => h9) 2 rfl dX2_readArguments_182 ?_
                refine lv_icmp_ge (tgt := 199) hx hb dX2_readArguments_185 (by decide) (fun c_194 => ?_) (fun c_194 => ?_)
                · have fc_194 := le_f c_194
                  refine lv_aload_n hx hb dX2_readArguments_199 rfl (lv_at hl 4 rfl) ?_
                  refine g_getk (C := RX2) (T := TX2) (N := 16) hx hb hts (mc_ inX2) hown hK g rfl 3 (by decide) rfl (hts _ (List.mem_cons_of_mem _ t_419)) (fun _ h9 => h9) 6 rfl dX2_readArguments_200 ?_
                  refine lv_aload_n hx hb dX2_readArguments_203 rfl (lv_at hl 4 rfl) ?_
                  refine g_geti (C := RX2) (T := TX2) (N := 16) hx hb hts (mc_ inX2) hown hK g ma0_ ka0_ (by decide) rfl 12 (by decide) rfl (hts _ (List.mem_cons_of_mem _ t_428)) (fun _ h9 => h9) rfl dX2_readArguments_204 (fun x_195 bx_195 g => ?_)
                  refine lv_aload_n hx hb dX2_readArguments_207 rfl (lv_at hl 4 rfl) ?_
                  refine g_geti (C := RX2) (T := TX2) (N := 16) hx hb hts (mc_ inX2) hown hK g ma0_ ka0_ (by decide) rfl 13 (by decide) rfl (hts _ (List.mem_cons_of_mem _ t_429)) (fun _ h9 => h9) rfl dX2_readArguments_208 (fun x_196 bx_196 g => ?_)
                  obtain ⟨a_197, ma_197, ka_197, g⟩ := g_factr g mq3_ kq3_ (by decide) 4 rfl
                  obtain ⟨a_198, ma_198, ka_198, g⟩ := g_factr g mq3_ kq3_ (by decide) 5 rfl
                  obtain ⟨x_199, bx_199, g⟩ := g_facti g mq3_ kq3_ (by decide) 6 rfl
                  have go_ := g
                  refine g_callv (va_runV (As := [.int x_195, .int x_196]) (rest := []) ⟨hx, hb, hml, hown, hts⟩ (r_X7_emitN l dC dI L kd tys fr_183 H.size g.2.2.2.1 q3_ mq3_ kq3_ a_197 ma_197 ka_197 a_198 ma_198 ka_198 x_199 bx_199 T_ hG_191 x_195 x_196 (fun j9 => jOK fr_183 q3_ j9) hG_190 (fun _ h9 => h9) ⟨(fun h9 => ⟨(by have h9_0 := bv69_3; unfold bd at h9_0; have h9_1 := b_177; unfold bd at h9_1; have h9_2 := h_185; unfold bd at h9_2; have h9_3 := bx_196; unfold bd at h9_3; have h9_4 := bx_199; unfold bd at h9_4; have h9_5 := h_8; unfold bd at h9_5; have h9_6 := by0_; unfold bd at h9_6; have h8_0 := kb_0; unfold bd at h8_0; have h8_1 := kb_3; unfold bd at h8_1; have h8_2 := kb_41; unfold bd at h8_2; omega), (by have h9_0 := bv69_3; unfold bd at h9_0; have h9_1 := b_177; unfold bd at h9_1; have h9_2 := h_185; unfold bd at h9_2; have h9_3 := bx_196; unfold bd at h9_3; have h9_4 := bx_199; unfold bd at h9_4; have h9_5 := h_8; unfold bd at h9_5; have h9_6 := by0_; unfold bd at h9_6; have h8_0 := kb_0; unfold bd at h8_0; have h8_1 := kb_3; unfold bd at h8_1; have h8_2 := kb_41; unfold bd at h8_2; omega)⟩), (fun h9 => ⟨(by have h9_0 := bv69_3; unfold bd at h9_0; have h9_1 := b_177; unfold bd at h9_1; have h9_2 := h_185; unfold bd at h9_2; have h9_3 := bx_196; unfold bd at h9_3; have h9_4 := bx_199; unfold bd at h9_4; have h9_5 := h_8; unfold bd at h9_5; have h9_6 := by0_; unfold bd at h9_6; have h8_0 := kb_0; unfold bd at h8_0; have h8_1 := kb_3; unfold bd at h8_1; have h8_2 := kb_41; unfold bd at h8_2; omega), (by have h9_0 := bv69_3; unfold bd at h9_0; have h9_1 := b_177; unfold bd at h9_1; have h9_2 := h_185; unfold bd at h9_2; have h9_3 := bx_196; unfold bd at h9_3; have h9_4 := bx_199; unfold bd at h9_4; have h9_5 := h_8; unfold bd at h9_5; have h9_6 := by0_; unfold bd at h9_6; have h8_0 := kb_0; unfold bd at h8_0; have h8_1 := kb_3; unfold bd at h8_1; have h8_2 := kb_41; unfold bd at h8_2; omega)⟩), (fun h9 => ⟨(by have h9_0 := bv69_3; unfold bd at h9_0; have h9_1 := b_177; unfold bd at h9_1; have h9_2 := h_185; unfold bd at h9_2; have h9_3 := bx_196; unfold bd at h9_3; have h9_4 := bx_199; unfold bd at h9_4; have h9_5 := h_8; unfold bd at h9_5; have h9_6 := by0_; unfold bd at h9_6; have h8_0 := kb_0; unfold bd at h8_0; have h8_1 := kb_3; unfold bd at h8_1; have h8_2 := kb_41; unfold bd at h8_2; omega), (by have h9_0 := bv69_3; unfold bd at h9_0; have h9_1 := b_177; unfold bd at h9_1; have h9_2 := h_185; unfold bd at h9_2; have h9_3 := bx_196; unfold bd at h9_3; have h9_4 := bx_199; unfold bd at h9_4; have h9_5 := h_8; unfold bd at h9_5; have h9_6 := by0_; unfold bd at h9_6; have h8_0 := kb_0; unfold bd at h8_0; have h8_1 := kb_3; unfold bd at h8_1; have h8_2 := kb_41; unfold bd at h8_2; omega)⟩)⟩ (g.fcts [2, 1, 0] rfl)) (cwV 2 hts (gV_ t_1301 t_1204 t_1205 t_191 t_1206) rfl rfl rfl (by decide +kernel) ⟨(Nat.le_of_ble_eq_true rfl), (Nat.le_of_ble_eq_true rfl)⟩) (pre3V g hK mq3_ kq3_ (by decide) (q := (RX7, TX7, 19)) rfl) rfl rfl hl.1 rfl (lv_room (Nat.le_of_ble_eq_true rfl)) dX2_readArguments_211 ⟨(Nat.le_of_ble_eq_true rfl), (Nat.le_of_ble_eq_true rfl)⟩) g hK (by decide) (by decide) (fx' := [(7, 5, q3_, .ref a_198), (7, 4, q3_, .ref a_197), (2, 13, a0_, .int x_196), (2, 12, a0_, .int x_195), (8, 6, q0_, .int x_184), (8, 8, q0_, .int y0_), (2, 14, a0_, .int x_17), (2, 0, a0_, .ref q0_), (2, 1, a0_, .ref q1_), (2, 2, a0_, .ref q2_), (2, 3, a0_, .ref q3_), (0, 0, q2_, .ref q0_), (0, 1, q2_, .ref q1_), (5, 0, q1_, .ref q3_), (5, 1, q1_, .ref q7_)]) rfl (fun fr_200 H locs hp hMr_200 g => ?_)
                  obtain ⟨hG_201, hG_202, hG_203, hx_204, x_205, h_206, hF_207⟩ := hp
                  have hG_208 := eOK.frame hMr_200 go_.2.2.2.1 mq2_ kq2_ (by decide) (by decide) hG_193
                  have g := g.more hF_207
                  have hs_209 := jS.mv hG_192 hG_203
                  refine lv_aload_n hx hb dX2_readArguments_214 rfl (lv_at hl 4 rfl) ?_
                  refine g_getk (C := RX2) (T := TX2) (N := 16) hx hb hts (mc_ inX2) hown hK g rfl 3 (by decide) rfl (hts _ (List.mem_cons_of_mem _ t_419)) (fun _ h9 => h9) 11 rfl dX2_readArguments_215 ?_
                  refine lv_bipush (v := 22) hx hb dX2_readArguments_218 (by decide) ?_
                  refine lv_iconst (v := 0) hx hb dX2_readArguments_220 (by decide) ?_
                  have kb_22 : bd 22 22 (22 : Int32) := ⟨by decide, by decide⟩
                  have go_ := g
                  refine g_callv (va_runV (As := [.int 22, .int 0]) (rest := []) ⟨hx, hb, hml, hown, hts⟩ (r_X7_emitN l dC dI L kd tys fr_200 H.size g.2.2.2.1 q3_ mq3_ kq3_ a_197 ma_197 ka_197 a_198 ma_198 ka_198 x_205 h_206 T_ hG_201 (22 : Int32) (0 : Int32) (fun j9 => jOK fr_200 q3_ j9) hG_202 (fun _ h9 => h9) ⟨(fun h9 => ⟨(by have h9_0 := bv69_3; unfold bd at h9_0; have h9_1 := b_177; unfold bd at h9_1; have h9_2 := h_185; unfold bd at h9_2; have h9_3 := bx_196; unfold bd at h9_3; have h9_4 := bx_199; unfold bd at h9_4; have h9_5 := h_206; unfold bd at h9_5; have h9_6 := h_8; unfold bd at h9_6; have h9_7 := by0_; unfold bd at h9_7; have h8_0 := kb_0; unfold bd at h8_0; have h8_1 := kb_22; unfold bd at h8_1; have h8_2 := kb_3; unfold bd at h8_2; have h8_3 := kb_41; unfold bd at h8_3; omega), (by have h9_0 := bv69_3; unfold bd at h9_0; have h9_1 := b_177; unfold bd at h9_1; have h9_2 := h_185; unfold bd at h9_2; have h9_3 := bx_196; unfold bd at h9_3; have h9_4 := bx_199; unfold bd at h9_4; have h9_5 := h_206; unfold bd at h9_5; have h9_6 := h_8; unfold bd at h9_6; have h9_7 := by0_; unfold bd at h9_7; have h8_0 := kb_0; unfold bd at h8_0; have h8_1 := kb_22; unfold bd at h8_1; have h8_2 := kb_3; unfold bd at h8_2; have h8_3 := kb_41; unfold bd at h8_3; omega)⟩), (fun h9 => ⟨(by have h9_0 := bv69_3; unfold bd at h9_0; have h9_1 := b_177; unfold bd at h9_1; have h9_2 := h_185; unfold bd at h9_2; have h9_3 := bx_196; unfold bd at h9_3; have h9_4 := bx_199; unfold bd at h9_4; have h9_5 := h_206; unfold bd at h9_5; have h9_6 := h_8; unfold bd at h9_6; have h9_7 := by0_; unfold bd at h9_7; have h8_0 := kb_0; unfold bd at h8_0; have h8_1 := kb_22; unfold bd at h8_1; have h8_2 := kb_3; unfold bd at h8_2; have h8_3 := kb_41; unfold bd at h8_3; omega), (by have h9_0 := bv69_3; unfold bd at h9_0; have h9_1 := b_177; unfold bd at h9_1; have h9_2 := h_185; unfold bd at h9_2; have h9_3 := bx_196; unfold bd at h9_3; have h9_4 := bx_199; unfold bd at h9_4; have h9_5 := h_206; unfold bd at h9_5; have h9_6 := h_8; unfold bd at h9_6; have h9_7 := by0_; unfold bd at h9_7; have h8_0 := kb_0; unfold bd at h8_0; have h8_1 := kb_22; unfold bd at h8_1; have h8_2 := kb_3; unfold bd at h8_2; have h8_3 := kb_41; unfold bd at h8_3; omega)⟩), (fun h9 => ⟨(by have h9_0 := bv69_3; unfold bd at h9_0; have h9_1 := b_177; unfold bd at h9_1; have h9_2 := h_185; unfold bd at h9_2; have h9_3 := bx_196; unfold bd at h9_3; have h9_4 := bx_199; unfold bd at h9_4; have h9_5 := h_206; unfold bd at h9_5; have h9_6 := h_8; unfold bd at h9_6; have h9_7 := by0_; unfold bd at h9_7; have h8_0 := kb_0; unfold bd at h8_0; have h8_1 := kb_22; unfold bd at h8_1; have h8_2 := kb_3; unfold bd at h8_2; have h8_3 := kb_41; unfold bd at h8_3; omega), (by have h9_0 := bv69_3; unfold bd at h9_0; have h9_1 := b_177; unfold bd at h9_1; have h9_2 := h_185; unfold bd at h9_2; have h9_3 := bx_196; unfold bd at h9_3; have h9_4 := bx_199; unfold bd at h9_4; have h9_5 := h_206; unfold bd at h9_5; have h9_6 := h_8; unfold bd at h9_6; have h9_7 := by0_; unfold bd at h9_7; have h8_0 := kb_0; unfold bd at h8_0; have h8_1 := kb_22; unfold bd at h8_1; have h8_2 := kb_3; unfold bd at h8_2; have h8_3 := kb_41; unfold bd at h8_3; omega)⟩)⟩ (g.fcts [2, 1, 0] rfl)) (cwV 2 hts (gV_ t_1301 t_1204 t_1205 t_191 t_1206) rfl rfl rfl (by decide +kernel) ⟨(Nat.le_of_ble_eq_true rfl), (Nat.le_of_ble_eq_true rfl)⟩) (pre3V g hK mq3_ kq3_ (by decide) (q := (RX7, TX7, 19)) rfl) rfl rfl hl.1 rfl (lv_room (Nat.le_of_ble_eq_true rfl)) dX2_readArguments_221 ⟨(Nat.le_of_ble_eq_true rfl), (Nat.le_of_ble_eq_true rfl)⟩) g hK (by decide) (by decide) (fx' := [(7, 5, q3_, .ref a_198), (7, 4, q3_, .ref a_197), (2, 13, a0_, .int x_196), (2, 12, a0_, .int x_195), (8, 6, q0_, .int x_184), (8, 8, q0_, .int y0_), (2, 14, a0_, .int x_17), (2, 0, a0_, .ref q0_), (2, 1, a0_, .ref q1_), (2, 2, a0_, .ref q2_), (2, 3, a0_, .ref q3_), (0, 0, q2_, .ref q0_), (0, 1, q2_, .ref q1_), (5, 0, q1_, .ref q3_), (5, 1, q1_, .ref q7_)]) rfl (fun fr_210 H locs hp hMr_210 g => ?_)
                  obtain ⟨hG_211, hG_212, hG_213, hx_214, x_215, h_216, hF_217⟩ := hp
                  have hG_218 := eOK.frame hMr_210 go_.2.2.2.1 mq2_ kq2_ (by decide) (by decide) hG_208
                  have g := g.more hF_217
                  have hs_219 := jS.mv hs_209 hG_213
                  refine lv_aload_n hx hb dX2_readArguments_224 rfl (lv_at hl 4 rfl) ?_
                  refine g_getk (C := RX2) (T := TX2) (N := 16) hx hb hts (mc_ inX2) hown hK g rfl 0 (by decide) rfl (hts _ (List.mem_cons_of_mem _ t_416)) (fun _ h9 => h9) 8 rfl dX2_readArguments_225 ?_
                  refine lv_bipush (v := 59) hx hb dX2_readArguments_228 (by decide) ?_
                  have go_ := g
                  refine g_callv (va_runV (As := [.int 59]) (rest := []) ⟨hx, hb, hml, hown, hts⟩ (r_X8_take l dC dI L kd tys fr_210 H.size g.2.2.2.1 q0_ mq0_ kq0_ 59 y0_ by0_ (g.fcts [6] rfl)) (cwV 1 hts (gV_ t_1098 t_1099 t_1100 t_184 t_1101) rfl rfl rfl (by decide +kernel) ⟨(Nat.le_of_ble_eq_true rfl), (Nat.le_of_ble_eq_true rfl)⟩) (pre3V g hK mq0_ kq0_ (by decide) (q := (RX8, TX8, 10)) rfl) rfl rfl hl.1 rfl (lv_room (Nat.le_of_ble_eq_true rfl)) dX2_readArguments_230 ⟨(Nat.le_of_ble_eq_true rfl), (Nat.le_of_ble_eq_true rfl)⟩) g hK (by decide) (by decide) (fx' := [(7, 6, q3_, .int x_215), (7, 5, q3_, .ref a_198), (7, 4, q3_, .ref a_197), (2, 13, a0_, .int x_196), (2, 12, a0_, .int x_195), (2, 14, a0_, .int x_17), (2, 0, a0_, .ref q0_), (2, 1, a0_, .ref q1_), (2, 2, a0_, .ref q2_), (2, 3, a0_, .ref q3_), (0, 0, q2_, .ref q0_), (0, 1, q2_, .ref q1_), (5, 0, q1_, .ref q3_), (5, 1, q1_, .ref q7_)]) rfl (fun fr_220 H locs hp hMr_220 g => ?_)
                  rcases hp with ⟨x_221, h_222, hF_223⟩ | ⟨x_224, h_225, hF_226⟩
                  · have hG_227 := cOK.frame hMr_220 go_.2.2.2.1 mq3_ kq3_ (by decide) (by decide) hG_212
                    have hG_228 := dOK.frame hMr_220 go_.2.2.2.1 mq3_ kq3_ (by decide) (by decide) hG_211
                    have hG_229 := jS.frame hMr_220 go_.2.2.2.1 mq3_ kq3_ (by decide) (by decide) hs_219
                    have hG_230 := eOK.frame hMr_220 go_.2.2.2.1 mq2_ kq2_ (by decide) (by decide) hG_218
                    have g := g.more hF_223
                    subst hQ
                    exact W.vret hx hb hr (fun t ht hW => ⟨⟨_, rfl, Or.inl ⟨hG_227, hG_228, hG_229, hG_230, x_221, h_222, (g.fcts [0, 1] rfl)⟩, q3_of g hK ht hW⟩, g.2.2.1.F ht⟩) g.2.2.1.2.2 dX2_readArguments_233
                  · have hG_231 := cOK.frame hMr_220 go_.2.2.2.1 mq3_ kq3_ (by decide) (by decide) hG_212
                    have hG_232 := dOK.frame hMr_220 go_.2.2.2.1 mq3_ kq3_ (by decide) (by decide) hG_211
                    have hG_233 := jS.frame hMr_220 go_.2.2.2.1 mq3_ kq3_ (by decide) (by decide) hs_219
                    have hG_234 := eOK.frame hMr_220 go_.2.2.2.1 mq2_ kq2_ (by decide) (by decide) hG_218
                    have g := g.more hF_226
                    have kb_1201 : bd 1201 1201 (1201 : Int32) := ⟨by decide, by decide⟩
                    subst hQ
                    exact W.vret hx hb hr (fun t ht hW => ⟨⟨_, rfl, Or.inr (⟨hG_232, hG_234, 1201, kb_1201, x_224, h_225, (g.fcts [0, 1] rfl)⟩), q3_of g hK ht hW⟩, g.2.2.1.F ht⟩) g.2.2.1.2.2 dX2_readArguments_233
                · have fc_194 := nle_f c_194
                  have b_235 : bd (-2147483648) 2147483646 v69_2 := ltL fc_194 (bdT v69_2) (bdT x_17) (by decide)
                  have b_236 : bd (-2147483647) 2147483647 x_17 := ltR fc_194 (bdT v69_2) (bdT x_17) (by decide)
                  refine lv_aload_n hx hb dX2_readArguments_188 rfl (lv_at hl 4 rfl) ?_
                  refine g_getk (C := RX2) (T := TX2) (N := 16) hx hb hts (mc_ inX2) hown hK g rfl 0 (by decide) rfl (hts _ (List.mem_cons_of_mem _ t_416)) (fun _ h9 => h9) 3 rfl dX2_readArguments_189 ?_
                  refine lv_bipush (v := 6) hx hb dX2_readArguments_192 (by decide) ?_
                  refine lv_iload hx hb dX2_readArguments_194 (lv_at hl 0 rfl) ?_
                  have kb_6 : bd 6 6 (6 : Int32) := ⟨by decide, by decide⟩
                  have go_ := g
                  refine g_callv (va_runV (As := [.int 6, .int r_178]) (rest := []) ⟨hx, hb, hml, hown, hts⟩ (r_X8_fail l dC dI L kd tys fr_183 H.size g.2.2.2.1 q0_ mq0_ kq0_ 6 (bd_sub kb_6 (by decide)) r_178 y0_ by0_ (g.fcts [1] rfl)) (cwV 2 hts (gV_ t_1122 t_1107 t_1108 t_184 t_1109) rfl rfl rfl (by decide +kernel) ⟨(Nat.le_of_ble_eq_true rfl), (Nat.le_of_ble_eq_true rfl)⟩) (pre3V g hK mq0_ kq0_ (by decide) (q := (RX8, TX8, 10)) rfl) rfl rfl hl.1 rfl (lv_room (Nat.le_of_ble_eq_true rfl)) dX2_readArguments_196 ⟨(Nat.le_of_ble_eq_true rfl), (Nat.le_of_ble_eq_true rfl)⟩) g hK (by decide) (by decide) (fx' := [(2, 14, a0_, .int x_17), (2, 0, a0_, .ref q0_), (2, 1, a0_, .ref q1_), (2, 2, a0_, .ref q2_), (2, 3, a0_, .ref q3_), (0, 0, q2_, .ref q0_), (0, 1, q2_, .ref q1_), (5, 0, q1_, .ref q3_), (5, 1, q1_, .ref q7_)]) rfl (fun fr_237 H locs hp hMr_237 g => ?_)
                  obtain ⟨x_238, h_239, hF_240⟩ := hp
                  have hG_241 := cOK.frame hMr_237 go_.2.2.2.1 mq3_ kq3_ (by decide) (by decide) hG_190
                  have hG_242 := dOK.frame hMr_237 go_.2.2.2.1 mq3_ kq3_ (by decide) (by decide) hG_191
                  have hG_243 := jS.frame hMr_237 go_.2.2.2.1 mq3_ kq3_ (by decide) (by decide) hG_192
                  have hG_244 := eOK.frame hMr_237 go_.2.2.2.1 mq2_ kq2_ (by decide) (by decide) hG_193
                  have g := g.more hF_240
                  refine lv_aload_n hx hb dX2_readArguments_199 rfl (lv_at hl 4 rfl) ?_
                  refine g_getk (C := RX2) (T := TX2) (N := 16) hx hb hts (mc_ inX2) hown hK g rfl 3 (by decide) rfl (hts _ (List.mem_cons_of_mem _ t_419)) (fun _ h9 => h9) 6 rfl dX2_readArguments_200 ?_
                  refine lv_aload_n hx hb dX2_readArguments_203 rfl (lv_at hl 4 rfl) ?_
                  refine g_geti (C := RX2) (T := TX2) (N := 16) hx hb hts (mc_ inX2) hown hK g ma0_ ka0_ (by decide) rfl 12 (by decide) rfl (hts _ (List.mem_cons_of_mem _ t_428)) (fun _ h9 => h9) rfl dX2_readArguments_204 (fun x_245 bx_245 g => ?_)
                  refine lv_aload_n hx hb dX2_readArguments_207 rfl (lv_at hl 4 rfl) ?_
                  refine g_geti (C := RX2) (T := TX2) (N := 16) hx hb hts (mc_ inX2) hown hK g ma0_ ka0_ (by decide) rfl 13 (by decide) rfl (hts _ (List.mem_cons_of_mem _ t_429)) (fun _ h9 => h9) rfl dX2_readArguments_208 (fun x_246 bx_246 g => ?_)
                  obtain ⟨a_247, ma_247, ka_247, g⟩ := g_factr g mq3_ kq3_ (by decide) 4 rfl
                  obtain ⟨a_248, ma_248, ka_248, g⟩ := g_factr g mq3_ kq3_ (by decide) 5 rfl
                  obtain ⟨x_249, bx_249, g⟩ := g_facti g mq3_ kq3_ (by decide) 6 rfl
                  have go_ := g
                  refine g_callv (va_runV (As := [.int x_245, .int x_246]) (rest := []) ⟨hx, hb, hml, hown, hts⟩ (r_X7_emitF l dC dI L kd tys fr_237 H.size g.2.2.2.1 q3_ mq3_ kq3_ a_247 ma_247 ka_247 a_248 ma_248 ka_248 x_249 bx_249 T_ hG_242 x_245 x_246 (g.fcts [2, 1, 0] rfl)) (cwV 2 hts (gV_ t_1301 t_1204 t_1205 t_191 t_1206) rfl rfl rfl (by decide +kernel) ⟨(Nat.le_of_ble_eq_true rfl), (Nat.le_of_ble_eq_true rfl)⟩) (pre3V g hK mq3_ kq3_ (by decide) (q := (RX7, TX7, 19)) rfl) rfl rfl hl.1 rfl (lv_room (Nat.le_of_ble_eq_true rfl)) dX2_readArguments_211 ⟨(Nat.le_of_ble_eq_true rfl), (Nat.le_of_ble_eq_true rfl)⟩) g hK (by decide) (by decide) (fx' := [(7, 5, q3_, .ref a_248), (7, 4, q3_, .ref a_247), (2, 13, a0_, .int x_246), (2, 12, a0_, .int x_245), (8, 6, q0_, .int 1201), (8, 8, q0_, .int x_238), (2, 14, a0_, .int x_17), (2, 0, a0_, .ref q0_), (2, 1, a0_, .ref q1_), (2, 2, a0_, .ref q2_), (2, 3, a0_, .ref q3_), (0, 0, q2_, .ref q0_), (0, 1, q2_, .ref q1_), (5, 0, q1_, .ref q3_), (5, 1, q1_, .ref q7_)]) rfl (fun fr_250 H locs hp hMr_250 g => ?_)
                  obtain ⟨hG_251, x_252, h_253, hF_254⟩ := hp
                  have hG_255 := eOK.frame hMr_250 go_.2.2.2.1 mq2_ kq2_ (by decide) (by decide) hG_244
                  have g := g.more hF_254
                  refine lv_aload_n hx hb dX2_readArguments_214 rfl (lv_at hl 4 rfl) ?_
                  refine g_getk (C := RX2) (T := TX2) (N := 16) hx hb hts (mc_ inX2) hown hK g rfl 3 (by decide) rfl (hts _ (List.mem_cons_of_mem _ t_419)) (fun _ h9 => h9) 11 rfl dX2_readArguments_215 ?_
                  refine lv_bipush (v := 22) hx hb dX2_readArguments_218 (by decide) ?_
                  refine lv_iconst (v := 0) hx hb dX2_readArguments_220 (by decide) ?_
                  have go_ := g
                  refine g_callv (va_runV (As := [.int 22, .int 0]) (rest := []) ⟨hx, hb, hml, hown, hts⟩ (r_X7_emitF l dC dI L kd tys fr_250 H.size g.2.2.2.1 q3_ mq3_ kq3_ a_247 ma_247 ka_247 a_248 ma_248 ka_248 x_252 h_253 T_ hG_251 (22 : Int32) (0 : Int32) (g.fcts [2, 1, 0] rfl)) (cwV 2 hts (gV_ t_1301 t_1204 t_1205 t_191 t_1206) rfl rfl rfl (by decide +kernel) ⟨(Nat.le_of_ble_eq_true rfl), (Nat.le_of_ble_eq_true rfl)⟩) (pre3V g hK mq3_ kq3_ (by decide) (q := (RX7, TX7, 19)) rfl) rfl rfl hl.1 rfl (lv_room (Nat.le_of_ble_eq_true rfl)) dX2_readArguments_221 ⟨(Nat.le_of_ble_eq_true rfl), (Nat.le_of_ble_eq_true rfl)⟩) g hK (by decide) (by decide) (fx' := [(7, 5, q3_, .ref a_248), (7, 4, q3_, .ref a_247), (2, 13, a0_, .int x_246), (2, 12, a0_, .int x_245), (8, 6, q0_, .int 1201), (8, 8, q0_, .int x_238), (2, 14, a0_, .int x_17), (2, 0, a0_, .ref q0_), (2, 1, a0_, .ref q1_), (2, 2, a0_, .ref q2_), (2, 3, a0_, .ref q3_), (0, 0, q2_, .ref q0_), (0, 1, q2_, .ref q1_), (5, 0, q1_, .ref q3_), (5, 1, q1_, .ref q7_)]) rfl (fun fr_256 H locs hp hMr_256 g => ?_)
                  obtain ⟨hG_257, x_258, h_259, hF_260⟩ := hp
                  have hG_261 := eOK.frame hMr_256 go_.2.2.2.1 mq2_ kq2_ (by decide) (by decide) hG_255
                  have g := g.more hF_260
                  refine lv_aload_n hx hb dX2_readArguments_224 rfl (lv_at hl 4 rfl) ?_
                  refine g_getk (C := RX2) (T := TX2) (N := 16) hx hb hts (mc_ inX2) hown hK g rfl 0 (by decide) rfl (hts _ (List.mem_cons_of_mem _ t_416)) (fun _ h9 => h9) 8 rfl dX2_readArguments_225 ?_
                  refine lv_bipush (v := 59) hx hb dX2_readArguments_228 (by decide) ?_
                  have kb_1201 : bd 1201 1201 (1201 : Int32) := ⟨by decide, by decide⟩
                  have go_ := g
                  refine g_callv (va_runV (As := [.int 59]) (rest := []) ⟨hx, hb, hml, hown, hts⟩ (r_X8_take_2 l dC dI L kd tys fr_256 H.size g.2.2.2.1 q0_ mq0_ kq0_ 59 1201 kb_1201 x_238 h_239 (g.fcts [5, 6] rfl)) (cwV 1 hts (gV_ t_1098 t_1099 t_1100 t_184 t_1101) rfl rfl rfl (by decide +kernel) ⟨(Nat.le_of_ble_eq_true rfl), (Nat.le_of_ble_eq_true rfl)⟩) (pre3V g hK mq0_ kq0_ (by decide) (q := (RX8, TX8, 10)) rfl) rfl rfl hl.1 rfl (lv_room (Nat.le_of_ble_eq_true rfl)) dX2_readArguments_230 ⟨(Nat.le_of_ble_eq_true rfl), (Nat.le_of_ble_eq_true rfl)⟩) g hK (by decide) (by decide) (fx' := [(7, 6, q3_, .int x_258), (7, 5, q3_, .ref a_248), (7, 4, q3_, .ref a_247), (2, 13, a0_, .int x_246), (2, 12, a0_, .int x_245), (8, 8, q0_, .int x_238), (2, 14, a0_, .int x_17), (2, 0, a0_, .ref q0_), (2, 1, a0_, .ref q1_), (2, 2, a0_, .ref q2_), (2, 3, a0_, .ref q3_), (0, 0, q2_, .ref q0_), (0, 1, q2_, .ref q1_), (5, 0, q1_, .ref q3_), (5, 1, q1_, .ref q7_)]) rfl (fun fr_262 H locs hp hMr_262 g => ?_)
                  obtain ⟨x_263, h_264, hF_265⟩ := hp
                  have hG_266 := dOK.frame hMr_262 go_.2.2.2.1 mq3_ kq3_ (by decide) (by decide) hG_257
                  have hG_267 := eOK.frame hMr_262 go_.2.2.2.1 mq2_ kq2_ (by decide) (by decide) hG_261
                  have g := g.more hF_265
                  subst hQ
                  exact W.vret hx hb hr (fun t ht hW => ⟨⟨_, rfl, Or.inr (⟨hG_266, hG_267, x_263, h_264, x_238, h_239, (g.fcts [0, 6] rfl)⟩), q3_of g hK ht hW⟩, g.2.2.1.F ht⟩) g.2.2.1.2.2 dX2_readArguments_233
              · have hG_268 := cOK.frame hMr_183 go_.2.2.2.1 mq3_ kq3_ (by decide) (by decide) hG_179
                have hG_269 := dOK.frame hMr_183 go_.2.2.2.1 mq3_ kq3_ (by decide) (by decide) hG_180
                have hG_270 := jS.frame hMr_183 go_.2.2.2.1 mq3_ kq3_ (by decide) (by decide) hG_181
                have hG_271 := eOK.frame hMr_183 go_.2.2.2.1 mq2_ kq2_ (by decide) (by decide) hG_182
                have g := g.more hF_189
                refine lv_iload_n hx hb dX2_readArguments_180 rfl (lv_at hl 2 rfl) ?_
                refine lv_aload_n hx hb dX2_readArguments_181 rfl (lv_at hl 4 rfl) ?_
                refine g_getk (C := RX2) (T := TX2) (N := 16) hx hb hts (mc_ inX2) hown hK g rfl 14 (by decide) rfl (hts _ (List.mem_cons_of_mem _ t_430)) (fun _ h9 => h9) 2 rfl dX2_readArguments_182 ?_
                refine lv_icmp_ge (tgt := 199) hx hb dX2_readArguments_185 (by decide) (fun c_272 => ?_) (fun c_272 => ?_)
                · have fc_272 := le_f c_272
                  refine lv_aload_n hx hb dX2_readArguments_199 rfl (lv_at hl 4 rfl) ?_
                  refine g_getk (C := RX2) (T := TX2) (N := 16) hx hb hts (mc_ inX2) hown hK g rfl 3 (by decide) rfl (hts _ (List.mem_cons_of_mem _ t_419)) (fun _ h9 => h9) 6 rfl dX2_readArguments_200 ?_
                  refine lv_aload_n hx hb dX2_readArguments_203 rfl (lv_at hl 4 rfl) ?_
                  refine g_geti (C := RX2) (T := TX2) (N := 16) hx hb hts (mc_ inX2) hown hK g ma0_ ka0_ (by decide) rfl 12 (by decide) rfl (hts _ (List.mem_cons_of_mem _ t_428)) (fun _ h9 => h9) rfl dX2_readArguments_204 (fun x_273 bx_273 g => ?_)
                  refine lv_aload_n hx hb dX2_readArguments_207 rfl (lv_at hl 4 rfl) ?_
                  refine g_geti (C := RX2) (T := TX2) (N := 16) hx hb hts (mc_ inX2) hown hK g ma0_ ka0_ (by decide) rfl 13 (by decide) rfl (hts _ (List.mem_cons_of_mem _ t_429)) (fun _ h9 => h9) rfl dX2_readArguments_208 (fun x_274 bx_274 g => ?_)
                  obtain ⟨a_275, ma_275, ka_275, g⟩ := g_factr g mq3_ kq3_ (by decide) 4 rfl
                  obtain ⟨a_276, ma_276, ka_276, g⟩ := g_factr g mq3_ kq3_ (by decide) 5 rfl
                  obtain ⟨x_277, bx_277, g⟩ := g_facti g mq3_ kq3_ (by decide) 6 rfl
                  have go_ := g
                  refine g_callv (va_runV (As := [.int x_273, .int x_274]) (rest := []) ⟨hx, hb, hml, hown, hts⟩ (r_X7_emitF l dC dI L kd tys fr_183 H.size g.2.2.2.1 q3_ mq3_ kq3_ a_275 ma_275 ka_275 a_276 ma_276 ka_276 x_277 bx_277 T_ hG_269 x_273 x_274 (g.fcts [2, 1, 0] rfl)) (cwV 2 hts (gV_ t_1301 t_1204 t_1205 t_191 t_1206) rfl rfl rfl (by decide +kernel) ⟨(Nat.le_of_ble_eq_true rfl), (Nat.le_of_ble_eq_true rfl)⟩) (pre3V g hK mq3_ kq3_ (by decide) (q := (RX7, TX7, 19)) rfl) rfl rfl hl.1 rfl (lv_room (Nat.le_of_ble_eq_true rfl)) dX2_readArguments_211 ⟨(Nat.le_of_ble_eq_true rfl), (Nat.le_of_ble_eq_true rfl)⟩) g hK (by decide) (by decide) (fx' := [(7, 5, q3_, .ref a_276), (7, 4, q3_, .ref a_275), (2, 13, a0_, .int x_274), (2, 12, a0_, .int x_273), (8, 6, q0_, .int 1201), (8, 8, q0_, .int x_187), (2, 14, a0_, .int x_17), (2, 0, a0_, .ref q0_), (2, 1, a0_, .ref q1_), (2, 2, a0_, .ref q2_), (2, 3, a0_, .ref q3_), (0, 0, q2_, .ref q0_), (0, 1, q2_, .ref q1_), (5, 0, q1_, .ref q3_), (5, 1, q1_, .ref q7_)]) rfl (fun fr_278 H locs hp hMr_278 g => ?_)
                  obtain ⟨hG_279, x_280, h_281, hF_282⟩ := hp
                  have hG_283 := eOK.frame hMr_278 go_.2.2.2.1 mq2_ kq2_ (by decide) (by decide) hG_271
                  have g := g.more hF_282
                  refine lv_aload_n hx hb dX2_readArguments_214 rfl (lv_at hl 4 rfl) ?_
                  refine g_getk (C := RX2) (T := TX2) (N := 16) hx hb hts (mc_ inX2) hown hK g rfl 3 (by decide) rfl (hts _ (List.mem_cons_of_mem _ t_419)) (fun _ h9 => h9) 11 rfl dX2_readArguments_215 ?_
                  refine lv_bipush (v := 22) hx hb dX2_readArguments_218 (by decide) ?_
                  refine lv_iconst (v := 0) hx hb dX2_readArguments_220 (by decide) ?_
                  have go_ := g
                  refine g_callv (va_runV (As := [.int 22, .int 0]) (rest := []) ⟨hx, hb, hml, hown, hts⟩ (r_X7_emitF l dC dI L kd tys fr_278 H.size g.2.2.2.1 q3_ mq3_ kq3_ a_275 ma_275 ka_275 a_276 ma_276 ka_276 x_280 h_281 T_ hG_279 (22 : Int32) (0 : Int32) (g.fcts [2, 1, 0] rfl)) (cwV 2 hts (gV_ t_1301 t_1204 t_1205 t_191 t_1206) rfl rfl rfl (by decide +kernel) ⟨(Nat.le_of_ble_eq_true rfl), (Nat.le_of_ble_eq_true rfl)⟩) (pre3V g hK mq3_ kq3_ (by decide) (q := (RX7, TX7, 19)) rfl) rfl rfl hl.1 rfl (lv_room (Nat.le_of_ble_eq_true rfl)) dX2_readArguments_221 ⟨(Nat.le_of_ble_eq_true rfl), (Nat.le_of_ble_eq_true rfl)⟩) g hK (by decide) (by decide) (fx' := [(7, 5, q3_, .ref a_276), (7, 4, q3_, .ref a_275), (2, 13, a0_, .int x_274), (2, 12, a0_, .int x_273), (8, 6, q0_, .int 1201), (8, 8, q0_, .int x_187), (2, 14, a0_, .int x_17), (2, 0, a0_, .ref q0_), (2, 1, a0_, .ref q1_), (2, 2, a0_, .ref q2_), (2, 3, a0_, .ref q3_), (0, 0, q2_, .ref q0_), (0, 1, q2_, .ref q1_), (5, 0, q1_, .ref q3_), (5, 1, q1_, .ref q7_)]) rfl (fun fr_284 H locs hp hMr_284 g => ?_)
                  obtain ⟨hG_285, x_286, h_287, hF_288⟩ := hp
                  have hG_289 := eOK.frame hMr_284 go_.2.2.2.1 mq2_ kq2_ (by decide) (by decide) hG_283
                  have g := g.more hF_288
                  refine lv_aload_n hx hb dX2_readArguments_224 rfl (lv_at hl 4 rfl) ?_
                  refine g_getk (C := RX2) (T := TX2) (N := 16) hx hb hts (mc_ inX2) hown hK g rfl 0 (by decide) rfl (hts _ (List.mem_cons_of_mem _ t_416)) (fun _ h9 => h9) 8 rfl dX2_readArguments_225 ?_
                  refine lv_bipush (v := 59) hx hb dX2_readArguments_228 (by decide) ?_
                  have kb_1201 : bd 1201 1201 (1201 : Int32) := ⟨by decide, by decide⟩
                  have go_ := g
                  refine g_callv (va_runV (As := [.int 59]) (rest := []) ⟨hx, hb, hml, hown, hts⟩ (r_X8_take_2 l dC dI L kd tys fr_284 H.size g.2.2.2.1 q0_ mq0_ kq0_ 59 1201 kb_1201 x_187 h_188 (g.fcts [5, 6] rfl)) (cwV 1 hts (gV_ t_1098 t_1099 t_1100 t_184 t_1101) rfl rfl rfl (by decide +kernel) ⟨(Nat.le_of_ble_eq_true rfl), (Nat.le_of_ble_eq_true rfl)⟩) (pre3V g hK mq0_ kq0_ (by decide) (q := (RX8, TX8, 10)) rfl) rfl rfl hl.1 rfl (lv_room (Nat.le_of_ble_eq_true rfl)) dX2_readArguments_230 ⟨(Nat.le_of_ble_eq_true rfl), (Nat.le_of_ble_eq_true rfl)⟩) g hK (by decide) (by decide) (fx' := [(7, 6, q3_, .int x_286), (7, 5, q3_, .ref a_276), (7, 4, q3_, .ref a_275), (2, 13, a0_, .int x_274), (2, 12, a0_, .int x_273), (8, 8, q0_, .int x_187), (2, 14, a0_, .int x_17), (2, 0, a0_, .ref q0_), (2, 1, a0_, .ref q1_), (2, 2, a0_, .ref q2_), (2, 3, a0_, .ref q3_), (0, 0, q2_, .ref q0_), (0, 1, q2_, .ref q1_), (5, 0, q1_, .ref q3_), (5, 1, q1_, .ref q7_)]) rfl (fun fr_290 H locs hp hMr_290 g => ?_)
                  obtain ⟨x_291, h_292, hF_293⟩ := hp
                  have hG_294 := dOK.frame hMr_290 go_.2.2.2.1 mq3_ kq3_ (by decide) (by decide) hG_285
                  have hG_295 := eOK.frame hMr_290 go_.2.2.2.1 mq2_ kq2_ (by decide) (by decide) hG_289
                  have g := g.more hF_293
                  subst hQ
                  exact W.vret hx hb hr (fun t ht hW => ⟨⟨_, rfl, Or.inr (⟨hG_294, hG_295, x_291, h_292, x_187, h_188, (g.fcts [0, 6] rfl)⟩), q3_of g hK ht hW⟩, g.2.2.1.F ht⟩) g.2.2.1.2.2 dX2_readArguments_233
                · have fc_272 := nle_f c_272
                  have b_296 : bd (-2147483648) 2147483646 v69_2 := ltL fc_272 (bdT v69_2) (bdT x_17) (by decide)
                  have b_297 : bd (-2147483647) 2147483647 x_17 := ltR fc_272 (bdT v69_2) (bdT x_17) (by decide)
                  refine lv_aload_n hx hb dX2_readArguments_188 rfl (lv_at hl 4 rfl) ?_
                  refine g_getk (C := RX2) (T := TX2) (N := 16) hx hb hts (mc_ inX2) hown hK g rfl 0 (by decide) rfl (hts _ (List.mem_cons_of_mem _ t_416)) (fun _ h9 => h9) 3 rfl dX2_readArguments_189 ?_
                  refine lv_bipush (v := 6) hx hb dX2_readArguments_192 (by decide) ?_
                  refine lv_iload hx hb dX2_readArguments_194 (lv_at hl 0 rfl) ?_
                  have kb_6 : bd 6 6 (6 : Int32) := ⟨by decide, by decide⟩
                  have go_ := g
                  refine g_callv (va_runV (As := [.int 6, .int r_178]) (rest := []) ⟨hx, hb, hml, hown, hts⟩ (r_X8_fail_2 l dC dI L kd tys fr_183 H.size g.2.2.2.1 q0_ mq0_ kq0_ 6 (bd_sub kb_6 (by decide)) r_178 x_187 h_188 (g.fcts [1] rfl)) (cwV 2 hts (gV_ t_1122 t_1107 t_1108 t_184 t_1109) rfl rfl rfl (by decide +kernel) ⟨(Nat.le_of_ble_eq_true rfl), (Nat.le_of_ble_eq_true rfl)⟩) (pre3V g hK mq0_ kq0_ (by decide) (q := (RX8, TX8, 10)) rfl) rfl rfl hl.1 rfl (lv_room (Nat.le_of_ble_eq_true rfl)) dX2_readArguments_196 ⟨(Nat.le_of_ble_eq_true rfl), (Nat.le_of_ble_eq_true rfl)⟩) g hK (by decide) (by decide) (fx' := [(8, 8, q0_, .int x_187), (2, 14, a0_, .int x_17), (2, 0, a0_, .ref q0_), (2, 1, a0_, .ref q1_), (2, 2, a0_, .ref q2_), (2, 3, a0_, .ref q3_), (0, 0, q2_, .ref q0_), (0, 1, q2_, .ref q1_), (5, 0, q1_, .ref q3_), (5, 1, q1_, .ref q7_)]) rfl (fun fr_298 H locs hp hMr_298 g => ?_)
                  have hF_299 := hp
                  have hG_300 := cOK.frame hMr_298 go_.2.2.2.1 mq3_ kq3_ (by decide) (by decide) hG_268
                  have hG_301 := dOK.frame hMr_298 go_.2.2.2.1 mq3_ kq3_ (by decide) (by decide) hG_269
                  have hG_302 := jS.frame hMr_298 go_.2.2.2.1 mq3_ kq3_ (by decide) (by decide) hG_270
                  have hG_303 := eOK.frame hMr_298 go_.2.2.2.1 mq2_ kq2_ (by decide) (by decide) hG_271
                  have g := g.more hF_299
                  refine lv_aload_n hx hb dX2_readArguments_199 rfl (lv_at hl 4 rfl) ?_
                  refine g_getk (C := RX2) (T := TX2) (N := 16) hx hb hts (mc_ inX2) hown hK g rfl 3 (by decide) rfl (hts _ (List.mem_cons_of_mem _ t_419)) (fun _ h9 => h9) 6 rfl dX2_readArguments_200 ?_
                  refine lv_aload_n hx hb dX2_readArguments_203 rfl (lv_at hl 4 rfl) ?_
                  refine g_geti (C := RX2) (T := TX2) (N := 16) hx hb hts (mc_ inX2) hown hK g ma0_ ka0_ (by decide) rfl 12 (by decide) rfl (hts _ (List.mem_cons_of_mem _ t_428)) (fun _ h9 => h9) rfl dX2_readArguments_204 (fun x_304 bx_304 g => ?_)
                  refine lv_aload_n hx hb dX2_readArguments_207 rfl (lv_at hl 4 rfl) ?_
                  refine g_geti (C := RX2) (T := TX2) (N := 16) hx hb hts (mc_ inX2) hown hK g ma0_ ka0_ (by decide) rfl 13 (by decide) rfl (hts _ (List.mem_cons_of_mem _ t_429)) (fun _ h9 => h9) rfl dX2_readArguments_208 (fun x_305 bx_305 g => ?_)
                  obtain ⟨a_306, ma_306, ka_306, g⟩ := g_factr g mq3_ kq3_ (by decide) 4 rfl
                  obtain ⟨a_307, ma_307, ka_307, g⟩ := g_factr g mq3_ kq3_ (by decide) 5 rfl
                  obtain ⟨x_308, bx_308, g⟩ := g_facti g mq3_ kq3_ (by decide) 6 rfl
                  have go_ := g
                  refine g_callv (va_runV (As := [.int x_304, .int x_305]) (rest := []) ⟨hx, hb, hml, hown, hts⟩ (r_X7_emitF l dC dI L kd tys fr_298 H.size g.2.2.2.1 q3_ mq3_ kq3_ a_306 ma_306 ka_306 a_307 ma_307 ka_307 x_308 bx_308 T_ hG_301 x_304 x_305 (g.fcts [2, 1, 0] rfl)) (cwV 2 hts (gV_ t_1301 t_1204 t_1205 t_191 t_1206) rfl rfl rfl (by decide +kernel) ⟨(Nat.le_of_ble_eq_true rfl), (Nat.le_of_ble_eq_true rfl)⟩) (pre3V g hK mq3_ kq3_ (by decide) (q := (RX7, TX7, 19)) rfl) rfl rfl hl.1 rfl (lv_room (Nat.le_of_ble_eq_true rfl)) dX2_readArguments_211 ⟨(Nat.le_of_ble_eq_true rfl), (Nat.le_of_ble_eq_true rfl)⟩) g hK (by decide) (by decide) (fx' := [(7, 5, q3_, .ref a_307), (7, 4, q3_, .ref a_306), (2, 13, a0_, .int x_305), (2, 12, a0_, .int x_304), (8, 6, q0_, .int 1201), (8, 8, q0_, .int x_187), (2, 14, a0_, .int x_17), (2, 0, a0_, .ref q0_), (2, 1, a0_, .ref q1_), (2, 2, a0_, .ref q2_), (2, 3, a0_, .ref q3_), (0, 0, q2_, .ref q0_), (0, 1, q2_, .ref q1_), (5, 0, q1_, .ref q3_), (5, 1, q1_, .ref q7_)]) rfl (fun fr_309 H locs hp hMr_309 g => ?_)
                  obtain ⟨hG_310, x_311, h_312, hF_313⟩ := hp
                  have hG_314 := eOK.frame hMr_309 go_.2.2.2.1 mq2_ kq2_ (by decide) (by decide) hG_303
                  have g := g.more hF_313
                  refine lv_aload_n hx hb dX2_readArguments_214 rfl (lv_at hl 4 rfl) ?_
                  refine g_getk (C := RX2) (T := TX2) (N := 16) hx hb hts (mc_ inX2) hown hK g rfl 3 (by decide) rfl (hts _ (List.mem_cons_of_mem _ t_419)) (fun _ h9 => h9) 11 rfl dX2_readArguments_215 ?_
                  refine lv_bipush (v := 22) hx hb dX2_readArguments_218 (by decide) ?_
                  refine lv_iconst (v := 0) hx hb dX2_readArguments_220 (by decide) ?_
                  have go_ := g
                  refine g_callv (va_runV (As := [.int 22, .int 0]) (rest := []) ⟨hx, hb, hml, hown, hts⟩ (r_X7_emitF l dC dI L kd tys fr_309 H.size g.2.2.2.1 q3_ mq3_ kq3_ a_306 ma_306 ka_306 a_307 ma_307 ka_307 x_311 h_312 T_ hG_310 (22 : Int32) (0 : Int32) (g.fcts [2, 1, 0] rfl)) (cwV 2 hts (gV_ t_1301 t_1204 t_1205 t_191 t_1206) rfl rfl rfl (by decide +kernel) ⟨(Nat.le_of_ble_eq_true rfl), (Nat.le_of_ble_eq_true rfl)⟩) (pre3V g hK mq3_ kq3_ (by decide) (q := (RX7, TX7, 19)) rfl) rfl rfl hl.1 rfl (lv_room (Nat.le_of_ble_eq_true rfl)) dX2_readArguments_221 ⟨(Nat.le_of_ble_eq_true rfl), (Nat.le_of_ble_eq_true rfl)⟩) g hK (by decide) (by decide) (fx' := [(7, 5, q3_, .ref a_307), (7, 4, q3_, .ref a_306), (2, 13, a0_, .int x_305), (2, 12, a0_, .int x_304), (8, 6, q0_, .int 1201), (8, 8, q0_, .int x_187), (2, 14, a0_, .int x_17), (2, 0, a0_, .ref q0_), (2, 1, a0_, .ref q1_), (2, 2, a0_, .ref q2_), (2, 3, a0_, .ref q3_), (0, 0, q2_, .ref q0_), (0, 1, q2_, .ref q1_), (5, 0, q1_, .ref q3_), (5, 1, q1_, .ref q7_)]) rfl (fun fr_315 H locs hp hMr_315 g => ?_)
                  obtain ⟨hG_316, x_317, h_318, hF_319⟩ := hp
                  have hG_320 := eOK.frame hMr_315 go_.2.2.2.1 mq2_ kq2_ (by decide) (by decide) hG_314
                  have g := g.more hF_319
                  refine lv_aload_n hx hb dX2_readArguments_224 rfl (lv_at hl 4 rfl) ?_
                  refine g_getk (C := RX2) (T := TX2) (N := 16) hx hb hts (mc_ inX2) hown hK g rfl 0 (by decide) rfl (hts _ (List.mem_cons_of_mem _ t_416)) (fun _ h9 => h9) 8 rfl dX2_readArguments_225 ?_
                  refine lv_bipush (v := 59) hx hb dX2_readArguments_228 (by decide) ?_
                  have kb_1201 : bd 1201 1201 (1201 : Int32) := ⟨by decide, by decide⟩
                  have go_ := g
                  refine g_callv (va_runV (As := [.int 59]) (rest := []) ⟨hx, hb, hml, hown, hts⟩ (r_X8_take_2 l dC dI L kd tys fr_315 H.size g.2.2.2.1 q0_ mq0_ kq0_ 59 1201 kb_1201 x_187 h_188 (g.fcts [5, 6] rfl)) (cwV 1 hts (gV_ t_1098 t_1099 t_1100 t_184 t_1101) rfl rfl rfl (by decide +kernel) ⟨(Nat.le_of_ble_eq_true rfl), (Nat.le_of_ble_eq_true rfl)⟩) (pre3V g hK mq0_ kq0_ (by decide) (q := (RX8, TX8, 10)) rfl) rfl rfl hl.1 rfl (lv_room (Nat.le_of_ble_eq_true rfl)) dX2_readArguments_230 ⟨(Nat.le_of_ble_eq_true rfl), (Nat.le_of_ble_eq_true rfl)⟩) g hK (by decide) (by decide) (fx' := [(7, 6, q3_, .int x_317), (7, 5, q3_, .ref a_307), (7, 4, q3_, .ref a_306), (2, 13, a0_, .int x_305), (2, 12, a0_, .int x_304), (8, 8, q0_, .int x_187), (2, 14, a0_, .int x_17), (2, 0, a0_, .ref q0_), (2, 1, a0_, .ref q1_), (2, 2, a0_, .ref q2_), (2, 3, a0_, .ref q3_), (0, 0, q2_, .ref q0_), (0, 1, q2_, .ref q1_), (5, 0, q1_, .ref q3_), (5, 1, q1_, .ref q7_)]) rfl (fun fr_321 H locs hp hMr_321 g => ?_)
                  obtain ⟨x_322, h_323, hF_324⟩ := hp
                  have hG_325 := dOK.frame hMr_321 go_.2.2.2.1 mq3_ kq3_ (by decide) (by decide) hG_316
                  have hG_326 := eOK.frame hMr_321 go_.2.2.2.1 mq2_ kq2_ (by decide) (by decide) hG_320
                  have g := g.more hF_324
                  subst hQ
                  exact W.vret hx hb hr (fun t ht hW => ⟨⟨_, rfl, Or.inr (⟨hG_325, hG_326, x_322, h_323, x_187, h_188, (g.fcts [0, 6] rfl)⟩), q3_of g hK ht hW⟩, g.2.2.1.F ht⟩) g.2.2.1.2.2 dX2_readArguments_233
            · have fc_176 := nlt_f c_176
              have b_327 : bd 0 3 v69_4 := leL fc_176 bv69_4 kb_3 (by decide)
              refine lv_iload_n hx hb dX2_readArguments_75 rfl (lv_at hl 1 rfl) ?_
              refine lv_if_eq (tgt := 162) hx hb dX2_readArguments_76 (by decide) (fun c_328 => ?_) (fun c_328 => ?_)
              · have fc_328 := eq_f c_328
                have b_329 : bd 0 0 v69_3 := eqX fc_328 bv69_3 kb_0 (by decide)
                refine lv_aload_n hx hb dX2_readArguments_162 rfl (lv_at hl 4 rfl) ?_
                refine g_getk (C := RX2) (T := TX2) (N := 16) hx hb hts (mc_ inX2) hown hK g rfl 0 (by decide) rfl (hts _ (List.mem_cons_of_mem _ t_416)) (fun _ h9 => h9) 2 rfl dX2_readArguments_163 ?_
                have go_ := g
                refine g_calli (va_runV (As := []) (rest := []) ⟨hx, hb, hml, hown, hts⟩ (r_X8_place l dC dI L kd tys f H.size g.2.2.2.1 q0_ mq0_ kq0_) (cwV 0 hts (gV_ t_1110 t_1111 t_1112 t_184 t_1113) rfl rfl rfl (by decide +kernel) ⟨(Nat.le_of_ble_eq_true rfl), (Nat.le_of_ble_eq_true rfl)⟩) (pre3V g hK mq0_ kq0_ (by decide) (q := (RX8, TX8, 10)) rfl) rfl rfl hl.1 rfl (lv_room (Nat.le_of_ble_eq_true rfl)) dX2_readArguments_166 ⟨(Nat.le_of_ble_eq_true rfl), (Nat.le_of_ble_eq_true rfl)⟩) g hK (by decide) (by decide) (fx' := [(2, 14, a0_, .int x_17), (8, 8, q0_, .int y0_), (2, 0, a0_, .ref q0_), (2, 1, a0_, .ref q1_), (2, 2, a0_, .ref q2_), (2, 3, a0_, .ref q3_), (0, 0, q2_, .ref q0_), (0, 1, q2_, .ref q1_), (5, 0, q1_, .ref q3_), (5, 1, q1_, .ref q7_)]) rfl (fun r_330 fr_330 H locs hp hMr_330 g => ?_)
                have hG_331 := cOK.frame hMr_330 go_.2.2.2.1 mq3_ kq3_ (by decide) (by decide) hG69_c_q3_
                have hG_332 := dOK.frame hMr_330 go_.2.2.2.1 mq3_ kq3_ (by decide) (by decide) hG69_d_q3_
                have hG_333 := jS.frame hMr_330 go_.2.2.2.1 mq3_ kq3_ (by decide) (by decide) hG69_s_q3_
                have hG_334 := eOK.frame hMr_330 go_.2.2.2.1 mq2_ kq2_ (by decide) (by decide) hG69_e_q2_
                refine lv_istore (lv' := [(4, .int r_330), (3, .int v69_3), (2, .int v69_2), (1, .int r_1), (0, .ref a0_)]) hx hb dX2_readArguments_169 hl (by decide) rfl (fun ls hl => ?_)
                refine lv_aload_n hx hb dX2_readArguments_171 rfl (lv_at hl 4 rfl) ?_
                refine g_getk (C := RX2) (T := TX2) (N := 16) hx hb hts (mc_ inX2) hown hK g rfl 0 (by decide) rfl (hts _ (List.mem_cons_of_mem _ t_416)) (fun _ h9 => h9) 2 rfl dX2_readArguments_172 ?_
                refine lv_bipush (v := 41) hx hb dX2_readArguments_175 (by decide) ?_
                have go_ := g
                refine g_callv (va_runV (As := [.int 41]) (rest := []) ⟨hx, hb, hml, hown, hts⟩ (r_X8_take l dC dI L kd tys fr_330 H.size g.2.2.2.1 q0_ mq0_ kq0_ 41 y0_ by0_ (g.fcts [1] rfl)) (cwV 1 hts (gV_ t_1098 t_1099 t_1100 t_184 t_1101) rfl rfl rfl (by decide +kernel) ⟨(Nat.le_of_ble_eq_true rfl), (Nat.le_of_ble_eq_true rfl)⟩) (pre3V g hK mq0_ kq0_ (by decide) (q := (RX8, TX8, 10)) rfl) rfl rfl hl.1 rfl (lv_room (Nat.le_of_ble_eq_true rfl)) dX2_readArguments_177 ⟨(Nat.le_of_ble_eq_true rfl), (Nat.le_of_ble_eq_true rfl)⟩) g hK (by decide) (by decide) (fx' := [(2, 14, a0_, .int x_17), (2, 0, a0_, .ref q0_), (2, 1, a0_, .ref q1_), (2, 2, a0_, .ref q2_), (2, 3, a0_, .ref q3_), (0, 0, q2_, .ref q0_), (0, 1, q2_, .ref q1_), (5, 0, q1_, .ref q3_), (5, 1, q1_, .ref q7_)]) rfl (fun fr_335 H locs hp hMr_335 g => ?_)
                rcases hp with ⟨x_336, h_337, hF_338⟩ | ⟨x_339, h_340, hF_341⟩
                · have hG_342 := cOK.frame hMr_335 go_.2.2.2.1 mq3_ kq3_ (by decide) (by decide) hG_331
                  have hG_343 := dOK.frame hMr_335 go_.2.2.2.1 mq3_ kq3_ (by decide) (by decide) hG_332
                  have hG_344 := jS.frame hMr_335 go_.2.2.2.1 mq3_ kq3_ (by decide) (by decide) hG_333
                  have hG_345 := eOK.frame hMr_335 go_.2.2.2.1 mq2_ kq2_ (by decide) (by decide) hG_334
                  have g := g.more hF_338
                  refine lv_iload_n hx hb dX2_readArguments_180 rfl (lv_at hl 2 rfl) ?_
                  refine lv_aload_n hx hb dX2_readArguments_181 rfl (lv_at hl 4 rfl) ?_
                  refine g_getk (C := RX2) (T := TX2) (N := 16) hx hb hts (mc_ inX2) hown hK g rfl 14 (by decide) rfl (hts _ (List.mem_cons_of_mem _ t_430)) (fun _ h9 => h9) 2 rfl dX2_readArguments_182 ?_
                  refine lv_icmp_ge (tgt := 199) hx hb dX2_readArguments_185 (by decide) (fun c_346 => ?_) (fun c_346 => ?_)
                  · have fc_346 := le_f c_346
                    refine lv_aload_n hx hb dX2_readArguments_199 rfl (lv_at hl 4 rfl) ?_
                    refine g_getk (C := RX2) (T := TX2) (N := 16) hx hb hts (mc_ inX2) hown hK g rfl 3 (by decide) rfl (hts _ (List.mem_cons_of_mem _ t_419)) (fun _ h9 => h9) 6 rfl dX2_readArguments_200 ?_
                    refine lv_aload_n hx hb dX2_readArguments_203 rfl (lv_at hl 4 rfl) ?_
                    refine g_geti (C := RX2) (T := TX2) (N := 16) hx hb hts (mc_ inX2) hown hK g ma0_ ka0_ (by decide) rfl 12 (by decide) rfl (hts _ (List.mem_cons_of_mem _ t_428)) (fun _ h9 => h9) rfl dX2_readArguments_204 (fun x_347 bx_347 g => ?_)
                    refine lv_aload_n hx hb dX2_readArguments_207 rfl (lv_at hl 4 rfl) ?_
                    refine g_geti (C := RX2) (T := TX2) (N := 16) hx hb hts (mc_ inX2) hown hK g ma0_ ka0_ (by decide) rfl 13 (by decide) rfl (hts _ (List.mem_cons_of_mem _ t_429)) (fun _ h9 => h9) rfl dX2_readArguments_208 (fun x_348 bx_348 g => ?_)
                    obtain ⟨a_349, ma_349, ka_349, g⟩ := g_factr g mq3_ kq3_ (by decide) 4 rfl
                    obtain ⟨a_350, ma_350, ka_350, g⟩ := g_factr g mq3_ kq3_ (by decide) 5 rfl
                    obtain ⟨x_351, bx_351, g⟩ := g_facti g mq3_ kq3_ (by decide) 6 rfl
                    have go_ := g
                    refine g_callv (va_runV (As := [.int x_347, .int x_348]) (rest := []) ⟨hx, hb, hml, hown, hts⟩ (r_X7_emitN l dC dI L kd tys fr_335 H.size g.2.2.2.1 q3_ mq3_ kq3_ a_349 ma_349 ka_349 a_350 ma_350 ka_350 x_351 bx_351 T_ hG_343 x_347 x_348 (fun j9 => jOK fr_335 q3_ j9) hG_342 (fun _ h9 => h9) ⟨(fun h9 => ⟨(by have h9_0 := b_329; unfold bd at h9_0; have h9_1 := b_327; unfold bd at h9_1; have h9_2 := h_337; unfold bd at h9_2; have h9_3 := bx_348; unfold bd at h9_3; have h9_4 := bx_351; unfold bd at h9_4; have h9_5 := h_8; unfold bd at h9_5; have h9_6 := by0_; unfold bd at h9_6; have h8_0 := kb_0; unfold bd at h8_0; have h8_1 := kb_3; unfold bd at h8_1; have h8_2 := kb_41; unfold bd at h8_2; omega), (by have h9_0 := b_329; unfold bd at h9_0; have h9_1 := b_327; unfold bd at h9_1; have h9_2 := h_337; unfold bd at h9_2; have h9_3 := bx_348; unfold bd at h9_3; have h9_4 := bx_351; unfold bd at h9_4; have h9_5 := h_8; unfold bd at h9_5; have h9_6 := by0_; unfold bd at h9_6; have h8_0 := kb_0; unfold bd at h8_0; have h8_1 := kb_3; unfold bd at h8_1; have h8_2 := kb_41; unfold bd at h8_2; omega)⟩), (fun h9 => ⟨(by have h9_0 := b_329; unfold bd at h9_0; have h9_1 := b_327; unfold bd at h9_1; have h9_2 := h_337; unfold bd at h9_2; have h9_3 := bx_348; unfold bd at h9_3; have h9_4 := bx_351; unfold bd at h9_4; have h9_5 := h_8; unfold bd at h9_5; have h9_6 := by0_; unfold bd at h9_6; have h8_0 := kb_0; unfold bd at h8_0; have h8_1 := kb_3; unfold bd at h8_1; have h8_2 := kb_41; unfold bd at h8_2; omega), (by have h9_0 := b_329; unfold bd at h9_0; have h9_1 := b_327; unfold bd at h9_1; have h9_2 := h_337; unfold bd at h9_2; have h9_3 := bx_348; unfold bd at h9_3; have h9_4 := bx_351; unfold bd at h9_4; have h9_5 := h_8; unfold bd at h9_5; have h9_6 := by0_; unfold bd at h9_6; have h8_0 := kb_0; unfold bd at h8_0; have h8_1 := kb_3; unfold bd at h8_1; have h8_2 := kb_41; unfold bd at h8_2; omega)⟩), (fun h9 => ⟨(by have h9_0 := b_329; unfold bd at h9_0; have h9_1 := b_327; unfold bd at h9_1; have h9_2 := h_337; unfold bd at h9_2; have h9_3 := bx_348; unfold bd at h9_3; have h9_4 := bx_351; unfold bd at h9_4; have h9_5 := h_8; unfold bd at h9_5; have h9_6 := by0_; unfold bd at h9_6; have h8_0 := kb_0; unfold bd at h8_0; have h8_1 := kb_3; unfold bd at h8_1; have h8_2 := kb_41; unfold bd at h8_2; omega), (by have h9_0 := b_329; unfold bd at h9_0; have h9_1 := b_327; unfold bd at h9_1; have h9_2 := h_337; unfold bd at h9_2; have h9_3 := bx_348; unfold bd at h9_3; have h9_4 := bx_351; unfold bd at h9_4; have h9_5 := h_8; unfold bd at h9_5; have h9_6 := by0_; unfold bd at h9_6; have h8_0 := kb_0; unfold bd at h8_0; have h8_1 := kb_3; unfold bd at h8_1; have h8_2 := kb_41; unfold bd at h8_2; omega)⟩)⟩ (g.fcts [2, 1, 0] rfl)) (cwV 2 hts (gV_ t_1301 t_1204 t_1205 t_191 t_1206) rfl rfl rfl (by decide +kernel) ⟨(Nat.le_of_ble_eq_true rfl), (Nat.le_of_ble_eq_true rfl)⟩) (pre3V g hK mq3_ kq3_ (by decide) (q := (RX7, TX7, 19)) rfl) rfl rfl hl.1 rfl (lv_room (Nat.le_of_ble_eq_true rfl)) dX2_readArguments_211 ⟨(Nat.le_of_ble_eq_true rfl), (Nat.le_of_ble_eq_true rfl)⟩) g hK (by decide) (by decide) (fx' := [(7, 5, q3_, .ref a_350), (7, 4, q3_, .ref a_349), (2, 13, a0_, .int x_348), (2, 12, a0_, .int x_347), (8, 6, q0_, .int x_336), (8, 8, q0_, .int y0_), (2, 14, a0_, .int x_17), (2, 0, a0_, .ref q0_), (2, 1, a0_, .ref q1_), (2, 2, a0_, .ref q2_), (2, 3, a0_, .ref q3_), (0, 0, q2_, .ref q0_), (0, 1, q2_, .ref q1_), (5, 0, q1_, .ref q3_), (5, 1, q1_, .ref q7_)]) rfl (fun fr_352 H locs hp hMr_352 g => ?_)
                    obtain ⟨hG_353, hG_354, hG_355, hx_356, x_357, h_358, hF_359⟩ := hp
                    have hG_360 := eOK.frame hMr_352 go_.2.2.2.1 mq2_ kq2_ (by decide) (by decide) hG_345
                    have g := g.more hF_359
                    have hs_361 := jS.mv hG_344 hG_355
                    refine lv_aload_n hx hb dX2_readArguments_214 rfl (lv_at hl 4 rfl) ?_
                    refine g_getk (C := RX2) (T := TX2) (N := 16) hx hb hts (mc_ inX2) hown hK g rfl 3 (by decide) rfl (hts _ (List.mem_cons_of_mem _ t_419)) (fun _ h9 => h9) 11 rfl dX2_readArguments_215 ?_
                    refine lv_bipush (v := 22) hx hb dX2_readArguments_218 (by decide) ?_
                    refine lv_iconst (v := 0) hx hb dX2_readArguments_220 (by decide) ?_
                    have kb_22 : bd 22 22 (22 : Int32) := ⟨by decide, by decide⟩
                    have go_ := g
                    refine g_callv (va_runV (As := [.int 22, .int 0]) (rest := []) ⟨hx, hb, hml, hown, hts⟩ (r_X7_emitN l dC dI L kd tys fr_352 H.size g.2.2.2.1 q3_ mq3_ kq3_ a_349 ma_349 ka_349 a_350 ma_350 ka_350 x_357 h_358 T_ hG_353 (22 : Int32) (0 : Int32) (fun j9 => jOK fr_352 q3_ j9) hG_354 (fun _ h9 => h9) ⟨(fun h9 => ⟨(by have h9_0 := b_329; unfold bd at h9_0; have h9_1 := b_327; unfold bd at h9_1; have h9_2 := h_337; unfold bd at h9_2; have h9_3 := bx_348; unfold bd at h9_3; have h9_4 := bx_351; unfold bd at h9_4; have h9_5 := h_358; unfold bd at h9_5; have h9_6 := h_8; unfold bd at h9_6; have h9_7 := by0_; unfold bd at h9_7; have h8_0 := kb_0; unfold bd at h8_0; have h8_1 := kb_22; unfold bd at h8_1; have h8_2 := kb_3; unfold bd at h8_2; have h8_3 := kb_41; unfold bd at h8_3; omega), (by have h9_0 := b_329; unfold bd at h9_0; have h9_1 := b_327; unfold bd at h9_1; have h9_2 := h_337; unfold bd at h9_2; have h9_3 := bx_348; unfold bd at h9_3; have h9_4 := bx_351; unfold bd at h9_4; have h9_5 := h_358; unfold bd at h9_5; have h9_6 := h_8; unfold bd at h9_6; have h9_7 := by0_; unfold bd at h9_7; have h8_0 := kb_0; unfold bd at h8_0; have h8_1 := kb_22; unfold bd at h8_1; have h8_2 := kb_3; unfold bd at h8_2; have h8_3 := kb_41; unfold bd at h8_3; omega)⟩), (fun h9 => ⟨(by have h9_0 := b_329; unfold bd at h9_0; have h9_1 := b_327; unfold bd at h9_1; have h9_2 := h_337; unfold bd at h9_2; have h9_3 := bx_348; unfold bd at h9_3; have h9_4 := bx_351; unfold bd at h9_4; have h9_5 := h_358; unfold bd at h9_5; have h9_6 := h_8; unfold bd at h9_6; have h9_7 := by0_; unfold bd at h9_7; have h8_0 := kb_0; unfold bd at h8_0; have h8_1 := kb_22; unfold bd at h8_1; have h8_2 := kb_3; unfold bd at h8_2; have h8_3 := kb_41; unfold bd at h8_3; omega), (by have h9_0 := b_329; unfold bd at h9_0; have h9_1 := b_327; unfold bd at h9_1; have h9_2 := h_337; unfold bd at h9_2; have h9_3 := bx_348; unfold bd at h9_3; have h9_4 := bx_351; unfold bd at h9_4; have h9_5 := h_358; unfold bd at h9_5; have h9_6 := h_8; unfold bd at h9_6; have h9_7 := by0_; unfold bd at h9_7; have h8_0 := kb_0; unfold bd at h8_0; have h8_1 := kb_22; unfold bd at h8_1; have h8_2 := kb_3; unfold bd at h8_2; have h8_3 := kb_41; unfold bd at h8_3; omega)⟩), (fun h9 => ⟨(by have h9_0 := b_329; unfold bd at h9_0; have h9_1 := b_327; unfold bd at h9_1; have h9_2 := h_337; unfold bd at h9_2; have h9_3 := bx_348; unfold bd at h9_3; have h9_4 := bx_351; unfold bd at h9_4; have h9_5 := h_358; unfold bd at h9_5; have h9_6 := h_8; unfold bd at h9_6; have h9_7 := by0_; unfold bd at h9_7; have h8_0 := kb_0; unfold bd at h8_0; have h8_1 := kb_22; unfold bd at h8_1; have h8_2 := kb_3; unfold bd at h8_2; have h8_3 := kb_41; unfold bd at h8_3; omega), (by have h9_0 := b_329; unfold bd at h9_0; have h9_1 := b_327; unfold bd at h9_1; have h9_2 := h_337; unfold bd at h9_2; have h9_3 := bx_348; unfold bd at h9_3; have h9_4 := bx_351; unfold bd at h9_4; have h9_5 := h_358; unfold bd at h9_5; have h9_6 := h_8; unfold bd at h9_6; have h9_7 := by0_; unfold bd at h9_7; have h8_0 := kb_0; unfold bd at h8_0; have h8_1 := kb_22; unfold bd at h8_1; have h8_2 := kb_3; unfold bd at h8_2; have h8_3 := kb_41; unfold bd at h8_3; omega)⟩)⟩ (g.fcts [2, 1, 0] rfl)) (cwV 2 hts (gV_ t_1301 t_1204 t_1205 t_191 t_1206) rfl rfl rfl (by decide +kernel) ⟨(Nat.le_of_ble_eq_true rfl), (Nat.le_of_ble_eq_true rfl)⟩) (pre3V g hK mq3_ kq3_ (by decide) (q := (RX7, TX7, 19)) rfl) rfl rfl hl.1 rfl (lv_room (Nat.le_of_ble_eq_true rfl)) dX2_readArguments_221 ⟨(Nat.le_of_ble_eq_true rfl), (Nat.le_of_ble_eq_true rfl)⟩) g hK (by decide) (by decide) (fx' := [(7, 5, q3_, .ref a_350), (7, 4, q3_, .ref a_349), (2, 13, a0_, .int x_348), (2, 12, a0_, .int x_347), (8, 6, q0_, .int x_336), (8, 8, q0_, .int y0_), (2, 14, a0_, .int x_17), (2, 0, a0_, .ref q0_), (2, 1, a0_, .ref q1_), (2, 2, a0_, .ref q2_), (2, 3, a0_, .ref q3_), (0, 0, q2_, .ref q0_), (0, 1, q2_, .ref q1_), (5, 0, q1_, .ref q3_), (5, 1, q1_, .ref q7_)]) rfl (fun fr_362 H locs hp hMr_362 g => ?_)
                    obtain ⟨hG_363, hG_364, hG_365, hx_366, x_367, h_368, hF_369⟩ := hp
                    have hG_370 := eOK.frame hMr_362 go_.2.2.2.1 mq2_ kq2_ (by decide) (by decide) hG_360
                    have g := g.more hF_369
                    have hs_371 := jS.mv hs_361 hG_365
                    refine lv_aload_n hx hb dX2_readArguments_224 rfl (lv_at hl 4 rfl) ?_
                    refine g_getk (C := RX2) (T := TX2) (N := 16) hx hb hts (mc_ inX2) hown hK g rfl 0 (by decide) rfl (hts _ (List.mem_cons_of_mem _ t_416)) (fun _ h9 => h9) 8 rfl dX2_readArguments_225 ?_
                    refine lv_bipush (v := 59) hx hb dX2_readArguments_228 (by decide) ?_
                    have go_ := g
                    refine g_callv (va_runV (As := [.int 59]) (rest := []) ⟨hx, hb, hml, hown, hts⟩ (r_X8_take l dC dI L kd tys fr_362 H.size g.2.2.2.1 q0_ mq0_ kq0_ 59 y0_ by0_ (g.fcts [6] rfl)) (cwV 1 hts (gV_ t_1098 t_1099 t_1100 t_184 t_1101) rfl rfl rfl (by decide +kernel) ⟨(Nat.le_of_ble_eq_true rfl), (Nat.le_of_ble_eq_true rfl)⟩) (pre3V g hK mq0_ kq0_ (by decide) (q := (RX8, TX8, 10)) rfl) rfl rfl hl.1 rfl (lv_room (Nat.le_of_ble_eq_true rfl)) dX2_readArguments_230 ⟨(Nat.le_of_ble_eq_true rfl), (Nat.le_of_ble_eq_true rfl)⟩) g hK (by decide) (by decide) (fx' := [(7, 6, q3_, .int x_367), (7, 5, q3_, .ref a_350), (7, 4, q3_, .ref a_349), (2, 13, a0_, .int x_348), (2, 12, a0_, .int x_347), (2, 14, a0_, .int x_17), (2, 0, a0_, .ref q0_), (2, 1, a0_, .ref q1_), (2, 2, a0_, .ref q2_), (2, 3, a0_, .ref q3_), (0, 0, q2_, .ref q0_), (0, 1, q2_, .ref q1_), (5, 0, q1_, .ref q3_), (5, 1, q1_, .ref q7_)]) rfl (fun fr_372 H locs hp hMr_372 g => ?_)
                    rcases hp with ⟨x_373, h_374, hF_375⟩ | ⟨x_376, h_377, hF_378⟩
                    · have hG_379 := cOK.frame hMr_372 go_.2.2.2.1 mq3_ kq3_ (by decide) (by decide) hG_364
                      have hG_380 := dOK.frame hMr_372 go_.2.2.2.1 mq3_ kq3_ (by decide) (by decide) hG_363
                      have hG_381 := jS.frame hMr_372 go_.2.2.2.1 mq3_ kq3_ (by decide) (by decide) hs_371
                      have hG_382 := eOK.frame hMr_372 go_.2.2.2.1 mq2_ kq2_ (by decide) (by decide) hG_370
                      have g := g.more hF_375
                      subst hQ
                      exact W.vret hx hb hr (fun t ht hW => ⟨⟨_, rfl, Or.inl ⟨hG_379, hG_380, hG_381, hG_382, x_373, h_374, (g.fcts [0, 1] rfl)⟩, q3_of g hK ht hW⟩, g.2.2.1.F ht⟩) g.2.2.1.2.2 dX2_readArguments_233
                    · have hG_383 := cOK.frame hMr_372 go_.2.2.2.1 mq3_ kq3_ (by decide) (by decide) hG_364
                      have hG_384 := dOK.frame hMr_372 go_.2.2.2.1 mq3_ kq3_ (by decide) (by decide) hG_363
                      have hG_385 := jS.frame hMr_372 go_.2.2.2.1 mq3_ kq3_ (by decide) (by decide) hs_371
                      have hG_386 := eOK.frame hMr_372 go_.2.2.2.1 mq2_ kq2_ (by decide) (by decide) hG_370
                      have g := g.more hF_378
                      have kb_1201 : bd 1201 1201 (1201 : Int32) := ⟨by decide, by decide⟩
                      subst hQ
                      exact W.vret hx hb hr (fun t ht hW => ⟨⟨_, rfl, Or.inr (⟨hG_384, hG_386, 1201, kb_1201, x_376, h_377, (g.fcts [0, 1] rfl)⟩), q3_of g hK ht hW⟩, g.2.2.1.F ht⟩) g.2.2.1.2.2 dX2_readArguments_233
                  · have fc_346 := nle_f c_346
                    have b_387 : bd (-2147483648) 2147483646 v69_2 := ltL fc_346 (bdT v69_2) (bdT x_17) (by decide)
                    have b_388 : bd (-2147483647) 2147483647 x_17 := ltR fc_346 (bdT v69_2) (bdT x_17) (by decide)
                    refine lv_aload_n hx hb dX2_readArguments_188 rfl (lv_at hl 4 rfl) ?_
                    refine g_getk (C := RX2) (T := TX2) (N := 16) hx hb hts (mc_ inX2) hown hK g rfl 0 (by decide) rfl (hts _ (List.mem_cons_of_mem _ t_416)) (fun _ h9 => h9) 3 rfl dX2_readArguments_189 ?_
                    refine lv_bipush (v := 6) hx hb dX2_readArguments_192 (by decide) ?_
                    refine lv_iload hx hb dX2_readArguments_194 (lv_at hl 0 rfl) ?_
                    have kb_6 : bd 6 6 (6 : Int32) := ⟨by decide, by decide⟩
                    have go_ := g
                    refine g_callv (va_runV (As := [.int 6, .int r_330]) (rest := []) ⟨hx, hb, hml, hown, hts⟩ (r_X8_fail l dC dI L kd tys fr_335 H.size g.2.2.2.1 q0_ mq0_ kq0_ 6 (bd_sub kb_6 (by decide)) r_330 y0_ by0_ (g.fcts [1] rfl)) (cwV 2 hts (gV_ t_1122 t_1107 t_1108 t_184 t_1109) rfl rfl rfl (by decide +kernel) ⟨(Nat.le_of_ble_eq_true rfl), (Nat.le_of_ble_eq_true rfl)⟩) (pre3V g hK mq0_ kq0_ (by decide) (q := (RX8, TX8, 10)) rfl) rfl rfl hl.1 rfl (lv_room (Nat.le_of_ble_eq_true rfl)) dX2_readArguments_196 ⟨(Nat.le_of_ble_eq_true rfl), (Nat.le_of_ble_eq_true rfl)⟩) g hK (by decide) (by decide) (fx' := [(2, 14, a0_, .int x_17), (2, 0, a0_, .ref q0_), (2, 1, a0_, .ref q1_), (2, 2, a0_, .ref q2_), (2, 3, a0_, .ref q3_), (0, 0, q2_, .ref q0_), (0, 1, q2_, .ref q1_), (5, 0, q1_, .ref q3_), (5, 1, q1_, .ref q7_)]) rfl (fun fr_389 H locs hp hMr_389 g => ?_)
                    obtain ⟨x_390, h_391, hF_392⟩ := hp
                    have hG_393 := cOK.frame hMr_389 go_.2.2.2.1 mq3_ kq3_ (by decide) (by decide) hG_342
                    have hG_394 := dOK.frame hMr_389 go_.2.2.2.1 mq3_ kq3_ (by decide) (by decide) hG_343
                    have hG_395 := jS.frame hMr_389 go_.2.2.2.1 mq3_ kq3_ (by decide) (by decide) hG_344
                    have hG_396 := eOK.frame hMr_389 go_.2.2.2.1 mq2_ kq2_ (by decide) (by decide) hG_345
                    have g := g.more hF_392
                    refine lv_aload_n hx hb dX2_readArguments_199 rfl (lv_at hl 4 rfl) ?_
                    refine g_getk (C := RX2) (T := TX2) (N := 16) hx hb hts (mc_ inX2) hown hK g rfl 3 (by decide) rfl (hts _ (List.mem_cons_of_mem _ t_419)) (fun _ h9 => h9) 6 rfl dX2_readArguments_200 ?_
                    refine lv_aload_n hx hb dX2_readArguments_203 rfl (lv_at hl 4 rfl) ?_
                    refine g_geti (C := RX2) (T := TX2) (N := 16) hx hb hts (mc_ inX2) hown hK g ma0_ ka0_ (by decide) rfl 12 (by decide) rfl (hts _ (List.mem_cons_of_mem _ t_428)) (fun _ h9 => h9) rfl dX2_readArguments_204 (fun x_397 bx_397 g => ?_)
                    refine lv_aload_n hx hb dX2_readArguments_207 rfl (lv_at hl 4 rfl) ?_
                    refine g_geti (C := RX2) (T := TX2) (N := 16) hx hb hts (mc_ inX2) hown hK g ma0_ ka0_ (by decide) rfl 13 (by decide) rfl (hts _ (List.mem_cons_of_mem _ t_429)) (fun _ h9 => h9) rfl dX2_readArguments_208 (fun x_398 bx_398 g => ?_)
                    obtain ⟨a_399, ma_399, ka_399, g⟩ := g_factr g mq3_ kq3_ (by decide) 4 rfl
                    obtain ⟨a_400, ma_400, ka_400, g⟩ := g_factr g mq3_ kq3_ (by decide) 5 rfl
                    obtain ⟨x_401, bx_401, g⟩ := g_facti g mq3_ kq3_ (by decide) 6 rfl
                    have go_ := g
                    refine g_callv (va_runV (As := [.int x_397, .int x_398]) (rest := []) ⟨hx, hb, hml, hown, hts⟩ (r_X7_emitF l dC dI L kd tys fr_389 H.size g.2.2.2.1 q3_ mq3_ kq3_ a_399 ma_399 ka_399 a_400 ma_400 ka_400 x_401 bx_401 T_ hG_394 x_397 x_398 (g.fcts [2, 1, 0] rfl)) (cwV 2 hts (gV_ t_1301 t_1204 t_1205 t_191 t_1206) rfl rfl rfl (by decide +kernel) ⟨(Nat.le_of_ble_eq_true rfl), (Nat.le_of_ble_eq_true rfl)⟩) (pre3V g hK mq3_ kq3_ (by decide) (q := (RX7, TX7, 19)) rfl) rfl rfl hl.1 rfl (lv_room (Nat.le_of_ble_eq_true rfl)) dX2_readArguments_211 ⟨(Nat.le_of_ble_eq_true rfl), (Nat.le_of_ble_eq_true rfl)⟩) g hK (by decide) (by decide) (fx' := [(7, 5, q3_, .ref a_400), (7, 4, q3_, .ref a_399), (2, 13, a0_, .int x_398), (2, 12, a0_, .int x_397), (8, 6, q0_, .int 1201), (8, 8, q0_, .int x_390), (2, 14, a0_, .int x_17), (2, 0, a0_, .ref q0_), (2, 1, a0_, .ref q1_), (2, 2, a0_, .ref q2_), (2, 3, a0_, .ref q3_), (0, 0, q2_, .ref q0_), (0, 1, q2_, .ref q1_), (5, 0, q1_, .ref q3_), (5, 1, q1_, .ref q7_)]) rfl (fun fr_402 H locs hp hMr_402 g => ?_)
                    obtain ⟨hG_403, x_404, h_405, hF_406⟩ := hp
                    have hG_407 := eOK.frame hMr_402 go_.2.2.2.1 mq2_ kq2_ (by decide) (by decide) hG_396
                    have g := g.more hF_406
                    refine lv_aload_n hx hb dX2_readArguments_214 rfl (lv_at hl 4 rfl) ?_
                    refine g_getk (C := RX2) (T := TX2) (N := 16) hx hb hts (mc_ inX2) hown hK g rfl 3 (by decide) rfl (hts _ (List.mem_cons_of_mem _ t_419)) (fun _ h9 => h9) 11 rfl dX2_readArguments_215 ?_
                    refine lv_bipush (v := 22) hx hb dX2_readArguments_218 (by decide) ?_
                    refine lv_iconst (v := 0) hx hb dX2_readArguments_220 (by decide) ?_
                    have go_ := g
                    refine g_callv (va_runV (As := [.int 22, .int 0]) (rest := []) ⟨hx, hb, hml, hown, hts⟩ (r_X7_emitF l dC dI L kd tys fr_402 H.size g.2.2.2.1 q3_ mq3_ kq3_ a_399 ma_399 ka_399 a_400 ma_400 ka_400 x_404 h_405 T_ hG_403 (22 : Int32) (0 : Int32) (g.fcts [2, 1, 0] rfl)) (cwV 2 hts (gV_ t_1301 t_1204 t_1205 t_191 t_1206) rfl rfl rfl (by decide +kernel) ⟨(Nat.le_of_ble_eq_true rfl), (Nat.le_of_ble_eq_true rfl)⟩) (pre3V g hK mq3_ kq3_ (by decide) (q := (RX7, TX7, 19)) rfl) rfl rfl hl.1 rfl (lv_room (Nat.le_of_ble_eq_true rfl)) dX2_readArguments_221 ⟨(Nat.le_of_ble_eq_true rfl), (Nat.le_of_ble_eq_true rfl)⟩) g hK (by decide) (by decide) (fx' := [(7, 5, q3_, .ref a_400), (7, 4, q3_, .ref a_399), (2, 13, a0_, .int x_398), (2, 12, a0_, .int x_397), (8, 6, q0_, .int 1201), (8, 8, q0_, .int x_390), (2, 14, a0_, .int x_17), (2, 0, a0_, .ref q0_), (2, 1, a0_, .ref q1_), (2, 2, a0_, .ref q2_), (2, 3, a0_, .ref q3_), (0, 0, q2_, .ref q0_), (0, 1, q2_, .ref q1_), (5, 0, q1_, .ref q3_), (5, 1, q1_, .ref q7_)]) rfl (fun fr_408 H locs hp hMr_408 g => ?_)
                    obtain ⟨hG_409, x_410, h_411, hF_412⟩ := hp
                    have hG_413 := eOK.frame hMr_408 go_.2.2.2.1 mq2_ kq2_ (by decide) (by decide) hG_407
                    have g := g.more hF_412
                    refine lv_aload_n hx hb dX2_readArguments_224 rfl (lv_at hl 4 rfl) ?_
                    refine g_getk (C := RX2) (T := TX2) (N := 16) hx hb hts (mc_ inX2) hown hK g rfl 0 (by decide) rfl (hts _ (List.mem_cons_of_mem _ t_416)) (fun _ h9 => h9) 8 rfl dX2_readArguments_225 ?_
                    refine lv_bipush (v := 59) hx hb dX2_readArguments_228 (by decide) ?_
                    have kb_1201 : bd 1201 1201 (1201 : Int32) := ⟨by decide, by decide⟩
                    have go_ := g
                    refine g_callv (va_runV (As := [.int 59]) (rest := []) ⟨hx, hb, hml, hown, hts⟩ (r_X8_take_2 l dC dI L kd tys fr_408 H.size g.2.2.2.1 q0_ mq0_ kq0_ 59 1201 kb_1201 x_390 h_391 (g.fcts [5, 6] rfl)) (cwV 1 hts (gV_ t_1098 t_1099 t_1100 t_184 t_1101) rfl rfl rfl (by decide +kernel) ⟨(Nat.le_of_ble_eq_true rfl), (Nat.le_of_ble_eq_true rfl)⟩) (pre3V g hK mq0_ kq0_ (by decide) (q := (RX8, TX8, 10)) rfl) rfl rfl hl.1 rfl (lv_room (Nat.le_of_ble_eq_true rfl)) dX2_readArguments_230 ⟨(Nat.le_of_ble_eq_true rfl), (Nat.le_of_ble_eq_true rfl)⟩) g hK (by decide) (by decide) (fx' := [(7, 6, q3_, .int x_410), (7, 5, q3_, .ref a_400), (7, 4, q3_, .ref a_399), (2, 13, a0_, .int x_398), (2, 12, a0_, .int x_397), (8, 8, q0_, .int x_390), (2, 14, a0_, .int x_17), (2, 0, a0_, .ref q0_), (2, 1, a0_, .ref q1_), (2, 2, a0_, .ref q2_), (2, 3, a0_, .ref q3_), (0, 0, q2_, .ref q0_), (0, 1, q2_, .ref q1_), (5, 0, q1_, .ref q3_), (5, 1, q1_, .ref q7_)]) rfl (fun fr_414 H locs hp hMr_414 g => ?_)
                    obtain ⟨x_415, h_416, hF_417⟩ := hp
                    have hG_418 := dOK.frame hMr_414 go_.2.2.2.1 mq3_ kq3_ (by decide) (by decide) hG_409
                    have hG_419 := eOK.frame hMr_414 go_.2.2.2.1 mq2_ kq2_ (by decide) (by decide) hG_413
                    have g := g.more hF_417
                    subst hQ
                    exact W.vret hx hb hr (fun t ht hW => ⟨⟨_, rfl, Or.inr (⟨hG_418, hG_419, x_415, h_416, x_390, h_391, (g.fcts [0, 6] rfl)⟩), q3_of g hK ht hW⟩, g.2.2.1.F ht⟩) g.2.2.1.2.2 dX2_readArguments_233
                · have hG_420 := cOK.frame hMr_335 go_.2.2.2.1 mq3_ kq3_ (by decide) (by decide) hG_331
                  have hG_421 := dOK.frame hMr_335 go_.2.2.2.1 mq3_ kq3_ (by decide) (by decide) hG_332
                  have hG_422 := jS.frame hMr_335 go_.2.2.2.1 mq3_ kq3_ (by decide) (by decide) hG_333
                  have hG_423 := eOK.frame hMr_335 go_.2.2.2.1 mq2_ kq2_ (by decide) (by decide) hG_334
                  have g := g.more hF_341
                  refine lv_iload_n hx hb dX2_readArguments_180 rfl (lv_at hl 2 rfl) ?_
                  refine lv_aload_n hx hb dX2_readArguments_181 rfl (lv_at hl 4 rfl) ?_
                  refine g_getk (C := RX2) (T := TX2) (N := 16) hx hb hts (mc_ inX2) hown hK g rfl 14 (by decide) rfl (hts _ (List.mem_cons_of_mem _ t_430)) (fun _ h9 => h9) 2 rfl dX2_readArguments_182 ?_
                  refine lv_icmp_ge (tgt := 199) hx hb dX2_readArguments_185 (by decide) (fun c_424 => ?_) (fun c_424 => ?_)
                  · have fc_424 := le_f c_424
                    refine lv_aload_n hx hb dX2_readArguments_199 rfl (lv_at hl 4 rfl) ?_
                    refine g_getk (C := RX2) (T := TX2) (N := 16) hx hb hts (mc_ inX2) hown hK g rfl 3 (by decide) rfl (hts _ (List.mem_cons_of_mem _ t_419)) (fun _ h9 => h9) 6 rfl dX2_readArguments_200 ?_
                    refine lv_aload_n hx hb dX2_readArguments_203 rfl (lv_at hl 4 rfl) ?_
                    refine g_geti (C := RX2) (T := TX2) (N := 16) hx hb hts (mc_ inX2) hown hK g ma0_ ka0_ (by decide) rfl 12 (by decide) rfl (hts _ (List.mem_cons_of_mem _ t_428)) (fun _ h9 => h9) rfl dX2_readArguments_204 (fun x_425 bx_425 g => ?_)
                    refine lv_aload_n hx hb dX2_readArguments_207 rfl (lv_at hl 4 rfl) ?_
                    refine g_geti (C := RX2) (T := TX2) (N := 16) hx hb hts (mc_ inX2) hown hK g ma0_ ka0_ (by decide) rfl 13 (by decide) rfl (hts _ (List.mem_cons_of_mem _ t_429)) (fun _ h9 => h9) rfl dX2_readArguments_208 (fun x_426 bx_426 g => ?_)
                    obtain ⟨a_427, ma_427, ka_427, g⟩ := g_factr g mq3_ kq3_ (by decide) 4 rfl
                    obtain ⟨a_428, ma_428, ka_428, g⟩ := g_factr g mq3_ kq3_ (by decide) 5 rfl
                    obtain ⟨x_429, bx_429, g⟩ := g_facti g mq3_ kq3_ (by decide) 6 rfl
                    have go_ := g
                    refine g_callv (va_runV (As := [.int x_425, .int x_426]) (rest := []) ⟨hx, hb, hml, hown, hts⟩ (r_X7_emitF l dC dI L kd tys fr_335 H.size g.2.2.2.1 q3_ mq3_ kq3_ a_427 ma_427 ka_427 a_428 ma_428 ka_428 x_429 bx_429 T_ hG_421 x_425 x_426 (g.fcts [2, 1, 0] rfl)) (cwV 2 hts (gV_ t_1301 t_1204 t_1205 t_191 t_1206) rfl rfl rfl (by decide +kernel) ⟨(Nat.le_of_ble_eq_true rfl), (Nat.le_of_ble_eq_true rfl)⟩) (pre3V g hK mq3_ kq3_ (by decide) (q := (RX7, TX7, 19)) rfl) rfl rfl hl.1 rfl (lv_room (Nat.le_of_ble_eq_true rfl)) dX2_readArguments_211 ⟨(Nat.le_of_ble_eq_true rfl), (Nat.le_of_ble_eq_true rfl)⟩) g hK (by decide) (by decide) (fx' := [(7, 5, q3_, .ref a_428), (7, 4, q3_, .ref a_427), (2, 13, a0_, .int x_426), (2, 12, a0_, .int x_425), (8, 6, q0_, .int 1201), (8, 8, q0_, .int x_339), (2, 14, a0_, .int x_17), (2, 0, a0_, .ref q0_), (2, 1, a0_, .ref q1_), (2, 2, a0_, .ref q2_), (2, 3, a0_, .ref q3_), (0, 0, q2_, .ref q0_), (0, 1, q2_, .ref q1_), (5, 0, q1_, .ref q3_), (5, 1, q1_, .ref q7_)]) rfl (fun fr_430 H locs hp hMr_430 g => ?_)
                    obtain ⟨hG_431, x_432, h_433, hF_434⟩ := hp
                    have hG_435 := eOK.frame hMr_430 go_.2.2.2.1 mq2_ kq2_ (by decide) (by decide) hG_423
                    have g := g.more hF_434
                    refine lv_aload_n hx hb dX2_readArguments_214 rfl (lv_at hl 4 rfl) ?_
                    refine g_getk (C := RX2) (T := TX2) (N := 16) hx hb hts (mc_ inX2) hown hK g rfl 3 (by decide) rfl (hts _ (List.mem_cons_of_mem _ t_419)) (fun _ h9 => h9) 11 rfl dX2_readArguments_215 ?_
                    refine lv_bipush (v := 22) hx hb dX2_readArguments_218 (by decide) ?_
                    refine lv_iconst (v := 0) hx hb dX2_readArguments_220 (by decide) ?_
                    have go_ := g
                    refine g_callv (va_runV (As := [.int 22, .int 0]) (rest := []) ⟨hx, hb, hml, hown, hts⟩ (r_X7_emitF l dC dI L kd tys fr_430 H.size g.2.2.2.1 q3_ mq3_ kq3_ a_427 ma_427 ka_427 a_428 ma_428 ka_428 x_432 h_433 T_ hG_431 (22 : Int32) (0 : Int32) (g.fcts [2, 1, 0] rfl)) (cwV 2 hts (gV_ t_1301 t_1204 t_1205 t_191 t_1206) rfl rfl rfl (by decide +kernel) ⟨(Nat.le_of_ble_eq_true rfl), (Nat.le_of_ble_eq_true rfl)⟩) (pre3V g hK mq3_ kq3_ (by decide) (q := (RX7, TX7, 19)) rfl) rfl rfl hl.1 rfl (lv_room (Nat.le_of_ble_eq_true rfl)) dX2_readArguments_221 ⟨(Nat.le_of_ble_eq_true rfl), (Nat.le_of_ble_eq_true rfl)⟩) g hK (by decide) (by decide) (fx' := [(7, 5, q3_, .ref a_428), (7, 4, q3_, .ref a_427), (2, 13, a0_, .int x_426), (2, 12, a0_, .int x_425), (8, 6, q0_, .int 1201), (8, 8, q0_, .int x_339), (2, 14, a0_, .int x_17), (2, 0, a0_, .ref q0_), (2, 1, a0_, .ref q1_), (2, 2, a0_, .ref q2_), (2, 3, a0_, .ref q3_), (0, 0, q2_, .ref q0_), (0, 1, q2_, .ref q1_), (5, 0, q1_, .ref q3_), (5, 1, q1_, .ref q7_)]) rfl (fun fr_436 H locs hp hMr_436 g => ?_)
                    obtain ⟨hG_437, x_438, h_439, hF_440⟩ := hp
                    have hG_441 := eOK.frame hMr_436 go_.2.2.2.1 mq2_ kq2_ (by decide) (by decide) hG_435
                    have g := g.more hF_440
                    refine lv_aload_n hx hb dX2_readArguments_224 rfl (lv_at hl 4 rfl) ?_
                    refine g_getk (C := RX2) (T := TX2) (N := 16) hx hb hts (mc_ inX2) hown hK g rfl 0 (by decide) rfl (hts _ (List.mem_cons_of_mem _ t_416)) (fun _ h9 => h9) 8 rfl dX2_readArguments_225 ?_
                    refine lv_bipush (v := 59) hx hb dX2_readArguments_228 (by decide) ?_
                    have kb_1201 : bd 1201 1201 (1201 : Int32) := ⟨by decide, by decide⟩
                    have go_ := g
                    refine g_callv (va_runV (As := [.int 59]) (rest := []) ⟨hx, hb, hml, hown, hts⟩ (r_X8_take_2 l dC dI L kd tys fr_436 H.size g.2.2.2.1 q0_ mq0_ kq0_ 59 1201 kb_1201 x_339 h_340 (g.fcts [5, 6] rfl)) (cwV 1 hts (gV_ t_1098 t_1099 t_1100 t_184 t_1101) rfl rfl rfl (by decide +kernel) ⟨(Nat.le_of_ble_eq_true rfl), (Nat.le_of_ble_eq_true rfl)⟩) (pre3V g hK mq0_ kq0_ (by decide) (q := (RX8, TX8, 10)) rfl) rfl rfl hl.1 rfl (lv_room (Nat.le_of_ble_eq_true rfl)) dX2_readArguments_230 ⟨(Nat.le_of_ble_eq_true rfl), (Nat.le_of_ble_eq_true rfl)⟩) g hK (by decide) (by decide) (fx' := [(7, 6, q3_, .int x_438), (7, 5, q3_, .ref a_428), (7, 4, q3_, .ref a_427), (2, 13, a0_, .int x_426), (2, 12, a0_, .int x_425), (8, 8, q0_, .int x_339), (2, 14, a0_, .int x_17), (2, 0, a0_, .ref q0_), (2, 1, a0_, .ref q1_), (2, 2, a0_, .ref q2_), (2, 3, a0_, .ref q3_), (0, 0, q2_, .ref q0_), (0, 1, q2_, .ref q1_), (5, 0, q1_, .ref q3_), (5, 1, q1_, .ref q7_)]) rfl (fun fr_442 H locs hp hMr_442 g => ?_)
                    obtain ⟨x_443, h_444, hF_445⟩ := hp
                    have hG_446 := dOK.frame hMr_442 go_.2.2.2.1 mq3_ kq3_ (by decide) (by decide) hG_437
                    have hG_447 := eOK.frame hMr_442 go_.2.2.2.1 mq2_ kq2_ (by decide) (by decide) hG_441
                    have g := g.more hF_445
                    subst hQ
                    exact W.vret hx hb hr (fun t ht hW => ⟨⟨_, rfl, Or.inr (⟨hG_446, hG_447, x_443, h_444, x_339, h_340, (g.fcts [0, 6] rfl)⟩), q3_of g hK ht hW⟩, g.2.2.1.F ht⟩) g.2.2.1.2.2 dX2_readArguments_233
                  · have fc_424 := nle_f c_424
                    have b_448 : bd (-2147483648) 2147483646 v69_2 := ltL fc_424 (bdT v69_2) (bdT x_17) (by decide)
                    have b_449 : bd (-2147483647) 2147483647 x_17 := ltR fc_424 (bdT v69_2) (bdT x_17) (by decide)
                    refine lv_aload_n hx hb dX2_readArguments_188 rfl (lv_at hl 4 rfl) ?_
                    refine g_getk (C := RX2) (T := TX2) (N := 16) hx hb hts (mc_ inX2) hown hK g rfl 0 (by decide) rfl (hts _ (List.mem_cons_of_mem _ t_416)) (fun _ h9 => h9) 3 rfl dX2_readArguments_189 ?_
                    refine lv_bipush (v := 6) hx hb dX2_readArguments_192 (by decide) ?_
                    refine lv_iload hx hb dX2_readArguments_194 (lv_at hl 0 rfl) ?_
                    have kb_6 : bd 6 6 (6 : Int32) := ⟨by decide, by decide⟩
                    have go_ := g
                    refine g_callv (va_runV (As := [.int 6, .int r_330]) (rest := []) ⟨hx, hb, hml, hown, hts⟩ (r_X8_fail_2 l dC dI L kd tys fr_335 H.size g.2.2.2.1 q0_ mq0_ kq0_ 6 (bd_sub kb_6 (by decide)) r_330 x_339 h_340 (g.fcts [1] rfl)) (cwV 2 hts (gV_ t_1122 t_1107 t_1108 t_184 t_1109) rfl rfl rfl (by decide +kernel) ⟨(Nat.le_of_ble_eq_true rfl), (Nat.le_of_ble_eq_true rfl)⟩) (pre3V g hK mq0_ kq0_ (by decide) (q := (RX8, TX8, 10)) rfl) rfl rfl hl.1 rfl (lv_room (Nat.le_of_ble_eq_true rfl)) dX2_readArguments_196 ⟨(Nat.le_of_ble_eq_true rfl), (Nat.le_of_ble_eq_true rfl)⟩) g hK (by decide) (by decide) (fx' := [(8, 8, q0_, .int x_339), (2, 14, a0_, .int x_17), (2, 0, a0_, .ref q0_), (2, 1, a0_, .ref q1_), (2, 2, a0_, .ref q2_), (2, 3, a0_, .ref q3_), (0, 0, q2_, .ref q0_), (0, 1, q2_, .ref q1_), (5, 0, q1_, .ref q3_), (5, 1, q1_, .ref q7_)]) rfl (fun fr_450 H locs hp hMr_450 g => ?_)
                    have hF_451 := hp
                    have hG_452 := cOK.frame hMr_450 go_.2.2.2.1 mq3_ kq3_ (by decide) (by decide) hG_420
                    have hG_453 := dOK.frame hMr_450 go_.2.2.2.1 mq3_ kq3_ (by decide) (by decide) hG_421
                    have hG_454 := jS.frame hMr_450 go_.2.2.2.1 mq3_ kq3_ (by decide) (by decide) hG_422
                    have hG_455 := eOK.frame hMr_450 go_.2.2.2.1 mq2_ kq2_ (by decide) (by decide) hG_423
                    have g := g.more hF_451
                    refine lv_aload_n hx hb dX2_readArguments_199 rfl (lv_at hl 4 rfl) ?_
                    refine g_getk (C := RX2) (T := TX2) (N := 16) hx hb hts (mc_ inX2) hown hK g rfl 3 (by decide) rfl (hts _ (List.mem_cons_of_mem _ t_419)) (fun _ h9 => h9) 6 rfl dX2_readArguments_200 ?_
                    refine lv_aload_n hx hb dX2_readArguments_203 rfl (lv_at hl 4 rfl) ?_
                    refine g_geti (C := RX2) (T := TX2) (N := 16) hx hb hts (mc_ inX2) hown hK g ma0_ ka0_ (by decide) rfl 12 (by decide) rfl (hts _ (List.mem_cons_of_mem _ t_428)) (fun _ h9 => h9) rfl dX2_readArguments_204 (fun x_456 bx_456 g => ?_)
                    refine lv_aload_n hx hb dX2_readArguments_207 rfl (lv_at hl 4 rfl) ?_
                    refine g_geti (C := RX2) (T := TX2) (N := 16) hx hb hts (mc_ inX2) hown hK g ma0_ ka0_ (by decide) rfl 13 (by decide) rfl (hts _ (List.mem_cons_of_mem _ t_429)) (fun _ h9 => h9) rfl dX2_readArguments_208 (fun x_457 bx_457 g => ?_)
                    obtain ⟨a_458, ma_458, ka_458, g⟩ := g_factr g mq3_ kq3_ (by decide) 4 rfl
                    obtain ⟨a_459, ma_459, ka_459, g⟩ := g_factr g mq3_ kq3_ (by decide) 5 rfl
                    obtain ⟨x_460, bx_460, g⟩ := g_facti g mq3_ kq3_ (by decide) 6 rfl
                    have go_ := g
                    refine g_callv (va_runV (As := [.int x_456, .int x_457]) (rest := []) ⟨hx, hb, hml, hown, hts⟩ (r_X7_emitF l dC dI L kd tys fr_450 H.size g.2.2.2.1 q3_ mq3_ kq3_ a_458 ma_458 ka_458 a_459 ma_459 ka_459 x_460 bx_460 T_ hG_453 x_456 x_457 (g.fcts [2, 1, 0] rfl)) (cwV 2 hts (gV_ t_1301 t_1204 t_1205 t_191 t_1206) rfl rfl rfl (by decide +kernel) ⟨(Nat.le_of_ble_eq_true rfl), (Nat.le_of_ble_eq_true rfl)⟩) (pre3V g hK mq3_ kq3_ (by decide) (q := (RX7, TX7, 19)) rfl) rfl rfl hl.1 rfl (lv_room (Nat.le_of_ble_eq_true rfl)) dX2_readArguments_211 ⟨(Nat.le_of_ble_eq_true rfl), (Nat.le_of_ble_eq_true rfl)⟩) g hK (by decide) (by decide) (fx' := [(7, 5, q3_, .ref a_459), (7, 4, q3_, .ref a_458), (2, 13, a0_, .int x_457), (2, 12, a0_, .int x_456), (8, 6, q0_, .int 1201), (8, 8, q0_, .int x_339), (2, 14, a0_, .int x_17), (2, 0, a0_, .ref q0_), (2, 1, a0_, .ref q1_), (2, 2, a0_, .ref q2_), (2, 3, a0_, .ref q3_), (0, 0, q2_, .ref q0_), (0, 1, q2_, .ref q1_), (5, 0, q1_, .ref q3_), (5, 1, q1_, .ref q7_)]) rfl (fun fr_461 H locs hp hMr_461 g => ?_)
                    obtain ⟨hG_462, x_463, h_464, hF_465⟩ := hp
                    have hG_466 := eOK.frame hMr_461 go_.2.2.2.1 mq2_ kq2_ (by decide) (by decide) hG_455
                    have g := g.more hF_465
                    refine lv_aload_n hx hb dX2_readArguments_214 rfl (lv_at hl 4 rfl) ?_
                    refine g_getk (C := RX2) (T := TX2) (N := 16) hx hb hts (mc_ inX2) hown hK g rfl 3 (by decide) rfl (hts _ (List.mem_cons_of_mem _ t_419)) (fun _ h9 => h9) 11 rfl dX2_readArguments_215 ?_
                    refine lv_bipush (v := 22) hx hb dX2_readArguments_218 (by decide) ?_
                    refine lv_iconst (v := 0) hx hb dX2_readArguments_220 (by decide) ?_
                    have go_ := g
                    refine g_callv (va_runV (As := [.int 22, .int 0]) (rest := []) ⟨hx, hb, hml, hown, hts⟩ (r_X7_emitF l dC dI L kd tys fr_461 H.size g.2.2.2.1 q3_ mq3_ kq3_ a_458 ma_458 ka_458 a_459 ma_459 ka_459 x_463 h_464 T_ hG_462 (22 : Int32) (0 : Int32) (g.fcts [2, 1, 0] rfl)) (cwV 2 hts (gV_ t_1301 t_1204 t_1205 t_191 t_1206) rfl rfl rfl (by decide +kernel) ⟨(Nat.le_of_ble_eq_true rfl), (Nat.le_of_ble_eq_true rfl)⟩) (pre3V g hK mq3_ kq3_ (by decide) (q := (RX7, TX7, 19)) rfl) rfl rfl hl.1 rfl (lv_room (Nat.le_of_ble_eq_true rfl)) dX2_readArguments_221 ⟨(Nat.le_of_ble_eq_true rfl), (Nat.le_of_ble_eq_true rfl)⟩) g hK (by decide) (by decide) (fx' := [(7, 5, q3_, .ref a_459), (7, 4, q3_, .ref a_458), (2, 13, a0_, .int x_457), (2, 12, a0_, .int x_456), (8, 6, q0_, .int 1201), (8, 8, q0_, .int x_339), (2, 14, a0_, .int x_17), (2, 0, a0_, .ref q0_), (2, 1, a0_, .ref q1_), (2, 2, a0_, .ref q2_), (2, 3, a0_, .ref q3_), (0, 0, q2_, .ref q0_), (0, 1, q2_, .ref q1_), (5, 0, q1_, .ref q3_), (5, 1, q1_, .ref q7_)]) rfl (fun fr_467 H locs hp hMr_467 g => ?_)
                    obtain ⟨hG_468, x_469, h_470, hF_471⟩ := hp
                    have hG_472 := eOK.frame hMr_467 go_.2.2.2.1 mq2_ kq2_ (by decide) (by decide) hG_466
                    have g := g.more hF_471
                    refine lv_aload_n hx hb dX2_readArguments_224 rfl (lv_at hl 4 rfl) ?_
                    refine g_getk (C := RX2) (T := TX2) (N := 16) hx hb hts (mc_ inX2) hown hK g rfl 0 (by decide) rfl (hts _ (List.mem_cons_of_mem _ t_416)) (fun _ h9 => h9) 8 rfl dX2_readArguments_225 ?_
                    refine lv_bipush (v := 59) hx hb dX2_readArguments_228 (by decide) ?_
                    have kb_1201 : bd 1201 1201 (1201 : Int32) := ⟨by decide, by decide⟩
                    have go_ := g
                    refine g_callv (va_runV (As := [.int 59]) (rest := []) ⟨hx, hb, hml, hown, hts⟩ (r_X8_take_2 l dC dI L kd tys fr_467 H.size g.2.2.2.1 q0_ mq0_ kq0_ 59 1201 kb_1201 x_339 h_340 (g.fcts [5, 6] rfl)) (cwV 1 hts (gV_ t_1098 t_1099 t_1100 t_184 t_1101) rfl rfl rfl (by decide +kernel) ⟨(Nat.le_of_ble_eq_true rfl), (Nat.le_of_ble_eq_true rfl)⟩) (pre3V g hK mq0_ kq0_ (by decide) (q := (RX8, TX8, 10)) rfl) rfl rfl hl.1 rfl (lv_room (Nat.le_of_ble_eq_true rfl)) dX2_readArguments_230 ⟨(Nat.le_of_ble_eq_true rfl), (Nat.le_of_ble_eq_true rfl)⟩) g hK (by decide) (by decide) (fx' := [(7, 6, q3_, .int x_469), (7, 5, q3_, .ref a_459), (7, 4, q3_, .ref a_458), (2, 13, a0_, .int x_457), (2, 12, a0_, .int x_456), (8, 8, q0_, .int x_339), (2, 14, a0_, .int x_17), (2, 0, a0_, .ref q0_), (2, 1, a0_, .ref q1_), (2, 2, a0_, .ref q2_), (2, 3, a0_, .ref q3_), (0, 0, q2_, .ref q0_), (0, 1, q2_, .ref q1_), (5, 0, q1_, .ref q3_), (5, 1, q1_, .ref q7_)]) rfl (fun fr_473 H locs hp hMr_473 g => ?_)
                    obtain ⟨x_474, h_475, hF_476⟩ := hp
                    have hG_477 := dOK.frame hMr_473 go_.2.2.2.1 mq3_ kq3_ (by decide) (by decide) hG_468
                    have hG_478 := eOK.frame hMr_473 go_.2.2.2.1 mq2_ kq2_ (by decide) (by decide) hG_472
                    have g := g.more hF_476
                    subst hQ
                    exact W.vret hx hb hr (fun t ht hW => ⟨⟨_, rfl, Or.inr (⟨hG_477, hG_478, x_474, h_475, x_339, h_340, (g.fcts [0, 6] rfl)⟩), q3_of g hK ht hW⟩, g.2.2.1.F ht⟩) g.2.2.1.2.2 dX2_readArguments_233
              · have fc_328 := neq_f c_328
                have b_479 : bd 1 1 v69_3 := neX fc_328 bv69_3 kb_0 (by decide)
                refine lv_aload_n hx hb dX2_readArguments_79 rfl (lv_at hl 4 rfl) ?_
                refine g_getk (C := RX2) (T := TX2) (N := 16) hx hb hts (mc_ inX2) hown hK g rfl 0 (by decide) rfl (hts _ (List.mem_cons_of_mem _ t_416)) (fun _ h9 => h9) 2 rfl dX2_readArguments_80 ?_
                refine g_getk (C := RX8) (T := TX8) (N := 10) hx hb hts (mc_ inX8) hown hK g rfl 8 (by decide) rfl (hts _ (List.mem_cons_of_mem _ t_294)) (fun _ h9 => h9) 1 rfl dX2_readArguments_83 ?_
                refine lv_if_ne (tgt := 162) hx hb dX2_readArguments_86 (by decide) (fun c_480 => ?_) (fun c_480 => ?_)
                · have fc_480 := neq_f c_480
                  have b_481 : bd 1 (-1) y0_ := neX fc_480 by0_ kb_0 (by decide)
                  exact bd_no b_481 (by decide)
                · have fc_480 := eq_f c_480
                  refine lv_aload_n hx hb dX2_readArguments_89 rfl (lv_at hl 4 rfl) ?_
                  refine g_getk (C := RX2) (T := TX2) (N := 16) hx hb hts (mc_ inX2) hown hK g rfl 2 (by decide) rfl (hts _ (List.mem_cons_of_mem _ t_418)) (fun _ h9 => h9) 4 rfl dX2_readArguments_90 ?_
                  have go_ := g
                  refine g_callv (va_runV (As := []) (rest := []) ⟨hx, hb, hml, hown, hts⟩ (r_X0_read l dC dI L kd tys f H.size g.2.2.2.1 q2_ mq2_ kq2_ q0_ mq0_ kq0_ q1_ mq1_ kq1_ q3_ mq3_ kq3_ q7_ mq7_ kq7_ y0_ by0_ T_ (fun j9 => jOK f q3_ j9) hG69_e_q2_ hG69_c_q3_ hG69_d_q3_ (fun _ h9 => h9) (g.fcts [6, 7, 8, 9, 1] rfl)) (cwV 0 hts (gV_ t_1182 t_1183 t_1184 t_190 t_1185) rfl rfl rfl (by decide +kernel) ⟨(Nat.le_of_ble_eq_true rfl), (Nat.le_of_ble_eq_true rfl)⟩) (pre3V g hK mq2_ kq2_ (by decide) (q := (RX0, TX0, 14)) rfl) rfl rfl hl.1 rfl (lv_room (Nat.le_of_ble_eq_true rfl)) dX2_readArguments_93 ⟨(Nat.le_of_ble_eq_true rfl), (Nat.le_of_ble_eq_true rfl)⟩) g hK (by decide) (by decide) (fx' := [(2, 14, a0_, .int x_17), (2, 0, a0_, .ref q0_), (2, 1, a0_, .ref q1_), (2, 2, a0_, .ref q2_), (2, 3, a0_, .ref q3_), (0, 0, q2_, .ref q0_), (0, 1, q2_, .ref q1_), (5, 0, q1_, .ref q3_), (5, 1, q1_, .ref q7_)]) rfl (fun fr_482 H locs hp hMr_482 g => ?_)
                  rcases hp with ⟨hG_483, hG_484, hG_485, hG_486, hF_487⟩ | ⟨hG_488, hG_489, x_490, h_491, x_492, h_493, hF_494⟩
                  · have g := g.more hF_487
                    have hs_495 := jS.mv hG69_s_q3_ hG_486
                    have kb_1 : bd 1 1 (1 : Int32) := ⟨by decide, by decide⟩
                    obtain ⟨y_496, ey_496⟩ : ∃ z : Int32, z = v69_2 + 1 := ⟨_, rfl⟩
                    refine lv_iinc (v := y_496) (lv' := [(2, .int y_496), (4, .int v69_4), (3, .int v69_3), (1, .int r_1), (0, .ref a0_)]) hx hb dX2_readArguments_96 hl (k := 2) rfl (by rw [ey_496]; rfl) (by decide) rfl (fun ls hl => ?_)
                    refine lv_aload_n hx hb dX2_readArguments_99 rfl (lv_at hl 4 rfl) ?_
                    refine g_getk (C := RX2) (T := TX2) (N := 16) hx hb hts (mc_ inX2) hown hK g rfl 0 (by decide) rfl (hts _ (List.mem_cons_of_mem _ t_416)) (fun _ h9 => h9) 3 rfl dX2_readArguments_100 ?_
                    have go_ := g
                    refine g_calli (va_runV (As := []) (rest := []) ⟨hx, hb, hml, hown, hts⟩ (r_X8_kind l dC dI L kd tys fr_482 H.size g.2.2.2.1 q0_ mq0_ kq0_) (cwV 0 hts (gV_ t_1118 t_1119 t_1120 t_184 t_1121) rfl rfl rfl (by decide +kernel) ⟨(Nat.le_of_ble_eq_true rfl), (Nat.le_of_ble_eq_true rfl)⟩) (pre3V g hK mq0_ kq0_ (by decide) (q := (RX8, TX8, 10)) rfl) rfl rfl hl.1 rfl (lv_room (Nat.le_of_ble_eq_true rfl)) dX2_readArguments_103 ⟨(Nat.le_of_ble_eq_true rfl), (Nat.le_of_ble_eq_true rfl)⟩) g hK (by decide) (by decide) (fx' := [(0, 2, q2_, .ref q3_), (8, 8, q0_, .int y0_), (2, 14, a0_, .int x_17), (2, 0, a0_, .ref q0_), (2, 1, a0_, .ref q1_), (2, 2, a0_, .ref q2_), (2, 3, a0_, .ref q3_), (0, 0, q2_, .ref q0_), (0, 1, q2_, .ref q1_), (5, 0, q1_, .ref q3_), (5, 1, q1_, .ref q7_)]) rfl (fun r_497 fr_497 H locs hp hMr_497 g => ?_)
                    have hG_498 := cOK.frame hMr_497 go_.2.2.2.1 mq3_ kq3_ (by decide) (by decide) hG_484
                    have hG_499 := dOK.frame hMr_497 go_.2.2.2.1 mq3_ kq3_ (by decide) (by decide) hG_485
                    have hG_500 := jS.frame hMr_497 go_.2.2.2.1 mq3_ kq3_ (by decide) (by decide) hs_495
                    have hG_501 := eOK.frame hMr_497 go_.2.2.2.1 mq2_ kq2_ (by decide) (by decide) hG_483
                    refine lv_bipush (v := 44) hx hb dX2_readArguments_106 (by decide) ?_
                    have kb_44 : bd 44 44 (44 : Int32) := ⟨by decide, by decide⟩
                    refine lv_icmp_ne (tgt := 115) hx hb dX2_readArguments_108 (by decide) (fun c_502 => ?_) (fun c_502 => ?_)
                    · have fc_502 := neq_f c_502
                      refine lv_iconst (v := 0) hx hb dX2_readArguments_115 (by decide) ?_
                      refine lv_istore_n (lv' := [(3, .int 0), (2, .int y_496), (4, .int v69_4), (1, .int r_1), (0, .ref a0_)]) hx hb dX2_readArguments_116 rfl hl (by decide) rfl (fun ls hl => ?_)
                      refine lv_iload_n hx hb dX2_readArguments_117 rfl (lv_at hl 0 rfl) ?_
                      refine lv_if_eq (tgt := 156) hx hb dX2_readArguments_118 (by decide) (fun c_ => ?_) (fun c_ => absurd (by decide) c_)
                      obtain ⟨y_503, ey_503⟩ : ∃ z : Int32, z = v69_4 + 1 := ⟨_, rfl⟩
                      refine lv_iinc (v := y_503) (lv' := [(4, .int y_503), (3, .int 0), (2, .int y_496), (1, .int r_1), (0, .ref a0_)]) hx hb dX2_readArguments_156 hl (k := 2) rfl (by rw [ey_503]; rfl) (by decide) rfl (fun ls hl => ?_)
                      have ty_503 := add_bd ey_503 b_327 kb_1 (by decide)
                      have b_504 : bd 1 4 y_503 := add_rg ty_503 b_327 kb_1 (by decide)
                      refine lv_goto (tgt := 69) hx hb dX2_readArguments_159 (by decide) ?_
                      have hl9 := lv_sub hl [0, 1, 2, 3, 4] (by rfl : lv_pick [(4, .int y_503), (3, .int 0), (2, .int y_496), (1, .int r_1), (0, .ref a0_)] [0, 1, 2, 3, 4] = [(4, .int y_503), (3, .int 0), (2, .int y_496), (1, .int r_1), (0, .ref a0_)])
                      have g9 := g.sub (fx' := [(2, 14, a0_, .int x_17), (8, 8, q0_, .int y0_), (2, 0, a0_, .ref q0_), (2, 1, a0_, .ref q1_), (2, 2, a0_, .ref q2_), (2, 3, a0_, .ref q3_), (0, 0, q2_, .ref q0_), (0, 1, q2_, .ref q1_), (5, 0, q1_, .ref q3_), (5, 1, q1_, .ref q7_)]) [2, 1, 3, 4, 5, 6, 7, 8, 9, 10] rfl
                      exact ih69  y_503 0 y_496 (bd_sub b_504 (by decide)) (bd_sub kb_0 (by decide)) (by have h9_0 := b_504; unfold bd at h9_0; have h9_1 := bdT v69_2; unfold bd at h9_1; have h9_2 := bdT y_496; unfold bd at h9_2; have h9_3 := bv69_3; unfold bd at h9_3; have h9_4 := bv69_4; unfold bd at h9_4; have h9_5 := kb_0; unfold bd at h9_5; have h9_6 := kb_1; unfold bd at h9_6; have h9_7 := kb_3; unfold bd at h9_7; have h9_8 := kb_41; unfold bd at h9_8; have h9_9 := kb_44; unfold bd at h9_9; omega) _ _ _ _ g9 hG_498 hG_499 hG_500 hG_501 hl9
                    · have fc_502 := eq_f c_502
                      have b_505 : bd 44 44 r_497 := eqX fc_502 (bdT r_497) kb_44 (by decide)
                      refine lv_iconst (v := 1) hx hb dX2_readArguments_111 (by decide) ?_
                      refine lv_goto (tgt := 116) hx hb dX2_readArguments_112 (by decide) ?_
                      refine lv_istore_n (lv' := [(3, .int 1), (2, .int y_496), (4, .int v69_4), (1, .int r_1), (0, .ref a0_)]) hx hb dX2_readArguments_116 rfl hl (by decide) rfl (fun ls hl => ?_)
                      refine lv_iload_n hx hb dX2_readArguments_117 rfl (lv_at hl 0 rfl) ?_
                      refine lv_if_eq (tgt := 156) hx hb dX2_readArguments_118 (by decide) (fun c_ => absurd c_ (by decide)) (fun c_ => ?_)
                      refine lv_aload_n hx hb dX2_readArguments_121 rfl (lv_at hl 4 rfl) ?_
                      refine g_getk (C := RX2) (T := TX2) (N := 16) hx hb hts (mc_ inX2) hown hK g rfl 0 (by decide) rfl (hts _ (List.mem_cons_of_mem _ t_416)) (fun _ h9 => h9) 3 rfl dX2_readArguments_122 ?_
                      have go_ := g
                      refine g_calli (va_runV (As := []) (rest := []) ⟨hx, hb, hml, hown, hts⟩ (r_X8_place l dC dI L kd tys fr_497 H.size g.2.2.2.1 q0_ mq0_ kq0_) (cwV 0 hts (gV_ t_1110 t_1111 t_1112 t_184 t_1113) rfl rfl rfl (by decide +kernel) ⟨(Nat.le_of_ble_eq_true rfl), (Nat.le_of_ble_eq_true rfl)⟩) (pre3V g hK mq0_ kq0_ (by decide) (q := (RX8, TX8, 10)) rfl) rfl rfl hl.1 rfl (lv_room (Nat.le_of_ble_eq_true rfl)) dX2_readArguments_125 ⟨(Nat.le_of_ble_eq_true rfl), (Nat.le_of_ble_eq_true rfl)⟩) g hK (by decide) (by decide) (fx' := [(0, 2, q2_, .ref q3_), (8, 8, q0_, .int y0_), (2, 14, a0_, .int x_17), (2, 0, a0_, .ref q0_), (2, 1, a0_, .ref q1_), (2, 2, a0_, .ref q2_), (2, 3, a0_, .ref q3_), (0, 0, q2_, .ref q0_), (0, 1, q2_, .ref q1_), (5, 0, q1_, .ref q3_), (5, 1, q1_, .ref q7_)]) rfl (fun r_506 fr_506 H locs hp hMr_506 g => ?_)
                      have hG_507 := cOK.frame hMr_506 go_.2.2.2.1 mq3_ kq3_ (by decide) (by decide) hG_498
                      have hG_508 := dOK.frame hMr_506 go_.2.2.2.1 mq3_ kq3_ (by decide) (by decide) hG_499
                      have hG_509 := jS.frame hMr_506 go_.2.2.2.1 mq3_ kq3_ (by decide) (by decide) hG_500
                      have hG_510 := eOK.frame hMr_506 go_.2.2.2.1 mq2_ kq2_ (by decide) (by decide) hG_501
                      refine lv_istore (lv' := [(5, .int r_506), (3, .int 1), (2, .int y_496), (4, .int v69_4), (1, .int r_1), (0, .ref a0_)]) hx hb dX2_readArguments_128 hl (by decide) rfl (fun ls hl => ?_)
                      refine lv_aload_n hx hb dX2_readArguments_130 rfl (lv_at hl 5 rfl) ?_
                      refine g_getk (C := RX2) (T := TX2) (N := 16) hx hb hts (mc_ inX2) hown hK g rfl 0 (by decide) rfl (hts _ (List.mem_cons_of_mem _ t_416)) (fun _ h9 => h9) 3 rfl dX2_readArguments_131 ?_
                      have go_ := g
                      refine g_callv (va_runV (As := []) (rest := []) ⟨hx, hb, hml, hown, hts⟩ (r_X8_next l dC dI L kd tys fr_506 H.size g.2.2.2.1 q0_ mq0_ kq0_) (cwV 0 hts (gV_ t_1131 t_1103 t_1104 t_184 t_1105) rfl rfl rfl (by decide +kernel) ⟨(Nat.le_of_ble_eq_true rfl), (Nat.le_of_ble_eq_true rfl)⟩) (pre3V g hK mq0_ kq0_ (by decide) (q := (RX8, TX8, 10)) rfl) rfl rfl hl.1 rfl (lv_room (Nat.le_of_ble_eq_true rfl)) dX2_readArguments_134 ⟨(Nat.le_of_ble_eq_true rfl), (Nat.le_of_ble_eq_true rfl)⟩) g hK (by decide) (by decide) (fx' := [(0, 2, q2_, .ref q3_), (8, 8, q0_, .int y0_), (2, 14, a0_, .int x_17), (2, 0, a0_, .ref q0_), (2, 1, a0_, .ref q1_), (2, 2, a0_, .ref q2_), (2, 3, a0_, .ref q3_), (0, 0, q2_, .ref q0_), (0, 1, q2_, .ref q1_), (5, 0, q1_, .ref q3_), (5, 1, q1_, .ref q7_)]) rfl (fun fr_511 H locs hp hMr_511 g => ?_)
                      obtain ⟨x_512, h_513, hF_514⟩ := hp
                      have hG_515 := cOK.frame hMr_511 go_.2.2.2.1 mq3_ kq3_ (by decide) (by decide) hG_507
                      have hG_516 := dOK.frame hMr_511 go_.2.2.2.1 mq3_ kq3_ (by decide) (by decide) hG_508
                      have hG_517 := jS.frame hMr_511 go_.2.2.2.1 mq3_ kq3_ (by decide) (by decide) hG_509
                      have hG_518 := eOK.frame hMr_511 go_.2.2.2.1 mq2_ kq2_ (by decide) (by decide) hG_510
                      have g := g.more hF_514
                      refine lv_iload_n hx hb dX2_readArguments_137 rfl (lv_at hl 2 rfl) ?_
                      refine lv_aload_n hx hb dX2_readArguments_138 rfl (lv_at hl 5 rfl) ?_
                      refine g_getk (C := RX2) (T := TX2) (N := 16) hx hb hts (mc_ inX2) hown hK g rfl 14 (by decide) rfl (hts _ (List.mem_cons_of_mem _ t_430)) (fun _ h9 => h9) 3 rfl dX2_readArguments_139 ?_
                      refine lv_icmp_lt (tgt := 156) hx hb dX2_readArguments_142 (by decide) (fun c_519 => ?_) (fun c_519 => ?_)
                      · have fc_519 := lt_f c_519
                        have b_520 : bd (-2147483648) 2147483646 y_496 := ltL fc_519 (bdT y_496) (bdT x_17) (by decide)
                        have b_521 : bd (-2147483647) 2147483647 x_17 := ltR fc_519 (bdT y_496) (bdT x_17) (by decide)
                        obtain ⟨y_522, ey_522⟩ : ∃ z : Int32, z = v69_4 + 1 := ⟨_, rfl⟩
                        refine lv_iinc (v := y_522) (lv' := [(4, .int y_522), (5, .int r_506), (3, .int 1), (2, .int y_496), (1, .int r_1), (0, .ref a0_)]) hx hb dX2_readArguments_156 hl (k := 3) rfl (by rw [ey_522]; rfl) (by decide) rfl (fun ls hl => ?_)
                        have ty_522 := add_bd ey_522 b_327 kb_1 (by decide)
                        have b_523 : bd 1 4 y_522 := add_rg ty_522 b_327 kb_1 (by decide)
                        refine lv_goto (tgt := 69) hx hb dX2_readArguments_159 (by decide) ?_
                        have hl9 := lv_sub hl [0, 2, 3, 4, 5] (by rfl : lv_pick [(4, .int y_522), (5, .int r_506), (3, .int 1), (2, .int y_496), (1, .int r_1), (0, .ref a0_)] [0, 2, 3, 4, 5] = [(4, .int y_522), (3, .int 1), (2, .int y_496), (1, .int r_1), (0, .ref a0_)])
                        have g9 := g.sub (fx' := [(2, 14, a0_, .int x_17), (8, 8, q0_, .int y0_), (2, 0, a0_, .ref q0_), (2, 1, a0_, .ref q1_), (2, 2, a0_, .ref q2_), (2, 3, a0_, .ref q3_), (0, 0, q2_, .ref q0_), (0, 1, q2_, .ref q1_), (5, 0, q1_, .ref q3_), (5, 1, q1_, .ref q7_)]) [3, 2, 4, 5, 6, 7, 8, 9, 10, 11] rfl
                        exact ih69  y_522 1 y_496 (bd_sub b_523 (by decide)) (bd_sub kb_1 (by decide)) (by have h9_0 := b_520; unfold bd at h9_0; have h9_1 := b_523; unfold bd at h9_1; have h9_2 := bdT v69_2; unfold bd at h9_2; have h9_3 := bv69_3; unfold bd at h9_3; have h9_4 := bv69_4; unfold bd at h9_4; have h9_5 := h_513; unfold bd at h9_5; have h9_6 := kb_0; unfold bd at h9_6; have h9_7 := kb_1; unfold bd at h9_7; have h9_8 := kb_3; unfold bd at h9_8; have h9_9 := kb_41; unfold bd at h9_9; have h9_10 := kb_44; unfold bd at h9_10; omega) _ _ _ _ g9 hG_515 hG_516 hG_517 hG_518 hl9
                      · have fc_519 := nlt_f c_519
                        refine lv_aload_n hx hb dX2_readArguments_145 rfl (lv_at hl 5 rfl) ?_
                        refine g_getk (C := RX2) (T := TX2) (N := 16) hx hb hts (mc_ inX2) hown hK g rfl 0 (by decide) rfl (hts _ (List.mem_cons_of_mem _ t_416)) (fun _ h9 => h9) 4 rfl dX2_readArguments_146 ?_
                        refine lv_bipush (v := 6) hx hb dX2_readArguments_149 (by decide) ?_
                        refine lv_iload hx hb dX2_readArguments_151 (lv_at hl 0 rfl) ?_
                        have kb_6 : bd 6 6 (6 : Int32) := ⟨by decide, by decide⟩
                        have go_ := g
                        refine g_callv (va_runV (As := [.int 6, .int r_506]) (rest := []) ⟨hx, hb, hml, hown, hts⟩ (r_X8_fail l dC dI L kd tys fr_511 H.size g.2.2.2.1 q0_ mq0_ kq0_ 6 (bd_sub kb_6 (by decide)) r_506 y0_ by0_ (g.fcts [2] rfl)) (cwV 2 hts (gV_ t_1122 t_1107 t_1108 t_184 t_1109) rfl rfl rfl (by decide +kernel) ⟨(Nat.le_of_ble_eq_true rfl), (Nat.le_of_ble_eq_true rfl)⟩) (pre3V g hK mq0_ kq0_ (by decide) (q := (RX8, TX8, 10)) rfl) rfl rfl hl.1 rfl (lv_room (Nat.le_of_ble_eq_true rfl)) dX2_readArguments_153 ⟨(Nat.le_of_ble_eq_true rfl), (Nat.le_of_ble_eq_true rfl)⟩) g hK (by decide) (by decide) (fx' := [(0, 2, q2_, .ref q3_), (2, 14, a0_, .int x_17), (2, 0, a0_, .ref q0_), (2, 1, a0_, .ref q1_), (2, 2, a0_, .ref q2_), (2, 3, a0_, .ref q3_), (0, 0, q2_, .ref q0_), (0, 1, q2_, .ref q1_), (5, 0, q1_, .ref q3_), (5, 1, q1_, .ref q7_)]) rfl (fun fr_524 H locs hp hMr_524 g => ?_)
                        obtain ⟨x_525, h_526, hF_527⟩ := hp
                        have hG_528 := cOK.frame hMr_524 go_.2.2.2.1 mq3_ kq3_ (by decide) (by decide) hG_515
                        have hG_529 := dOK.frame hMr_524 go_.2.2.2.1 mq3_ kq3_ (by decide) (by decide) hG_516
                        have hG_530 := jS.frame hMr_524 go_.2.2.2.1 mq3_ kq3_ (by decide) (by decide) hG_517
                        have hG_531 := eOK.frame hMr_524 go_.2.2.2.1 mq2_ kq2_ (by decide) (by decide) hG_518
                        have g := g.more hF_527
                        obtain ⟨y_532, ey_532⟩ : ∃ z : Int32, z = v69_4 + 1 := ⟨_, rfl⟩
                        refine lv_iinc (v := y_532) (lv' := [(4, .int y_532), (5, .int r_506), (3, .int 1), (2, .int y_496), (1, .int r_1), (0, .ref a0_)]) hx hb dX2_readArguments_156 hl (k := 3) rfl (by rw [ey_532]; rfl) (by decide) rfl (fun ls hl => ?_)
                        have ty_532 := add_bd ey_532 b_327 kb_1 (by decide)
                        have b_533 : bd 1 4 y_532 := add_rg ty_532 b_327 kb_1 (by decide)
                        refine lv_goto (tgt := 69) hx hb dX2_readArguments_159 (by decide) ?_
                        refine lv_iload hx hb dX2_readArguments_69 (lv_at hl 0 rfl) ?_
                        refine lv_iconst (v := 3) hx hb dX2_readArguments_71 (by decide) ?_
                        refine lv_icmp_gt (tgt := 162) hx hb dX2_readArguments_72 (by decide) (fun c_534 => ?_) (fun c_534 => ?_)
                        · have fc_534 := lt_f c_534
                          have b_535 : bd 4 4 y_532 := ltR fc_534 kb_3 b_533 (by decide)
                          have b_536 : bd 3 3 v69_4 := add_inv ty_532 b_535 b_327 kb_1 (by decide)
                          refine lv_aload_n hx hb dX2_readArguments_162 rfl (lv_at hl 5 rfl) ?_
                          refine g_getk (C := RX2) (T := TX2) (N := 16) hx hb hts (mc_ inX2) hown hK g rfl 0 (by decide) rfl (hts _ (List.mem_cons_of_mem _ t_416)) (fun _ h9 => h9) 4 rfl dX2_readArguments_163 ?_
                          have go_ := g
                          refine g_calli (va_runV (As := []) (rest := []) ⟨hx, hb, hml, hown, hts⟩ (r_X8_place l dC dI L kd tys fr_524 H.size g.2.2.2.1 q0_ mq0_ kq0_) (cwV 0 hts (gV_ t_1110 t_1111 t_1112 t_184 t_1113) rfl rfl rfl (by decide +kernel) ⟨(Nat.le_of_ble_eq_true rfl), (Nat.le_of_ble_eq_true rfl)⟩) (pre3V g hK mq0_ kq0_ (by decide) (q := (RX8, TX8, 10)) rfl) rfl rfl hl.1 rfl (lv_room (Nat.le_of_ble_eq_true rfl)) dX2_readArguments_166 ⟨(Nat.le_of_ble_eq_true rfl), (Nat.le_of_ble_eq_true rfl)⟩) g hK (by decide) (by decide) (fx' := [(8, 6, q0_, .int 1201), (8, 8, q0_, .int x_525), (0, 2, q2_, .ref q3_), (2, 14, a0_, .int x_17), (2, 0, a0_, .ref q0_), (2, 1, a0_, .ref q1_), (2, 2, a0_, .ref q2_), (2, 3, a0_, .ref q3_), (0, 0, q2_, .ref q0_), (0, 1, q2_, .ref q1_), (5, 0, q1_, .ref q3_), (5, 1, q1_, .ref q7_)]) rfl (fun r_537 fr_537 H locs hp hMr_537 g => ?_)
                          have hG_538 := cOK.frame hMr_537 go_.2.2.2.1 mq3_ kq3_ (by decide) (by decide) hG_528
                          have hG_539 := dOK.frame hMr_537 go_.2.2.2.1 mq3_ kq3_ (by decide) (by decide) hG_529
                          have hG_540 := jS.frame hMr_537 go_.2.2.2.1 mq3_ kq3_ (by decide) (by decide) hG_530
                          have hG_541 := eOK.frame hMr_537 go_.2.2.2.1 mq2_ kq2_ (by decide) (by decide) hG_531
                          refine lv_istore (lv' := [(4, .int r_537), (5, .int r_506), (3, .int 1), (2, .int y_496), (1, .int r_1), (0, .ref a0_)]) hx hb dX2_readArguments_169 hl (by decide) rfl (fun ls hl => ?_)
                          refine lv_aload_n hx hb dX2_readArguments_171 rfl (lv_at hl 5 rfl) ?_
                          refine g_getk (C := RX2) (T := TX2) (N := 16) hx hb hts (mc_ inX2) hown hK g rfl 0 (by decide) rfl (hts _ (List.mem_cons_of_mem _ t_416)) (fun _ h9 => h9) 4 rfl dX2_readArguments_172 ?_
                          refine lv_bipush (v := 41) hx hb dX2_readArguments_175 (by decide) ?_
                          have kb_1201 : bd 1201 1201 (1201 : Int32) := ⟨by decide, by decide⟩
                          have go_ := g
                          refine g_callv (va_runV (As := [.int 41]) (rest := []) ⟨hx, hb, hml, hown, hts⟩ (r_X8_take_2 l dC dI L kd tys fr_537 H.size g.2.2.2.1 q0_ mq0_ kq0_ 41 1201 kb_1201 x_525 h_526 (g.fcts [0, 1] rfl)) (cwV 1 hts (gV_ t_1098 t_1099 t_1100 t_184 t_1101) rfl rfl rfl (by decide +kernel) ⟨(Nat.le_of_ble_eq_true rfl), (Nat.le_of_ble_eq_true rfl)⟩) (pre3V g hK mq0_ kq0_ (by decide) (q := (RX8, TX8, 10)) rfl) rfl rfl hl.1 rfl (lv_room (Nat.le_of_ble_eq_true rfl)) dX2_readArguments_177 ⟨(Nat.le_of_ble_eq_true rfl), (Nat.le_of_ble_eq_true rfl)⟩) g hK (by decide) (by decide) (fx' := [(8, 8, q0_, .int x_525), (0, 2, q2_, .ref q3_), (2, 14, a0_, .int x_17), (2, 0, a0_, .ref q0_), (2, 1, a0_, .ref q1_), (2, 2, a0_, .ref q2_), (2, 3, a0_, .ref q3_), (0, 0, q2_, .ref q0_), (0, 1, q2_, .ref q1_), (5, 0, q1_, .ref q3_), (5, 1, q1_, .ref q7_)]) rfl (fun fr_542 H locs hp hMr_542 g => ?_)
                          obtain ⟨x_543, h_544, hF_545⟩ := hp
                          have hG_546 := cOK.frame hMr_542 go_.2.2.2.1 mq3_ kq3_ (by decide) (by decide) hG_538
                          have hG_547 := dOK.frame hMr_542 go_.2.2.2.1 mq3_ kq3_ (by decide) (by decide) hG_539
                          have hG_548 := jS.frame hMr_542 go_.2.2.2.1 mq3_ kq3_ (by decide) (by decide) hG_540
                          have hG_549 := eOK.frame hMr_542 go_.2.2.2.1 mq2_ kq2_ (by decide) (by decide) hG_541
                          have g := g.more hF_545
                          refine lv_iload_n hx hb dX2_readArguments_180 rfl (lv_at hl 3 rfl) ?_
                          refine lv_aload_n hx hb dX2_readArguments_181 rfl (lv_at hl 5 rfl) ?_
                          refine g_getk (C := RX2) (T := TX2) (N := 16) hx hb hts (mc_ inX2) hown hK g rfl 14 (by decide) rfl (hts _ (List.mem_cons_of_mem _ t_430)) (fun _ h9 => h9) 3 rfl dX2_readArguments_182 ?_
                          refine lv_icmp_ge (tgt := 199) hx hb dX2_readArguments_185 (by decide) (fun c_550 => ?_) (fun c_550 => ?_)
                          · have fc_550 := le_f c_550
                            refine lv_aload_n hx hb dX2_readArguments_199 rfl (lv_at hl 5 rfl) ?_
                            refine g_getk (C := RX2) (T := TX2) (N := 16) hx hb hts (mc_ inX2) hown hK g rfl 3 (by decide) rfl (hts _ (List.mem_cons_of_mem _ t_419)) (fun _ h9 => h9) 7 rfl dX2_readArguments_200 ?_
                            refine lv_aload_n hx hb dX2_readArguments_203 rfl (lv_at hl 5 rfl) ?_
                            refine g_geti (C := RX2) (T := TX2) (N := 16) hx hb hts (mc_ inX2) hown hK g ma0_ ka0_ (by decide) rfl 12 (by decide) rfl (hts _ (List.mem_cons_of_mem _ t_428)) (fun _ h9 => h9) rfl dX2_readArguments_204 (fun x_551 bx_551 g => ?_)
                            refine lv_aload_n hx hb dX2_readArguments_207 rfl (lv_at hl 5 rfl) ?_
                            refine g_geti (C := RX2) (T := TX2) (N := 16) hx hb hts (mc_ inX2) hown hK g ma0_ ka0_ (by decide) rfl 13 (by decide) rfl (hts _ (List.mem_cons_of_mem _ t_429)) (fun _ h9 => h9) rfl dX2_readArguments_208 (fun x_552 bx_552 g => ?_)
                            obtain ⟨a_553, ma_553, ka_553, g⟩ := g_factr g mq3_ kq3_ (by decide) 4 rfl
                            obtain ⟨a_554, ma_554, ka_554, g⟩ := g_factr g mq3_ kq3_ (by decide) 5 rfl
                            obtain ⟨x_555, bx_555, g⟩ := g_facti g mq3_ kq3_ (by decide) 6 rfl
                            have go_ := g
                            refine g_callv (va_runV (As := [.int x_551, .int x_552]) (rest := []) ⟨hx, hb, hml, hown, hts⟩ (r_X7_emitF l dC dI L kd tys fr_542 H.size g.2.2.2.1 q3_ mq3_ kq3_ a_553 ma_553 ka_553 a_554 ma_554 ka_554 x_555 bx_555 T_ hG_547 x_551 x_552 (g.fcts [2, 1, 0] rfl)) (cwV 2 hts (gV_ t_1301 t_1204 t_1205 t_191 t_1206) rfl rfl rfl (by decide +kernel) ⟨(Nat.le_of_ble_eq_true rfl), (Nat.le_of_ble_eq_true rfl)⟩) (pre3V g hK mq3_ kq3_ (by decide) (q := (RX7, TX7, 19)) rfl) rfl rfl hl.1 rfl (lv_room (Nat.le_of_ble_eq_true rfl)) dX2_readArguments_211 ⟨(Nat.le_of_ble_eq_true rfl), (Nat.le_of_ble_eq_true rfl)⟩) g hK (by decide) (by decide) (fx' := [(7, 5, q3_, .ref a_554), (7, 4, q3_, .ref a_553), (2, 13, a0_, .int x_552), (2, 12, a0_, .int x_551), (8, 6, q0_, .int x_543), (8, 8, q0_, .int x_525), (0, 2, q2_, .ref q3_), (2, 14, a0_, .int x_17), (2, 0, a0_, .ref q0_), (2, 1, a0_, .ref q1_), (2, 2, a0_, .ref q2_), (2, 3, a0_, .ref q3_), (0, 0, q2_, .ref q0_), (0, 1, q2_, .ref q1_), (5, 0, q1_, .ref q3_), (5, 1, q1_, .ref q7_)]) rfl (fun fr_556 H locs hp hMr_556 g => ?_)
                            obtain ⟨hG_557, x_558, h_559, hF_560⟩ := hp
                            have hG_561 := eOK.frame hMr_556 go_.2.2.2.1 mq2_ kq2_ (by decide) (by decide) hG_549
                            have g := g.more hF_560
                            refine lv_aload_n hx hb dX2_readArguments_214 rfl (lv_at hl 5 rfl) ?_
                            refine g_getk (C := RX2) (T := TX2) (N := 16) hx hb hts (mc_ inX2) hown hK g rfl 3 (by decide) rfl (hts _ (List.mem_cons_of_mem _ t_419)) (fun _ h9 => h9) 12 rfl dX2_readArguments_215 ?_
                            refine lv_bipush (v := 22) hx hb dX2_readArguments_218 (by decide) ?_
                            refine lv_iconst (v := 0) hx hb dX2_readArguments_220 (by decide) ?_
                            have go_ := g
                            refine g_callv (va_runV (As := [.int 22, .int 0]) (rest := []) ⟨hx, hb, hml, hown, hts⟩ (r_X7_emitF l dC dI L kd tys fr_556 H.size g.2.2.2.1 q3_ mq3_ kq3_ a_553 ma_553 ka_553 a_554 ma_554 ka_554 x_558 h_559 T_ hG_557 (22 : Int32) (0 : Int32) (g.fcts [2, 1, 0] rfl)) (cwV 2 hts (gV_ t_1301 t_1204 t_1205 t_191 t_1206) rfl rfl rfl (by decide +kernel) ⟨(Nat.le_of_ble_eq_true rfl), (Nat.le_of_ble_eq_true rfl)⟩) (pre3V g hK mq3_ kq3_ (by decide) (q := (RX7, TX7, 19)) rfl) rfl rfl hl.1 rfl (lv_room (Nat.le_of_ble_eq_true rfl)) dX2_readArguments_221 ⟨(Nat.le_of_ble_eq_true rfl), (Nat.le_of_ble_eq_true rfl)⟩) g hK (by decide) (by decide) (fx' := [(7, 5, q3_, .ref a_554), (7, 4, q3_, .ref a_553), (2, 13, a0_, .int x_552), (2, 12, a0_, .int x_551), (8, 6, q0_, .int x_543), (8, 8, q0_, .int x_525), (0, 2, q2_, .ref q3_), (2, 14, a0_, .int x_17), (2, 0, a0_, .ref q0_), (2, 1, a0_, .ref q1_), (2, 2, a0_, .ref q2_), (2, 3, a0_, .ref q3_), (0, 0, q2_, .ref q0_), (0, 1, q2_, .ref q1_), (5, 0, q1_, .ref q3_), (5, 1, q1_, .ref q7_)]) rfl (fun fr_562 H locs hp hMr_562 g => ?_)
                            obtain ⟨hG_563, x_564, h_565, hF_566⟩ := hp
                            have hG_567 := eOK.frame hMr_562 go_.2.2.2.1 mq2_ kq2_ (by decide) (by decide) hG_561
                            have g := g.more hF_566
                            refine lv_aload_n hx hb dX2_readArguments_224 rfl (lv_at hl 5 rfl) ?_
                            refine g_getk (C := RX2) (T := TX2) (N := 16) hx hb hts (mc_ inX2) hown hK g rfl 0 (by decide) rfl (hts _ (List.mem_cons_of_mem _ t_416)) (fun _ h9 => h9) 9 rfl dX2_readArguments_225 ?_
                            refine lv_bipush (v := 59) hx hb dX2_readArguments_228 (by decide) ?_
                            have go_ := g
                            refine g_callv (va_runV (As := [.int 59]) (rest := []) ⟨hx, hb, hml, hown, hts⟩ (r_X8_take_2 l dC dI L kd tys fr_562 H.size g.2.2.2.1 q0_ mq0_ kq0_ 59 x_543 h_544 x_525 h_526 (g.fcts [5, 6] rfl)) (cwV 1 hts (gV_ t_1098 t_1099 t_1100 t_184 t_1101) rfl rfl rfl (by decide +kernel) ⟨(Nat.le_of_ble_eq_true rfl), (Nat.le_of_ble_eq_true rfl)⟩) (pre3V g hK mq0_ kq0_ (by decide) (q := (RX8, TX8, 10)) rfl) rfl rfl hl.1 rfl (lv_room (Nat.le_of_ble_eq_true rfl)) dX2_readArguments_230 ⟨(Nat.le_of_ble_eq_true rfl), (Nat.le_of_ble_eq_true rfl)⟩) g hK (by decide) (by decide) (fx' := [(7, 6, q3_, .int x_564), (7, 5, q3_, .ref a_554), (7, 4, q3_, .ref a_553), (2, 13, a0_, .int x_552), (2, 12, a0_, .int x_551), (8, 8, q0_, .int x_525), (0, 2, q2_, .ref q3_), (2, 14, a0_, .int x_17), (2, 0, a0_, .ref q0_), (2, 1, a0_, .ref q1_), (2, 2, a0_, .ref q2_), (2, 3, a0_, .ref q3_), (0, 0, q2_, .ref q0_), (0, 1, q2_, .ref q1_), (5, 0, q1_, .ref q3_), (5, 1, q1_, .ref q7_)]) rfl (fun fr_568 H locs hp hMr_568 g => ?_)
                            obtain ⟨x_569, h_570, hF_571⟩ := hp
                            have hG_572 := dOK.frame hMr_568 go_.2.2.2.1 mq3_ kq3_ (by decide) (by decide) hG_563
                            have hG_573 := eOK.frame hMr_568 go_.2.2.2.1 mq2_ kq2_ (by decide) (by decide) hG_567
                            have g := g.more hF_571
                            subst hQ
                            exact W.vret hx hb hr (fun t ht hW => ⟨⟨_, rfl, Or.inr (⟨hG_572, hG_573, x_569, h_570, x_525, h_526, (g.fcts [0, 6] rfl)⟩), q3_of g hK ht hW⟩, g.2.2.1.F ht⟩) g.2.2.1.2.2 dX2_readArguments_233
                          · have fc_550 := nle_f c_550
                            have b_574 : bd (-2147483648) 2147483646 y_496 := ltL fc_550 (bdT y_496) (bdT x_17) (by decide)
                            have b_575 : bd (-2147483647) 2147483647 x_17 := ltR fc_550 (bdT y_496) (bdT x_17) (by decide)
                            refine lv_aload_n hx hb dX2_readArguments_188 rfl (lv_at hl 5 rfl) ?_
                            refine g_getk (C := RX2) (T := TX2) (N := 16) hx hb hts (mc_ inX2) hown hK g rfl 0 (by decide) rfl (hts _ (List.mem_cons_of_mem _ t_416)) (fun _ h9 => h9) 4 rfl dX2_readArguments_189 ?_
                            refine lv_bipush (v := 6) hx hb dX2_readArguments_192 (by decide) ?_
                            refine lv_iload hx hb dX2_readArguments_194 (lv_at hl 0 rfl) ?_
                            have go_ := g
                            refine g_callv (va_runV (As := [.int 6, .int r_537]) (rest := []) ⟨hx, hb, hml, hown, hts⟩ (r_X8_fail_2 l dC dI L kd tys fr_542 H.size g.2.2.2.1 q0_ mq0_ kq0_ 6 (bd_sub kb_6 (by decide)) r_537 x_525 h_526 (g.fcts [1] rfl)) (cwV 2 hts (gV_ t_1122 t_1107 t_1108 t_184 t_1109) rfl rfl rfl (by decide +kernel) ⟨(Nat.le_of_ble_eq_true rfl), (Nat.le_of_ble_eq_true rfl)⟩) (pre3V g hK mq0_ kq0_ (by decide) (q := (RX8, TX8, 10)) rfl) rfl rfl hl.1 rfl (lv_room (Nat.le_of_ble_eq_true rfl)) dX2_readArguments_196 ⟨(Nat.le_of_ble_eq_true rfl), (Nat.le_of_ble_eq_true rfl)⟩) g hK (by decide) (by decide) (fx' := [(8, 8, q0_, .int x_525), (0, 2, q2_, .ref q3_), (2, 14, a0_, .int x_17), (2, 0, a0_, .ref q0_), (2, 1, a0_, .ref q1_), (2, 2, a0_, .ref q2_), (2, 3, a0_, .ref q3_), (0, 0, q2_, .ref q0_), (0, 1, q2_, .ref q1_), (5, 0, q1_, .ref q3_), (5, 1, q1_, .ref q7_)]) rfl (fun fr_576 H locs hp hMr_576 g => ?_)
                            have hF_577 := hp
                            have hG_578 := cOK.frame hMr_576 go_.2.2.2.1 mq3_ kq3_ (by decide) (by decide) hG_546
                            have hG_579 := dOK.frame hMr_576 go_.2.2.2.1 mq3_ kq3_ (by decide) (by decide) hG_547
                            have hG_580 := jS.frame hMr_576 go_.2.2.2.1 mq3_ kq3_ (by decide) (by decide) hG_548
                            have hG_581 := eOK.frame hMr_576 go_.2.2.2.1 mq2_ kq2_ (by decide) (by decide) hG_549
                            have g := g.more hF_577
                            refine lv_aload_n hx hb dX2_readArguments_199 rfl (lv_at hl 5 rfl) ?_
                            refine g_getk (C := RX2) (T := TX2) (N := 16) hx hb hts (mc_ inX2) hown hK g rfl 3 (by decide) rfl (hts _ (List.mem_cons_of_mem _ t_419)) (fun _ h9 => h9) 7 rfl dX2_readArguments_200 ?_
                            refine lv_aload_n hx hb dX2_readArguments_203 rfl (lv_at hl 5 rfl) ?_
                            refine g_geti (C := RX2) (T := TX2) (N := 16) hx hb hts (mc_ inX2) hown hK g ma0_ ka0_ (by decide) rfl 12 (by decide) rfl (hts _ (List.mem_cons_of_mem _ t_428)) (fun _ h9 => h9) rfl dX2_readArguments_204 (fun x_582 bx_582 g => ?_)
                            refine lv_aload_n hx hb dX2_readArguments_207 rfl (lv_at hl 5 rfl) ?_
                            refine g_geti (C := RX2) (T := TX2) (N := 16) hx hb hts (mc_ inX2) hown hK g ma0_ ka0_ (by decide) rfl 13 (by decide) rfl (hts _ (List.mem_cons_of_mem _ t_429)) (fun _ h9 => h9) rfl dX2_readArguments_208 (fun x_583 bx_583 g => ?_)
                            obtain ⟨a_584, ma_584, ka_584, g⟩ := g_factr g mq3_ kq3_ (by decide) 4 rfl
                            obtain ⟨a_585, ma_585, ka_585, g⟩ := g_factr g mq3_ kq3_ (by decide) 5 rfl
                            obtain ⟨x_586, bx_586, g⟩ := g_facti g mq3_ kq3_ (by decide) 6 rfl
                            have go_ := g
                            refine g_callv (va_runV (As := [.int x_582, .int x_583]) (rest := []) ⟨hx, hb, hml, hown, hts⟩ (r_X7_emitF l dC dI L kd tys fr_576 H.size g.2.2.2.1 q3_ mq3_ kq3_ a_584 ma_584 ka_584 a_585 ma_585 ka_585 x_586 bx_586 T_ hG_579 x_582 x_583 (g.fcts [2, 1, 0] rfl)) (cwV 2 hts (gV_ t_1301 t_1204 t_1205 t_191 t_1206) rfl rfl rfl (by decide +kernel) ⟨(Nat.le_of_ble_eq_true rfl), (Nat.le_of_ble_eq_true rfl)⟩) (pre3V g hK mq3_ kq3_ (by decide) (q := (RX7, TX7, 19)) rfl) rfl rfl hl.1 rfl (lv_room (Nat.le_of_ble_eq_true rfl)) dX2_readArguments_211 ⟨(Nat.le_of_ble_eq_true rfl), (Nat.le_of_ble_eq_true rfl)⟩) g hK (by decide) (by decide) (fx' := [(7, 5, q3_, .ref a_585), (7, 4, q3_, .ref a_584), (2, 13, a0_, .int x_583), (2, 12, a0_, .int x_582), (8, 6, q0_, .int 1201), (8, 8, q0_, .int x_525), (0, 2, q2_, .ref q3_), (2, 14, a0_, .int x_17), (2, 0, a0_, .ref q0_), (2, 1, a0_, .ref q1_), (2, 2, a0_, .ref q2_), (2, 3, a0_, .ref q3_), (0, 0, q2_, .ref q0_), (0, 1, q2_, .ref q1_), (5, 0, q1_, .ref q3_), (5, 1, q1_, .ref q7_)]) rfl (fun fr_587 H locs hp hMr_587 g => ?_)
                            obtain ⟨hG_588, x_589, h_590, hF_591⟩ := hp
                            have hG_592 := eOK.frame hMr_587 go_.2.2.2.1 mq2_ kq2_ (by decide) (by decide) hG_581
                            have g := g.more hF_591
                            refine lv_aload_n hx hb dX2_readArguments_214 rfl (lv_at hl 5 rfl) ?_
                            refine g_getk (C := RX2) (T := TX2) (N := 16) hx hb hts (mc_ inX2) hown hK g rfl 3 (by decide) rfl (hts _ (List.mem_cons_of_mem _ t_419)) (fun _ h9 => h9) 12 rfl dX2_readArguments_215 ?_
                            refine lv_bipush (v := 22) hx hb dX2_readArguments_218 (by decide) ?_
                            refine lv_iconst (v := 0) hx hb dX2_readArguments_220 (by decide) ?_
                            have go_ := g
                            refine g_callv (va_runV (As := [.int 22, .int 0]) (rest := []) ⟨hx, hb, hml, hown, hts⟩ (r_X7_emitF l dC dI L kd tys fr_587 H.size g.2.2.2.1 q3_ mq3_ kq3_ a_584 ma_584 ka_584 a_585 ma_585 ka_585 x_589 h_590 T_ hG_588 (22 : Int32) (0 : Int32) (g.fcts [2, 1, 0] rfl)) (cwV 2 hts (gV_ t_1301 t_1204 t_1205 t_191 t_1206) rfl rfl rfl (by decide +kernel) ⟨(Nat.le_of_ble_eq_true rfl), (Nat.le_of_ble_eq_true rfl)⟩) (pre3V g hK mq3_ kq3_ (by decide) (q := (RX7, TX7, 19)) rfl) rfl rfl hl.1 rfl (lv_room (Nat.le_of_ble_eq_true rfl)) dX2_readArguments_221 ⟨(Nat.le_of_ble_eq_true rfl), (Nat.le_of_ble_eq_true rfl)⟩) g hK (by decide) (by decide) (fx' := [(7, 5, q3_, .ref a_585), (7, 4, q3_, .ref a_584), (2, 13, a0_, .int x_583), (2, 12, a0_, .int x_582), (8, 6, q0_, .int 1201), (8, 8, q0_, .int x_525), (0, 2, q2_, .ref q3_), (2, 14, a0_, .int x_17), (2, 0, a0_, .ref q0_), (2, 1, a0_, .ref q1_), (2, 2, a0_, .ref q2_), (2, 3, a0_, .ref q3_), (0, 0, q2_, .ref q0_), (0, 1, q2_, .ref q1_), (5, 0, q1_, .ref q3_), (5, 1, q1_, .ref q7_)]) rfl (fun fr_593 H locs hp hMr_593 g => ?_)
                            obtain ⟨hG_594, x_595, h_596, hF_597⟩ := hp
                            have hG_598 := eOK.frame hMr_593 go_.2.2.2.1 mq2_ kq2_ (by decide) (by decide) hG_592
                            have g := g.more hF_597
                            refine lv_aload_n hx hb dX2_readArguments_224 rfl (lv_at hl 5 rfl) ?_
                            refine g_getk (C := RX2) (T := TX2) (N := 16) hx hb hts (mc_ inX2) hown hK g rfl 0 (by decide) rfl (hts _ (List.mem_cons_of_mem _ t_416)) (fun _ h9 => h9) 9 rfl dX2_readArguments_225 ?_
                            refine lv_bipush (v := 59) hx hb dX2_readArguments_228 (by decide) ?_
                            have go_ := g
                            refine g_callv (va_runV (As := [.int 59]) (rest := []) ⟨hx, hb, hml, hown, hts⟩ (r_X8_take_2 l dC dI L kd tys fr_593 H.size g.2.2.2.1 q0_ mq0_ kq0_ 59 1201 kb_1201 x_525 h_526 (g.fcts [5, 6] rfl)) (cwV 1 hts (gV_ t_1098 t_1099 t_1100 t_184 t_1101) rfl rfl rfl (by decide +kernel) ⟨(Nat.le_of_ble_eq_true rfl), (Nat.le_of_ble_eq_true rfl)⟩) (pre3V g hK mq0_ kq0_ (by decide) (q := (RX8, TX8, 10)) rfl) rfl rfl hl.1 rfl (lv_room (Nat.le_of_ble_eq_true rfl)) dX2_readArguments_230 ⟨(Nat.le_of_ble_eq_true rfl), (Nat.le_of_ble_eq_true rfl)⟩) g hK (by decide) (by decide) (fx' := [(7, 6, q3_, .int x_595), (7, 5, q3_, .ref a_585), (7, 4, q3_, .ref a_584), (2, 13, a0_, .int x_583), (2, 12, a0_, .int x_582), (8, 8, q0_, .int x_525), (0, 2, q2_, .ref q3_), (2, 14, a0_, .int x_17), (2, 0, a0_, .ref q0_), (2, 1, a0_, .ref q1_), (2, 2, a0_, .ref q2_), (2, 3, a0_, .ref q3_), (0, 0, q2_, .ref q0_), (0, 1, q2_, .ref q1_), (5, 0, q1_, .ref q3_), (5, 1, q1_, .ref q7_)]) rfl (fun fr_599 H locs hp hMr_599 g => ?_)
                            obtain ⟨x_600, h_601, hF_602⟩ := hp
                            have hG_603 := dOK.frame hMr_599 go_.2.2.2.1 mq3_ kq3_ (by decide) (by decide) hG_594
                            have hG_604 := eOK.frame hMr_599 go_.2.2.2.1 mq2_ kq2_ (by decide) (by decide) hG_598
                            have g := g.more hF_602
                            subst hQ
                            exact W.vret hx hb hr (fun t ht hW => ⟨⟨_, rfl, Or.inr (⟨hG_603, hG_604, x_600, h_601, x_525, h_526, (g.fcts [0, 6] rfl)⟩), q3_of g hK ht hW⟩, g.2.2.1.F ht⟩) g.2.2.1.2.2 dX2_readArguments_233
                        · have fc_534 := nlt_f c_534
                          have b_605 : bd 1 3 y_532 := leL fc_534 b_533 kb_3 (by decide)
                          have b_606 : bd 0 2 v69_4 := add_inv ty_532 b_605 b_327 kb_1 (by decide)
                          refine lv_iload_n hx hb dX2_readArguments_75 rfl (lv_at hl 2 rfl) ?_
                          refine lv_if_eq (tgt := 162) hx hb dX2_readArguments_76 (by decide) (fun c_ => absurd c_ (by decide)) (fun c_ => ?_)
                          refine lv_aload_n hx hb dX2_readArguments_79 rfl (lv_at hl 5 rfl) ?_
                          refine g_getk (C := RX2) (T := TX2) (N := 16) hx hb hts (mc_ inX2) hown hK g rfl 0 (by decide) rfl (hts _ (List.mem_cons_of_mem _ t_416)) (fun _ h9 => h9) 4 rfl dX2_readArguments_80 ?_
                          refine g_getk (C := RX8) (T := TX8) (N := 10) hx hb hts (mc_ inX8) hown hK g rfl 8 (by decide) rfl (hts _ (List.mem_cons_of_mem _ t_294)) (fun _ h9 => h9) 1 rfl dX2_readArguments_83 ?_
                          refine lv_if_ne (tgt := 162) hx hb dX2_readArguments_86 (by decide) (fun c_607 => ?_) (fun c_607 => ?_)
                          · have fc_607 := neq_f c_607
                            refine lv_aload_n hx hb dX2_readArguments_162 rfl (lv_at hl 5 rfl) ?_
                            refine g_getk (C := RX2) (T := TX2) (N := 16) hx hb hts (mc_ inX2) hown hK g rfl 0 (by decide) rfl (hts _ (List.mem_cons_of_mem _ t_416)) (fun _ h9 => h9) 4 rfl dX2_readArguments_163 ?_
                            have go_ := g
                            refine g_calli (va_runV (As := []) (rest := []) ⟨hx, hb, hml, hown, hts⟩ (r_X8_place l dC dI L kd tys fr_524 H.size g.2.2.2.1 q0_ mq0_ kq0_) (cwV 0 hts (gV_ t_1110 t_1111 t_1112 t_184 t_1113) rfl rfl rfl (by decide +kernel) ⟨(Nat.le_of_ble_eq_true rfl), (Nat.le_of_ble_eq_true rfl)⟩) (pre3V g hK mq0_ kq0_ (by decide) (q := (RX8, TX8, 10)) rfl) rfl rfl hl.1 rfl (lv_room (Nat.le_of_ble_eq_true rfl)) dX2_readArguments_166 ⟨(Nat.le_of_ble_eq_true rfl), (Nat.le_of_ble_eq_true rfl)⟩) g hK (by decide) (by decide) (fx' := [(8, 6, q0_, .int 1201), (8, 8, q0_, .int x_525), (0, 2, q2_, .ref q3_), (2, 14, a0_, .int x_17), (2, 0, a0_, .ref q0_), (2, 1, a0_, .ref q1_), (2, 2, a0_, .ref q2_), (2, 3, a0_, .ref q3_), (0, 0, q2_, .ref q0_), (0, 1, q2_, .ref q1_), (5, 0, q1_, .ref q3_), (5, 1, q1_, .ref q7_)]) rfl (fun r_608 fr_608 H locs hp hMr_608 g => ?_)
                            have hG_609 := cOK.frame hMr_608 go_.2.2.2.1 mq3_ kq3_ (by decide) (by decide) hG_528
                            have hG_610 := dOK.frame hMr_608 go_.2.2.2.1 mq3_ kq3_ (by decide) (by decide) hG_529
                            have hG_611 := jS.frame hMr_608 go_.2.2.2.1 mq3_ kq3_ (by decide) (by decide) hG_530
                            have hG_612 := eOK.frame hMr_608 go_.2.2.2.1 mq2_ kq2_ (by decide) (by decide) hG_531
                            refine lv_istore (lv' := [(4, .int r_608), (5, .int r_506), (3, .int 1), (2, .int y_496), (1, .int r_1), (0, .ref a0_)]) hx hb dX2_readArguments_169 hl (by decide) rfl (fun ls hl => ?_)
                            refine lv_aload_n hx hb dX2_readArguments_171 rfl (lv_at hl 5 rfl) ?_
                            refine g_getk (C := RX2) (T := TX2) (N := 16) hx hb hts (mc_ inX2) hown hK g rfl 0 (by decide) rfl (hts _ (List.mem_cons_of_mem _ t_416)) (fun _ h9 => h9) 4 rfl dX2_readArguments_172 ?_
                            refine lv_bipush (v := 41) hx hb dX2_readArguments_175 (by decide) ?_
                            have kb_1201 : bd 1201 1201 (1201 : Int32) := ⟨by decide, by decide⟩
                            have go_ := g
                            refine g_callv (va_runV (As := [.int 41]) (rest := []) ⟨hx, hb, hml, hown, hts⟩ (r_X8_take_2 l dC dI L kd tys fr_608 H.size g.2.2.2.1 q0_ mq0_ kq0_ 41 1201 kb_1201 x_525 h_526 (g.fcts [0, 1] rfl)) (cwV 1 hts (gV_ t_1098 t_1099 t_1100 t_184 t_1101) rfl rfl rfl (by decide +kernel) ⟨(Nat.le_of_ble_eq_true rfl), (Nat.le_of_ble_eq_true rfl)⟩) (pre3V g hK mq0_ kq0_ (by decide) (q := (RX8, TX8, 10)) rfl) rfl rfl hl.1 rfl (lv_room (Nat.le_of_ble_eq_true rfl)) dX2_readArguments_177 ⟨(Nat.le_of_ble_eq_true rfl), (Nat.le_of_ble_eq_true rfl)⟩) g hK (by decide) (by decide) (fx' := [(8, 8, q0_, .int x_525), (0, 2, q2_, .ref q3_), (2, 14, a0_, .int x_17), (2, 0, a0_, .ref q0_), (2, 1, a0_, .ref q1_), (2, 2, a0_, .ref q2_), (2, 3, a0_, .ref q3_), (0, 0, q2_, .ref q0_), (0, 1, q2_, .ref q1_), (5, 0, q1_, .ref q3_), (5, 1, q1_, .ref q7_)]) rfl (fun fr_613 H locs hp hMr_613 g => ?_)
                            obtain ⟨x_614, h_615, hF_616⟩ := hp
                            have hG_617 := cOK.frame hMr_613 go_.2.2.2.1 mq3_ kq3_ (by decide) (by decide) hG_609
                            have hG_618 := dOK.frame hMr_613 go_.2.2.2.1 mq3_ kq3_ (by decide) (by decide) hG_610
                            have hG_619 := jS.frame hMr_613 go_.2.2.2.1 mq3_ kq3_ (by decide) (by decide) hG_611
                            have hG_620 := eOK.frame hMr_613 go_.2.2.2.1 mq2_ kq2_ (by decide) (by decide) hG_612
                            have g := g.more hF_616
                            refine lv_iload_n hx hb dX2_readArguments_180 rfl (lv_at hl 3 rfl) ?_
                            refine lv_aload_n hx hb dX2_readArguments_181 rfl (lv_at hl 5 rfl) ?_
                            refine g_getk (C := RX2) (T := TX2) (N := 16) hx hb hts (mc_ inX2) hown hK g rfl 14 (by decide) rfl (hts _ (List.mem_cons_of_mem _ t_430)) (fun _ h9 => h9) 3 rfl dX2_readArguments_182 ?_
                            refine lv_icmp_ge (tgt := 199) hx hb dX2_readArguments_185 (by decide) (fun c_621 => ?_) (fun c_621 => ?_)
                            · have fc_621 := le_f c_621
                              refine lv_aload_n hx hb dX2_readArguments_199 rfl (lv_at hl 5 rfl) ?_
                              refine g_getk (C := RX2) (T := TX2) (N := 16) hx hb hts (mc_ inX2) hown hK g rfl 3 (by decide) rfl (hts _ (List.mem_cons_of_mem _ t_419)) (fun _ h9 => h9) 7 rfl dX2_readArguments_200 ?_
                              refine lv_aload_n hx hb dX2_readArguments_203 rfl (lv_at hl 5 rfl) ?_
                              refine g_geti (C := RX2) (T := TX2) (N := 16) hx hb hts (mc_ inX2) hown hK g ma0_ ka0_ (by decide) rfl 12 (by decide) rfl (hts _ (List.mem_cons_of_mem _ t_428)) (fun _ h9 => h9) rfl dX2_readArguments_204 (fun x_622 bx_622 g => ?_)
                              refine lv_aload_n hx hb dX2_readArguments_207 rfl (lv_at hl 5 rfl) ?_
                              refine g_geti (C := RX2) (T := TX2) (N := 16) hx hb hts (mc_ inX2) hown hK g ma0_ ka0_ (by decide) rfl 13 (by decide) rfl (hts _ (List.mem_cons_of_mem _ t_429)) (fun _ h9 => h9) rfl dX2_readArguments_208 (fun x_623 bx_623 g => ?_)
                              obtain ⟨a_624, ma_624, ka_624, g⟩ := g_factr g mq3_ kq3_ (by decide) 4 rfl
                              obtain ⟨a_625, ma_625, ka_625, g⟩ := g_factr g mq3_ kq3_ (by decide) 5 rfl
                              obtain ⟨x_626, bx_626, g⟩ := g_facti g mq3_ kq3_ (by decide) 6 rfl
                              have go_ := g
                              refine g_callv (va_runV (As := [.int x_622, .int x_623]) (rest := []) ⟨hx, hb, hml, hown, hts⟩ (r_X7_emitF l dC dI L kd tys fr_613 H.size g.2.2.2.1 q3_ mq3_ kq3_ a_624 ma_624 ka_624 a_625 ma_625 ka_625 x_626 bx_626 T_ hG_618 x_622 x_623 (g.fcts [2, 1, 0] rfl)) (cwV 2 hts (gV_ t_1301 t_1204 t_1205 t_191 t_1206) rfl rfl rfl (by decide +kernel) ⟨(Nat.le_of_ble_eq_true rfl), (Nat.le_of_ble_eq_true rfl)⟩) (pre3V g hK mq3_ kq3_ (by decide) (q := (RX7, TX7, 19)) rfl) rfl rfl hl.1 rfl (lv_room (Nat.le_of_ble_eq_true rfl)) dX2_readArguments_211 ⟨(Nat.le_of_ble_eq_true rfl), (Nat.le_of_ble_eq_true rfl)⟩) g hK (by decide) (by decide) (fx' := [(7, 5, q3_, .ref a_625), (7, 4, q3_, .ref a_624), (2, 13, a0_, .int x_623), (2, 12, a0_, .int x_622), (8, 6, q0_, .int x_614), (8, 8, q0_, .int x_525), (0, 2, q2_, .ref q3_), (2, 14, a0_, .int x_17), (2, 0, a0_, .ref q0_), (2, 1, a0_, .ref q1_), (2, 2, a0_, .ref q2_), (2, 3, a0_, .ref q3_), (0, 0, q2_, .ref q0_), (0, 1, q2_, .ref q1_), (5, 0, q1_, .ref q3_), (5, 1, q1_, .ref q7_)]) rfl (fun fr_627 H locs hp hMr_627 g => ?_)
                              obtain ⟨hG_628, x_629, h_630, hF_631⟩ := hp
                              have hG_632 := eOK.frame hMr_627 go_.2.2.2.1 mq2_ kq2_ (by decide) (by decide) hG_620
                              have g := g.more hF_631
                              refine lv_aload_n hx hb dX2_readArguments_214 rfl (lv_at hl 5 rfl) ?_
                              refine g_getk (C := RX2) (T := TX2) (N := 16) hx hb hts (mc_ inX2) hown hK g rfl 3 (by decide) rfl (hts _ (List.mem_cons_of_mem _ t_419)) (fun _ h9 => h9) 12 rfl dX2_readArguments_215 ?_
                              refine lv_bipush (v := 22) hx hb dX2_readArguments_218 (by decide) ?_
                              refine lv_iconst (v := 0) hx hb dX2_readArguments_220 (by decide) ?_
                              have go_ := g
                              refine g_callv (va_runV (As := [.int 22, .int 0]) (rest := []) ⟨hx, hb, hml, hown, hts⟩ (r_X7_emitF l dC dI L kd tys fr_627 H.size g.2.2.2.1 q3_ mq3_ kq3_ a_624 ma_624 ka_624 a_625 ma_625 ka_625 x_629 h_630 T_ hG_628 (22 : Int32) (0 : Int32) (g.fcts [2, 1, 0] rfl)) (cwV 2 hts (gV_ t_1301 t_1204 t_1205 t_191 t_1206) rfl rfl rfl (by decide +kernel) ⟨(Nat.le_of_ble_eq_true rfl), (Nat.le_of_ble_eq_true rfl)⟩) (pre3V g hK mq3_ kq3_ (by decide) (q := (RX7, TX7, 19)) rfl) rfl rfl hl.1 rfl (lv_room (Nat.le_of_ble_eq_true rfl)) dX2_readArguments_221 ⟨(Nat.le_of_ble_eq_true rfl), (Nat.le_of_ble_eq_true rfl)⟩) g hK (by decide) (by decide) (fx' := [(7, 5, q3_, .ref a_625), (7, 4, q3_, .ref a_624), (2, 13, a0_, .int x_623), (2, 12, a0_, .int x_622), (8, 6, q0_, .int x_614), (8, 8, q0_, .int x_525), (0, 2, q2_, .ref q3_), (2, 14, a0_, .int x_17), (2, 0, a0_, .ref q0_), (2, 1, a0_, .ref q1_), (2, 2, a0_, .ref q2_), (2, 3, a0_, .ref q3_), (0, 0, q2_, .ref q0_), (0, 1, q2_, .ref q1_), (5, 0, q1_, .ref q3_), (5, 1, q1_, .ref q7_)]) rfl (fun fr_633 H locs hp hMr_633 g => ?_)
                              obtain ⟨hG_634, x_635, h_636, hF_637⟩ := hp
                              have hG_638 := eOK.frame hMr_633 go_.2.2.2.1 mq2_ kq2_ (by decide) (by decide) hG_632
                              have g := g.more hF_637
                              refine lv_aload_n hx hb dX2_readArguments_224 rfl (lv_at hl 5 rfl) ?_
                              refine g_getk (C := RX2) (T := TX2) (N := 16) hx hb hts (mc_ inX2) hown hK g rfl 0 (by decide) rfl (hts _ (List.mem_cons_of_mem _ t_416)) (fun _ h9 => h9) 9 rfl dX2_readArguments_225 ?_
                              refine lv_bipush (v := 59) hx hb dX2_readArguments_228 (by decide) ?_
                              have go_ := g
                              refine g_callv (va_runV (As := [.int 59]) (rest := []) ⟨hx, hb, hml, hown, hts⟩ (r_X8_take_2 l dC dI L kd tys fr_633 H.size g.2.2.2.1 q0_ mq0_ kq0_ 59 x_614 h_615 x_525 h_526 (g.fcts [5, 6] rfl)) (cwV 1 hts (gV_ t_1098 t_1099 t_1100 t_184 t_1101) rfl rfl rfl (by decide +kernel) ⟨(Nat.le_of_ble_eq_true rfl), (Nat.le_of_ble_eq_true rfl)⟩) (pre3V g hK mq0_ kq0_ (by decide) (q := (RX8, TX8, 10)) rfl) rfl rfl hl.1 rfl (lv_room (Nat.le_of_ble_eq_true rfl)) dX2_readArguments_230 ⟨(Nat.le_of_ble_eq_true rfl), (Nat.le_of_ble_eq_true rfl)⟩) g hK (by decide) (by decide) (fx' := [(7, 6, q3_, .int x_635), (7, 5, q3_, .ref a_625), (7, 4, q3_, .ref a_624), (2, 13, a0_, .int x_623), (2, 12, a0_, .int x_622), (8, 8, q0_, .int x_525), (0, 2, q2_, .ref q3_), (2, 14, a0_, .int x_17), (2, 0, a0_, .ref q0_), (2, 1, a0_, .ref q1_), (2, 2, a0_, .ref q2_), (2, 3, a0_, .ref q3_), (0, 0, q2_, .ref q0_), (0, 1, q2_, .ref q1_), (5, 0, q1_, .ref q3_), (5, 1, q1_, .ref q7_)]) rfl (fun fr_639 H locs hp hMr_639 g => ?_)
                              obtain ⟨x_640, h_641, hF_642⟩ := hp
                              have hG_643 := dOK.frame hMr_639 go_.2.2.2.1 mq3_ kq3_ (by decide) (by decide) hG_634
                              have hG_644 := eOK.frame hMr_639 go_.2.2.2.1 mq2_ kq2_ (by decide) (by decide) hG_638
                              have g := g.more hF_642
                              subst hQ
                              exact W.vret hx hb hr (fun t ht hW => ⟨⟨_, rfl, Or.inr (⟨hG_643, hG_644, x_640, h_641, x_525, h_526, (g.fcts [0, 6] rfl)⟩), q3_of g hK ht hW⟩, g.2.2.1.F ht⟩) g.2.2.1.2.2 dX2_readArguments_233
                            · have fc_621 := nle_f c_621
                              have b_645 : bd (-2147483648) 2147483646 y_496 := ltL fc_621 (bdT y_496) (bdT x_17) (by decide)
                              have b_646 : bd (-2147483647) 2147483647 x_17 := ltR fc_621 (bdT y_496) (bdT x_17) (by decide)
                              refine lv_aload_n hx hb dX2_readArguments_188 rfl (lv_at hl 5 rfl) ?_
                              refine g_getk (C := RX2) (T := TX2) (N := 16) hx hb hts (mc_ inX2) hown hK g rfl 0 (by decide) rfl (hts _ (List.mem_cons_of_mem _ t_416)) (fun _ h9 => h9) 4 rfl dX2_readArguments_189 ?_
                              refine lv_bipush (v := 6) hx hb dX2_readArguments_192 (by decide) ?_
                              refine lv_iload hx hb dX2_readArguments_194 (lv_at hl 0 rfl) ?_
                              have go_ := g
                              refine g_callv (va_runV (As := [.int 6, .int r_608]) (rest := []) ⟨hx, hb, hml, hown, hts⟩ (r_X8_fail_2 l dC dI L kd tys fr_613 H.size g.2.2.2.1 q0_ mq0_ kq0_ 6 (bd_sub kb_6 (by decide)) r_608 x_525 h_526 (g.fcts [1] rfl)) (cwV 2 hts (gV_ t_1122 t_1107 t_1108 t_184 t_1109) rfl rfl rfl (by decide +kernel) ⟨(Nat.le_of_ble_eq_true rfl), (Nat.le_of_ble_eq_true rfl)⟩) (pre3V g hK mq0_ kq0_ (by decide) (q := (RX8, TX8, 10)) rfl) rfl rfl hl.1 rfl (lv_room (Nat.le_of_ble_eq_true rfl)) dX2_readArguments_196 ⟨(Nat.le_of_ble_eq_true rfl), (Nat.le_of_ble_eq_true rfl)⟩) g hK (by decide) (by decide) (fx' := [(8, 8, q0_, .int x_525), (0, 2, q2_, .ref q3_), (2, 14, a0_, .int x_17), (2, 0, a0_, .ref q0_), (2, 1, a0_, .ref q1_), (2, 2, a0_, .ref q2_), (2, 3, a0_, .ref q3_), (0, 0, q2_, .ref q0_), (0, 1, q2_, .ref q1_), (5, 0, q1_, .ref q3_), (5, 1, q1_, .ref q7_)]) rfl (fun fr_647 H locs hp hMr_647 g => ?_)
                              have hF_648 := hp
                              have hG_649 := cOK.frame hMr_647 go_.2.2.2.1 mq3_ kq3_ (by decide) (by decide) hG_617
                              have hG_650 := dOK.frame hMr_647 go_.2.2.2.1 mq3_ kq3_ (by decide) (by decide) hG_618
                              have hG_651 := jS.frame hMr_647 go_.2.2.2.1 mq3_ kq3_ (by decide) (by decide) hG_619
                              have hG_652 := eOK.frame hMr_647 go_.2.2.2.1 mq2_ kq2_ (by decide) (by decide) hG_620
                              have g := g.more hF_648
                              refine lv_aload_n hx hb dX2_readArguments_199 rfl (lv_at hl 5 rfl) ?_
                              refine g_getk (C := RX2) (T := TX2) (N := 16) hx hb hts (mc_ inX2) hown hK g rfl 3 (by decide) rfl (hts _ (List.mem_cons_of_mem _ t_419)) (fun _ h9 => h9) 7 rfl dX2_readArguments_200 ?_
                              refine lv_aload_n hx hb dX2_readArguments_203 rfl (lv_at hl 5 rfl) ?_
                              refine g_geti (C := RX2) (T := TX2) (N := 16) hx hb hts (mc_ inX2) hown hK g ma0_ ka0_ (by decide) rfl 12 (by decide) rfl (hts _ (List.mem_cons_of_mem _ t_428)) (fun _ h9 => h9) rfl dX2_readArguments_204 (fun x_653 bx_653 g => ?_)
                              refine lv_aload_n hx hb dX2_readArguments_207 rfl (lv_at hl 5 rfl) ?_
                              refine g_geti (C := RX2) (T := TX2) (N := 16) hx hb hts (mc_ inX2) hown hK g ma0_ ka0_ (by decide) rfl 13 (by decide) rfl (hts _ (List.mem_cons_of_mem _ t_429)) (fun _ h9 => h9) rfl dX2_readArguments_208 (fun x_654 bx_654 g => ?_)
                              obtain ⟨a_655, ma_655, ka_655, g⟩ := g_factr g mq3_ kq3_ (by decide) 4 rfl
                              obtain ⟨a_656, ma_656, ka_656, g⟩ := g_factr g mq3_ kq3_ (by decide) 5 rfl
                              obtain ⟨x_657, bx_657, g⟩ := g_facti g mq3_ kq3_ (by decide) 6 rfl
                              have go_ := g
                              refine g_callv (va_runV (As := [.int x_653, .int x_654]) (rest := []) ⟨hx, hb, hml, hown, hts⟩ (r_X7_emitF l dC dI L kd tys fr_647 H.size g.2.2.2.1 q3_ mq3_ kq3_ a_655 ma_655 ka_655 a_656 ma_656 ka_656 x_657 bx_657 T_ hG_650 x_653 x_654 (g.fcts [2, 1, 0] rfl)) (cwV 2 hts (gV_ t_1301 t_1204 t_1205 t_191 t_1206) rfl rfl rfl (by decide +kernel) ⟨(Nat.le_of_ble_eq_true rfl), (Nat.le_of_ble_eq_true rfl)⟩) (pre3V g hK mq3_ kq3_ (by decide) (q := (RX7, TX7, 19)) rfl) rfl rfl hl.1 rfl (lv_room (Nat.le_of_ble_eq_true rfl)) dX2_readArguments_211 ⟨(Nat.le_of_ble_eq_true rfl), (Nat.le_of_ble_eq_true rfl)⟩) g hK (by decide) (by decide) (fx' := [(7, 5, q3_, .ref a_656), (7, 4, q3_, .ref a_655), (2, 13, a0_, .int x_654), (2, 12, a0_, .int x_653), (8, 6, q0_, .int 1201), (8, 8, q0_, .int x_525), (0, 2, q2_, .ref q3_), (2, 14, a0_, .int x_17), (2, 0, a0_, .ref q0_), (2, 1, a0_, .ref q1_), (2, 2, a0_, .ref q2_), (2, 3, a0_, .ref q3_), (0, 0, q2_, .ref q0_), (0, 1, q2_, .ref q1_), (5, 0, q1_, .ref q3_), (5, 1, q1_, .ref q7_)]) rfl (fun fr_658 H locs hp hMr_658 g => ?_)
                              obtain ⟨hG_659, x_660, h_661, hF_662⟩ := hp
                              have hG_663 := eOK.frame hMr_658 go_.2.2.2.1 mq2_ kq2_ (by decide) (by decide) hG_652
                              have g := g.more hF_662
                              refine lv_aload_n hx hb dX2_readArguments_214 rfl (lv_at hl 5 rfl) ?_
                              refine g_getk (C := RX2) (T := TX2) (N := 16) hx hb hts (mc_ inX2) hown hK g rfl 3 (by decide) rfl (hts _ (List.mem_cons_of_mem _ t_419)) (fun _ h9 => h9) 12 rfl dX2_readArguments_215 ?_
                              refine lv_bipush (v := 22) hx hb dX2_readArguments_218 (by decide) ?_
                              refine lv_iconst (v := 0) hx hb dX2_readArguments_220 (by decide) ?_
                              have go_ := g
                              refine g_callv (va_runV (As := [.int 22, .int 0]) (rest := []) ⟨hx, hb, hml, hown, hts⟩ (r_X7_emitF l dC dI L kd tys fr_658 H.size g.2.2.2.1 q3_ mq3_ kq3_ a_655 ma_655 ka_655 a_656 ma_656 ka_656 x_660 h_661 T_ hG_659 (22 : Int32) (0 : Int32) (g.fcts [2, 1, 0] rfl)) (cwV 2 hts (gV_ t_1301 t_1204 t_1205 t_191 t_1206) rfl rfl rfl (by decide +kernel) ⟨(Nat.le_of_ble_eq_true rfl), (Nat.le_of_ble_eq_true rfl)⟩) (pre3V g hK mq3_ kq3_ (by decide) (q := (RX7, TX7, 19)) rfl) rfl rfl hl.1 rfl (lv_room (Nat.le_of_ble_eq_true rfl)) dX2_readArguments_221 ⟨(Nat.le_of_ble_eq_true rfl), (Nat.le_of_ble_eq_true rfl)⟩) g hK (by decide) (by decide) (fx' := [(7, 5, q3_, .ref a_656), (7, 4, q3_, .ref a_655), (2, 13, a0_, .int x_654), (2, 12, a0_, .int x_653), (8, 6, q0_, .int 1201), (8, 8, q0_, .int x_525), (0, 2, q2_, .ref q3_), (2, 14, a0_, .int x_17), (2, 0, a0_, .ref q0_), (2, 1, a0_, .ref q1_), (2, 2, a0_, .ref q2_), (2, 3, a0_, .ref q3_), (0, 0, q2_, .ref q0_), (0, 1, q2_, .ref q1_), (5, 0, q1_, .ref q3_), (5, 1, q1_, .ref q7_)]) rfl (fun fr_664 H locs hp hMr_664 g => ?_)
                              obtain ⟨hG_665, x_666, h_667, hF_668⟩ := hp
                              have hG_669 := eOK.frame hMr_664 go_.2.2.2.1 mq2_ kq2_ (by decide) (by decide) hG_663
                              have g := g.more hF_668
                              refine lv_aload_n hx hb dX2_readArguments_224 rfl (lv_at hl 5 rfl) ?_
                              refine g_getk (C := RX2) (T := TX2) (N := 16) hx hb hts (mc_ inX2) hown hK g rfl 0 (by decide) rfl (hts _ (List.mem_cons_of_mem _ t_416)) (fun _ h9 => h9) 9 rfl dX2_readArguments_225 ?_
                              refine lv_bipush (v := 59) hx hb dX2_readArguments_228 (by decide) ?_
                              have go_ := g
                              refine g_callv (va_runV (As := [.int 59]) (rest := []) ⟨hx, hb, hml, hown, hts⟩ (r_X8_take_2 l dC dI L kd tys fr_664 H.size g.2.2.2.1 q0_ mq0_ kq0_ 59 1201 kb_1201 x_525 h_526 (g.fcts [5, 6] rfl)) (cwV 1 hts (gV_ t_1098 t_1099 t_1100 t_184 t_1101) rfl rfl rfl (by decide +kernel) ⟨(Nat.le_of_ble_eq_true rfl), (Nat.le_of_ble_eq_true rfl)⟩) (pre3V g hK mq0_ kq0_ (by decide) (q := (RX8, TX8, 10)) rfl) rfl rfl hl.1 rfl (lv_room (Nat.le_of_ble_eq_true rfl)) dX2_readArguments_230 ⟨(Nat.le_of_ble_eq_true rfl), (Nat.le_of_ble_eq_true rfl)⟩) g hK (by decide) (by decide) (fx' := [(7, 6, q3_, .int x_666), (7, 5, q3_, .ref a_656), (7, 4, q3_, .ref a_655), (2, 13, a0_, .int x_654), (2, 12, a0_, .int x_653), (8, 8, q0_, .int x_525), (0, 2, q2_, .ref q3_), (2, 14, a0_, .int x_17), (2, 0, a0_, .ref q0_), (2, 1, a0_, .ref q1_), (2, 2, a0_, .ref q2_), (2, 3, a0_, .ref q3_), (0, 0, q2_, .ref q0_), (0, 1, q2_, .ref q1_), (5, 0, q1_, .ref q3_), (5, 1, q1_, .ref q7_)]) rfl (fun fr_670 H locs hp hMr_670 g => ?_)
                              obtain ⟨x_671, h_672, hF_673⟩ := hp
                              have hG_674 := dOK.frame hMr_670 go_.2.2.2.1 mq3_ kq3_ (by decide) (by decide) hG_665
                              have hG_675 := eOK.frame hMr_670 go_.2.2.2.1 mq2_ kq2_ (by decide) (by decide) hG_669
                              have g := g.more hF_673
                              subst hQ
                              exact W.vret hx hb hr (fun t ht hW => ⟨⟨_, rfl, Or.inr (⟨hG_674, hG_675, x_671, h_672, x_525, h_526, (g.fcts [0, 6] rfl)⟩), q3_of g hK ht hW⟩, g.2.2.1.F ht⟩) g.2.2.1.2.2 dX2_readArguments_233
                          · have fc_607 := eq_f c_607
                            have b_676 : bd 1 0 x_525 := eqX fc_607 h_526 kb_0 (by decide)
                            exact bd_no b_676 (by decide)
                  · have g := g.more hF_494
                    have kb_1 : bd 1 1 (1 : Int32) := ⟨by decide, by decide⟩
                    obtain ⟨y_677, ey_677⟩ : ∃ z : Int32, z = v69_2 + 1 := ⟨_, rfl⟩
                    refine lv_iinc (v := y_677) (lv' := [(2, .int y_677), (4, .int v69_4), (3, .int v69_3), (1, .int r_1), (0, .ref a0_)]) hx hb dX2_readArguments_96 hl (k := 2) rfl (by rw [ey_677]; rfl) (by decide) rfl (fun ls hl => ?_)
                    refine lv_aload_n hx hb dX2_readArguments_99 rfl (lv_at hl 4 rfl) ?_
                    refine g_getk (C := RX2) (T := TX2) (N := 16) hx hb hts (mc_ inX2) hown hK g rfl 0 (by decide) rfl (hts _ (List.mem_cons_of_mem _ t_416)) (fun _ h9 => h9) 4 rfl dX2_readArguments_100 ?_
                    have go_ := g
                    refine g_calli (va_runV (As := []) (rest := []) ⟨hx, hb, hml, hown, hts⟩ (r_X8_kind_2 l dC dI L kd tys fr_482 H.size g.2.2.2.1 q0_ mq0_ kq0_ x_490 h_491 (g.fcts [0] rfl)) (cwV 0 hts (gV_ t_1118 t_1119 t_1120 t_184 t_1121) rfl rfl rfl (by decide +kernel) ⟨(Nat.le_of_ble_eq_true rfl), (Nat.le_of_ble_eq_true rfl)⟩) (pre3V g hK mq0_ kq0_ (by decide) (q := (RX8, TX8, 10)) rfl) rfl rfl hl.1 rfl (lv_room (Nat.le_of_ble_eq_true rfl)) dX2_readArguments_103 ⟨(Nat.le_of_ble_eq_true rfl), (Nat.le_of_ble_eq_true rfl)⟩) g hK (by decide) (by decide) (fx' := [(8, 6, q0_, .int x_490), (8, 8, q0_, .int x_492), (0, 2, q2_, .ref q3_), (2, 14, a0_, .int x_17), (2, 0, a0_, .ref q0_), (2, 1, a0_, .ref q1_), (2, 2, a0_, .ref q2_), (2, 3, a0_, .ref q3_), (0, 0, q2_, .ref q0_), (0, 1, q2_, .ref q1_), (5, 0, q1_, .ref q3_), (5, 1, q1_, .ref q7_)]) rfl (fun r_678 fr_678 H locs hp hMr_678 g => ?_)
                    obtain ⟨h_679, -⟩ := hp
                    have hG_680 := dOK.frame hMr_678 go_.2.2.2.1 mq3_ kq3_ (by decide) (by decide) hG_489
                    have hG_681 := eOK.frame hMr_678 go_.2.2.2.1 mq2_ kq2_ (by decide) (by decide) hG_488
                    obtain rfl : r_678 = 0 := h_679
                    refine lv_bipush (v := 44) hx hb dX2_readArguments_106 (by decide) ?_
                    refine lv_icmp_ne (tgt := 115) hx hb dX2_readArguments_108 (by decide) (fun c_ => ?_) (fun c_ => absurd c_ (by decide))
                    refine lv_iconst (v := 0) hx hb dX2_readArguments_115 (by decide) ?_
                    refine lv_istore_n (lv' := [(3, .int 0), (2, .int y_677), (4, .int v69_4), (1, .int r_1), (0, .ref a0_)]) hx hb dX2_readArguments_116 rfl hl (by decide) rfl (fun ls hl => ?_)
                    refine lv_iload_n hx hb dX2_readArguments_117 rfl (lv_at hl 0 rfl) ?_
                    refine lv_if_eq (tgt := 156) hx hb dX2_readArguments_118 (by decide) (fun c_ => ?_) (fun c_ => absurd (by decide) c_)
                    obtain ⟨y_682, ey_682⟩ : ∃ z : Int32, z = v69_4 + 1 := ⟨_, rfl⟩
                    refine lv_iinc (v := y_682) (lv' := [(4, .int y_682), (3, .int 0), (2, .int y_677), (1, .int r_1), (0, .ref a0_)]) hx hb dX2_readArguments_156 hl (k := 2) rfl (by rw [ey_682]; rfl) (by decide) rfl (fun ls hl => ?_)
                    have ty_682 := add_bd ey_682 b_327 kb_1 (by decide)
                    have b_683 : bd 1 4 y_682 := add_rg ty_682 b_327 kb_1 (by decide)
                    refine lv_goto (tgt := 69) hx hb dX2_readArguments_159 (by decide) ?_
                    refine lv_iload hx hb dX2_readArguments_69 (lv_at hl 0 rfl) ?_
                    refine lv_iconst (v := 3) hx hb dX2_readArguments_71 (by decide) ?_
                    refine lv_icmp_gt (tgt := 162) hx hb dX2_readArguments_72 (by decide) (fun c_684 => ?_) (fun c_684 => ?_)
                    · have fc_684 := lt_f c_684
                      have b_685 : bd 4 4 y_682 := ltR fc_684 kb_3 b_683 (by decide)
                      have b_686 : bd 3 3 v69_4 := add_inv ty_682 b_685 b_327 kb_1 (by decide)
                      refine lv_aload_n hx hb dX2_readArguments_162 rfl (lv_at hl 4 rfl) ?_
                      refine g_getk (C := RX2) (T := TX2) (N := 16) hx hb hts (mc_ inX2) hown hK g rfl 0 (by decide) rfl (hts _ (List.mem_cons_of_mem _ t_416)) (fun _ h9 => h9) 4 rfl dX2_readArguments_163 ?_
                      have go_ := g
                      refine g_calli (va_runV (As := []) (rest := []) ⟨hx, hb, hml, hown, hts⟩ (r_X8_place l dC dI L kd tys fr_678 H.size g.2.2.2.1 q0_ mq0_ kq0_) (cwV 0 hts (gV_ t_1110 t_1111 t_1112 t_184 t_1113) rfl rfl rfl (by decide +kernel) ⟨(Nat.le_of_ble_eq_true rfl), (Nat.le_of_ble_eq_true rfl)⟩) (pre3V g hK mq0_ kq0_ (by decide) (q := (RX8, TX8, 10)) rfl) rfl rfl hl.1 rfl (lv_room (Nat.le_of_ble_eq_true rfl)) dX2_readArguments_166 ⟨(Nat.le_of_ble_eq_true rfl), (Nat.le_of_ble_eq_true rfl)⟩) g hK (by decide) (by decide) (fx' := [(8, 6, q0_, .int x_490), (8, 8, q0_, .int x_492), (0, 2, q2_, .ref q3_), (2, 14, a0_, .int x_17), (2, 0, a0_, .ref q0_), (2, 1, a0_, .ref q1_), (2, 2, a0_, .ref q2_), (2, 3, a0_, .ref q3_), (0, 0, q2_, .ref q0_), (0, 1, q2_, .ref q1_), (5, 0, q1_, .ref q3_), (5, 1, q1_, .ref q7_)]) rfl (fun r_687 fr_687 H locs hp hMr_687 g => ?_)
                      have hG_688 := dOK.frame hMr_687 go_.2.2.2.1 mq3_ kq3_ (by decide) (by decide) hG_680
                      have hG_689 := eOK.frame hMr_687 go_.2.2.2.1 mq2_ kq2_ (by decide) (by decide) hG_681
                      refine lv_istore (lv' := [(4, .int r_687), (3, .int 0), (2, .int y_677), (1, .int r_1), (0, .ref a0_)]) hx hb dX2_readArguments_169 hl (by decide) rfl (fun ls hl => ?_)
                      refine lv_aload_n hx hb dX2_readArguments_171 rfl (lv_at hl 4 rfl) ?_
                      refine g_getk (C := RX2) (T := TX2) (N := 16) hx hb hts (mc_ inX2) hown hK g rfl 0 (by decide) rfl (hts _ (List.mem_cons_of_mem _ t_416)) (fun _ h9 => h9) 4 rfl dX2_readArguments_172 ?_
                      refine lv_bipush (v := 41) hx hb dX2_readArguments_175 (by decide) ?_
                      have go_ := g
                      refine g_callv (va_runV (As := [.int 41]) (rest := []) ⟨hx, hb, hml, hown, hts⟩ (r_X8_take_2 l dC dI L kd tys fr_687 H.size g.2.2.2.1 q0_ mq0_ kq0_ 41 x_490 h_491 x_492 h_493 (g.fcts [0, 1] rfl)) (cwV 1 hts (gV_ t_1098 t_1099 t_1100 t_184 t_1101) rfl rfl rfl (by decide +kernel) ⟨(Nat.le_of_ble_eq_true rfl), (Nat.le_of_ble_eq_true rfl)⟩) (pre3V g hK mq0_ kq0_ (by decide) (q := (RX8, TX8, 10)) rfl) rfl rfl hl.1 rfl (lv_room (Nat.le_of_ble_eq_true rfl)) dX2_readArguments_177 ⟨(Nat.le_of_ble_eq_true rfl), (Nat.le_of_ble_eq_true rfl)⟩) g hK (by decide) (by decide) (fx' := [(8, 8, q0_, .int x_492), (0, 2, q2_, .ref q3_), (2, 14, a0_, .int x_17), (2, 0, a0_, .ref q0_), (2, 1, a0_, .ref q1_), (2, 2, a0_, .ref q2_), (2, 3, a0_, .ref q3_), (0, 0, q2_, .ref q0_), (0, 1, q2_, .ref q1_), (5, 0, q1_, .ref q3_), (5, 1, q1_, .ref q7_)]) rfl (fun fr_690 H locs hp hMr_690 g => ?_)
                      obtain ⟨x_691, h_692, hF_693⟩ := hp
                      have hG_694 := dOK.frame hMr_690 go_.2.2.2.1 mq3_ kq3_ (by decide) (by decide) hG_688
                      have hG_695 := eOK.frame hMr_690 go_.2.2.2.1 mq2_ kq2_ (by decide) (by decide) hG_689
                      have g := g.more hF_693
                      refine lv_iload_n hx hb dX2_readArguments_180 rfl (lv_at hl 2 rfl) ?_
                      refine lv_aload_n hx hb dX2_readArguments_181 rfl (lv_at hl 4 rfl) ?_
                      refine g_getk (C := RX2) (T := TX2) (N := 16) hx hb hts (mc_ inX2) hown hK g rfl 14 (by decide) rfl (hts _ (List.mem_cons_of_mem _ t_430)) (fun _ h9 => h9) 3 rfl dX2_readArguments_182 ?_
                      refine lv_icmp_ge (tgt := 199) hx hb dX2_readArguments_185 (by decide) (fun c_696 => ?_) (fun c_696 => ?_)
                      · have fc_696 := le_f c_696
                        refine lv_aload_n hx hb dX2_readArguments_199 rfl (lv_at hl 4 rfl) ?_
                        refine g_getk (C := RX2) (T := TX2) (N := 16) hx hb hts (mc_ inX2) hown hK g rfl 3 (by decide) rfl (hts _ (List.mem_cons_of_mem _ t_419)) (fun _ h9 => h9) 7 rfl dX2_readArguments_200 ?_
                        refine lv_aload_n hx hb dX2_readArguments_203 rfl (lv_at hl 4 rfl) ?_
                        refine g_geti (C := RX2) (T := TX2) (N := 16) hx hb hts (mc_ inX2) hown hK g ma0_ ka0_ (by decide) rfl 12 (by decide) rfl (hts _ (List.mem_cons_of_mem _ t_428)) (fun _ h9 => h9) rfl dX2_readArguments_204 (fun x_697 bx_697 g => ?_)
                        refine lv_aload_n hx hb dX2_readArguments_207 rfl (lv_at hl 4 rfl) ?_
                        refine g_geti (C := RX2) (T := TX2) (N := 16) hx hb hts (mc_ inX2) hown hK g ma0_ ka0_ (by decide) rfl 13 (by decide) rfl (hts _ (List.mem_cons_of_mem _ t_429)) (fun _ h9 => h9) rfl dX2_readArguments_208 (fun x_698 bx_698 g => ?_)
                        obtain ⟨a_699, ma_699, ka_699, g⟩ := g_factr g mq3_ kq3_ (by decide) 4 rfl
                        obtain ⟨a_700, ma_700, ka_700, g⟩ := g_factr g mq3_ kq3_ (by decide) 5 rfl
                        obtain ⟨x_701, bx_701, g⟩ := g_facti g mq3_ kq3_ (by decide) 6 rfl
                        have go_ := g
                        refine g_callv (va_runV (As := [.int x_697, .int x_698]) (rest := []) ⟨hx, hb, hml, hown, hts⟩ (r_X7_emitF l dC dI L kd tys fr_690 H.size g.2.2.2.1 q3_ mq3_ kq3_ a_699 ma_699 ka_699 a_700 ma_700 ka_700 x_701 bx_701 T_ hG_694 x_697 x_698 (g.fcts [2, 1, 0] rfl)) (cwV 2 hts (gV_ t_1301 t_1204 t_1205 t_191 t_1206) rfl rfl rfl (by decide +kernel) ⟨(Nat.le_of_ble_eq_true rfl), (Nat.le_of_ble_eq_true rfl)⟩) (pre3V g hK mq3_ kq3_ (by decide) (q := (RX7, TX7, 19)) rfl) rfl rfl hl.1 rfl (lv_room (Nat.le_of_ble_eq_true rfl)) dX2_readArguments_211 ⟨(Nat.le_of_ble_eq_true rfl), (Nat.le_of_ble_eq_true rfl)⟩) g hK (by decide) (by decide) (fx' := [(7, 5, q3_, .ref a_700), (7, 4, q3_, .ref a_699), (2, 13, a0_, .int x_698), (2, 12, a0_, .int x_697), (8, 6, q0_, .int x_691), (8, 8, q0_, .int x_492), (0, 2, q2_, .ref q3_), (2, 14, a0_, .int x_17), (2, 0, a0_, .ref q0_), (2, 1, a0_, .ref q1_), (2, 2, a0_, .ref q2_), (2, 3, a0_, .ref q3_), (0, 0, q2_, .ref q0_), (0, 1, q2_, .ref q1_), (5, 0, q1_, .ref q3_), (5, 1, q1_, .ref q7_)]) rfl (fun fr_702 H locs hp hMr_702 g => ?_)
                        obtain ⟨hG_703, x_704, h_705, hF_706⟩ := hp
                        have hG_707 := eOK.frame hMr_702 go_.2.2.2.1 mq2_ kq2_ (by decide) (by decide) hG_695
                        have g := g.more hF_706
                        refine lv_aload_n hx hb dX2_readArguments_214 rfl (lv_at hl 4 rfl) ?_
                        refine g_getk (C := RX2) (T := TX2) (N := 16) hx hb hts (mc_ inX2) hown hK g rfl 3 (by decide) rfl (hts _ (List.mem_cons_of_mem _ t_419)) (fun _ h9 => h9) 12 rfl dX2_readArguments_215 ?_
                        refine lv_bipush (v := 22) hx hb dX2_readArguments_218 (by decide) ?_
                        refine lv_iconst (v := 0) hx hb dX2_readArguments_220 (by decide) ?_
                        have go_ := g
                        refine g_callv (va_runV (As := [.int 22, .int 0]) (rest := []) ⟨hx, hb, hml, hown, hts⟩ (r_X7_emitF l dC dI L kd tys fr_702 H.size g.2.2.2.1 q3_ mq3_ kq3_ a_699 ma_699 ka_699 a_700 ma_700 ka_700 x_704 h_705 T_ hG_703 (22 : Int32) (0 : Int32) (g.fcts [2, 1, 0] rfl)) (cwV 2 hts (gV_ t_1301 t_1204 t_1205 t_191 t_1206) rfl rfl rfl (by decide +kernel) ⟨(Nat.le_of_ble_eq_true rfl), (Nat.le_of_ble_eq_true rfl)⟩) (pre3V g hK mq3_ kq3_ (by decide) (q := (RX7, TX7, 19)) rfl) rfl rfl hl.1 rfl (lv_room (Nat.le_of_ble_eq_true rfl)) dX2_readArguments_221 ⟨(Nat.le_of_ble_eq_true rfl), (Nat.le_of_ble_eq_true rfl)⟩) g hK (by decide) (by decide) (fx' := [(7, 5, q3_, .ref a_700), (7, 4, q3_, .ref a_699), (2, 13, a0_, .int x_698), (2, 12, a0_, .int x_697), (8, 6, q0_, .int x_691), (8, 8, q0_, .int x_492), (0, 2, q2_, .ref q3_), (2, 14, a0_, .int x_17), (2, 0, a0_, .ref q0_), (2, 1, a0_, .ref q1_), (2, 2, a0_, .ref q2_), (2, 3, a0_, .ref q3_), (0, 0, q2_, .ref q0_), (0, 1, q2_, .ref q1_), (5, 0, q1_, .ref q3_), (5, 1, q1_, .ref q7_)]) rfl (fun fr_708 H locs hp hMr_708 g => ?_)
                        obtain ⟨hG_709, x_710, h_711, hF_712⟩ := hp
                        have hG_713 := eOK.frame hMr_708 go_.2.2.2.1 mq2_ kq2_ (by decide) (by decide) hG_707
                        have g := g.more hF_712
                        refine lv_aload_n hx hb dX2_readArguments_224 rfl (lv_at hl 4 rfl) ?_
                        refine g_getk (C := RX2) (T := TX2) (N := 16) hx hb hts (mc_ inX2) hown hK g rfl 0 (by decide) rfl (hts _ (List.mem_cons_of_mem _ t_416)) (fun _ h9 => h9) 9 rfl dX2_readArguments_225 ?_
                        refine lv_bipush (v := 59) hx hb dX2_readArguments_228 (by decide) ?_
                        have go_ := g
                        refine g_callv (va_runV (As := [.int 59]) (rest := []) ⟨hx, hb, hml, hown, hts⟩ (r_X8_take_2 l dC dI L kd tys fr_708 H.size g.2.2.2.1 q0_ mq0_ kq0_ 59 x_691 h_692 x_492 h_493 (g.fcts [5, 6] rfl)) (cwV 1 hts (gV_ t_1098 t_1099 t_1100 t_184 t_1101) rfl rfl rfl (by decide +kernel) ⟨(Nat.le_of_ble_eq_true rfl), (Nat.le_of_ble_eq_true rfl)⟩) (pre3V g hK mq0_ kq0_ (by decide) (q := (RX8, TX8, 10)) rfl) rfl rfl hl.1 rfl (lv_room (Nat.le_of_ble_eq_true rfl)) dX2_readArguments_230 ⟨(Nat.le_of_ble_eq_true rfl), (Nat.le_of_ble_eq_true rfl)⟩) g hK (by decide) (by decide) (fx' := [(7, 6, q3_, .int x_710), (7, 5, q3_, .ref a_700), (7, 4, q3_, .ref a_699), (2, 13, a0_, .int x_698), (2, 12, a0_, .int x_697), (8, 8, q0_, .int x_492), (0, 2, q2_, .ref q3_), (2, 14, a0_, .int x_17), (2, 0, a0_, .ref q0_), (2, 1, a0_, .ref q1_), (2, 2, a0_, .ref q2_), (2, 3, a0_, .ref q3_), (0, 0, q2_, .ref q0_), (0, 1, q2_, .ref q1_), (5, 0, q1_, .ref q3_), (5, 1, q1_, .ref q7_)]) rfl (fun fr_714 H locs hp hMr_714 g => ?_)
                        obtain ⟨x_715, h_716, hF_717⟩ := hp
                        have hG_718 := dOK.frame hMr_714 go_.2.2.2.1 mq3_ kq3_ (by decide) (by decide) hG_709
                        have hG_719 := eOK.frame hMr_714 go_.2.2.2.1 mq2_ kq2_ (by decide) (by decide) hG_713
                        have g := g.more hF_717
                        subst hQ
                        exact W.vret hx hb hr (fun t ht hW => ⟨⟨_, rfl, Or.inr (⟨hG_718, hG_719, x_715, h_716, x_492, h_493, (g.fcts [0, 6] rfl)⟩), q3_of g hK ht hW⟩, g.2.2.1.F ht⟩) g.2.2.1.2.2 dX2_readArguments_233
                      · have fc_696 := nle_f c_696
                        have b_720 : bd (-2147483648) 2147483646 y_677 := ltL fc_696 (bdT y_677) (bdT x_17) (by decide)
                        have b_721 : bd (-2147483647) 2147483647 x_17 := ltR fc_696 (bdT y_677) (bdT x_17) (by decide)
                        refine lv_aload_n hx hb dX2_readArguments_188 rfl (lv_at hl 4 rfl) ?_
                        refine g_getk (C := RX2) (T := TX2) (N := 16) hx hb hts (mc_ inX2) hown hK g rfl 0 (by decide) rfl (hts _ (List.mem_cons_of_mem _ t_416)) (fun _ h9 => h9) 4 rfl dX2_readArguments_189 ?_
                        refine lv_bipush (v := 6) hx hb dX2_readArguments_192 (by decide) ?_
                        refine lv_iload hx hb dX2_readArguments_194 (lv_at hl 0 rfl) ?_
                        have kb_6 : bd 6 6 (6 : Int32) := ⟨by decide, by decide⟩
                        have go_ := g
                        refine g_callv (va_runV (As := [.int 6, .int r_687]) (rest := []) ⟨hx, hb, hml, hown, hts⟩ (r_X8_fail_2 l dC dI L kd tys fr_690 H.size g.2.2.2.1 q0_ mq0_ kq0_ 6 (bd_sub kb_6 (by decide)) r_687 x_492 h_493 (g.fcts [1] rfl)) (cwV 2 hts (gV_ t_1122 t_1107 t_1108 t_184 t_1109) rfl rfl rfl (by decide +kernel) ⟨(Nat.le_of_ble_eq_true rfl), (Nat.le_of_ble_eq_true rfl)⟩) (pre3V g hK mq0_ kq0_ (by decide) (q := (RX8, TX8, 10)) rfl) rfl rfl hl.1 rfl (lv_room (Nat.le_of_ble_eq_true rfl)) dX2_readArguments_196 ⟨(Nat.le_of_ble_eq_true rfl), (Nat.le_of_ble_eq_true rfl)⟩) g hK (by decide) (by decide) (fx' := [(8, 8, q0_, .int x_492), (0, 2, q2_, .ref q3_), (2, 14, a0_, .int x_17), (2, 0, a0_, .ref q0_), (2, 1, a0_, .ref q1_), (2, 2, a0_, .ref q2_), (2, 3, a0_, .ref q3_), (0, 0, q2_, .ref q0_), (0, 1, q2_, .ref q1_), (5, 0, q1_, .ref q3_), (5, 1, q1_, .ref q7_)]) rfl (fun fr_722 H locs hp hMr_722 g => ?_)
                        have hF_723 := hp
                        have hG_724 := dOK.frame hMr_722 go_.2.2.2.1 mq3_ kq3_ (by decide) (by decide) hG_694
                        have hG_725 := eOK.frame hMr_722 go_.2.2.2.1 mq2_ kq2_ (by decide) (by decide) hG_695
                        have g := g.more hF_723
                        refine lv_aload_n hx hb dX2_readArguments_199 rfl (lv_at hl 4 rfl) ?_
                        refine g_getk (C := RX2) (T := TX2) (N := 16) hx hb hts (mc_ inX2) hown hK g rfl 3 (by decide) rfl (hts _ (List.mem_cons_of_mem _ t_419)) (fun _ h9 => h9) 7 rfl dX2_readArguments_200 ?_
                        refine lv_aload_n hx hb dX2_readArguments_203 rfl (lv_at hl 4 rfl) ?_
                        refine g_geti (C := RX2) (T := TX2) (N := 16) hx hb hts (mc_ inX2) hown hK g ma0_ ka0_ (by decide) rfl 12 (by decide) rfl (hts _ (List.mem_cons_of_mem _ t_428)) (fun _ h9 => h9) rfl dX2_readArguments_204 (fun x_726 bx_726 g => ?_)
                        refine lv_aload_n hx hb dX2_readArguments_207 rfl (lv_at hl 4 rfl) ?_
                        refine g_geti (C := RX2) (T := TX2) (N := 16) hx hb hts (mc_ inX2) hown hK g ma0_ ka0_ (by decide) rfl 13 (by decide) rfl (hts _ (List.mem_cons_of_mem _ t_429)) (fun _ h9 => h9) rfl dX2_readArguments_208 (fun x_727 bx_727 g => ?_)
                        obtain ⟨a_728, ma_728, ka_728, g⟩ := g_factr g mq3_ kq3_ (by decide) 4 rfl
                        obtain ⟨a_729, ma_729, ka_729, g⟩ := g_factr g mq3_ kq3_ (by decide) 5 rfl
                        obtain ⟨x_730, bx_730, g⟩ := g_facti g mq3_ kq3_ (by decide) 6 rfl
                        have go_ := g
                        refine g_callv (va_runV (As := [.int x_726, .int x_727]) (rest := []) ⟨hx, hb, hml, hown, hts⟩ (r_X7_emitF l dC dI L kd tys fr_722 H.size g.2.2.2.1 q3_ mq3_ kq3_ a_728 ma_728 ka_728 a_729 ma_729 ka_729 x_730 bx_730 T_ hG_724 x_726 x_727 (g.fcts [2, 1, 0] rfl)) (cwV 2 hts (gV_ t_1301 t_1204 t_1205 t_191 t_1206) rfl rfl rfl (by decide +kernel) ⟨(Nat.le_of_ble_eq_true rfl), (Nat.le_of_ble_eq_true rfl)⟩) (pre3V g hK mq3_ kq3_ (by decide) (q := (RX7, TX7, 19)) rfl) rfl rfl hl.1 rfl (lv_room (Nat.le_of_ble_eq_true rfl)) dX2_readArguments_211 ⟨(Nat.le_of_ble_eq_true rfl), (Nat.le_of_ble_eq_true rfl)⟩) g hK (by decide) (by decide) (fx' := [(7, 5, q3_, .ref a_729), (7, 4, q3_, .ref a_728), (2, 13, a0_, .int x_727), (2, 12, a0_, .int x_726), (8, 6, q0_, .int 1201), (8, 8, q0_, .int x_492), (0, 2, q2_, .ref q3_), (2, 14, a0_, .int x_17), (2, 0, a0_, .ref q0_), (2, 1, a0_, .ref q1_), (2, 2, a0_, .ref q2_), (2, 3, a0_, .ref q3_), (0, 0, q2_, .ref q0_), (0, 1, q2_, .ref q1_), (5, 0, q1_, .ref q3_), (5, 1, q1_, .ref q7_)]) rfl (fun fr_731 H locs hp hMr_731 g => ?_)
                        obtain ⟨hG_732, x_733, h_734, hF_735⟩ := hp
                        have hG_736 := eOK.frame hMr_731 go_.2.2.2.1 mq2_ kq2_ (by decide) (by decide) hG_725
                        have g := g.more hF_735
                        refine lv_aload_n hx hb dX2_readArguments_214 rfl (lv_at hl 4 rfl) ?_
                        refine g_getk (C := RX2) (T := TX2) (N := 16) hx hb hts (mc_ inX2) hown hK g rfl 3 (by decide) rfl (hts _ (List.mem_cons_of_mem _ t_419)) (fun _ h9 => h9) 12 rfl dX2_readArguments_215 ?_
                        refine lv_bipush (v := 22) hx hb dX2_readArguments_218 (by decide) ?_
                        refine lv_iconst (v := 0) hx hb dX2_readArguments_220 (by decide) ?_
                        have go_ := g
                        refine g_callv (va_runV (As := [.int 22, .int 0]) (rest := []) ⟨hx, hb, hml, hown, hts⟩ (r_X7_emitF l dC dI L kd tys fr_731 H.size g.2.2.2.1 q3_ mq3_ kq3_ a_728 ma_728 ka_728 a_729 ma_729 ka_729 x_733 h_734 T_ hG_732 (22 : Int32) (0 : Int32) (g.fcts [2, 1, 0] rfl)) (cwV 2 hts (gV_ t_1301 t_1204 t_1205 t_191 t_1206) rfl rfl rfl (by decide +kernel) ⟨(Nat.le_of_ble_eq_true rfl), (Nat.le_of_ble_eq_true rfl)⟩) (pre3V g hK mq3_ kq3_ (by decide) (q := (RX7, TX7, 19)) rfl) rfl rfl hl.1 rfl (lv_room (Nat.le_of_ble_eq_true rfl)) dX2_readArguments_221 ⟨(Nat.le_of_ble_eq_true rfl), (Nat.le_of_ble_eq_true rfl)⟩) g hK (by decide) (by decide) (fx' := [(7, 5, q3_, .ref a_729), (7, 4, q3_, .ref a_728), (2, 13, a0_, .int x_727), (2, 12, a0_, .int x_726), (8, 6, q0_, .int 1201), (8, 8, q0_, .int x_492), (0, 2, q2_, .ref q3_), (2, 14, a0_, .int x_17), (2, 0, a0_, .ref q0_), (2, 1, a0_, .ref q1_), (2, 2, a0_, .ref q2_), (2, 3, a0_, .ref q3_), (0, 0, q2_, .ref q0_), (0, 1, q2_, .ref q1_), (5, 0, q1_, .ref q3_), (5, 1, q1_, .ref q7_)]) rfl (fun fr_737 H locs hp hMr_737 g => ?_)
                        obtain ⟨hG_738, x_739, h_740, hF_741⟩ := hp
                        have hG_742 := eOK.frame hMr_737 go_.2.2.2.1 mq2_ kq2_ (by decide) (by decide) hG_736
                        have g := g.more hF_741
                        refine lv_aload_n hx hb dX2_readArguments_224 rfl (lv_at hl 4 rfl) ?_
                        refine g_getk (C := RX2) (T := TX2) (N := 16) hx hb hts (mc_ inX2) hown hK g rfl 0 (by decide) rfl (hts _ (List.mem_cons_of_mem _ t_416)) (fun _ h9 => h9) 9 rfl dX2_readArguments_225 ?_
                        refine lv_bipush (v := 59) hx hb dX2_readArguments_228 (by decide) ?_
                        have kb_1201 : bd 1201 1201 (1201 : Int32) := ⟨by decide, by decide⟩
                        have go_ := g
                        refine g_callv (va_runV (As := [.int 59]) (rest := []) ⟨hx, hb, hml, hown, hts⟩ (r_X8_take_2 l dC dI L kd tys fr_737 H.size g.2.2.2.1 q0_ mq0_ kq0_ 59 1201 kb_1201 x_492 h_493 (g.fcts [5, 6] rfl)) (cwV 1 hts (gV_ t_1098 t_1099 t_1100 t_184 t_1101) rfl rfl rfl (by decide +kernel) ⟨(Nat.le_of_ble_eq_true rfl), (Nat.le_of_ble_eq_true rfl)⟩) (pre3V g hK mq0_ kq0_ (by decide) (q := (RX8, TX8, 10)) rfl) rfl rfl hl.1 rfl (lv_room (Nat.le_of_ble_eq_true rfl)) dX2_readArguments_230 ⟨(Nat.le_of_ble_eq_true rfl), (Nat.le_of_ble_eq_true rfl)⟩) g hK (by decide) (by decide) (fx' := [(7, 6, q3_, .int x_739), (7, 5, q3_, .ref a_729), (7, 4, q3_, .ref a_728), (2, 13, a0_, .int x_727), (2, 12, a0_, .int x_726), (8, 8, q0_, .int x_492), (0, 2, q2_, .ref q3_), (2, 14, a0_, .int x_17), (2, 0, a0_, .ref q0_), (2, 1, a0_, .ref q1_), (2, 2, a0_, .ref q2_), (2, 3, a0_, .ref q3_), (0, 0, q2_, .ref q0_), (0, 1, q2_, .ref q1_), (5, 0, q1_, .ref q3_), (5, 1, q1_, .ref q7_)]) rfl (fun fr_743 H locs hp hMr_743 g => ?_)
                        obtain ⟨x_744, h_745, hF_746⟩ := hp
                        have hG_747 := dOK.frame hMr_743 go_.2.2.2.1 mq3_ kq3_ (by decide) (by decide) hG_738
                        have hG_748 := eOK.frame hMr_743 go_.2.2.2.1 mq2_ kq2_ (by decide) (by decide) hG_742
                        have g := g.more hF_746
                        subst hQ
                        exact W.vret hx hb hr (fun t ht hW => ⟨⟨_, rfl, Or.inr (⟨hG_747, hG_748, x_744, h_745, x_492, h_493, (g.fcts [0, 6] rfl)⟩), q3_of g hK ht hW⟩, g.2.2.1.F ht⟩) g.2.2.1.2.2 dX2_readArguments_233
                    · have fc_684 := nlt_f c_684
                      have b_749 : bd 1 3 y_682 := leL fc_684 b_683 kb_3 (by decide)
                      have b_750 : bd 0 2 v69_4 := add_inv ty_682 b_749 b_327 kb_1 (by decide)
                      refine lv_iload_n hx hb dX2_readArguments_75 rfl (lv_at hl 1 rfl) ?_
                      refine lv_if_eq (tgt := 162) hx hb dX2_readArguments_76 (by decide) (fun c_ => ?_) (fun c_ => absurd (by decide) c_)
                      refine lv_aload_n hx hb dX2_readArguments_162 rfl (lv_at hl 4 rfl) ?_
                      refine g_getk (C := RX2) (T := TX2) (N := 16) hx hb hts (mc_ inX2) hown hK g rfl 0 (by decide) rfl (hts _ (List.mem_cons_of_mem _ t_416)) (fun _ h9 => h9) 4 rfl dX2_readArguments_163 ?_
                      have go_ := g
                      refine g_calli (va_runV (As := []) (rest := []) ⟨hx, hb, hml, hown, hts⟩ (r_X8_place l dC dI L kd tys fr_678 H.size g.2.2.2.1 q0_ mq0_ kq0_) (cwV 0 hts (gV_ t_1110 t_1111 t_1112 t_184 t_1113) rfl rfl rfl (by decide +kernel) ⟨(Nat.le_of_ble_eq_true rfl), (Nat.le_of_ble_eq_true rfl)⟩) (pre3V g hK mq0_ kq0_ (by decide) (q := (RX8, TX8, 10)) rfl) rfl rfl hl.1 rfl (lv_room (Nat.le_of_ble_eq_true rfl)) dX2_readArguments_166 ⟨(Nat.le_of_ble_eq_true rfl), (Nat.le_of_ble_eq_true rfl)⟩) g hK (by decide) (by decide) (fx' := [(8, 6, q0_, .int x_490), (8, 8, q0_, .int x_492), (0, 2, q2_, .ref q3_), (2, 14, a0_, .int x_17), (2, 0, a0_, .ref q0_), (2, 1, a0_, .ref q1_), (2, 2, a0_, .ref q2_), (2, 3, a0_, .ref q3_), (0, 0, q2_, .ref q0_), (0, 1, q2_, .ref q1_), (5, 0, q1_, .ref q3_), (5, 1, q1_, .ref q7_)]) rfl (fun r_751 fr_751 H locs hp hMr_751 g => ?_)
                      have hG_752 := dOK.frame hMr_751 go_.2.2.2.1 mq3_ kq3_ (by decide) (by decide) hG_680
                      have hG_753 := eOK.frame hMr_751 go_.2.2.2.1 mq2_ kq2_ (by decide) (by decide) hG_681
                      refine lv_istore (lv' := [(4, .int r_751), (3, .int 0), (2, .int y_677), (1, .int r_1), (0, .ref a0_)]) hx hb dX2_readArguments_169 hl (by decide) rfl (fun ls hl => ?_)
                      refine lv_aload_n hx hb dX2_readArguments_171 rfl (lv_at hl 4 rfl) ?_
                      refine g_getk (C := RX2) (T := TX2) (N := 16) hx hb hts (mc_ inX2) hown hK g rfl 0 (by decide) rfl (hts _ (List.mem_cons_of_mem _ t_416)) (fun _ h9 => h9) 4 rfl dX2_readArguments_172 ?_
                      refine lv_bipush (v := 41) hx hb dX2_readArguments_175 (by decide) ?_
                      have go_ := g
                      refine g_callv (va_runV (As := [.int 41]) (rest := []) ⟨hx, hb, hml, hown, hts⟩ (r_X8_take_2 l dC dI L kd tys fr_751 H.size g.2.2.2.1 q0_ mq0_ kq0_ 41 x_490 h_491 x_492 h_493 (g.fcts [0, 1] rfl)) (cwV 1 hts (gV_ t_1098 t_1099 t_1100 t_184 t_1101) rfl rfl rfl (by decide +kernel) ⟨(Nat.le_of_ble_eq_true rfl), (Nat.le_of_ble_eq_true rfl)⟩) (pre3V g hK mq0_ kq0_ (by decide) (q := (RX8, TX8, 10)) rfl) rfl rfl hl.1 rfl (lv_room (Nat.le_of_ble_eq_true rfl)) dX2_readArguments_177 ⟨(Nat.le_of_ble_eq_true rfl), (Nat.le_of_ble_eq_true rfl)⟩) g hK (by decide) (by decide) (fx' := [(8, 8, q0_, .int x_492), (0, 2, q2_, .ref q3_), (2, 14, a0_, .int x_17), (2, 0, a0_, .ref q0_), (2, 1, a0_, .ref q1_), (2, 2, a0_, .ref q2_), (2, 3, a0_, .ref q3_), (0, 0, q2_, .ref q0_), (0, 1, q2_, .ref q1_), (5, 0, q1_, .ref q3_), (5, 1, q1_, .ref q7_)]) rfl (fun fr_754 H locs hp hMr_754 g => ?_)
                      obtain ⟨x_755, h_756, hF_757⟩ := hp
                      have hG_758 := dOK.frame hMr_754 go_.2.2.2.1 mq3_ kq3_ (by decide) (by decide) hG_752
                      have hG_759 := eOK.frame hMr_754 go_.2.2.2.1 mq2_ kq2_ (by decide) (by decide) hG_753
                      have g := g.more hF_757
                      refine lv_iload_n hx hb dX2_readArguments_180 rfl (lv_at hl 2 rfl) ?_
                      refine lv_aload_n hx hb dX2_readArguments_181 rfl (lv_at hl 4 rfl) ?_
                      refine g_getk (C := RX2) (T := TX2) (N := 16) hx hb hts (mc_ inX2) hown hK g rfl 14 (by decide) rfl (hts _ (List.mem_cons_of_mem _ t_430)) (fun _ h9 => h9) 3 rfl dX2_readArguments_182 ?_
                      refine lv_icmp_ge (tgt := 199) hx hb dX2_readArguments_185 (by decide) (fun c_760 => ?_) (fun c_760 => ?_)
                      · have fc_760 := le_f c_760
                        refine lv_aload_n hx hb dX2_readArguments_199 rfl (lv_at hl 4 rfl) ?_
                        refine g_getk (C := RX2) (T := TX2) (N := 16) hx hb hts (mc_ inX2) hown hK g rfl 3 (by decide) rfl (hts _ (List.mem_cons_of_mem _ t_419)) (fun _ h9 => h9) 7 rfl dX2_readArguments_200 ?_
                        refine lv_aload_n hx hb dX2_readArguments_203 rfl (lv_at hl 4 rfl) ?_
                        refine g_geti (C := RX2) (T := TX2) (N := 16) hx hb hts (mc_ inX2) hown hK g ma0_ ka0_ (by decide) rfl 12 (by decide) rfl (hts _ (List.mem_cons_of_mem _ t_428)) (fun _ h9 => h9) rfl dX2_readArguments_204 (fun x_761 bx_761 g => ?_)
                        refine lv_aload_n hx hb dX2_readArguments_207 rfl (lv_at hl 4 rfl) ?_
                        refine g_geti (C := RX2) (T := TX2) (N := 16) hx hb hts (mc_ inX2) hown hK g ma0_ ka0_ (by decide) rfl 13 (by decide) rfl (hts _ (List.mem_cons_of_mem _ t_429)) (fun _ h9 => h9) rfl dX2_readArguments_208 (fun x_762 bx_762 g => ?_)
                        obtain ⟨a_763, ma_763, ka_763, g⟩ := g_factr g mq3_ kq3_ (by decide) 4 rfl
                        obtain ⟨a_764, ma_764, ka_764, g⟩ := g_factr g mq3_ kq3_ (by decide) 5 rfl
                        obtain ⟨x_765, bx_765, g⟩ := g_facti g mq3_ kq3_ (by decide) 6 rfl
                        have go_ := g
                        refine g_callv (va_runV (As := [.int x_761, .int x_762]) (rest := []) ⟨hx, hb, hml, hown, hts⟩ (r_X7_emitF l dC dI L kd tys fr_754 H.size g.2.2.2.1 q3_ mq3_ kq3_ a_763 ma_763 ka_763 a_764 ma_764 ka_764 x_765 bx_765 T_ hG_758 x_761 x_762 (g.fcts [2, 1, 0] rfl)) (cwV 2 hts (gV_ t_1301 t_1204 t_1205 t_191 t_1206) rfl rfl rfl (by decide +kernel) ⟨(Nat.le_of_ble_eq_true rfl), (Nat.le_of_ble_eq_true rfl)⟩) (pre3V g hK mq3_ kq3_ (by decide) (q := (RX7, TX7, 19)) rfl) rfl rfl hl.1 rfl (lv_room (Nat.le_of_ble_eq_true rfl)) dX2_readArguments_211 ⟨(Nat.le_of_ble_eq_true rfl), (Nat.le_of_ble_eq_true rfl)⟩) g hK (by decide) (by decide) (fx' := [(7, 5, q3_, .ref a_764), (7, 4, q3_, .ref a_763), (2, 13, a0_, .int x_762), (2, 12, a0_, .int x_761), (8, 6, q0_, .int x_755), (8, 8, q0_, .int x_492), (0, 2, q2_, .ref q3_), (2, 14, a0_, .int x_17), (2, 0, a0_, .ref q0_), (2, 1, a0_, .ref q1_), (2, 2, a0_, .ref q2_), (2, 3, a0_, .ref q3_), (0, 0, q2_, .ref q0_), (0, 1, q2_, .ref q1_), (5, 0, q1_, .ref q3_), (5, 1, q1_, .ref q7_)]) rfl (fun fr_766 H locs hp hMr_766 g => ?_)
                        obtain ⟨hG_767, x_768, h_769, hF_770⟩ := hp
                        have hG_771 := eOK.frame hMr_766 go_.2.2.2.1 mq2_ kq2_ (by decide) (by decide) hG_759
                        have g := g.more hF_770
                        refine lv_aload_n hx hb dX2_readArguments_214 rfl (lv_at hl 4 rfl) ?_
                        refine g_getk (C := RX2) (T := TX2) (N := 16) hx hb hts (mc_ inX2) hown hK g rfl 3 (by decide) rfl (hts _ (List.mem_cons_of_mem _ t_419)) (fun _ h9 => h9) 12 rfl dX2_readArguments_215 ?_
                        refine lv_bipush (v := 22) hx hb dX2_readArguments_218 (by decide) ?_
                        refine lv_iconst (v := 0) hx hb dX2_readArguments_220 (by decide) ?_
                        have go_ := g
                        refine g_callv (va_runV (As := [.int 22, .int 0]) (rest := []) ⟨hx, hb, hml, hown, hts⟩ (r_X7_emitF l dC dI L kd tys fr_766 H.size g.2.2.2.1 q3_ mq3_ kq3_ a_763 ma_763 ka_763 a_764 ma_764 ka_764 x_768 h_769 T_ hG_767 (22 : Int32) (0 : Int32) (g.fcts [2, 1, 0] rfl)) (cwV 2 hts (gV_ t_1301 t_1204 t_1205 t_191 t_1206) rfl rfl rfl (by decide +kernel) ⟨(Nat.le_of_ble_eq_true rfl), (Nat.le_of_ble_eq_true rfl)⟩) (pre3V g hK mq3_ kq3_ (by decide) (q := (RX7, TX7, 19)) rfl) rfl rfl hl.1 rfl (lv_room (Nat.le_of_ble_eq_true rfl)) dX2_readArguments_221 ⟨(Nat.le_of_ble_eq_true rfl), (Nat.le_of_ble_eq_true rfl)⟩) g hK (by decide) (by decide) (fx' := [(7, 5, q3_, .ref a_764), (7, 4, q3_, .ref a_763), (2, 13, a0_, .int x_762), (2, 12, a0_, .int x_761), (8, 6, q0_, .int x_755), (8, 8, q0_, .int x_492), (0, 2, q2_, .ref q3_), (2, 14, a0_, .int x_17), (2, 0, a0_, .ref q0_), (2, 1, a0_, .ref q1_), (2, 2, a0_, .ref q2_), (2, 3, a0_, .ref q3_), (0, 0, q2_, .ref q0_), (0, 1, q2_, .ref q1_), (5, 0, q1_, .ref q3_), (5, 1, q1_, .ref q7_)]) rfl (fun fr_772 H locs hp hMr_772 g => ?_)
                        obtain ⟨hG_773, x_774, h_775, hF_776⟩ := hp
                        have hG_777 := eOK.frame hMr_772 go_.2.2.2.1 mq2_ kq2_ (by decide) (by decide) hG_771
                        have g := g.more hF_776
                        refine lv_aload_n hx hb dX2_readArguments_224 rfl (lv_at hl 4 rfl) ?_
                        refine g_getk (C := RX2) (T := TX2) (N := 16) hx hb hts (mc_ inX2) hown hK g rfl 0 (by decide) rfl (hts _ (List.mem_cons_of_mem _ t_416)) (fun _ h9 => h9) 9 rfl dX2_readArguments_225 ?_
                        refine lv_bipush (v := 59) hx hb dX2_readArguments_228 (by decide) ?_
                        have go_ := g
                        refine g_callv (va_runV (As := [.int 59]) (rest := []) ⟨hx, hb, hml, hown, hts⟩ (r_X8_take_2 l dC dI L kd tys fr_772 H.size g.2.2.2.1 q0_ mq0_ kq0_ 59 x_755 h_756 x_492 h_493 (g.fcts [5, 6] rfl)) (cwV 1 hts (gV_ t_1098 t_1099 t_1100 t_184 t_1101) rfl rfl rfl (by decide +kernel) ⟨(Nat.le_of_ble_eq_true rfl), (Nat.le_of_ble_eq_true rfl)⟩) (pre3V g hK mq0_ kq0_ (by decide) (q := (RX8, TX8, 10)) rfl) rfl rfl hl.1 rfl (lv_room (Nat.le_of_ble_eq_true rfl)) dX2_readArguments_230 ⟨(Nat.le_of_ble_eq_true rfl), (Nat.le_of_ble_eq_true rfl)⟩) g hK (by decide) (by decide) (fx' := [(7, 6, q3_, .int x_774), (7, 5, q3_, .ref a_764), (7, 4, q3_, .ref a_763), (2, 13, a0_, .int x_762), (2, 12, a0_, .int x_761), (8, 8, q0_, .int x_492), (0, 2, q2_, .ref q3_), (2, 14, a0_, .int x_17), (2, 0, a0_, .ref q0_), (2, 1, a0_, .ref q1_), (2, 2, a0_, .ref q2_), (2, 3, a0_, .ref q3_), (0, 0, q2_, .ref q0_), (0, 1, q2_, .ref q1_), (5, 0, q1_, .ref q3_), (5, 1, q1_, .ref q7_)]) rfl (fun fr_778 H locs hp hMr_778 g => ?_)
                        obtain ⟨x_779, h_780, hF_781⟩ := hp
                        have hG_782 := dOK.frame hMr_778 go_.2.2.2.1 mq3_ kq3_ (by decide) (by decide) hG_773
                        have hG_783 := eOK.frame hMr_778 go_.2.2.2.1 mq2_ kq2_ (by decide) (by decide) hG_777
                        have g := g.more hF_781
                        subst hQ
                        exact W.vret hx hb hr (fun t ht hW => ⟨⟨_, rfl, Or.inr (⟨hG_782, hG_783, x_779, h_780, x_492, h_493, (g.fcts [0, 6] rfl)⟩), q3_of g hK ht hW⟩, g.2.2.1.F ht⟩) g.2.2.1.2.2 dX2_readArguments_233
                      · have fc_760 := nle_f c_760
                        have b_784 : bd (-2147483648) 2147483646 y_677 := ltL fc_760 (bdT y_677) (bdT x_17) (by decide)
                        have b_785 : bd (-2147483647) 2147483647 x_17 := ltR fc_760 (bdT y_677) (bdT x_17) (by decide)
                        refine lv_aload_n hx hb dX2_readArguments_188 rfl (lv_at hl 4 rfl) ?_
                        refine g_getk (C := RX2) (T := TX2) (N := 16) hx hb hts (mc_ inX2) hown hK g rfl 0 (by decide) rfl (hts _ (List.mem_cons_of_mem _ t_416)) (fun _ h9 => h9) 4 rfl dX2_readArguments_189 ?_
                        refine lv_bipush (v := 6) hx hb dX2_readArguments_192 (by decide) ?_
                        refine lv_iload hx hb dX2_readArguments_194 (lv_at hl 0 rfl) ?_
                        have kb_6 : bd 6 6 (6 : Int32) := ⟨by decide, by decide⟩
                        have go_ := g
                        refine g_callv (va_runV (As := [.int 6, .int r_751]) (rest := []) ⟨hx, hb, hml, hown, hts⟩ (r_X8_fail_2 l dC dI L kd tys fr_754 H.size g.2.2.2.1 q0_ mq0_ kq0_ 6 (bd_sub kb_6 (by decide)) r_751 x_492 h_493 (g.fcts [1] rfl)) (cwV 2 hts (gV_ t_1122 t_1107 t_1108 t_184 t_1109) rfl rfl rfl (by decide +kernel) ⟨(Nat.le_of_ble_eq_true rfl), (Nat.le_of_ble_eq_true rfl)⟩) (pre3V g hK mq0_ kq0_ (by decide) (q := (RX8, TX8, 10)) rfl) rfl rfl hl.1 rfl (lv_room (Nat.le_of_ble_eq_true rfl)) dX2_readArguments_196 ⟨(Nat.le_of_ble_eq_true rfl), (Nat.le_of_ble_eq_true rfl)⟩) g hK (by decide) (by decide) (fx' := [(8, 8, q0_, .int x_492), (0, 2, q2_, .ref q3_), (2, 14, a0_, .int x_17), (2, 0, a0_, .ref q0_), (2, 1, a0_, .ref q1_), (2, 2, a0_, .ref q2_), (2, 3, a0_, .ref q3_), (0, 0, q2_, .ref q0_), (0, 1, q2_, .ref q1_), (5, 0, q1_, .ref q3_), (5, 1, q1_, .ref q7_)]) rfl (fun fr_786 H locs hp hMr_786 g => ?_)
                        have hF_787 := hp
                        have hG_788 := dOK.frame hMr_786 go_.2.2.2.1 mq3_ kq3_ (by decide) (by decide) hG_758
                        have hG_789 := eOK.frame hMr_786 go_.2.2.2.1 mq2_ kq2_ (by decide) (by decide) hG_759
                        have g := g.more hF_787
                        refine lv_aload_n hx hb dX2_readArguments_199 rfl (lv_at hl 4 rfl) ?_
                        refine g_getk (C := RX2) (T := TX2) (N := 16) hx hb hts (mc_ inX2) hown hK g rfl 3 (by decide) rfl (hts _ (List.mem_cons_of_mem _ t_419)) (fun _ h9 => h9) 7 rfl dX2_readArguments_200 ?_
                        refine lv_aload_n hx hb dX2_readArguments_203 rfl (lv_at hl 4 rfl) ?_
                        refine g_geti (C := RX2) (T := TX2) (N := 16) hx hb hts (mc_ inX2) hown hK g ma0_ ka0_ (by decide) rfl 12 (by decide) rfl (hts _ (List.mem_cons_of_mem _ t_428)) (fun _ h9 => h9) rfl dX2_readArguments_204 (fun x_790 bx_790 g => ?_)
                        refine lv_aload_n hx hb dX2_readArguments_207 rfl (lv_at hl 4 rfl) ?_
                        refine g_geti (C := RX2) (T := TX2) (N := 16) hx hb hts (mc_ inX2) hown hK g ma0_ ka0_ (by decide) rfl 13 (by decide) rfl (hts _ (List.mem_cons_of_mem _ t_429)) (fun _ h9 => h9) rfl dX2_readArguments_208 (fun x_791 bx_791 g => ?_)
                        obtain ⟨a_792, ma_792, ka_792, g⟩ := g_factr g mq3_ kq3_ (by decide) 4 rfl
                        obtain ⟨a_793, ma_793, ka_793, g⟩ := g_factr g mq3_ kq3_ (by decide) 5 rfl
                        obtain ⟨x_794, bx_794, g⟩ := g_facti g mq3_ kq3_ (by decide) 6 rfl
                        have go_ := g
                        refine g_callv (va_runV (As := [.int x_790, .int x_791]) (rest := []) ⟨hx, hb, hml, hown, hts⟩ (r_X7_emitF l dC dI L kd tys fr_786 H.size g.2.2.2.1 q3_ mq3_ kq3_ a_792 ma_792 ka_792 a_793 ma_793 ka_793 x_794 bx_794 T_ hG_788 x_790 x_791 (g.fcts [2, 1, 0] rfl)) (cwV 2 hts (gV_ t_1301 t_1204 t_1205 t_191 t_1206) rfl rfl rfl (by decide +kernel) ⟨(Nat.le_of_ble_eq_true rfl), (Nat.le_of_ble_eq_true rfl)⟩) (pre3V g hK mq3_ kq3_ (by decide) (q := (RX7, TX7, 19)) rfl) rfl rfl hl.1 rfl (lv_room (Nat.le_of_ble_eq_true rfl)) dX2_readArguments_211 ⟨(Nat.le_of_ble_eq_true rfl), (Nat.le_of_ble_eq_true rfl)⟩) g hK (by decide) (by decide) (fx' := [(7, 5, q3_, .ref a_793), (7, 4, q3_, .ref a_792), (2, 13, a0_, .int x_791), (2, 12, a0_, .int x_790), (8, 6, q0_, .int 1201), (8, 8, q0_, .int x_492), (0, 2, q2_, .ref q3_), (2, 14, a0_, .int x_17), (2, 0, a0_, .ref q0_), (2, 1, a0_, .ref q1_), (2, 2, a0_, .ref q2_), (2, 3, a0_, .ref q3_), (0, 0, q2_, .ref q0_), (0, 1, q2_, .ref q1_), (5, 0, q1_, .ref q3_), (5, 1, q1_, .ref q7_)]) rfl (fun fr_795 H locs hp hMr_795 g => ?_)
                        obtain ⟨hG_796, x_797, h_798, hF_799⟩ := hp
                        have hG_800 := eOK.frame hMr_795 go_.2.2.2.1 mq2_ kq2_ (by decide) (by decide) hG_789
                        have g := g.more hF_799
                        refine lv_aload_n hx hb dX2_readArguments_214 rfl (lv_at hl 4 rfl) ?_
                        refine g_getk (C := RX2) (T := TX2) (N := 16) hx hb hts (mc_ inX2) hown hK g rfl 3 (by decide) rfl (hts _ (List.mem_cons_of_mem _ t_419)) (fun _ h9 => h9) 12 rfl dX2_readArguments_215 ?_
                        refine lv_bipush (v := 22) hx hb dX2_readArguments_218 (by decide) ?_
                        refine lv_iconst (v := 0) hx hb dX2_readArguments_220 (by decide) ?_
                        have go_ := g
                        refine g_callv (va_runV (As := [.int 22, .int 0]) (rest := []) ⟨hx, hb, hml, hown, hts⟩ (r_X7_emitF l dC dI L kd tys fr_795 H.size g.2.2.2.1 q3_ mq3_ kq3_ a_792 ma_792 ka_792 a_793 ma_793 ka_793 x_797 h_798 T_ hG_796 (22 : Int32) (0 : Int32) (g.fcts [2, 1, 0] rfl)) (cwV 2 hts (gV_ t_1301 t_1204 t_1205 t_191 t_1206) rfl rfl rfl (by decide +kernel) ⟨(Nat.le_of_ble_eq_true rfl), (Nat.le_of_ble_eq_true rfl)⟩) (pre3V g hK mq3_ kq3_ (by decide) (q := (RX7, TX7, 19)) rfl) rfl rfl hl.1 rfl (lv_room (Nat.le_of_ble_eq_true rfl)) dX2_readArguments_221 ⟨(Nat.le_of_ble_eq_true rfl), (Nat.le_of_ble_eq_true rfl)⟩) g hK (by decide) (by decide) (fx' := [(7, 5, q3_, .ref a_793), (7, 4, q3_, .ref a_792), (2, 13, a0_, .int x_791), (2, 12, a0_, .int x_790), (8, 6, q0_, .int 1201), (8, 8, q0_, .int x_492), (0, 2, q2_, .ref q3_), (2, 14, a0_, .int x_17), (2, 0, a0_, .ref q0_), (2, 1, a0_, .ref q1_), (2, 2, a0_, .ref q2_), (2, 3, a0_, .ref q3_), (0, 0, q2_, .ref q0_), (0, 1, q2_, .ref q1_), (5, 0, q1_, .ref q3_), (5, 1, q1_, .ref q7_)]) rfl (fun fr_801 H locs hp hMr_801 g => ?_)
                        obtain ⟨hG_802, x_803, h_804, hF_805⟩ := hp
                        have hG_806 := eOK.frame hMr_801 go_.2.2.2.1 mq2_ kq2_ (by decide) (by decide) hG_800
                        have g := g.more hF_805
                        refine lv_aload_n hx hb dX2_readArguments_224 rfl (lv_at hl 4 rfl) ?_
                        refine g_getk (C := RX2) (T := TX2) (N := 16) hx hb hts (mc_ inX2) hown hK g rfl 0 (by decide) rfl (hts _ (List.mem_cons_of_mem _ t_416)) (fun _ h9 => h9) 9 rfl dX2_readArguments_225 ?_
                        refine lv_bipush (v := 59) hx hb dX2_readArguments_228 (by decide) ?_
                        have kb_1201 : bd 1201 1201 (1201 : Int32) := ⟨by decide, by decide⟩
                        have go_ := g
                        refine g_callv (va_runV (As := [.int 59]) (rest := []) ⟨hx, hb, hml, hown, hts⟩ (r_X8_take_2 l dC dI L kd tys fr_801 H.size g.2.2.2.1 q0_ mq0_ kq0_ 59 1201 kb_1201 x_492 h_493 (g.fcts [5, 6] rfl)) (cwV 1 hts (gV_ t_1098 t_1099 t_1100 t_184 t_1101) rfl rfl rfl (by decide +kernel) ⟨(Nat.le_of_ble_eq_true rfl), (Nat.le_of_ble_eq_true rfl)⟩) (pre3V g hK mq0_ kq0_ (by decide) (q := (RX8, TX8, 10)) rfl) rfl rfl hl.1 rfl (lv_room (Nat.le_of_ble_eq_true rfl)) dX2_readArguments_230 ⟨(Nat.le_of_ble_eq_true rfl), (Nat.le_of_ble_eq_true rfl)⟩) g hK (by decide) (by decide) (fx' := [(7, 6, q3_, .int x_803), (7, 5, q3_, .ref a_793), (7, 4, q3_, .ref a_792), (2, 13, a0_, .int x_791), (2, 12, a0_, .int x_790), (8, 8, q0_, .int x_492), (0, 2, q2_, .ref q3_), (2, 14, a0_, .int x_17), (2, 0, a0_, .ref q0_), (2, 1, a0_, .ref q1_), (2, 2, a0_, .ref q2_), (2, 3, a0_, .ref q3_), (0, 0, q2_, .ref q0_), (0, 1, q2_, .ref q1_), (5, 0, q1_, .ref q3_), (5, 1, q1_, .ref q7_)]) rfl (fun fr_807 H locs hp hMr_807 g => ?_)
                        obtain ⟨x_808, h_809, hF_810⟩ := hp
                        have hG_811 := dOK.frame hMr_807 go_.2.2.2.1 mq3_ kq3_ (by decide) (by decide) hG_802
                        have hG_812 := eOK.frame hMr_807 go_.2.2.2.1 mq2_ kq2_ (by decide) (by decide) hG_806
                        have g := g.more hF_810
                        subst hQ
                        exact W.vret hx hb hr (fun t ht hW => ⟨⟨_, rfl, Or.inr (⟨hG_811, hG_812, x_808, h_809, x_492, h_493, (g.fcts [0, 6] rfl)⟩), q3_of g hK ht hW⟩, g.2.2.1.F ht⟩) g.2.2.1.2.2 dX2_readArguments_233
        have kb_1 : bd 1 1 (1 : Int32) := ⟨by decide, by decide⟩
        have hl9 := lv_sub hl [0, 1, 2, 3, 4] (by rfl : lv_pick [(4, .int 0), (3, .int 1), (2, .int 0), (1, .int r_1), (0, .ref a0_)] [0, 1, 2, 3, 4] = [(4, .int 0), (3, .int 1), (2, .int 0), (1, .int r_1), (0, .ref a0_)])
        have g9 := g.sub (fx' := [(2, 14, a0_, .int x_17), (8, 8, q0_, .int y0_), (2, 0, a0_, .ref q0_), (2, 1, a0_, .ref q1_), (2, 2, a0_, .ref q2_), (2, 3, a0_, .ref q3_), (0, 0, q2_, .ref q0_), (0, 1, q2_, .ref q1_), (5, 0, q1_, .ref q3_), (5, 1, q1_, .ref q7_)]) [0, 2, 3, 4, 5, 6, 7, 8, 9, 10] rfl
        exact loop_175 (11) 0 1 0 (bd_sub kb_0 (by decide)) (bd_sub kb_1 (by decide)) (by have h9_0 := h_8; unfold bd at h9_0; have h9_1 := kb_0; unfold bd at h9_1; have h9_2 := kb_1; unfold bd at h9_2; have h9_3 := kb_41; unfold bd at h9_3; omega) _ _ _ _ g9 hG_20 hG_21 hG_22 hG_23 hl9
    · have fc_18 := eq_f c_18
      have b_813 : bd 0 0 x_17 := eqX fc_18 (bdT x_17) kb_0 (by decide)
      refine lv_aload_n hx hb dX2_readArguments_24 rfl (lv_at hl 1 rfl) ?_
      refine g_getk (C := RX2) (T := TX2) (N := 16) hx hb hts (mc_ inX2) hown hK g rfl 0 (by decide) rfl (hts _ (List.mem_cons_of_mem _ t_416)) (fun _ h9 => h9) 3 rfl dX2_readArguments_25 ?_
      have go_ := g
      refine g_calli (va_runV (As := []) (rest := []) ⟨hx, hb, hml, hown, hts⟩ (r_X8_kind l dC dI L kd tys fr_6 H.size g.2.2.2.1 q0_ mq0_ kq0_) (cwV 0 hts (gV_ t_1118 t_1119 t_1120 t_184 t_1121) rfl rfl rfl (by decide +kernel) ⟨(Nat.le_of_ble_eq_true rfl), (Nat.le_of_ble_eq_true rfl)⟩) (pre3V g hK mq0_ kq0_ (by decide) (q := (RX8, TX8, 10)) rfl) rfl rfl hl.1 rfl (lv_room (Nat.le_of_ble_eq_true rfl)) dX2_readArguments_28 ⟨(Nat.le_of_ble_eq_true rfl), (Nat.le_of_ble_eq_true rfl)⟩) g hK (by decide) (by decide) (fx' := [(2, 14, a0_, .int x_17), (8, 6, q0_, .int x_7), (8, 8, q0_, .int y0_), (2, 0, a0_, .ref q0_), (2, 1, a0_, .ref q1_), (2, 2, a0_, .ref q2_), (2, 3, a0_, .ref q3_), (0, 0, q2_, .ref q0_), (0, 1, q2_, .ref q1_), (5, 0, q1_, .ref q3_), (5, 1, q1_, .ref q7_)]) rfl (fun r_814 fr_814 H locs hp hMr_814 g => ?_)
      have hG_815 := cOK.frame hMr_814 go_.2.2.2.1 mq3_ kq3_ (by decide) (by decide) hG_13
      have hG_816 := dOK.frame hMr_814 go_.2.2.2.1 mq3_ kq3_ (by decide) (by decide) hG_14
      have hG_817 := jS.frame hMr_814 go_.2.2.2.1 mq3_ kq3_ (by decide) (by decide) hG_15
      have hG_818 := eOK.frame hMr_814 go_.2.2.2.1 mq2_ kq2_ (by decide) (by decide) hG_16
      refine lv_bipush (v := 41) hx hb dX2_readArguments_31 (by decide) ?_
      have kb_41 : bd 41 41 (41 : Int32) := ⟨by decide, by decide⟩
      refine lv_icmp_eq (tgt := 46) hx hb dX2_readArguments_33 (by decide) (fun c_819 => ?_) (fun c_819 => ?_)
      · have fc_819 := eq_f c_819
        have b_820 : bd 41 41 r_814 := eqX fc_819 (bdT r_814) kb_41 (by decide)
        refine lv_iconst (v := 0) hx hb dX2_readArguments_46 (by decide) ?_
        refine lv_istore_n (lv' := [(2, .int 0), (1, .int r_1), (0, .ref a0_)]) hx hb dX2_readArguments_47 rfl hl (by decide) rfl (fun ls hl => ?_)
        refine lv_aload_n hx hb dX2_readArguments_48 rfl (lv_at hl 2 rfl) ?_
        refine g_getk (C := RX2) (T := TX2) (N := 16) hx hb hts (mc_ inX2) hown hK g rfl 0 (by decide) rfl (hts _ (List.mem_cons_of_mem _ t_416)) (fun _ h9 => h9) 3 rfl dX2_readArguments_49 ?_
        have go_ := g
        refine g_calli (va_runV (As := []) (rest := []) ⟨hx, hb, hml, hown, hts⟩ (r_X8_kind l dC dI L kd tys fr_814 H.size g.2.2.2.1 q0_ mq0_ kq0_) (cwV 0 hts (gV_ t_1118 t_1119 t_1120 t_184 t_1121) rfl rfl rfl (by decide +kernel) ⟨(Nat.le_of_ble_eq_true rfl), (Nat.le_of_ble_eq_true rfl)⟩) (pre3V g hK mq0_ kq0_ (by decide) (q := (RX8, TX8, 10)) rfl) rfl rfl hl.1 rfl (lv_room (Nat.le_of_ble_eq_true rfl)) dX2_readArguments_52 ⟨(Nat.le_of_ble_eq_true rfl), (Nat.le_of_ble_eq_true rfl)⟩) g hK (by decide) (by decide) (fx' := [(2, 14, a0_, .int x_17), (8, 6, q0_, .int x_7), (8, 8, q0_, .int y0_), (2, 0, a0_, .ref q0_), (2, 1, a0_, .ref q1_), (2, 2, a0_, .ref q2_), (2, 3, a0_, .ref q3_), (0, 0, q2_, .ref q0_), (0, 1, q2_, .ref q1_), (5, 0, q1_, .ref q3_), (5, 1, q1_, .ref q7_)]) rfl (fun r_821 fr_821 H locs hp hMr_821 g => ?_)
        have hG_822 := cOK.frame hMr_821 go_.2.2.2.1 mq3_ kq3_ (by decide) (by decide) hG_815
        have hG_823 := dOK.frame hMr_821 go_.2.2.2.1 mq3_ kq3_ (by decide) (by decide) hG_816
        have hG_824 := jS.frame hMr_821 go_.2.2.2.1 mq3_ kq3_ (by decide) (by decide) hG_817
        have hG_825 := eOK.frame hMr_821 go_.2.2.2.1 mq2_ kq2_ (by decide) (by decide) hG_818
        refine lv_bipush (v := 41) hx hb dX2_readArguments_55 (by decide) ?_
        refine lv_icmp_eq (tgt := 64) hx hb dX2_readArguments_57 (by decide) (fun c_826 => ?_) (fun c_826 => ?_)
        · have fc_826 := eq_f c_826
          have b_827 : bd 41 41 r_821 := eqX fc_826 (bdT r_821) kb_41 (by decide)
          refine lv_iconst (v := 0) hx hb dX2_readArguments_64 (by decide) ?_
          refine lv_istore_n (lv' := [(3, .int 0), (2, .int 0), (1, .int r_1), (0, .ref a0_)]) hx hb dX2_readArguments_65 rfl hl (by decide) rfl (fun ls hl => ?_)
          refine lv_iconst (v := 0) hx hb dX2_readArguments_66 (by decide) ?_
          refine lv_istore (lv' := [(4, .int 0), (3, .int 0), (2, .int 0), (1, .int r_1), (0, .ref a0_)]) hx hb dX2_readArguments_67 hl (by decide) rfl (fun ls hl => ?_)
          refine lv_iload hx hb dX2_readArguments_69 (lv_at hl 0 rfl) ?_
          refine lv_iconst (v := 3) hx hb dX2_readArguments_71 (by decide) ?_
          refine lv_icmp_gt (tgt := 162) hx hb dX2_readArguments_72 (by decide) (fun c_ => absurd c_ (by decide)) (fun c_ => ?_)
          refine lv_iload_n hx hb dX2_readArguments_75 rfl (lv_at hl 1 rfl) ?_
          refine lv_if_eq (tgt := 162) hx hb dX2_readArguments_76 (by decide) (fun c_ => ?_) (fun c_ => absurd (by decide) c_)
          refine lv_aload_n hx hb dX2_readArguments_162 rfl (lv_at hl 4 rfl) ?_
          refine g_getk (C := RX2) (T := TX2) (N := 16) hx hb hts (mc_ inX2) hown hK g rfl 0 (by decide) rfl (hts _ (List.mem_cons_of_mem _ t_416)) (fun _ h9 => h9) 3 rfl dX2_readArguments_163 ?_
          have go_ := g
          refine g_calli (va_runV (As := []) (rest := []) ⟨hx, hb, hml, hown, hts⟩ (r_X8_place l dC dI L kd tys fr_821 H.size g.2.2.2.1 q0_ mq0_ kq0_) (cwV 0 hts (gV_ t_1110 t_1111 t_1112 t_184 t_1113) rfl rfl rfl (by decide +kernel) ⟨(Nat.le_of_ble_eq_true rfl), (Nat.le_of_ble_eq_true rfl)⟩) (pre3V g hK mq0_ kq0_ (by decide) (q := (RX8, TX8, 10)) rfl) rfl rfl hl.1 rfl (lv_room (Nat.le_of_ble_eq_true rfl)) dX2_readArguments_166 ⟨(Nat.le_of_ble_eq_true rfl), (Nat.le_of_ble_eq_true rfl)⟩) g hK (by decide) (by decide) (fx' := [(2, 14, a0_, .int x_17), (8, 6, q0_, .int x_7), (8, 8, q0_, .int y0_), (2, 0, a0_, .ref q0_), (2, 1, a0_, .ref q1_), (2, 2, a0_, .ref q2_), (2, 3, a0_, .ref q3_), (0, 0, q2_, .ref q0_), (0, 1, q2_, .ref q1_), (5, 0, q1_, .ref q3_), (5, 1, q1_, .ref q7_)]) rfl (fun r_828 fr_828 H locs hp hMr_828 g => ?_)
          have hG_829 := cOK.frame hMr_828 go_.2.2.2.1 mq3_ kq3_ (by decide) (by decide) hG_822
          have hG_830 := dOK.frame hMr_828 go_.2.2.2.1 mq3_ kq3_ (by decide) (by decide) hG_823
          have hG_831 := jS.frame hMr_828 go_.2.2.2.1 mq3_ kq3_ (by decide) (by decide) hG_824
          have hG_832 := eOK.frame hMr_828 go_.2.2.2.1 mq2_ kq2_ (by decide) (by decide) hG_825
          refine lv_istore (lv' := [(4, .int r_828), (3, .int 0), (2, .int 0), (1, .int r_1), (0, .ref a0_)]) hx hb dX2_readArguments_169 hl (by decide) rfl (fun ls hl => ?_)
          refine lv_aload_n hx hb dX2_readArguments_171 rfl (lv_at hl 4 rfl) ?_
          refine g_getk (C := RX2) (T := TX2) (N := 16) hx hb hts (mc_ inX2) hown hK g rfl 0 (by decide) rfl (hts _ (List.mem_cons_of_mem _ t_416)) (fun _ h9 => h9) 3 rfl dX2_readArguments_172 ?_
          refine lv_bipush (v := 41) hx hb dX2_readArguments_175 (by decide) ?_
          have go_ := g
          refine g_callv (va_runV (As := [.int 41]) (rest := []) ⟨hx, hb, hml, hown, hts⟩ (r_X8_take l dC dI L kd tys fr_828 H.size g.2.2.2.1 q0_ mq0_ kq0_ 41 y0_ by0_ (g.fcts [2] rfl)) (cwV 1 hts (gV_ t_1098 t_1099 t_1100 t_184 t_1101) rfl rfl rfl (by decide +kernel) ⟨(Nat.le_of_ble_eq_true rfl), (Nat.le_of_ble_eq_true rfl)⟩) (pre3V g hK mq0_ kq0_ (by decide) (q := (RX8, TX8, 10)) rfl) rfl rfl hl.1 rfl (lv_room (Nat.le_of_ble_eq_true rfl)) dX2_readArguments_177 ⟨(Nat.le_of_ble_eq_true rfl), (Nat.le_of_ble_eq_true rfl)⟩) g hK (by decide) (by decide) (fx' := [(2, 14, a0_, .int x_17), (2, 0, a0_, .ref q0_), (2, 1, a0_, .ref q1_), (2, 2, a0_, .ref q2_), (2, 3, a0_, .ref q3_), (0, 0, q2_, .ref q0_), (0, 1, q2_, .ref q1_), (5, 0, q1_, .ref q3_), (5, 1, q1_, .ref q7_)]) rfl (fun fr_833 H locs hp hMr_833 g => ?_)
          rcases hp with ⟨x_834, h_835, hF_836⟩ | ⟨x_837, h_838, hF_839⟩
          · have hG_840 := cOK.frame hMr_833 go_.2.2.2.1 mq3_ kq3_ (by decide) (by decide) hG_829
            have hG_841 := dOK.frame hMr_833 go_.2.2.2.1 mq3_ kq3_ (by decide) (by decide) hG_830
            have hG_842 := jS.frame hMr_833 go_.2.2.2.1 mq3_ kq3_ (by decide) (by decide) hG_831
            have hG_843 := eOK.frame hMr_833 go_.2.2.2.1 mq2_ kq2_ (by decide) (by decide) hG_832
            have g := g.more hF_836
            refine lv_iload_n hx hb dX2_readArguments_180 rfl (lv_at hl 2 rfl) ?_
            refine lv_aload_n hx hb dX2_readArguments_181 rfl (lv_at hl 4 rfl) ?_
            refine g_getk (C := RX2) (T := TX2) (N := 16) hx hb hts (mc_ inX2) hown hK g rfl 14 (by decide) rfl (hts _ (List.mem_cons_of_mem _ t_430)) (fun _ h9 => h9) 2 rfl dX2_readArguments_182 ?_
            refine lv_icmp_ge (tgt := 199) hx hb dX2_readArguments_185 (by decide) (fun c_844 => ?_) (fun c_844 => ?_)
            · have fc_844 := le_f c_844
              refine lv_aload_n hx hb dX2_readArguments_199 rfl (lv_at hl 4 rfl) ?_
              refine g_getk (C := RX2) (T := TX2) (N := 16) hx hb hts (mc_ inX2) hown hK g rfl 3 (by decide) rfl (hts _ (List.mem_cons_of_mem _ t_419)) (fun _ h9 => h9) 6 rfl dX2_readArguments_200 ?_
              refine lv_aload_n hx hb dX2_readArguments_203 rfl (lv_at hl 4 rfl) ?_
              refine g_geti (C := RX2) (T := TX2) (N := 16) hx hb hts (mc_ inX2) hown hK g ma0_ ka0_ (by decide) rfl 12 (by decide) rfl (hts _ (List.mem_cons_of_mem _ t_428)) (fun _ h9 => h9) rfl dX2_readArguments_204 (fun x_845 bx_845 g => ?_)
              refine lv_aload_n hx hb dX2_readArguments_207 rfl (lv_at hl 4 rfl) ?_
              refine g_geti (C := RX2) (T := TX2) (N := 16) hx hb hts (mc_ inX2) hown hK g ma0_ ka0_ (by decide) rfl 13 (by decide) rfl (hts _ (List.mem_cons_of_mem _ t_429)) (fun _ h9 => h9) rfl dX2_readArguments_208 (fun x_846 bx_846 g => ?_)
              obtain ⟨a_847, ma_847, ka_847, g⟩ := g_factr g mq3_ kq3_ (by decide) 4 rfl
              obtain ⟨a_848, ma_848, ka_848, g⟩ := g_factr g mq3_ kq3_ (by decide) 5 rfl
              obtain ⟨x_849, bx_849, g⟩ := g_facti g mq3_ kq3_ (by decide) 6 rfl
              have go_ := g
              refine g_callv (va_runV (As := [.int x_845, .int x_846]) (rest := []) ⟨hx, hb, hml, hown, hts⟩ (r_X7_emitN l dC dI L kd tys fr_833 H.size g.2.2.2.1 q3_ mq3_ kq3_ a_847 ma_847 ka_847 a_848 ma_848 ka_848 x_849 bx_849 T_ hG_841 x_845 x_846 (fun j9 => jOK fr_833 q3_ j9) hG_840 (fun _ h9 => h9) ⟨(fun h9 => ⟨(by have h9_0 := b_820; unfold bd at h9_0; have h9_1 := b_827; unfold bd at h9_1; have h9_2 := b_813; unfold bd at h9_2; have h9_3 := h_8; unfold bd at h9_3; have h9_4 := h_835; unfold bd at h9_4; have h9_5 := bx_846; unfold bd at h9_5; have h9_6 := bx_849; unfold bd at h9_6; have h9_7 := by0_; unfold bd at h9_7; have h8_0 := kb_0; unfold bd at h8_0; have h8_1 := kb_41; unfold bd at h8_1; omega), (by have h9_0 := b_820; unfold bd at h9_0; have h9_1 := b_827; unfold bd at h9_1; have h9_2 := b_813; unfold bd at h9_2; have h9_3 := h_8; unfold bd at h9_3; have h9_4 := h_835; unfold bd at h9_4; have h9_5 := bx_846; unfold bd at h9_5; have h9_6 := bx_849; unfold bd at h9_6; have h9_7 := by0_; unfold bd at h9_7; have h8_0 := kb_0; unfold bd at h8_0; have h8_1 := kb_41; unfold bd at h8_1; omega)⟩), (fun h9 => ⟨(by have h9_0 := b_820; unfold bd at h9_0; have h9_1 := b_827; unfold bd at h9_1; have h9_2 := b_813; unfold bd at h9_2; have h9_3 := h_8; unfold bd at h9_3; have h9_4 := h_835; unfold bd at h9_4; have h9_5 := bx_846; unfold bd at h9_5; have h9_6 := bx_849; unfold bd at h9_6; have h9_7 := by0_; unfold bd at h9_7; have h8_0 := kb_0; unfold bd at h8_0; have h8_1 := kb_41; unfold bd at h8_1; omega), (by have h9_0 := b_820; unfold bd at h9_0; have h9_1 := b_827; unfold bd at h9_1; have h9_2 := b_813; unfold bd at h9_2; have h9_3 := h_8; unfold bd at h9_3; have h9_4 := h_835; unfold bd at h9_4; have h9_5 := bx_846; unfold bd at h9_5; have h9_6 := bx_849; unfold bd at h9_6; have h9_7 := by0_; unfold bd at h9_7; have h8_0 := kb_0; unfold bd at h8_0; have h8_1 := kb_41; unfold bd at h8_1; omega)⟩), (fun h9 => ⟨(by have h9_0 := b_820; unfold bd at h9_0; have h9_1 := b_827; unfold bd at h9_1; have h9_2 := b_813; unfold bd at h9_2; have h9_3 := h_8; unfold bd at h9_3; have h9_4 := h_835; unfold bd at h9_4; have h9_5 := bx_846; unfold bd at h9_5; have h9_6 := bx_849; unfold bd at h9_6; have h9_7 := by0_; unfold bd at h9_7; have h8_0 := kb_0; unfold bd at h8_0; have h8_1 := kb_41; unfold bd at h8_1; omega), (by have h9_0 := b_820; unfold bd at h9_0; have h9_1 := b_827; unfold bd at h9_1; have h9_2 := b_813; unfold bd at h9_2; have h9_3 := h_8; unfold bd at h9_3; have h9_4 := h_835; unfold bd at h9_4; have h9_5 := bx_846; unfold bd at h9_5; have h9_6 := bx_849; unfold bd at h9_6; have h9_7 := by0_; unfold bd at h9_7; have h8_0 := kb_0; unfold bd at h8_0; have h8_1 := kb_41; unfold bd at h8_1; omega)⟩)⟩ (g.fcts [2, 1, 0] rfl)) (cwV 2 hts (gV_ t_1301 t_1204 t_1205 t_191 t_1206) rfl rfl rfl (by decide +kernel) ⟨(Nat.le_of_ble_eq_true rfl), (Nat.le_of_ble_eq_true rfl)⟩) (pre3V g hK mq3_ kq3_ (by decide) (q := (RX7, TX7, 19)) rfl) rfl rfl hl.1 rfl (lv_room (Nat.le_of_ble_eq_true rfl)) dX2_readArguments_211 ⟨(Nat.le_of_ble_eq_true rfl), (Nat.le_of_ble_eq_true rfl)⟩) g hK (by decide) (by decide) (fx' := [(7, 5, q3_, .ref a_848), (7, 4, q3_, .ref a_847), (2, 13, a0_, .int x_846), (2, 12, a0_, .int x_845), (8, 6, q0_, .int x_834), (8, 8, q0_, .int y0_), (2, 14, a0_, .int x_17), (2, 0, a0_, .ref q0_), (2, 1, a0_, .ref q1_), (2, 2, a0_, .ref q2_), (2, 3, a0_, .ref q3_), (0, 0, q2_, .ref q0_), (0, 1, q2_, .ref q1_), (5, 0, q1_, .ref q3_), (5, 1, q1_, .ref q7_)]) rfl (fun fr_850 H locs hp hMr_850 g => ?_)
              obtain ⟨hG_851, hG_852, hG_853, hx_854, x_855, h_856, hF_857⟩ := hp
              have hG_858 := eOK.frame hMr_850 go_.2.2.2.1 mq2_ kq2_ (by decide) (by decide) hG_843
              have g := g.more hF_857
              have hs_859 := jS.mv hG_842 hG_853
              refine lv_aload_n hx hb dX2_readArguments_214 rfl (lv_at hl 4 rfl) ?_
              refine g_getk (C := RX2) (T := TX2) (N := 16) hx hb hts (mc_ inX2) hown hK g rfl 3 (by decide) rfl (hts _ (List.mem_cons_of_mem _ t_419)) (fun _ h9 => h9) 11 rfl dX2_readArguments_215 ?_
              refine lv_bipush (v := 22) hx hb dX2_readArguments_218 (by decide) ?_
              refine lv_iconst (v := 0) hx hb dX2_readArguments_220 (by decide) ?_
              have kb_22 : bd 22 22 (22 : Int32) := ⟨by decide, by decide⟩
              have go_ := g
              refine g_callv (va_runV (As := [.int 22, .int 0]) (rest := []) ⟨hx, hb, hml, hown, hts⟩ (r_X7_emitN l dC dI L kd tys fr_850 H.size g.2.2.2.1 q3_ mq3_ kq3_ a_847 ma_847 ka_847 a_848 ma_848 ka_848 x_855 h_856 T_ hG_851 (22 : Int32) (0 : Int32) (fun j9 => jOK fr_850 q3_ j9) hG_852 (fun _ h9 => h9) ⟨(fun h9 => ⟨(by have h9_0 := b_820; unfold bd at h9_0; have h9_1 := b_827; unfold bd at h9_1; have h9_2 := b_813; unfold bd at h9_2; have h9_3 := h_8; unfold bd at h9_3; have h9_4 := h_835; unfold bd at h9_4; have h9_5 := bx_846; unfold bd at h9_5; have h9_6 := bx_849; unfold bd at h9_6; have h9_7 := h_856; unfold bd at h9_7; have h9_8 := by0_; unfold bd at h9_8; have h8_0 := kb_0; unfold bd at h8_0; have h8_1 := kb_22; unfold bd at h8_1; have h8_2 := kb_41; unfold bd at h8_2; omega), (by have h9_0 := b_820; unfold bd at h9_0; have h9_1 := b_827; unfold bd at h9_1; have h9_2 := b_813; unfold bd at h9_2; have h9_3 := h_8; unfold bd at h9_3; have h9_4 := h_835; unfold bd at h9_4; have h9_5 := bx_846; unfold bd at h9_5; have h9_6 := bx_849; unfold bd at h9_6; have h9_7 := h_856; unfold bd at h9_7; have h9_8 := by0_; unfold bd at h9_8; have h8_0 := kb_0; unfold bd at h8_0; have h8_1 := kb_22; unfold bd at h8_1; have h8_2 := kb_41; unfold bd at h8_2; omega)⟩), (fun h9 => ⟨(by have h9_0 := b_820; unfold bd at h9_0; have h9_1 := b_827; unfold bd at h9_1; have h9_2 := b_813; unfold bd at h9_2; have h9_3 := h_8; unfold bd at h9_3; have h9_4 := h_835; unfold bd at h9_4; have h9_5 := bx_846; unfold bd at h9_5; have h9_6 := bx_849; unfold bd at h9_6; have h9_7 := h_856; unfold bd at h9_7; have h9_8 := by0_; unfold bd at h9_8; have h8_0 := kb_0; unfold bd at h8_0; have h8_1 := kb_22; unfold bd at h8_1; have h8_2 := kb_41; unfold bd at h8_2; omega), (by have h9_0 := b_820; unfold bd at h9_0; have h9_1 := b_827; unfold bd at h9_1; have h9_2 := b_813; unfold bd at h9_2; have h9_3 := h_8; unfold bd at h9_3; have h9_4 := h_835; unfold bd at h9_4; have h9_5 := bx_846; unfold bd at h9_5; have h9_6 := bx_849; unfold bd at h9_6; have h9_7 := h_856; unfold bd at h9_7; have h9_8 := by0_; unfold bd at h9_8; have h8_0 := kb_0; unfold bd at h8_0; have h8_1 := kb_22; unfold bd at h8_1; have h8_2 := kb_41; unfold bd at h8_2; omega)⟩), (fun h9 => ⟨(by have h9_0 := b_820; unfold bd at h9_0; have h9_1 := b_827; unfold bd at h9_1; have h9_2 := b_813; unfold bd at h9_2; have h9_3 := h_8; unfold bd at h9_3; have h9_4 := h_835; unfold bd at h9_4; have h9_5 := bx_846; unfold bd at h9_5; have h9_6 := bx_849; unfold bd at h9_6; have h9_7 := h_856; unfold bd at h9_7; have h9_8 := by0_; unfold bd at h9_8; have h8_0 := kb_0; unfold bd at h8_0; have h8_1 := kb_22; unfold bd at h8_1; have h8_2 := kb_41; unfold bd at h8_2; omega), (by have h9_0 := b_820; unfold bd at h9_0; have h9_1 := b_827; unfold bd at h9_1; have h9_2 := b_813; unfold bd at h9_2; have h9_3 := h_8; unfold bd at h9_3; have h9_4 := h_835; unfold bd at h9_4; have h9_5 := bx_846; unfold bd at h9_5; have h9_6 := bx_849; unfold bd at h9_6; have h9_7 := h_856; unfold bd at h9_7; have h9_8 := by0_; unfold bd at h9_8; have h8_0 := kb_0; unfold bd at h8_0; have h8_1 := kb_22; unfold bd at h8_1; have h8_2 := kb_41; unfold bd at h8_2; omega)⟩)⟩ (g.fcts [2, 1, 0] rfl)) (cwV 2 hts (gV_ t_1301 t_1204 t_1205 t_191 t_1206) rfl rfl rfl (by decide +kernel) ⟨(Nat.le_of_ble_eq_true rfl), (Nat.le_of_ble_eq_true rfl)⟩) (pre3V g hK mq3_ kq3_ (by decide) (q := (RX7, TX7, 19)) rfl) rfl rfl hl.1 rfl (lv_room (Nat.le_of_ble_eq_true rfl)) dX2_readArguments_221 ⟨(Nat.le_of_ble_eq_true rfl), (Nat.le_of_ble_eq_true rfl)⟩) g hK (by decide) (by decide) (fx' := [(7, 5, q3_, .ref a_848), (7, 4, q3_, .ref a_847), (2, 13, a0_, .int x_846), (2, 12, a0_, .int x_845), (8, 6, q0_, .int x_834), (8, 8, q0_, .int y0_), (2, 14, a0_, .int x_17), (2, 0, a0_, .ref q0_), (2, 1, a0_, .ref q1_), (2, 2, a0_, .ref q2_), (2, 3, a0_, .ref q3_), (0, 0, q2_, .ref q0_), (0, 1, q2_, .ref q1_), (5, 0, q1_, .ref q3_), (5, 1, q1_, .ref q7_)]) rfl (fun fr_860 H locs hp hMr_860 g => ?_)
              obtain ⟨hG_861, hG_862, hG_863, hx_864, x_865, h_866, hF_867⟩ := hp
              have hG_868 := eOK.frame hMr_860 go_.2.2.2.1 mq2_ kq2_ (by decide) (by decide) hG_858
              have g := g.more hF_867
              have hs_869 := jS.mv hs_859 hG_863
              refine lv_aload_n hx hb dX2_readArguments_224 rfl (lv_at hl 4 rfl) ?_
              refine g_getk (C := RX2) (T := TX2) (N := 16) hx hb hts (mc_ inX2) hown hK g rfl 0 (by decide) rfl (hts _ (List.mem_cons_of_mem _ t_416)) (fun _ h9 => h9) 8 rfl dX2_readArguments_225 ?_
              refine lv_bipush (v := 59) hx hb dX2_readArguments_228 (by decide) ?_
              have go_ := g
              refine g_callv (va_runV (As := [.int 59]) (rest := []) ⟨hx, hb, hml, hown, hts⟩ (r_X8_take l dC dI L kd tys fr_860 H.size g.2.2.2.1 q0_ mq0_ kq0_ 59 y0_ by0_ (g.fcts [6] rfl)) (cwV 1 hts (gV_ t_1098 t_1099 t_1100 t_184 t_1101) rfl rfl rfl (by decide +kernel) ⟨(Nat.le_of_ble_eq_true rfl), (Nat.le_of_ble_eq_true rfl)⟩) (pre3V g hK mq0_ kq0_ (by decide) (q := (RX8, TX8, 10)) rfl) rfl rfl hl.1 rfl (lv_room (Nat.le_of_ble_eq_true rfl)) dX2_readArguments_230 ⟨(Nat.le_of_ble_eq_true rfl), (Nat.le_of_ble_eq_true rfl)⟩) g hK (by decide) (by decide) (fx' := [(7, 6, q3_, .int x_865), (7, 5, q3_, .ref a_848), (7, 4, q3_, .ref a_847), (2, 13, a0_, .int x_846), (2, 12, a0_, .int x_845), (2, 14, a0_, .int x_17), (2, 0, a0_, .ref q0_), (2, 1, a0_, .ref q1_), (2, 2, a0_, .ref q2_), (2, 3, a0_, .ref q3_), (0, 0, q2_, .ref q0_), (0, 1, q2_, .ref q1_), (5, 0, q1_, .ref q3_), (5, 1, q1_, .ref q7_)]) rfl (fun fr_870 H locs hp hMr_870 g => ?_)
              rcases hp with ⟨x_871, h_872, hF_873⟩ | ⟨x_874, h_875, hF_876⟩
              · have hG_877 := cOK.frame hMr_870 go_.2.2.2.1 mq3_ kq3_ (by decide) (by decide) hG_862
                have hG_878 := dOK.frame hMr_870 go_.2.2.2.1 mq3_ kq3_ (by decide) (by decide) hG_861
                have hG_879 := jS.frame hMr_870 go_.2.2.2.1 mq3_ kq3_ (by decide) (by decide) hs_869
                have hG_880 := eOK.frame hMr_870 go_.2.2.2.1 mq2_ kq2_ (by decide) (by decide) hG_868
                have g := g.more hF_873
                subst hQ
                exact W.vret hx hb hr (fun t ht hW => ⟨⟨_, rfl, Or.inl ⟨hG_877, hG_878, hG_879, hG_880, x_871, h_872, (g.fcts [0, 1] rfl)⟩, q3_of g hK ht hW⟩, g.2.2.1.F ht⟩) g.2.2.1.2.2 dX2_readArguments_233
              · have hG_881 := cOK.frame hMr_870 go_.2.2.2.1 mq3_ kq3_ (by decide) (by decide) hG_862
                have hG_882 := dOK.frame hMr_870 go_.2.2.2.1 mq3_ kq3_ (by decide) (by decide) hG_861
                have hG_883 := jS.frame hMr_870 go_.2.2.2.1 mq3_ kq3_ (by decide) (by decide) hs_869
                have hG_884 := eOK.frame hMr_870 go_.2.2.2.1 mq2_ kq2_ (by decide) (by decide) hG_868
                have g := g.more hF_876
                have kb_1201 : bd 1201 1201 (1201 : Int32) := ⟨by decide, by decide⟩
                subst hQ
                exact W.vret hx hb hr (fun t ht hW => ⟨⟨_, rfl, Or.inr (⟨hG_882, hG_884, 1201, kb_1201, x_874, h_875, (g.fcts [0, 1] rfl)⟩), q3_of g hK ht hW⟩, g.2.2.1.F ht⟩) g.2.2.1.2.2 dX2_readArguments_233
            · have fc_844 := nle_f c_844
              have b_885 : bd 0 (-1) (0 : Int32) := ltL fc_844 kb_0 b_813 (by decide)
              exact bd_no (eqX rfl b_885 kb_0 (lo := 0) (hi := (-1)) (by decide)) (by decide)
          · have hG_886 := cOK.frame hMr_833 go_.2.2.2.1 mq3_ kq3_ (by decide) (by decide) hG_829
            have hG_887 := dOK.frame hMr_833 go_.2.2.2.1 mq3_ kq3_ (by decide) (by decide) hG_830
            have hG_888 := jS.frame hMr_833 go_.2.2.2.1 mq3_ kq3_ (by decide) (by decide) hG_831
            have hG_889 := eOK.frame hMr_833 go_.2.2.2.1 mq2_ kq2_ (by decide) (by decide) hG_832
            have g := g.more hF_839
            refine lv_iload_n hx hb dX2_readArguments_180 rfl (lv_at hl 2 rfl) ?_
            refine lv_aload_n hx hb dX2_readArguments_181 rfl (lv_at hl 4 rfl) ?_
            refine g_getk (C := RX2) (T := TX2) (N := 16) hx hb hts (mc_ inX2) hown hK g rfl 14 (by decide) rfl (hts _ (List.mem_cons_of_mem _ t_430)) (fun _ h9 => h9) 2 rfl dX2_readArguments_182 ?_
            refine lv_icmp_ge (tgt := 199) hx hb dX2_readArguments_185 (by decide) (fun c_890 => ?_) (fun c_890 => ?_)
            · have fc_890 := le_f c_890
              refine lv_aload_n hx hb dX2_readArguments_199 rfl (lv_at hl 4 rfl) ?_
              refine g_getk (C := RX2) (T := TX2) (N := 16) hx hb hts (mc_ inX2) hown hK g rfl 3 (by decide) rfl (hts _ (List.mem_cons_of_mem _ t_419)) (fun _ h9 => h9) 6 rfl dX2_readArguments_200 ?_
              refine lv_aload_n hx hb dX2_readArguments_203 rfl (lv_at hl 4 rfl) ?_
              refine g_geti (C := RX2) (T := TX2) (N := 16) hx hb hts (mc_ inX2) hown hK g ma0_ ka0_ (by decide) rfl 12 (by decide) rfl (hts _ (List.mem_cons_of_mem _ t_428)) (fun _ h9 => h9) rfl dX2_readArguments_204 (fun x_891 bx_891 g => ?_)
              refine lv_aload_n hx hb dX2_readArguments_207 rfl (lv_at hl 4 rfl) ?_
              refine g_geti (C := RX2) (T := TX2) (N := 16) hx hb hts (mc_ inX2) hown hK g ma0_ ka0_ (by decide) rfl 13 (by decide) rfl (hts _ (List.mem_cons_of_mem _ t_429)) (fun _ h9 => h9) rfl dX2_readArguments_208 (fun x_892 bx_892 g => ?_)
              obtain ⟨a_893, ma_893, ka_893, g⟩ := g_factr g mq3_ kq3_ (by decide) 4 rfl
              obtain ⟨a_894, ma_894, ka_894, g⟩ := g_factr g mq3_ kq3_ (by decide) 5 rfl
              obtain ⟨x_895, bx_895, g⟩ := g_facti g mq3_ kq3_ (by decide) 6 rfl
              have go_ := g
              refine g_callv (va_runV (As := [.int x_891, .int x_892]) (rest := []) ⟨hx, hb, hml, hown, hts⟩ (r_X7_emitF l dC dI L kd tys fr_833 H.size g.2.2.2.1 q3_ mq3_ kq3_ a_893 ma_893 ka_893 a_894 ma_894 ka_894 x_895 bx_895 T_ hG_887 x_891 x_892 (g.fcts [2, 1, 0] rfl)) (cwV 2 hts (gV_ t_1301 t_1204 t_1205 t_191 t_1206) rfl rfl rfl (by decide +kernel) ⟨(Nat.le_of_ble_eq_true rfl), (Nat.le_of_ble_eq_true rfl)⟩) (pre3V g hK mq3_ kq3_ (by decide) (q := (RX7, TX7, 19)) rfl) rfl rfl hl.1 rfl (lv_room (Nat.le_of_ble_eq_true rfl)) dX2_readArguments_211 ⟨(Nat.le_of_ble_eq_true rfl), (Nat.le_of_ble_eq_true rfl)⟩) g hK (by decide) (by decide) (fx' := [(7, 5, q3_, .ref a_894), (7, 4, q3_, .ref a_893), (2, 13, a0_, .int x_892), (2, 12, a0_, .int x_891), (8, 6, q0_, .int 1201), (8, 8, q0_, .int x_837), (2, 14, a0_, .int x_17), (2, 0, a0_, .ref q0_), (2, 1, a0_, .ref q1_), (2, 2, a0_, .ref q2_), (2, 3, a0_, .ref q3_), (0, 0, q2_, .ref q0_), (0, 1, q2_, .ref q1_), (5, 0, q1_, .ref q3_), (5, 1, q1_, .ref q7_)]) rfl (fun fr_896 H locs hp hMr_896 g => ?_)
              obtain ⟨hG_897, x_898, h_899, hF_900⟩ := hp
              have hG_901 := eOK.frame hMr_896 go_.2.2.2.1 mq2_ kq2_ (by decide) (by decide) hG_889
              have g := g.more hF_900
              refine lv_aload_n hx hb dX2_readArguments_214 rfl (lv_at hl 4 rfl) ?_
              refine g_getk (C := RX2) (T := TX2) (N := 16) hx hb hts (mc_ inX2) hown hK g rfl 3 (by decide) rfl (hts _ (List.mem_cons_of_mem _ t_419)) (fun _ h9 => h9) 11 rfl dX2_readArguments_215 ?_
              refine lv_bipush (v := 22) hx hb dX2_readArguments_218 (by decide) ?_
              refine lv_iconst (v := 0) hx hb dX2_readArguments_220 (by decide) ?_
              have go_ := g
              refine g_callv (va_runV (As := [.int 22, .int 0]) (rest := []) ⟨hx, hb, hml, hown, hts⟩ (r_X7_emitF l dC dI L kd tys fr_896 H.size g.2.2.2.1 q3_ mq3_ kq3_ a_893 ma_893 ka_893 a_894 ma_894 ka_894 x_898 h_899 T_ hG_897 (22 : Int32) (0 : Int32) (g.fcts [2, 1, 0] rfl)) (cwV 2 hts (gV_ t_1301 t_1204 t_1205 t_191 t_1206) rfl rfl rfl (by decide +kernel) ⟨(Nat.le_of_ble_eq_true rfl), (Nat.le_of_ble_eq_true rfl)⟩) (pre3V g hK mq3_ kq3_ (by decide) (q := (RX7, TX7, 19)) rfl) rfl rfl hl.1 rfl (lv_room (Nat.le_of_ble_eq_true rfl)) dX2_readArguments_221 ⟨(Nat.le_of_ble_eq_true rfl), (Nat.le_of_ble_eq_true rfl)⟩) g hK (by decide) (by decide) (fx' := [(7, 5, q3_, .ref a_894), (7, 4, q3_, .ref a_893), (2, 13, a0_, .int x_892), (2, 12, a0_, .int x_891), (8, 6, q0_, .int 1201), (8, 8, q0_, .int x_837), (2, 14, a0_, .int x_17), (2, 0, a0_, .ref q0_), (2, 1, a0_, .ref q1_), (2, 2, a0_, .ref q2_), (2, 3, a0_, .ref q3_), (0, 0, q2_, .ref q0_), (0, 1, q2_, .ref q1_), (5, 0, q1_, .ref q3_), (5, 1, q1_, .ref q7_)]) rfl (fun fr_902 H locs hp hMr_902 g => ?_)
              obtain ⟨hG_903, x_904, h_905, hF_906⟩ := hp
              have hG_907 := eOK.frame hMr_902 go_.2.2.2.1 mq2_ kq2_ (by decide) (by decide) hG_901
              have g := g.more hF_906
              refine lv_aload_n hx hb dX2_readArguments_224 rfl (lv_at hl 4 rfl) ?_
              refine g_getk (C := RX2) (T := TX2) (N := 16) hx hb hts (mc_ inX2) hown hK g rfl 0 (by decide) rfl (hts _ (List.mem_cons_of_mem _ t_416)) (fun _ h9 => h9) 8 rfl dX2_readArguments_225 ?_
              refine lv_bipush (v := 59) hx hb dX2_readArguments_228 (by decide) ?_
              have kb_1201 : bd 1201 1201 (1201 : Int32) := ⟨by decide, by decide⟩
              have go_ := g
              refine g_callv (va_runV (As := [.int 59]) (rest := []) ⟨hx, hb, hml, hown, hts⟩ (r_X8_take_2 l dC dI L kd tys fr_902 H.size g.2.2.2.1 q0_ mq0_ kq0_ 59 1201 kb_1201 x_837 h_838 (g.fcts [5, 6] rfl)) (cwV 1 hts (gV_ t_1098 t_1099 t_1100 t_184 t_1101) rfl rfl rfl (by decide +kernel) ⟨(Nat.le_of_ble_eq_true rfl), (Nat.le_of_ble_eq_true rfl)⟩) (pre3V g hK mq0_ kq0_ (by decide) (q := (RX8, TX8, 10)) rfl) rfl rfl hl.1 rfl (lv_room (Nat.le_of_ble_eq_true rfl)) dX2_readArguments_230 ⟨(Nat.le_of_ble_eq_true rfl), (Nat.le_of_ble_eq_true rfl)⟩) g hK (by decide) (by decide) (fx' := [(7, 6, q3_, .int x_904), (7, 5, q3_, .ref a_894), (7, 4, q3_, .ref a_893), (2, 13, a0_, .int x_892), (2, 12, a0_, .int x_891), (8, 8, q0_, .int x_837), (2, 14, a0_, .int x_17), (2, 0, a0_, .ref q0_), (2, 1, a0_, .ref q1_), (2, 2, a0_, .ref q2_), (2, 3, a0_, .ref q3_), (0, 0, q2_, .ref q0_), (0, 1, q2_, .ref q1_), (5, 0, q1_, .ref q3_), (5, 1, q1_, .ref q7_)]) rfl (fun fr_908 H locs hp hMr_908 g => ?_)
              obtain ⟨x_909, h_910, hF_911⟩ := hp
              have hG_912 := dOK.frame hMr_908 go_.2.2.2.1 mq3_ kq3_ (by decide) (by decide) hG_903
              have hG_913 := eOK.frame hMr_908 go_.2.2.2.1 mq2_ kq2_ (by decide) (by decide) hG_907
              have g := g.more hF_911
              subst hQ
              exact W.vret hx hb hr (fun t ht hW => ⟨⟨_, rfl, Or.inr (⟨hG_912, hG_913, x_909, h_910, x_837, h_838, (g.fcts [0, 6] rfl)⟩), q3_of g hK ht hW⟩, g.2.2.1.F ht⟩) g.2.2.1.2.2 dX2_readArguments_233
            · have fc_890 := nle_f c_890
              have b_914 : bd 0 (-1) (0 : Int32) := ltL fc_890 kb_0 b_813 (by decide)
              exact bd_no (eqX rfl b_914 kb_0 (lo := 0) (hi := (-1)) (by decide)) (by decide)
        · have fc_826 := neq_f c_826
          refine lv_iconst (v := 1) hx hb dX2_readArguments_60 (by decide) ?_
          refine lv_goto (tgt := 65) hx hb dX2_readArguments_61 (by decide) ?_
          refine lv_istore_n (lv' := [(3, .int 1), (2, .int 0), (1, .int r_1), (0, .ref a0_)]) hx hb dX2_readArguments_65 rfl hl (by decide) rfl (fun ls hl => ?_)
          refine lv_iconst (v := 0) hx hb dX2_readArguments_66 (by decide) ?_
          refine lv_istore (lv' := [(4, .int 0), (3, .int 1), (2, .int 0), (1, .int r_1), (0, .ref a0_)]) hx hb dX2_readArguments_67 hl (by decide) rfl (fun ls hl => ?_)
          have loop_915 : ∀ (n : Nat) (v69_4 : Int32) (v69_3 : Int32) (v69_2 : Int32), bd 0 4 v69_4 → bd 0 1 v69_3 → (4 - v69_4.toInt < (n : Int)) → ∀ (f : Nat → va_E) (H : Heap) (locs : List Loc) (ls : Array Slot), G3 (dC, dI) L kd tys s f0 [(0, 2), (0, 8), (0, 10), (0, 11), (0, 12), (0, 13), (7, 6), (7, 18), (8, 6), (8, 8), (8, 9)] [110, 111, 112, 113, 114, 115, 138, 139] f H locs [(2, 14, a0_, .int x_17), (8, 8, q0_, .int y0_), (2, 0, a0_, .ref q0_), (2, 1, a0_, .ref q1_), (2, 2, a0_, .ref q2_), (2, 3, a0_, .ref q3_), (0, 0, q2_, .ref q0_), (0, 1, q2_, .ref q1_), (5, 0, q1_, .ref q3_), (5, 1, q1_, .ref q7_)] → cOK f q3_ → dOK L kd f q3_ T_ → jS f q3_ J_ → eOK f q2_ → lv_has ls 6 [(4, .int v69_4), (3, .int v69_3), (2, .int v69_2), (1, .int r_1), (0, .ref a0_)] → W p l e ({ frames := 4, cells := 0, slots := 0, locals := 97 } : Room) s m [.ref a0_].toArray below meth c H locs 0 0 Q (F0 m 69 ls []) := by
            intro n69
            induction n69 with
            | zero =>
              intro v69_4 v69_3 v69_2 bv69_4 bv69_3  hm69 f H locs ls g hG69_c_q3_ hG69_d_q3_ hG69_s_q3_ hG69_e_q2_ hl
              exact absurd hm69 (by have h9_v69_4 := bv69_4; unfold bd at h9_v69_4; have h9_v69_3 := bv69_3; unfold bd at h9_v69_3; have h9_v69_2 := bdT v69_2; unfold bd at h9_v69_2; omega)
            | succ n69 ih69 =>
              intro v69_4 v69_3 v69_2 bv69_4 bv69_3  hm69 f H locs ls g hG69_c_q3_ hG69_d_q3_ hG69_s_q3_ hG69_e_q2_ hl
              refine lv_iload hx hb dX2_readArguments_69 (lv_at hl 0 rfl) ?_
              refine lv_iconst (v := 3) hx hb dX2_readArguments_71 (by decide) ?_
              have kb_3 : bd 3 3 (3 : Int32) := ⟨by decide, by decide⟩
              refine lv_icmp_gt (tgt := 162) hx hb dX2_readArguments_72 (by decide) (fun c_916 => ?_) (fun c_916 => ?_)
              · have fc_916 := lt_f c_916
                have b_917 : bd 4 4 v69_4 := ltR fc_916 kb_3 bv69_4 (by decide)
                refine lv_aload_n hx hb dX2_readArguments_162 rfl (lv_at hl 4 rfl) ?_
                refine g_getk (C := RX2) (T := TX2) (N := 16) hx hb hts (mc_ inX2) hown hK g rfl 0 (by decide) rfl (hts _ (List.mem_cons_of_mem _ t_416)) (fun _ h9 => h9) 2 rfl dX2_readArguments_163 ?_
                have go_ := g
                refine g_calli (va_runV (As := []) (rest := []) ⟨hx, hb, hml, hown, hts⟩ (r_X8_place l dC dI L kd tys f H.size g.2.2.2.1 q0_ mq0_ kq0_) (cwV 0 hts (gV_ t_1110 t_1111 t_1112 t_184 t_1113) rfl rfl rfl (by decide +kernel) ⟨(Nat.le_of_ble_eq_true rfl), (Nat.le_of_ble_eq_true rfl)⟩) (pre3V g hK mq0_ kq0_ (by decide) (q := (RX8, TX8, 10)) rfl) rfl rfl hl.1 rfl (lv_room (Nat.le_of_ble_eq_true rfl)) dX2_readArguments_166 ⟨(Nat.le_of_ble_eq_true rfl), (Nat.le_of_ble_eq_true rfl)⟩) g hK (by decide) (by decide) (fx' := [(2, 14, a0_, .int x_17), (8, 8, q0_, .int y0_), (2, 0, a0_, .ref q0_), (2, 1, a0_, .ref q1_), (2, 2, a0_, .ref q2_), (2, 3, a0_, .ref q3_), (0, 0, q2_, .ref q0_), (0, 1, q2_, .ref q1_), (5, 0, q1_, .ref q3_), (5, 1, q1_, .ref q7_)]) rfl (fun r_918 fr_918 H locs hp hMr_918 g => ?_)
                have hG_919 := cOK.frame hMr_918 go_.2.2.2.1 mq3_ kq3_ (by decide) (by decide) hG69_c_q3_
                have hG_920 := dOK.frame hMr_918 go_.2.2.2.1 mq3_ kq3_ (by decide) (by decide) hG69_d_q3_
                have hG_921 := jS.frame hMr_918 go_.2.2.2.1 mq3_ kq3_ (by decide) (by decide) hG69_s_q3_
                have hG_922 := eOK.frame hMr_918 go_.2.2.2.1 mq2_ kq2_ (by decide) (by decide) hG69_e_q2_
                refine lv_istore (lv' := [(4, .int r_918), (3, .int v69_3), (2, .int v69_2), (1, .int r_1), (0, .ref a0_)]) hx hb dX2_readArguments_169 hl (by decide) rfl (fun ls hl => ?_)
                refine lv_aload_n hx hb dX2_readArguments_171 rfl (lv_at hl 4 rfl) ?_
                refine g_getk (C := RX2) (T := TX2) (N := 16) hx hb hts (mc_ inX2) hown hK g rfl 0 (by decide) rfl (hts _ (List.mem_cons_of_mem _ t_416)) (fun _ h9 => h9) 2 rfl dX2_readArguments_172 ?_
                refine lv_bipush (v := 41) hx hb dX2_readArguments_175 (by decide) ?_
                have go_ := g
                refine g_callv (va_runV (As := [.int 41]) (rest := []) ⟨hx, hb, hml, hown, hts⟩ (r_X8_take l dC dI L kd tys fr_918 H.size g.2.2.2.1 q0_ mq0_ kq0_ 41 y0_ by0_ (g.fcts [1] rfl)) (cwV 1 hts (gV_ t_1098 t_1099 t_1100 t_184 t_1101) rfl rfl rfl (by decide +kernel) ⟨(Nat.le_of_ble_eq_true rfl), (Nat.le_of_ble_eq_true rfl)⟩) (pre3V g hK mq0_ kq0_ (by decide) (q := (RX8, TX8, 10)) rfl) rfl rfl hl.1 rfl (lv_room (Nat.le_of_ble_eq_true rfl)) dX2_readArguments_177 ⟨(Nat.le_of_ble_eq_true rfl), (Nat.le_of_ble_eq_true rfl)⟩) g hK (by decide) (by decide) (fx' := [(2, 14, a0_, .int x_17), (2, 0, a0_, .ref q0_), (2, 1, a0_, .ref q1_), (2, 2, a0_, .ref q2_), (2, 3, a0_, .ref q3_), (0, 0, q2_, .ref q0_), (0, 1, q2_, .ref q1_), (5, 0, q1_, .ref q3_), (5, 1, q1_, .ref q7_)]) rfl (fun fr_923 H locs hp hMr_923 g => ?_)
                rcases hp with ⟨x_924, h_925, hF_926⟩ | ⟨x_927, h_928, hF_929⟩
                · have hG_930 := cOK.frame hMr_923 go_.2.2.2.1 mq3_ kq3_ (by decide) (by decide) hG_919
                  have hG_931 := dOK.frame hMr_923 go_.2.2.2.1 mq3_ kq3_ (by decide) (by decide) hG_920
                  have hG_932 := jS.frame hMr_923 go_.2.2.2.1 mq3_ kq3_ (by decide) (by decide) hG_921
                  have hG_933 := eOK.frame hMr_923 go_.2.2.2.1 mq2_ kq2_ (by decide) (by decide) hG_922
                  have g := g.more hF_926
                  refine lv_iload_n hx hb dX2_readArguments_180 rfl (lv_at hl 2 rfl) ?_
                  refine lv_aload_n hx hb dX2_readArguments_181 rfl (lv_at hl 4 rfl) ?_
                  refine g_getk (C := RX2) (T := TX2) (N := 16) hx hb hts (mc_ inX2) hown hK g rfl 14 (by decide) rfl (hts _ (List.mem_cons_of_mem _ t_430)) (fun _ h9 => h9) 2 rfl dX2_readArguments_182 ?_
                  refine lv_icmp_ge (tgt := 199) hx hb dX2_readArguments_185 (by decide) (fun c_934 => ?_) (fun c_934 => ?_)
                  · have fc_934 := le_f c_934
                    have b_935 : bd 0 2147483647 v69_2 := leR fc_934 b_813 (bdT v69_2) (by decide)
                    refine lv_aload_n hx hb dX2_readArguments_199 rfl (lv_at hl 4 rfl) ?_
                    refine g_getk (C := RX2) (T := TX2) (N := 16) hx hb hts (mc_ inX2) hown hK g rfl 3 (by decide) rfl (hts _ (List.mem_cons_of_mem _ t_419)) (fun _ h9 => h9) 6 rfl dX2_readArguments_200 ?_
                    refine lv_aload_n hx hb dX2_readArguments_203 rfl (lv_at hl 4 rfl) ?_
                    refine g_geti (C := RX2) (T := TX2) (N := 16) hx hb hts (mc_ inX2) hown hK g ma0_ ka0_ (by decide) rfl 12 (by decide) rfl (hts _ (List.mem_cons_of_mem _ t_428)) (fun _ h9 => h9) rfl dX2_readArguments_204 (fun x_936 bx_936 g => ?_)
                    refine lv_aload_n hx hb dX2_readArguments_207 rfl (lv_at hl 4 rfl) ?_
                    refine g_geti (C := RX2) (T := TX2) (N := 16) hx hb hts (mc_ inX2) hown hK g ma0_ ka0_ (by decide) rfl 13 (by decide) rfl (hts _ (List.mem_cons_of_mem _ t_429)) (fun _ h9 => h9) rfl dX2_readArguments_208 (fun x_937 bx_937 g => ?_)
                    obtain ⟨a_938, ma_938, ka_938, g⟩ := g_factr g mq3_ kq3_ (by decide) 4 rfl
                    obtain ⟨a_939, ma_939, ka_939, g⟩ := g_factr g mq3_ kq3_ (by decide) 5 rfl
                    obtain ⟨x_940, bx_940, g⟩ := g_facti g mq3_ kq3_ (by decide) 6 rfl
                    have go_ := g
                    refine g_callv (va_runV (As := [.int x_936, .int x_937]) (rest := []) ⟨hx, hb, hml, hown, hts⟩ (r_X7_emitN l dC dI L kd tys fr_923 H.size g.2.2.2.1 q3_ mq3_ kq3_ a_938 ma_938 ka_938 a_939 ma_939 ka_939 x_940 bx_940 T_ hG_931 x_936 x_937 (fun j9 => jOK fr_923 q3_ j9) hG_930 (fun _ h9 => h9) ⟨(fun h9 => ⟨(by have h9_0 := b_820; unfold bd at h9_0; have h9_1 := b_935; unfold bd at h9_1; have h9_2 := bv69_3; unfold bd at h9_2; have h9_3 := b_917; unfold bd at h9_3; have h9_4 := b_813; unfold bd at h9_4; have h9_5 := h_8; unfold bd at h9_5; have h9_6 := h_925; unfold bd at h9_6; have h9_7 := bx_937; unfold bd at h9_7; have h9_8 := bx_940; unfold bd at h9_8; have h9_9 := by0_; unfold bd at h9_9; have h8_0 := kb_0; unfold bd at h8_0; have h8_1 := kb_3; unfold bd at h8_1; have h8_2 := kb_41; unfold bd at h8_2; omega), (by have h9_0 := b_820; unfold bd at h9_0; have h9_1 := b_935; unfold bd at h9_1; have h9_2 := bv69_3; unfold bd at h9_2; have h9_3 := b_917; unfold bd at h9_3; have h9_4 := b_813; unfold bd at h9_4; have h9_5 := h_8; unfold bd at h9_5; have h9_6 := h_925; unfold bd at h9_6; have h9_7 := bx_937; unfold bd at h9_7; have h9_8 := bx_940; unfold bd at h9_8; have h9_9 := by0_; unfold bd at h9_9; have h8_0 := kb_0; unfold bd at h8_0; have h8_1 := kb_3; unfold bd at h8_1; have h8_2 := kb_41; unfold bd at h8_2; omega)⟩), (fun h9 => ⟨(by have h9_0 := b_820; unfold bd at h9_0; have h9_1 := b_935; unfold bd at h9_1; have h9_2 := bv69_3; unfold bd at h9_2; have h9_3 := b_917; unfold bd at h9_3; have h9_4 := b_813; unfold bd at h9_4; have h9_5 := h_8; unfold bd at h9_5; have h9_6 := h_925; unfold bd at h9_6; have h9_7 := bx_937; unfold bd at h9_7; have h9_8 := bx_940; unfold bd at h9_8; have h9_9 := by0_; unfold bd at h9_9; have h8_0 := kb_0; unfold bd at h8_0; have h8_1 := kb_3; unfold bd at h8_1; have h8_2 := kb_41; unfold bd at h8_2; omega), (by have h9_0 := b_820; unfold bd at h9_0; have h9_1 := b_935; unfold bd at h9_1; have h9_2 := bv69_3; unfold bd at h9_2; have h9_3 := b_917; unfold bd at h9_3; have h9_4 := b_813; unfold bd at h9_4; have h9_5 := h_8; unfold bd at h9_5; have h9_6 := h_925; unfold bd at h9_6; have h9_7 := bx_937; unfold bd at h9_7; have h9_8 := bx_940; unfold bd at h9_8; have h9_9 := by0_; unfold bd at h9_9; have h8_0 := kb_0; unfold bd at h8_0; have h8_1 := kb_3; unfold bd at h8_1; have h8_2 := kb_41; unfold bd at h8_2; omega)⟩), (fun h9 => ⟨(by have h9_0 := b_820; unfold bd at h9_0; have h9_1 := b_935; unfold bd at h9_1; have h9_2 := bv69_3; unfold bd at h9_2; have h9_3 := b_917; unfold bd at h9_3; have h9_4 := b_813; unfold bd at h9_4; have h9_5 := h_8; unfold bd at h9_5; have h9_6 := h_925; unfold bd at h9_6; have h9_7 := bx_937; unfold bd at h9_7; have h9_8 := bx_940; unfold bd at h9_8; have h9_9 := by0_; unfold bd at h9_9; have h8_0 := kb_0; unfold bd at h8_0; have h8_1 := kb_3; unfold bd at h8_1; have h8_2 := kb_41; unfold bd at h8_2; omega), (by have h9_0 := b_820; unfold bd at h9_0; have h9_1 := b_935; unfold bd at h9_1; have h9_2 := bv69_3; unfold bd at h9_2; have h9_3 := b_917; unfold bd at h9_3; have h9_4 := b_813; unfold bd at h9_4; have h9_5 := h_8; unfold bd at h9_5; have h9_6 := h_925; unfold bd at h9_6; have h9_7 := bx_937; unfold bd at h9_7; have h9_8 := bx_940; unfold bd at h9_8; have h9_9 := by0_; unfold bd at h9_9; have h8_0 := kb_0; unfold bd at h8_0; have h8_1 := kb_3; unfold bd at h8_1; have h8_2 := kb_41; unfold bd at h8_2; omega)⟩)⟩ (g.fcts [2, 1, 0] rfl)) (cwV 2 hts (gV_ t_1301 t_1204 t_1205 t_191 t_1206) rfl rfl rfl (by decide +kernel) ⟨(Nat.le_of_ble_eq_true rfl), (Nat.le_of_ble_eq_true rfl)⟩) (pre3V g hK mq3_ kq3_ (by decide) (q := (RX7, TX7, 19)) rfl) rfl rfl hl.1 rfl (lv_room (Nat.le_of_ble_eq_true rfl)) dX2_readArguments_211 ⟨(Nat.le_of_ble_eq_true rfl), (Nat.le_of_ble_eq_true rfl)⟩) g hK (by decide) (by decide) (fx' := [(7, 5, q3_, .ref a_939), (7, 4, q3_, .ref a_938), (2, 13, a0_, .int x_937), (2, 12, a0_, .int x_936), (8, 6, q0_, .int x_924), (8, 8, q0_, .int y0_), (2, 14, a0_, .int x_17), (2, 0, a0_, .ref q0_), (2, 1, a0_, .ref q1_), (2, 2, a0_, .ref q2_), (2, 3, a0_, .ref q3_), (0, 0, q2_, .ref q0_), (0, 1, q2_, .ref q1_), (5, 0, q1_, .ref q3_), (5, 1, q1_, .ref q7_)]) rfl (fun fr_941 H locs hp hMr_941 g => ?_)
                    obtain ⟨hG_942, hG_943, hG_944, hx_945, x_946, h_947, hF_948⟩ := hp
                    have hG_949 := eOK.frame hMr_941 go_.2.2.2.1 mq2_ kq2_ (by decide) (by decide) hG_933
                    have g := g.more hF_948
                    have hs_950 := jS.mv hG_932 hG_944
                    refine lv_aload_n hx hb dX2_readArguments_214 rfl (lv_at hl 4 rfl) ?_
                    refine g_getk (C := RX2) (T := TX2) (N := 16) hx hb hts (mc_ inX2) hown hK g rfl 3 (by decide) rfl (hts _ (List.mem_cons_of_mem _ t_419)) (fun _ h9 => h9) 11 rfl dX2_readArguments_215 ?_
                    refine lv_bipush (v := 22) hx hb dX2_readArguments_218 (by decide) ?_
                    refine lv_iconst (v := 0) hx hb dX2_readArguments_220 (by decide) ?_
                    have kb_22 : bd 22 22 (22 : Int32) := ⟨by decide, by decide⟩
                    have go_ := g
                    refine g_callv (va_runV (As := [.int 22, .int 0]) (rest := []) ⟨hx, hb, hml, hown, hts⟩ (r_X7_emitN l dC dI L kd tys fr_941 H.size g.2.2.2.1 q3_ mq3_ kq3_ a_938 ma_938 ka_938 a_939 ma_939 ka_939 x_946 h_947 T_ hG_942 (22 : Int32) (0 : Int32) (fun j9 => jOK fr_941 q3_ j9) hG_943 (fun _ h9 => h9) ⟨(fun h9 => ⟨(by have h9_0 := b_820; unfold bd at h9_0; have h9_1 := b_935; unfold bd at h9_1; have h9_2 := bv69_3; unfold bd at h9_2; have h9_3 := b_917; unfold bd at h9_3; have h9_4 := b_813; unfold bd at h9_4; have h9_5 := h_8; unfold bd at h9_5; have h9_6 := h_925; unfold bd at h9_6; have h9_7 := bx_937; unfold bd at h9_7; have h9_8 := bx_940; unfold bd at h9_8; have h9_9 := h_947; unfold bd at h9_9; have h9_10 := by0_; unfold bd at h9_10; have h8_0 := kb_0; unfold bd at h8_0; have h8_1 := kb_22; unfold bd at h8_1; have h8_2 := kb_3; unfold bd at h8_2; have h8_3 := kb_41; unfold bd at h8_3; omega), (by have h9_0 := b_820; unfold bd at h9_0; have h9_1 := b_935; unfold bd at h9_1; have h9_2 := bv69_3; unfold bd at h9_2; have h9_3 := b_917; unfold bd at h9_3; have h9_4 := b_813; unfold bd at h9_4; have h9_5 := h_8; unfold bd at h9_5; have h9_6 := h_925; unfold bd at h9_6; have h9_7 := bx_937; unfold bd at h9_7; have h9_8 := bx_940; unfold bd at h9_8; have h9_9 := h_947; unfold bd at h9_9; have h9_10 := by0_; unfold bd at h9_10; have h8_0 := kb_0; unfold bd at h8_0; have h8_1 := kb_22; unfold bd at h8_1; have h8_2 := kb_3; unfold bd at h8_2; have h8_3 := kb_41; unfold bd at h8_3; omega)⟩), (fun h9 => ⟨(by have h9_0 := b_820; unfold bd at h9_0; have h9_1 := b_935; unfold bd at h9_1; have h9_2 := bv69_3; unfold bd at h9_2; have h9_3 := b_917; unfold bd at h9_3; have h9_4 := b_813; unfold bd at h9_4; have h9_5 := h_8; unfold bd at h9_5; have h9_6 := h_925; unfold bd at h9_6; have h9_7 := bx_937; unfold bd at h9_7; have h9_8 := bx_940; unfold bd at h9_8; have h9_9 := h_947; unfold bd at h9_9; have h9_10 := by0_; unfold bd at h9_10; have h8_0 := kb_0; unfold bd at h8_0; have h8_1 := kb_22; unfold bd at h8_1; have h8_2 := kb_3; unfold bd at h8_2; have h8_3 := kb_41; unfold bd at h8_3; omega), (by have h9_0 := b_820; unfold bd at h9_0; have h9_1 := b_935; unfold bd at h9_1; have h9_2 := bv69_3; unfold bd at h9_2; have h9_3 := b_917; unfold bd at h9_3; have h9_4 := b_813; unfold bd at h9_4; have h9_5 := h_8; unfold bd at h9_5; have h9_6 := h_925; unfold bd at h9_6; have h9_7 := bx_937; unfold bd at h9_7; have h9_8 := bx_940; unfold bd at h9_8; have h9_9 := h_947; unfold bd at h9_9; have h9_10 := by0_; unfold bd at h9_10; have h8_0 := kb_0; unfold bd at h8_0; have h8_1 := kb_22; unfold bd at h8_1; have h8_2 := kb_3; unfold bd at h8_2; have h8_3 := kb_41; unfold bd at h8_3; omega)⟩), (fun h9 => ⟨(by have h9_0 := b_820; unfold bd at h9_0; have h9_1 := b_935; unfold bd at h9_1; have h9_2 := bv69_3; unfold bd at h9_2; have h9_3 := b_917; unfold bd at h9_3; have h9_4 := b_813; unfold bd at h9_4; have h9_5 := h_8; unfold bd at h9_5; have h9_6 := h_925; unfold bd at h9_6; have h9_7 := bx_937; unfold bd at h9_7; have h9_8 := bx_940; unfold bd at h9_8; have h9_9 := h_947; unfold bd at h9_9; have h9_10 := by0_; unfold bd at h9_10; have h8_0 := kb_0; unfold bd at h8_0; have h8_1 := kb_22; unfold bd at h8_1; have h8_2 := kb_3; unfold bd at h8_2; have h8_3 := kb_41; unfold bd at h8_3; omega), (by have h9_0 := b_820; unfold bd at h9_0; have h9_1 := b_935; unfold bd at h9_1; have h9_2 := bv69_3; unfold bd at h9_2; have h9_3 := b_917; unfold bd at h9_3; have h9_4 := b_813; unfold bd at h9_4; have h9_5 := h_8; unfold bd at h9_5; have h9_6 := h_925; unfold bd at h9_6; have h9_7 := bx_937; unfold bd at h9_7; have h9_8 := bx_940; unfold bd at h9_8; have h9_9 := h_947; unfold bd at h9_9; have h9_10 := by0_; unfold bd at h9_10; have h8_0 := kb_0; unfold bd at h8_0; have h8_1 := kb_22; unfold bd at h8_1; have h8_2 := kb_3; unfold bd at h8_2; have h8_3 := kb_41; unfold bd at h8_3; omega)⟩)⟩ (g.fcts [2, 1, 0] rfl)) (cwV 2 hts (gV_ t_1301 t_1204 t_1205 t_191 t_1206) rfl rfl rfl (by decide +kernel) ⟨(Nat.le_of_ble_eq_true rfl), (Nat.le_of_ble_eq_true rfl)⟩) (pre3V g hK mq3_ kq3_ (by decide) (q := (RX7, TX7, 19)) rfl) rfl rfl hl.1 rfl (lv_room (Nat.le_of_ble_eq_true rfl)) dX2_readArguments_221 ⟨(Nat.le_of_ble_eq_true rfl), (Nat.le_of_ble_eq_true rfl)⟩) g hK (by decide) (by decide) (fx' := [(7, 5, q3_, .ref a_939), (7, 4, q3_, .ref a_938), (2, 13, a0_, .int x_937), (2, 12, a0_, .int x_936), (8, 6, q0_, .int x_924), (8, 8, q0_, .int y0_), (2, 14, a0_, .int x_17), (2, 0, a0_, .ref q0_), (2, 1, a0_, .ref q1_), (2, 2, a0_, .ref q2_), (2, 3, a0_, .ref q3_), (0, 0, q2_, .ref q0_), (0, 1, q2_, .ref q1_), (5, 0, q1_, .ref q3_), (5, 1, q1_, .ref q7_)]) rfl (fun fr_951 H locs hp hMr_951 g => ?_)
                    obtain ⟨hG_952, hG_953, hG_954, hx_955, x_956, h_957, hF_958⟩ := hp
                    have hG_959 := eOK.frame hMr_951 go_.2.2.2.1 mq2_ kq2_ (by decide) (by decide) hG_949
                    have g := g.more hF_958
                    have hs_960 := jS.mv hs_950 hG_954
                    refine lv_aload_n hx hb dX2_readArguments_224 rfl (lv_at hl 4 rfl) ?_
                    refine g_getk (C := RX2) (T := TX2) (N := 16) hx hb hts (mc_ inX2) hown hK g rfl 0 (by decide) rfl (hts _ (List.mem_cons_of_mem _ t_416)) (fun _ h9 => h9) 8 rfl dX2_readArguments_225 ?_
                    refine lv_bipush (v := 59) hx hb dX2_readArguments_228 (by decide) ?_
                    have go_ := g
                    refine g_callv (va_runV (As := [.int 59]) (rest := []) ⟨hx, hb, hml, hown, hts⟩ (r_X8_take l dC dI L kd tys fr_951 H.size g.2.2.2.1 q0_ mq0_ kq0_ 59 y0_ by0_ (g.fcts [6] rfl)) (cwV 1 hts (gV_ t_1098 t_1099 t_1100 t_184 t_1101) rfl rfl rfl (by decide +kernel) ⟨(Nat.le_of_ble_eq_true rfl), (Nat.le_of_ble_eq_true rfl)⟩) (pre3V g hK mq0_ kq0_ (by decide) (q := (RX8, TX8, 10)) rfl) rfl rfl hl.1 rfl (lv_room (Nat.le_of_ble_eq_true rfl)) dX2_readArguments_230 ⟨(Nat.le_of_ble_eq_true rfl), (Nat.le_of_ble_eq_true rfl)⟩) g hK (by decide) (by decide) (fx' := [(7, 6, q3_, .int x_956), (7, 5, q3_, .ref a_939), (7, 4, q3_, .ref a_938), (2, 13, a0_, .int x_937), (2, 12, a0_, .int x_936), (2, 14, a0_, .int x_17), (2, 0, a0_, .ref q0_), (2, 1, a0_, .ref q1_), (2, 2, a0_, .ref q2_), (2, 3, a0_, .ref q3_), (0, 0, q2_, .ref q0_), (0, 1, q2_, .ref q1_), (5, 0, q1_, .ref q3_), (5, 1, q1_, .ref q7_)]) rfl (fun fr_961 H locs hp hMr_961 g => ?_)
                    rcases hp with ⟨x_962, h_963, hF_964⟩ | ⟨x_965, h_966, hF_967⟩
                    · have hG_968 := cOK.frame hMr_961 go_.2.2.2.1 mq3_ kq3_ (by decide) (by decide) hG_953
                      have hG_969 := dOK.frame hMr_961 go_.2.2.2.1 mq3_ kq3_ (by decide) (by decide) hG_952
                      have hG_970 := jS.frame hMr_961 go_.2.2.2.1 mq3_ kq3_ (by decide) (by decide) hs_960
                      have hG_971 := eOK.frame hMr_961 go_.2.2.2.1 mq2_ kq2_ (by decide) (by decide) hG_959
                      have g := g.more hF_964
                      subst hQ
                      exact W.vret hx hb hr (fun t ht hW => ⟨⟨_, rfl, Or.inl ⟨hG_968, hG_969, hG_970, hG_971, x_962, h_963, (g.fcts [0, 1] rfl)⟩, q3_of g hK ht hW⟩, g.2.2.1.F ht⟩) g.2.2.1.2.2 dX2_readArguments_233
                    · have hG_972 := cOK.frame hMr_961 go_.2.2.2.1 mq3_ kq3_ (by decide) (by decide) hG_953
                      have hG_973 := dOK.frame hMr_961 go_.2.2.2.1 mq3_ kq3_ (by decide) (by decide) hG_952
                      have hG_974 := jS.frame hMr_961 go_.2.2.2.1 mq3_ kq3_ (by decide) (by decide) hs_960
                      have hG_975 := eOK.frame hMr_961 go_.2.2.2.1 mq2_ kq2_ (by decide) (by decide) hG_959
                      have g := g.more hF_967
                      have kb_1201 : bd 1201 1201 (1201 : Int32) := ⟨by decide, by decide⟩
                      subst hQ
                      exact W.vret hx hb hr (fun t ht hW => ⟨⟨_, rfl, Or.inr (⟨hG_973, hG_975, 1201, kb_1201, x_965, h_966, (g.fcts [0, 1] rfl)⟩), q3_of g hK ht hW⟩, g.2.2.1.F ht⟩) g.2.2.1.2.2 dX2_readArguments_233
                  · have fc_934 := nle_f c_934
                    have b_976 : bd (-2147483648) (-1) v69_2 := ltL fc_934 (bdT v69_2) b_813 (by decide)
                    refine lv_aload_n hx hb dX2_readArguments_188 rfl (lv_at hl 4 rfl) ?_
                    refine g_getk (C := RX2) (T := TX2) (N := 16) hx hb hts (mc_ inX2) hown hK g rfl 0 (by decide) rfl (hts _ (List.mem_cons_of_mem _ t_416)) (fun _ h9 => h9) 3 rfl dX2_readArguments_189 ?_
                    refine lv_bipush (v := 6) hx hb dX2_readArguments_192 (by decide) ?_
                    refine lv_iload hx hb dX2_readArguments_194 (lv_at hl 0 rfl) ?_
                    have kb_6 : bd 6 6 (6 : Int32) := ⟨by decide, by decide⟩
                    have go_ := g
                    refine g_callv (va_runV (As := [.int 6, .int r_918]) (rest := []) ⟨hx, hb, hml, hown, hts⟩ (r_X8_fail l dC dI L kd tys fr_923 H.size g.2.2.2.1 q0_ mq0_ kq0_ 6 (bd_sub kb_6 (by decide)) r_918 y0_ by0_ (g.fcts [1] rfl)) (cwV 2 hts (gV_ t_1122 t_1107 t_1108 t_184 t_1109) rfl rfl rfl (by decide +kernel) ⟨(Nat.le_of_ble_eq_true rfl), (Nat.le_of_ble_eq_true rfl)⟩) (pre3V g hK mq0_ kq0_ (by decide) (q := (RX8, TX8, 10)) rfl) rfl rfl hl.1 rfl (lv_room (Nat.le_of_ble_eq_true rfl)) dX2_readArguments_196 ⟨(Nat.le_of_ble_eq_true rfl), (Nat.le_of_ble_eq_true rfl)⟩) g hK (by decide) (by decide) (fx' := [(2, 14, a0_, .int x_17), (2, 0, a0_, .ref q0_), (2, 1, a0_, .ref q1_), (2, 2, a0_, .ref q2_), (2, 3, a0_, .ref q3_), (0, 0, q2_, .ref q0_), (0, 1, q2_, .ref q1_), (5, 0, q1_, .ref q3_), (5, 1, q1_, .ref q7_)]) rfl (fun fr_977 H locs hp hMr_977 g => ?_)
                    obtain ⟨x_978, h_979, hF_980⟩ := hp
                    have hG_981 := cOK.frame hMr_977 go_.2.2.2.1 mq3_ kq3_ (by decide) (by decide) hG_930
                    have hG_982 := dOK.frame hMr_977 go_.2.2.2.1 mq3_ kq3_ (by decide) (by decide) hG_931
                    have hG_983 := jS.frame hMr_977 go_.2.2.2.1 mq3_ kq3_ (by decide) (by decide) hG_932
                    have hG_984 := eOK.frame hMr_977 go_.2.2.2.1 mq2_ kq2_ (by decide) (by decide) hG_933
                    have g := g.more hF_980
                    refine lv_aload_n hx hb dX2_readArguments_199 rfl (lv_at hl 4 rfl) ?_
                    refine g_getk (C := RX2) (T := TX2) (N := 16) hx hb hts (mc_ inX2) hown hK g rfl 3 (by decide) rfl (hts _ (List.mem_cons_of_mem _ t_419)) (fun _ h9 => h9) 6 rfl dX2_readArguments_200 ?_
                    refine lv_aload_n hx hb dX2_readArguments_203 rfl (lv_at hl 4 rfl) ?_
                    refine g_geti (C := RX2) (T := TX2) (N := 16) hx hb hts (mc_ inX2) hown hK g ma0_ ka0_ (by decide) rfl 12 (by decide) rfl (hts _ (List.mem_cons_of_mem _ t_428)) (fun _ h9 => h9) rfl dX2_readArguments_204 (fun x_985 bx_985 g => ?_)
                    refine lv_aload_n hx hb dX2_readArguments_207 rfl (lv_at hl 4 rfl) ?_
                    refine g_geti (C := RX2) (T := TX2) (N := 16) hx hb hts (mc_ inX2) hown hK g ma0_ ka0_ (by decide) rfl 13 (by decide) rfl (hts _ (List.mem_cons_of_mem _ t_429)) (fun _ h9 => h9) rfl dX2_readArguments_208 (fun x_986 bx_986 g => ?_)
                    obtain ⟨a_987, ma_987, ka_987, g⟩ := g_factr g mq3_ kq3_ (by decide) 4 rfl
                    obtain ⟨a_988, ma_988, ka_988, g⟩ := g_factr g mq3_ kq3_ (by decide) 5 rfl
                    obtain ⟨x_989, bx_989, g⟩ := g_facti g mq3_ kq3_ (by decide) 6 rfl
                    have go_ := g
                    refine g_callv (va_runV (As := [.int x_985, .int x_986]) (rest := []) ⟨hx, hb, hml, hown, hts⟩ (r_X7_emitF l dC dI L kd tys fr_977 H.size g.2.2.2.1 q3_ mq3_ kq3_ a_987 ma_987 ka_987 a_988 ma_988 ka_988 x_989 bx_989 T_ hG_982 x_985 x_986 (g.fcts [2, 1, 0] rfl)) (cwV 2 hts (gV_ t_1301 t_1204 t_1205 t_191 t_1206) rfl rfl rfl (by decide +kernel) ⟨(Nat.le_of_ble_eq_true rfl), (Nat.le_of_ble_eq_true rfl)⟩) (pre3V g hK mq3_ kq3_ (by decide) (q := (RX7, TX7, 19)) rfl) rfl rfl hl.1 rfl (lv_room (Nat.le_of_ble_eq_true rfl)) dX2_readArguments_211 ⟨(Nat.le_of_ble_eq_true rfl), (Nat.le_of_ble_eq_true rfl)⟩) g hK (by decide) (by decide) (fx' := [(7, 5, q3_, .ref a_988), (7, 4, q3_, .ref a_987), (2, 13, a0_, .int x_986), (2, 12, a0_, .int x_985), (8, 6, q0_, .int 1201), (8, 8, q0_, .int x_978), (2, 14, a0_, .int x_17), (2, 0, a0_, .ref q0_), (2, 1, a0_, .ref q1_), (2, 2, a0_, .ref q2_), (2, 3, a0_, .ref q3_), (0, 0, q2_, .ref q0_), (0, 1, q2_, .ref q1_), (5, 0, q1_, .ref q3_), (5, 1, q1_, .ref q7_)]) rfl (fun fr_990 H locs hp hMr_990 g => ?_)
                    obtain ⟨hG_991, x_992, h_993, hF_994⟩ := hp
                    have hG_995 := eOK.frame hMr_990 go_.2.2.2.1 mq2_ kq2_ (by decide) (by decide) hG_984
                    have g := g.more hF_994
                    refine lv_aload_n hx hb dX2_readArguments_214 rfl (lv_at hl 4 rfl) ?_
                    refine g_getk (C := RX2) (T := TX2) (N := 16) hx hb hts (mc_ inX2) hown hK g rfl 3 (by decide) rfl (hts _ (List.mem_cons_of_mem _ t_419)) (fun _ h9 => h9) 11 rfl dX2_readArguments_215 ?_
                    refine lv_bipush (v := 22) hx hb dX2_readArguments_218 (by decide) ?_
                    refine lv_iconst (v := 0) hx hb dX2_readArguments_220 (by decide) ?_
                    have go_ := g
                    refine g_callv (va_runV (As := [.int 22, .int 0]) (rest := []) ⟨hx, hb, hml, hown, hts⟩ (r_X7_emitF l dC dI L kd tys fr_990 H.size g.2.2.2.1 q3_ mq3_ kq3_ a_987 ma_987 ka_987 a_988 ma_988 ka_988 x_992 h_993 T_ hG_991 (22 : Int32) (0 : Int32) (g.fcts [2, 1, 0] rfl)) (cwV 2 hts (gV_ t_1301 t_1204 t_1205 t_191 t_1206) rfl rfl rfl (by decide +kernel) ⟨(Nat.le_of_ble_eq_true rfl), (Nat.le_of_ble_eq_true rfl)⟩) (pre3V g hK mq3_ kq3_ (by decide) (q := (RX7, TX7, 19)) rfl) rfl rfl hl.1 rfl (lv_room (Nat.le_of_ble_eq_true rfl)) dX2_readArguments_221 ⟨(Nat.le_of_ble_eq_true rfl), (Nat.le_of_ble_eq_true rfl)⟩) g hK (by decide) (by decide) (fx' := [(7, 5, q3_, .ref a_988), (7, 4, q3_, .ref a_987), (2, 13, a0_, .int x_986), (2, 12, a0_, .int x_985), (8, 6, q0_, .int 1201), (8, 8, q0_, .int x_978), (2, 14, a0_, .int x_17), (2, 0, a0_, .ref q0_), (2, 1, a0_, .ref q1_), (2, 2, a0_, .ref q2_), (2, 3, a0_, .ref q3_), (0, 0, q2_, .ref q0_), (0, 1, q2_, .ref q1_), (5, 0, q1_, .ref q3_), (5, 1, q1_, .ref q7_)]) rfl (fun fr_996 H locs hp hMr_996 g => ?_)
                    obtain ⟨hG_997, x_998, h_999, hF_1000⟩ := hp
                    have hG_1001 := eOK.frame hMr_996 go_.2.2.2.1 mq2_ kq2_ (by decide) (by decide) hG_995
                    have g := g.more hF_1000
                    refine lv_aload_n hx hb dX2_readArguments_224 rfl (lv_at hl 4 rfl) ?_
                    refine g_getk (C := RX2) (T := TX2) (N := 16) hx hb hts (mc_ inX2) hown hK g rfl 0 (by decide) rfl (hts _ (List.mem_cons_of_mem _ t_416)) (fun _ h9 => h9) 8 rfl dX2_readArguments_225 ?_
                    refine lv_bipush (v := 59) hx hb dX2_readArguments_228 (by decide) ?_
                    have kb_1201 : bd 1201 1201 (1201 : Int32) := ⟨by decide, by decide⟩
                    have go_ := g
                    refine g_callv (va_runV (As := [.int 59]) (rest := []) ⟨hx, hb, hml, hown, hts⟩ (r_X8_take_2 l dC dI L kd tys fr_996 H.size g.2.2.2.1 q0_ mq0_ kq0_ 59 1201 kb_1201 x_978 h_979 (g.fcts [5, 6] rfl)) (cwV 1 hts (gV_ t_1098 t_1099 t_1100 t_184 t_1101) rfl rfl rfl (by decide +kernel) ⟨(Nat.le_of_ble_eq_true rfl), (Nat.le_of_ble_eq_true rfl)⟩) (pre3V g hK mq0_ kq0_ (by decide) (q := (RX8, TX8, 10)) rfl) rfl rfl hl.1 rfl (lv_room (Nat.le_of_ble_eq_true rfl)) dX2_readArguments_230 ⟨(Nat.le_of_ble_eq_true rfl), (Nat.le_of_ble_eq_true rfl)⟩) g hK (by decide) (by decide) (fx' := [(7, 6, q3_, .int x_998), (7, 5, q3_, .ref a_988), (7, 4, q3_, .ref a_987), (2, 13, a0_, .int x_986), (2, 12, a0_, .int x_985), (8, 8, q0_, .int x_978), (2, 14, a0_, .int x_17), (2, 0, a0_, .ref q0_), (2, 1, a0_, .ref q1_), (2, 2, a0_, .ref q2_), (2, 3, a0_, .ref q3_), (0, 0, q2_, .ref q0_), (0, 1, q2_, .ref q1_), (5, 0, q1_, .ref q3_), (5, 1, q1_, .ref q7_)]) rfl (fun fr_1002 H locs hp hMr_1002 g => ?_)
                    obtain ⟨x_1003, h_1004, hF_1005⟩ := hp
                    have hG_1006 := dOK.frame hMr_1002 go_.2.2.2.1 mq3_ kq3_ (by decide) (by decide) hG_997
                    have hG_1007 := eOK.frame hMr_1002 go_.2.2.2.1 mq2_ kq2_ (by decide) (by decide) hG_1001
                    have g := g.more hF_1005
                    subst hQ
                    exact W.vret hx hb hr (fun t ht hW => ⟨⟨_, rfl, Or.inr (⟨hG_1006, hG_1007, x_1003, h_1004, x_978, h_979, (g.fcts [0, 6] rfl)⟩), q3_of g hK ht hW⟩, g.2.2.1.F ht⟩) g.2.2.1.2.2 dX2_readArguments_233
                · have hG_1008 := cOK.frame hMr_923 go_.2.2.2.1 mq3_ kq3_ (by decide) (by decide) hG_919
                  have hG_1009 := dOK.frame hMr_923 go_.2.2.2.1 mq3_ kq3_ (by decide) (by decide) hG_920
                  have hG_1010 := jS.frame hMr_923 go_.2.2.2.1 mq3_ kq3_ (by decide) (by decide) hG_921
                  have hG_1011 := eOK.frame hMr_923 go_.2.2.2.1 mq2_ kq2_ (by decide) (by decide) hG_922
                  have g := g.more hF_929
                  refine lv_iload_n hx hb dX2_readArguments_180 rfl (lv_at hl 2 rfl) ?_
                  refine lv_aload_n hx hb dX2_readArguments_181 rfl (lv_at hl 4 rfl) ?_
                  refine g_getk (C := RX2) (T := TX2) (N := 16) hx hb hts (mc_ inX2) hown hK g rfl 14 (by decide) rfl (hts _ (List.mem_cons_of_mem _ t_430)) (fun _ h9 => h9) 2 rfl dX2_readArguments_182 ?_
                  refine lv_icmp_ge (tgt := 199) hx hb dX2_readArguments_185 (by decide) (fun c_1012 => ?_) (fun c_1012 => ?_)
                  · have fc_1012 := le_f c_1012
                    have b_1013 : bd 0 2147483647 v69_2 := leR fc_1012 b_813 (bdT v69_2) (by decide)
                    refine lv_aload_n hx hb dX2_readArguments_199 rfl (lv_at hl 4 rfl) ?_
                    refine g_getk (C := RX2) (T := TX2) (N := 16) hx hb hts (mc_ inX2) hown hK g rfl 3 (by decide) rfl (hts _ (List.mem_cons_of_mem _ t_419)) (fun _ h9 => h9) 6 rfl dX2_readArguments_200 ?_
                    refine lv_aload_n hx hb dX2_readArguments_203 rfl (lv_at hl 4 rfl) ?_
                    refine g_geti (C := RX2) (T := TX2) (N := 16) hx hb hts (mc_ inX2) hown hK g ma0_ ka0_ (by decide) rfl 12 (by decide) rfl (hts _ (List.mem_cons_of_mem _ t_428)) (fun _ h9 => h9) rfl dX2_readArguments_204 (fun x_1014 bx_1014 g => ?_)
                    refine lv_aload_n hx hb dX2_readArguments_207 rfl (lv_at hl 4 rfl) ?_
                    refine g_geti (C := RX2) (T := TX2) (N := 16) hx hb hts (mc_ inX2) hown hK g ma0_ ka0_ (by decide) rfl 13 (by decide) rfl (hts _ (List.mem_cons_of_mem _ t_429)) (fun _ h9 => h9) rfl dX2_readArguments_208 (fun x_1015 bx_1015 g => ?_)
                    obtain ⟨a_1016, ma_1016, ka_1016, g⟩ := g_factr g mq3_ kq3_ (by decide) 4 rfl
                    obtain ⟨a_1017, ma_1017, ka_1017, g⟩ := g_factr g mq3_ kq3_ (by decide) 5 rfl
                    obtain ⟨x_1018, bx_1018, g⟩ := g_facti g mq3_ kq3_ (by decide) 6 rfl
                    have go_ := g
                    refine g_callv (va_runV (As := [.int x_1014, .int x_1015]) (rest := []) ⟨hx, hb, hml, hown, hts⟩ (r_X7_emitF l dC dI L kd tys fr_923 H.size g.2.2.2.1 q3_ mq3_ kq3_ a_1016 ma_1016 ka_1016 a_1017 ma_1017 ka_1017 x_1018 bx_1018 T_ hG_1009 x_1014 x_1015 (g.fcts [2, 1, 0] rfl)) (cwV 2 hts (gV_ t_1301 t_1204 t_1205 t_191 t_1206) rfl rfl rfl (by decide +kernel) ⟨(Nat.le_of_ble_eq_true rfl), (Nat.le_of_ble_eq_true rfl)⟩) (pre3V g hK mq3_ kq3_ (by decide) (q := (RX7, TX7, 19)) rfl) rfl rfl hl.1 rfl (lv_room (Nat.le_of_ble_eq_true rfl)) dX2_readArguments_211 ⟨(Nat.le_of_ble_eq_true rfl), (Nat.le_of_ble_eq_true rfl)⟩) g hK (by decide) (by decide) (fx' := [(7, 5, q3_, .ref a_1017), (7, 4, q3_, .ref a_1016), (2, 13, a0_, .int x_1015), (2, 12, a0_, .int x_1014), (8, 6, q0_, .int 1201), (8, 8, q0_, .int x_927), (2, 14, a0_, .int x_17), (2, 0, a0_, .ref q0_), (2, 1, a0_, .ref q1_), (2, 2, a0_, .ref q2_), (2, 3, a0_, .ref q3_), (0, 0, q2_, .ref q0_), (0, 1, q2_, .ref q1_), (5, 0, q1_, .ref q3_), (5, 1, q1_, .ref q7_)]) rfl (fun fr_1019 H locs hp hMr_1019 g => ?_)
                    obtain ⟨hG_1020, x_1021, h_1022, hF_1023⟩ := hp
                    have hG_1024 := eOK.frame hMr_1019 go_.2.2.2.1 mq2_ kq2_ (by decide) (by decide) hG_1011
                    have g := g.more hF_1023
                    refine lv_aload_n hx hb dX2_readArguments_214 rfl (lv_at hl 4 rfl) ?_
                    refine g_getk (C := RX2) (T := TX2) (N := 16) hx hb hts (mc_ inX2) hown hK g rfl 3 (by decide) rfl (hts _ (List.mem_cons_of_mem _ t_419)) (fun _ h9 => h9) 11 rfl dX2_readArguments_215 ?_
                    refine lv_bipush (v := 22) hx hb dX2_readArguments_218 (by decide) ?_
                    refine lv_iconst (v := 0) hx hb dX2_readArguments_220 (by decide) ?_
                    have go_ := g
                    refine g_callv (va_runV (As := [.int 22, .int 0]) (rest := []) ⟨hx, hb, hml, hown, hts⟩ (r_X7_emitF l dC dI L kd tys fr_1019 H.size g.2.2.2.1 q3_ mq3_ kq3_ a_1016 ma_1016 ka_1016 a_1017 ma_1017 ka_1017 x_1021 h_1022 T_ hG_1020 (22 : Int32) (0 : Int32) (g.fcts [2, 1, 0] rfl)) (cwV 2 hts (gV_ t_1301 t_1204 t_1205 t_191 t_1206) rfl rfl rfl (by decide +kernel) ⟨(Nat.le_of_ble_eq_true rfl), (Nat.le_of_ble_eq_true rfl)⟩) (pre3V g hK mq3_ kq3_ (by decide) (q := (RX7, TX7, 19)) rfl) rfl rfl hl.1 rfl (lv_room (Nat.le_of_ble_eq_true rfl)) dX2_readArguments_221 ⟨(Nat.le_of_ble_eq_true rfl), (Nat.le_of_ble_eq_true rfl)⟩) g hK (by decide) (by decide) (fx' := [(7, 5, q3_, .ref a_1017), (7, 4, q3_, .ref a_1016), (2, 13, a0_, .int x_1015), (2, 12, a0_, .int x_1014), (8, 6, q0_, .int 1201), (8, 8, q0_, .int x_927), (2, 14, a0_, .int x_17), (2, 0, a0_, .ref q0_), (2, 1, a0_, .ref q1_), (2, 2, a0_, .ref q2_), (2, 3, a0_, .ref q3_), (0, 0, q2_, .ref q0_), (0, 1, q2_, .ref q1_), (5, 0, q1_, .ref q3_), (5, 1, q1_, .ref q7_)]) rfl (fun fr_1025 H locs hp hMr_1025 g => ?_)
                    obtain ⟨hG_1026, x_1027, h_1028, hF_1029⟩ := hp
                    have hG_1030 := eOK.frame hMr_1025 go_.2.2.2.1 mq2_ kq2_ (by decide) (by decide) hG_1024
                    have g := g.more hF_1029
                    refine lv_aload_n hx hb dX2_readArguments_224 rfl (lv_at hl 4 rfl) ?_
                    refine g_getk (C := RX2) (T := TX2) (N := 16) hx hb hts (mc_ inX2) hown hK g rfl 0 (by decide) rfl (hts _ (List.mem_cons_of_mem _ t_416)) (fun _ h9 => h9) 8 rfl dX2_readArguments_225 ?_
                    refine lv_bipush (v := 59) hx hb dX2_readArguments_228 (by decide) ?_
                    have kb_1201 : bd 1201 1201 (1201 : Int32) := ⟨by decide, by decide⟩
                    have go_ := g
                    refine g_callv (va_runV (As := [.int 59]) (rest := []) ⟨hx, hb, hml, hown, hts⟩ (r_X8_take_2 l dC dI L kd tys fr_1025 H.size g.2.2.2.1 q0_ mq0_ kq0_ 59 1201 kb_1201 x_927 h_928 (g.fcts [5, 6] rfl)) (cwV 1 hts (gV_ t_1098 t_1099 t_1100 t_184 t_1101) rfl rfl rfl (by decide +kernel) ⟨(Nat.le_of_ble_eq_true rfl), (Nat.le_of_ble_eq_true rfl)⟩) (pre3V g hK mq0_ kq0_ (by decide) (q := (RX8, TX8, 10)) rfl) rfl rfl hl.1 rfl (lv_room (Nat.le_of_ble_eq_true rfl)) dX2_readArguments_230 ⟨(Nat.le_of_ble_eq_true rfl), (Nat.le_of_ble_eq_true rfl)⟩) g hK (by decide) (by decide) (fx' := [(7, 6, q3_, .int x_1027), (7, 5, q3_, .ref a_1017), (7, 4, q3_, .ref a_1016), (2, 13, a0_, .int x_1015), (2, 12, a0_, .int x_1014), (8, 8, q0_, .int x_927), (2, 14, a0_, .int x_17), (2, 0, a0_, .ref q0_), (2, 1, a0_, .ref q1_), (2, 2, a0_, .ref q2_), (2, 3, a0_, .ref q3_), (0, 0, q2_, .ref q0_), (0, 1, q2_, .ref q1_), (5, 0, q1_, .ref q3_), (5, 1, q1_, .ref q7_)]) rfl (fun fr_1031 H locs hp hMr_1031 g => ?_)
                    obtain ⟨x_1032, h_1033, hF_1034⟩ := hp
                    have hG_1035 := dOK.frame hMr_1031 go_.2.2.2.1 mq3_ kq3_ (by decide) (by decide) hG_1026
                    have hG_1036 := eOK.frame hMr_1031 go_.2.2.2.1 mq2_ kq2_ (by decide) (by decide) hG_1030
                    have g := g.more hF_1034
                    subst hQ
                    exact W.vret hx hb hr (fun t ht hW => ⟨⟨_, rfl, Or.inr (⟨hG_1035, hG_1036, x_1032, h_1033, x_927, h_928, (g.fcts [0, 6] rfl)⟩), q3_of g hK ht hW⟩, g.2.2.1.F ht⟩) g.2.2.1.2.2 dX2_readArguments_233
                  · have fc_1012 := nle_f c_1012
                    have b_1037 : bd (-2147483648) (-1) v69_2 := ltL fc_1012 (bdT v69_2) b_813 (by decide)
                    refine lv_aload_n hx hb dX2_readArguments_188 rfl (lv_at hl 4 rfl) ?_
                    refine g_getk (C := RX2) (T := TX2) (N := 16) hx hb hts (mc_ inX2) hown hK g rfl 0 (by decide) rfl (hts _ (List.mem_cons_of_mem _ t_416)) (fun _ h9 => h9) 3 rfl dX2_readArguments_189 ?_
                    refine lv_bipush (v := 6) hx hb dX2_readArguments_192 (by decide) ?_
                    refine lv_iload hx hb dX2_readArguments_194 (lv_at hl 0 rfl) ?_
                    have kb_6 : bd 6 6 (6 : Int32) := ⟨by decide, by decide⟩
                    have go_ := g
                    refine g_callv (va_runV (As := [.int 6, .int r_918]) (rest := []) ⟨hx, hb, hml, hown, hts⟩ (r_X8_fail_2 l dC dI L kd tys fr_923 H.size g.2.2.2.1 q0_ mq0_ kq0_ 6 (bd_sub kb_6 (by decide)) r_918 x_927 h_928 (g.fcts [1] rfl)) (cwV 2 hts (gV_ t_1122 t_1107 t_1108 t_184 t_1109) rfl rfl rfl (by decide +kernel) ⟨(Nat.le_of_ble_eq_true rfl), (Nat.le_of_ble_eq_true rfl)⟩) (pre3V g hK mq0_ kq0_ (by decide) (q := (RX8, TX8, 10)) rfl) rfl rfl hl.1 rfl (lv_room (Nat.le_of_ble_eq_true rfl)) dX2_readArguments_196 ⟨(Nat.le_of_ble_eq_true rfl), (Nat.le_of_ble_eq_true rfl)⟩) g hK (by decide) (by decide) (fx' := [(8, 8, q0_, .int x_927), (2, 14, a0_, .int x_17), (2, 0, a0_, .ref q0_), (2, 1, a0_, .ref q1_), (2, 2, a0_, .ref q2_), (2, 3, a0_, .ref q3_), (0, 0, q2_, .ref q0_), (0, 1, q2_, .ref q1_), (5, 0, q1_, .ref q3_), (5, 1, q1_, .ref q7_)]) rfl (fun fr_1038 H locs hp hMr_1038 g => ?_)
                    have hF_1039 := hp
                    have hG_1040 := cOK.frame hMr_1038 go_.2.2.2.1 mq3_ kq3_ (by decide) (by decide) hG_1008
                    have hG_1041 := dOK.frame hMr_1038 go_.2.2.2.1 mq3_ kq3_ (by decide) (by decide) hG_1009
                    have hG_1042 := jS.frame hMr_1038 go_.2.2.2.1 mq3_ kq3_ (by decide) (by decide) hG_1010
                    have hG_1043 := eOK.frame hMr_1038 go_.2.2.2.1 mq2_ kq2_ (by decide) (by decide) hG_1011
                    have g := g.more hF_1039
                    refine lv_aload_n hx hb dX2_readArguments_199 rfl (lv_at hl 4 rfl) ?_
                    refine g_getk (C := RX2) (T := TX2) (N := 16) hx hb hts (mc_ inX2) hown hK g rfl 3 (by decide) rfl (hts _ (List.mem_cons_of_mem _ t_419)) (fun _ h9 => h9) 6 rfl dX2_readArguments_200 ?_
                    refine lv_aload_n hx hb dX2_readArguments_203 rfl (lv_at hl 4 rfl) ?_
                    refine g_geti (C := RX2) (T := TX2) (N := 16) hx hb hts (mc_ inX2) hown hK g ma0_ ka0_ (by decide) rfl 12 (by decide) rfl (hts _ (List.mem_cons_of_mem _ t_428)) (fun _ h9 => h9) rfl dX2_readArguments_204 (fun x_1044 bx_1044 g => ?_)
                    refine lv_aload_n hx hb dX2_readArguments_207 rfl (lv_at hl 4 rfl) ?_
                    refine g_geti (C := RX2) (T := TX2) (N := 16) hx hb hts (mc_ inX2) hown hK g ma0_ ka0_ (by decide) rfl 13 (by decide) rfl (hts _ (List.mem_cons_of_mem _ t_429)) (fun _ h9 => h9) rfl dX2_readArguments_208 (fun x_1045 bx_1045 g => ?_)
                    obtain ⟨a_1046, ma_1046, ka_1046, g⟩ := g_factr g mq3_ kq3_ (by decide) 4 rfl
                    obtain ⟨a_1047, ma_1047, ka_1047, g⟩ := g_factr g mq3_ kq3_ (by decide) 5 rfl
                    obtain ⟨x_1048, bx_1048, g⟩ := g_facti g mq3_ kq3_ (by decide) 6 rfl
                    have go_ := g
                    refine g_callv (va_runV (As := [.int x_1044, .int x_1045]) (rest := []) ⟨hx, hb, hml, hown, hts⟩ (r_X7_emitF l dC dI L kd tys fr_1038 H.size g.2.2.2.1 q3_ mq3_ kq3_ a_1046 ma_1046 ka_1046 a_1047 ma_1047 ka_1047 x_1048 bx_1048 T_ hG_1041 x_1044 x_1045 (g.fcts [2, 1, 0] rfl)) (cwV 2 hts (gV_ t_1301 t_1204 t_1205 t_191 t_1206) rfl rfl rfl (by decide +kernel) ⟨(Nat.le_of_ble_eq_true rfl), (Nat.le_of_ble_eq_true rfl)⟩) (pre3V g hK mq3_ kq3_ (by decide) (q := (RX7, TX7, 19)) rfl) rfl rfl hl.1 rfl (lv_room (Nat.le_of_ble_eq_true rfl)) dX2_readArguments_211 ⟨(Nat.le_of_ble_eq_true rfl), (Nat.le_of_ble_eq_true rfl)⟩) g hK (by decide) (by decide) (fx' := [(7, 5, q3_, .ref a_1047), (7, 4, q3_, .ref a_1046), (2, 13, a0_, .int x_1045), (2, 12, a0_, .int x_1044), (8, 6, q0_, .int 1201), (8, 8, q0_, .int x_927), (2, 14, a0_, .int x_17), (2, 0, a0_, .ref q0_), (2, 1, a0_, .ref q1_), (2, 2, a0_, .ref q2_), (2, 3, a0_, .ref q3_), (0, 0, q2_, .ref q0_), (0, 1, q2_, .ref q1_), (5, 0, q1_, .ref q3_), (5, 1, q1_, .ref q7_)]) rfl (fun fr_1049 H locs hp hMr_1049 g => ?_)
                    obtain ⟨hG_1050, x_1051, h_1052, hF_1053⟩ := hp
                    have hG_1054 := eOK.frame hMr_1049 go_.2.2.2.1 mq2_ kq2_ (by decide) (by decide) hG_1043
                    have g := g.more hF_1053
                    refine lv_aload_n hx hb dX2_readArguments_214 rfl (lv_at hl 4 rfl) ?_
                    refine g_getk (C := RX2) (T := TX2) (N := 16) hx hb hts (mc_ inX2) hown hK g rfl 3 (by decide) rfl (hts _ (List.mem_cons_of_mem _ t_419)) (fun _ h9 => h9) 11 rfl dX2_readArguments_215 ?_
                    refine lv_bipush (v := 22) hx hb dX2_readArguments_218 (by decide) ?_
                    refine lv_iconst (v := 0) hx hb dX2_readArguments_220 (by decide) ?_
                    have go_ := g
                    refine g_callv (va_runV (As := [.int 22, .int 0]) (rest := []) ⟨hx, hb, hml, hown, hts⟩ (r_X7_emitF l dC dI L kd tys fr_1049 H.size g.2.2.2.1 q3_ mq3_ kq3_ a_1046 ma_1046 ka_1046 a_1047 ma_1047 ka_1047 x_1051 h_1052 T_ hG_1050 (22 : Int32) (0 : Int32) (g.fcts [2, 1, 0] rfl)) (cwV 2 hts (gV_ t_1301 t_1204 t_1205 t_191 t_1206) rfl rfl rfl (by decide +kernel) ⟨(Nat.le_of_ble_eq_true rfl), (Nat.le_of_ble_eq_true rfl)⟩) (pre3V g hK mq3_ kq3_ (by decide) (q := (RX7, TX7, 19)) rfl) rfl rfl hl.1 rfl (lv_room (Nat.le_of_ble_eq_true rfl)) dX2_readArguments_221 ⟨(Nat.le_of_ble_eq_true rfl), (Nat.le_of_ble_eq_true rfl)⟩) g hK (by decide) (by decide) (fx' := [(7, 5, q3_, .ref a_1047), (7, 4, q3_, .ref a_1046), (2, 13, a0_, .int x_1045), (2, 12, a0_, .int x_1044), (8, 6, q0_, .int 1201), (8, 8, q0_, .int x_927), (2, 14, a0_, .int x_17), (2, 0, a0_, .ref q0_), (2, 1, a0_, .ref q1_), (2, 2, a0_, .ref q2_), (2, 3, a0_, .ref q3_), (0, 0, q2_, .ref q0_), (0, 1, q2_, .ref q1_), (5, 0, q1_, .ref q3_), (5, 1, q1_, .ref q7_)]) rfl (fun fr_1055 H locs hp hMr_1055 g => ?_)
                    obtain ⟨hG_1056, x_1057, h_1058, hF_1059⟩ := hp
                    have hG_1060 := eOK.frame hMr_1055 go_.2.2.2.1 mq2_ kq2_ (by decide) (by decide) hG_1054
                    have g := g.more hF_1059
                    refine lv_aload_n hx hb dX2_readArguments_224 rfl (lv_at hl 4 rfl) ?_
                    refine g_getk (C := RX2) (T := TX2) (N := 16) hx hb hts (mc_ inX2) hown hK g rfl 0 (by decide) rfl (hts _ (List.mem_cons_of_mem _ t_416)) (fun _ h9 => h9) 8 rfl dX2_readArguments_225 ?_
                    refine lv_bipush (v := 59) hx hb dX2_readArguments_228 (by decide) ?_
                    have kb_1201 : bd 1201 1201 (1201 : Int32) := ⟨by decide, by decide⟩
                    have go_ := g
                    refine g_callv (va_runV (As := [.int 59]) (rest := []) ⟨hx, hb, hml, hown, hts⟩ (r_X8_take_2 l dC dI L kd tys fr_1055 H.size g.2.2.2.1 q0_ mq0_ kq0_ 59 1201 kb_1201 x_927 h_928 (g.fcts [5, 6] rfl)) (cwV 1 hts (gV_ t_1098 t_1099 t_1100 t_184 t_1101) rfl rfl rfl (by decide +kernel) ⟨(Nat.le_of_ble_eq_true rfl), (Nat.le_of_ble_eq_true rfl)⟩) (pre3V g hK mq0_ kq0_ (by decide) (q := (RX8, TX8, 10)) rfl) rfl rfl hl.1 rfl (lv_room (Nat.le_of_ble_eq_true rfl)) dX2_readArguments_230 ⟨(Nat.le_of_ble_eq_true rfl), (Nat.le_of_ble_eq_true rfl)⟩) g hK (by decide) (by decide) (fx' := [(7, 6, q3_, .int x_1057), (7, 5, q3_, .ref a_1047), (7, 4, q3_, .ref a_1046), (2, 13, a0_, .int x_1045), (2, 12, a0_, .int x_1044), (8, 8, q0_, .int x_927), (2, 14, a0_, .int x_17), (2, 0, a0_, .ref q0_), (2, 1, a0_, .ref q1_), (2, 2, a0_, .ref q2_), (2, 3, a0_, .ref q3_), (0, 0, q2_, .ref q0_), (0, 1, q2_, .ref q1_), (5, 0, q1_, .ref q3_), (5, 1, q1_, .ref q7_)]) rfl (fun fr_1061 H locs hp hMr_1061 g => ?_)
                    obtain ⟨x_1062, h_1063, hF_1064⟩ := hp
                    have hG_1065 := dOK.frame hMr_1061 go_.2.2.2.1 mq3_ kq3_ (by decide) (by decide) hG_1056
                    have hG_1066 := eOK.frame hMr_1061 go_.2.2.2.1 mq2_ kq2_ (by decide) (by decide) hG_1060
                    have g := g.more hF_1064
                    subst hQ
                    exact W.vret hx hb hr (fun t ht hW => ⟨⟨_, rfl, Or.inr (⟨hG_1065, hG_1066, x_1062, h_1063, x_927, h_928, (g.fcts [0, 6] rfl)⟩), q3_of g hK ht hW⟩, g.2.2.1.F ht⟩) g.2.2.1.2.2 dX2_readArguments_233
              · have fc_916 := nlt_f c_916
                have b_1067 : bd 0 3 v69_4 := leL fc_916 bv69_4 kb_3 (by decide)
                refine lv_iload_n hx hb dX2_readArguments_75 rfl (lv_at hl 1 rfl) ?_
                refine lv_if_eq (tgt := 162) hx hb dX2_readArguments_76 (by decide) (fun c_1068 => ?_) (fun c_1068 => ?_)
                · have fc_1068 := eq_f c_1068
                  have b_1069 : bd 0 0 v69_3 := eqX fc_1068 bv69_3 kb_0 (by decide)
                  refine lv_aload_n hx hb dX2_readArguments_162 rfl (lv_at hl 4 rfl) ?_
                  refine g_getk (C := RX2) (T := TX2) (N := 16) hx hb hts (mc_ inX2) hown hK g rfl 0 (by decide) rfl (hts _ (List.mem_cons_of_mem _ t_416)) (fun _ h9 => h9) 2 rfl dX2_readArguments_163 ?_
                  have go_ := g
                  refine g_calli (va_runV (As := []) (rest := []) ⟨hx, hb, hml, hown, hts⟩ (r_X8_place l dC dI L kd tys f H.size g.2.2.2.1 q0_ mq0_ kq0_) (cwV 0 hts (gV_ t_1110 t_1111 t_1112 t_184 t_1113) rfl rfl rfl (by decide +kernel) ⟨(Nat.le_of_ble_eq_true rfl), (Nat.le_of_ble_eq_true rfl)⟩) (pre3V g hK mq0_ kq0_ (by decide) (q := (RX8, TX8, 10)) rfl) rfl rfl hl.1 rfl (lv_room (Nat.le_of_ble_eq_true rfl)) dX2_readArguments_166 ⟨(Nat.le_of_ble_eq_true rfl), (Nat.le_of_ble_eq_true rfl)⟩) g hK (by decide) (by decide) (fx' := [(2, 14, a0_, .int x_17), (8, 8, q0_, .int y0_), (2, 0, a0_, .ref q0_), (2, 1, a0_, .ref q1_), (2, 2, a0_, .ref q2_), (2, 3, a0_, .ref q3_), (0, 0, q2_, .ref q0_), (0, 1, q2_, .ref q1_), (5, 0, q1_, .ref q3_), (5, 1, q1_, .ref q7_)]) rfl (fun r_1070 fr_1070 H locs hp hMr_1070 g => ?_)
                  have hG_1071 := cOK.frame hMr_1070 go_.2.2.2.1 mq3_ kq3_ (by decide) (by decide) hG69_c_q3_
                  have hG_1072 := dOK.frame hMr_1070 go_.2.2.2.1 mq3_ kq3_ (by decide) (by decide) hG69_d_q3_
                  have hG_1073 := jS.frame hMr_1070 go_.2.2.2.1 mq3_ kq3_ (by decide) (by decide) hG69_s_q3_
                  have hG_1074 := eOK.frame hMr_1070 go_.2.2.2.1 mq2_ kq2_ (by decide) (by decide) hG69_e_q2_
                  refine lv_istore (lv' := [(4, .int r_1070), (3, .int v69_3), (2, .int v69_2), (1, .int r_1), (0, .ref a0_)]) hx hb dX2_readArguments_169 hl (by decide) rfl (fun ls hl => ?_)
                  refine lv_aload_n hx hb dX2_readArguments_171 rfl (lv_at hl 4 rfl) ?_
                  refine g_getk (C := RX2) (T := TX2) (N := 16) hx hb hts (mc_ inX2) hown hK g rfl 0 (by decide) rfl (hts _ (List.mem_cons_of_mem _ t_416)) (fun _ h9 => h9) 2 rfl dX2_readArguments_172 ?_
                  refine lv_bipush (v := 41) hx hb dX2_readArguments_175 (by decide) ?_
                  have go_ := g
                  refine g_callv (va_runV (As := [.int 41]) (rest := []) ⟨hx, hb, hml, hown, hts⟩ (r_X8_take l dC dI L kd tys fr_1070 H.size g.2.2.2.1 q0_ mq0_ kq0_ 41 y0_ by0_ (g.fcts [1] rfl)) (cwV 1 hts (gV_ t_1098 t_1099 t_1100 t_184 t_1101) rfl rfl rfl (by decide +kernel) ⟨(Nat.le_of_ble_eq_true rfl), (Nat.le_of_ble_eq_true rfl)⟩) (pre3V g hK mq0_ kq0_ (by decide) (q := (RX8, TX8, 10)) rfl) rfl rfl hl.1 rfl (lv_room (Nat.le_of_ble_eq_true rfl)) dX2_readArguments_177 ⟨(Nat.le_of_ble_eq_true rfl), (Nat.le_of_ble_eq_true rfl)⟩) g hK (by decide) (by decide) (fx' := [(2, 14, a0_, .int x_17), (2, 0, a0_, .ref q0_), (2, 1, a0_, .ref q1_), (2, 2, a0_, .ref q2_), (2, 3, a0_, .ref q3_), (0, 0, q2_, .ref q0_), (0, 1, q2_, .ref q1_), (5, 0, q1_, .ref q3_), (5, 1, q1_, .ref q7_)]) rfl (fun fr_1075 H locs hp hMr_1075 g => ?_)
                  rcases hp with ⟨x_1076, h_1077, hF_1078⟩ | ⟨x_1079, h_1080, hF_1081⟩
                  · have hG_1082 := cOK.frame hMr_1075 go_.2.2.2.1 mq3_ kq3_ (by decide) (by decide) hG_1071
                    have hG_1083 := dOK.frame hMr_1075 go_.2.2.2.1 mq3_ kq3_ (by decide) (by decide) hG_1072
                    have hG_1084 := jS.frame hMr_1075 go_.2.2.2.1 mq3_ kq3_ (by decide) (by decide) hG_1073
                    have hG_1085 := eOK.frame hMr_1075 go_.2.2.2.1 mq2_ kq2_ (by decide) (by decide) hG_1074
                    have g := g.more hF_1078
                    refine lv_iload_n hx hb dX2_readArguments_180 rfl (lv_at hl 2 rfl) ?_
                    refine lv_aload_n hx hb dX2_readArguments_181 rfl (lv_at hl 4 rfl) ?_
                    refine g_getk (C := RX2) (T := TX2) (N := 16) hx hb hts (mc_ inX2) hown hK g rfl 14 (by decide) rfl (hts _ (List.mem_cons_of_mem _ t_430)) (fun _ h9 => h9) 2 rfl dX2_readArguments_182 ?_
                    refine lv_icmp_ge (tgt := 199) hx hb dX2_readArguments_185 (by decide) (fun c_1086 => ?_) (fun c_1086 => ?_)
                    · have fc_1086 := le_f c_1086
                      have b_1087 : bd 0 2147483647 v69_2 := leR fc_1086 b_813 (bdT v69_2) (by decide)
                      refine lv_aload_n hx hb dX2_readArguments_199 rfl (lv_at hl 4 rfl) ?_
                      refine g_getk (C := RX2) (T := TX2) (N := 16) hx hb hts (mc_ inX2) hown hK g rfl 3 (by decide) rfl (hts _ (List.mem_cons_of_mem _ t_419)) (fun _ h9 => h9) 6 rfl dX2_readArguments_200 ?_
                      refine lv_aload_n hx hb dX2_readArguments_203 rfl (lv_at hl 4 rfl) ?_
                      refine g_geti (C := RX2) (T := TX2) (N := 16) hx hb hts (mc_ inX2) hown hK g ma0_ ka0_ (by decide) rfl 12 (by decide) rfl (hts _ (List.mem_cons_of_mem _ t_428)) (fun _ h9 => h9) rfl dX2_readArguments_204 (fun x_1088 bx_1088 g => ?_)
                      refine lv_aload_n hx hb dX2_readArguments_207 rfl (lv_at hl 4 rfl) ?_
                      refine g_geti (C := RX2) (T := TX2) (N := 16) hx hb hts (mc_ inX2) hown hK g ma0_ ka0_ (by decide) rfl 13 (by decide) rfl (hts _ (List.mem_cons_of_mem _ t_429)) (fun _ h9 => h9) rfl dX2_readArguments_208 (fun x_1089 bx_1089 g => ?_)
                      obtain ⟨a_1090, ma_1090, ka_1090, g⟩ := g_factr g mq3_ kq3_ (by decide) 4 rfl
                      obtain ⟨a_1091, ma_1091, ka_1091, g⟩ := g_factr g mq3_ kq3_ (by decide) 5 rfl
                      obtain ⟨x_1092, bx_1092, g⟩ := g_facti g mq3_ kq3_ (by decide) 6 rfl
                      have go_ := g
                      refine g_callv (va_runV (As := [.int x_1088, .int x_1089]) (rest := []) ⟨hx, hb, hml, hown, hts⟩ (r_X7_emitN l dC dI L kd tys fr_1075 H.size g.2.2.2.1 q3_ mq3_ kq3_ a_1090 ma_1090 ka_1090 a_1091 ma_1091 ka_1091 x_1092 bx_1092 T_ hG_1083 x_1088 x_1089 (fun j9 => jOK fr_1075 q3_ j9) hG_1082 (fun _ h9 => h9) ⟨(fun h9 => ⟨(by have h9_0 := b_820; unfold bd at h9_0; have h9_1 := b_1087; unfold bd at h9_1; have h9_2 := b_1069; unfold bd at h9_2; have h9_3 := b_1067; unfold bd at h9_3; have h9_4 := h_1077; unfold bd at h9_4; have h9_5 := bx_1089; unfold bd at h9_5; have h9_6 := bx_1092; unfold bd at h9_6; have h9_7 := b_813; unfold bd at h9_7; have h9_8 := h_8; unfold bd at h9_8; have h9_9 := by0_; unfold bd at h9_9; have h8_0 := kb_0; unfold bd at h8_0; have h8_1 := kb_3; unfold bd at h8_1; have h8_2 := kb_41; unfold bd at h8_2; omega), (by have h9_0 := b_820; unfold bd at h9_0; have h9_1 := b_1087; unfold bd at h9_1; have h9_2 := b_1069; unfold bd at h9_2; have h9_3 := b_1067; unfold bd at h9_3; have h9_4 := h_1077; unfold bd at h9_4; have h9_5 := bx_1089; unfold bd at h9_5; have h9_6 := bx_1092; unfold bd at h9_6; have h9_7 := b_813; unfold bd at h9_7; have h9_8 := h_8; unfold bd at h9_8; have h9_9 := by0_; unfold bd at h9_9; have h8_0 := kb_0; unfold bd at h8_0; have h8_1 := kb_3; unfold bd at h8_1; have h8_2 := kb_41; unfold bd at h8_2; omega)⟩), (fun h9 => ⟨(by have h9_0 := b_820; unfold bd at h9_0; have h9_1 := b_1087; unfold bd at h9_1; have h9_2 := b_1069; unfold bd at h9_2; have h9_3 := b_1067; unfold bd at h9_3; have h9_4 := h_1077; unfold bd at h9_4; have h9_5 := bx_1089; unfold bd at h9_5; have h9_6 := bx_1092; unfold bd at h9_6; have h9_7 := b_813; unfold bd at h9_7; have h9_8 := h_8; unfold bd at h9_8; have h9_9 := by0_; unfold bd at h9_9; have h8_0 := kb_0; unfold bd at h8_0; have h8_1 := kb_3; unfold bd at h8_1; have h8_2 := kb_41; unfold bd at h8_2; omega), (by have h9_0 := b_820; unfold bd at h9_0; have h9_1 := b_1087; unfold bd at h9_1; have h9_2 := b_1069; unfold bd at h9_2; have h9_3 := b_1067; unfold bd at h9_3; have h9_4 := h_1077; unfold bd at h9_4; have h9_5 := bx_1089; unfold bd at h9_5; have h9_6 := bx_1092; unfold bd at h9_6; have h9_7 := b_813; unfold bd at h9_7; have h9_8 := h_8; unfold bd at h9_8; have h9_9 := by0_; unfold bd at h9_9; have h8_0 := kb_0; unfold bd at h8_0; have h8_1 := kb_3; unfold bd at h8_1; have h8_2 := kb_41; unfold bd at h8_2; omega)⟩), (fun h9 => ⟨(by have h9_0 := b_820; unfold bd at h9_0; have h9_1 := b_1087; unfold bd at h9_1; have h9_2 := b_1069; unfold bd at h9_2; have h9_3 := b_1067; unfold bd at h9_3; have h9_4 := h_1077; unfold bd at h9_4; have h9_5 := bx_1089; unfold bd at h9_5; have h9_6 := bx_1092; unfold bd at h9_6; have h9_7 := b_813; unfold bd at h9_7; have h9_8 := h_8; unfold bd at h9_8; have h9_9 := by0_; unfold bd at h9_9; have h8_0 := kb_0; unfold bd at h8_0; have h8_1 := kb_3; unfold bd at h8_1; have h8_2 := kb_41; unfold bd at h8_2; omega), (by have h9_0 := b_820; unfold bd at h9_0; have h9_1 := b_1087; unfold bd at h9_1; have h9_2 := b_1069; unfold bd at h9_2; have h9_3 := b_1067; unfold bd at h9_3; have h9_4 := h_1077; unfold bd at h9_4; have h9_5 := bx_1089; unfold bd at h9_5; have h9_6 := bx_1092; unfold bd at h9_6; have h9_7 := b_813; unfold bd at h9_7; have h9_8 := h_8; unfold bd at h9_8; have h9_9 := by0_; unfold bd at h9_9; have h8_0 := kb_0; unfold bd at h8_0; have h8_1 := kb_3; unfold bd at h8_1; have h8_2 := kb_41; unfold bd at h8_2; omega)⟩)⟩ (g.fcts [2, 1, 0] rfl)) (cwV 2 hts (gV_ t_1301 t_1204 t_1205 t_191 t_1206) rfl rfl rfl (by decide +kernel) ⟨(Nat.le_of_ble_eq_true rfl), (Nat.le_of_ble_eq_true rfl)⟩) (pre3V g hK mq3_ kq3_ (by decide) (q := (RX7, TX7, 19)) rfl) rfl rfl hl.1 rfl (lv_room (Nat.le_of_ble_eq_true rfl)) dX2_readArguments_211 ⟨(Nat.le_of_ble_eq_true rfl), (Nat.le_of_ble_eq_true rfl)⟩) g hK (by decide) (by decide) (fx' := [(7, 5, q3_, .ref a_1091), (7, 4, q3_, .ref a_1090), (2, 13, a0_, .int x_1089), (2, 12, a0_, .int x_1088), (8, 6, q0_, .int x_1076), (8, 8, q0_, .int y0_), (2, 14, a0_, .int x_17), (2, 0, a0_, .ref q0_), (2, 1, a0_, .ref q1_), (2, 2, a0_, .ref q2_), (2, 3, a0_, .ref q3_), (0, 0, q2_, .ref q0_), (0, 1, q2_, .ref q1_), (5, 0, q1_, .ref q3_), (5, 1, q1_, .ref q7_)]) rfl (fun fr_1093 H locs hp hMr_1093 g => ?_)
                      obtain ⟨hG_1094, hG_1095, hG_1096, hx_1097, x_1098, h_1099, hF_1100⟩ := hp
                      have hG_1101 := eOK.frame hMr_1093 go_.2.2.2.1 mq2_ kq2_ (by decide) (by decide) hG_1085
                      have g := g.more hF_1100
                      have hs_1102 := jS.mv hG_1084 hG_1096
                      refine lv_aload_n hx hb dX2_readArguments_214 rfl (lv_at hl 4 rfl) ?_
                      refine g_getk (C := RX2) (T := TX2) (N := 16) hx hb hts (mc_ inX2) hown hK g rfl 3 (by decide) rfl (hts _ (List.mem_cons_of_mem _ t_419)) (fun _ h9 => h9) 11 rfl dX2_readArguments_215 ?_
                      refine lv_bipush (v := 22) hx hb dX2_readArguments_218 (by decide) ?_
                      refine lv_iconst (v := 0) hx hb dX2_readArguments_220 (by decide) ?_
                      have kb_22 : bd 22 22 (22 : Int32) := ⟨by decide, by decide⟩
                      have go_ := g
                      refine g_callv (va_runV (As := [.int 22, .int 0]) (rest := []) ⟨hx, hb, hml, hown, hts⟩ (r_X7_emitN l dC dI L kd tys fr_1093 H.size g.2.2.2.1 q3_ mq3_ kq3_ a_1090 ma_1090 ka_1090 a_1091 ma_1091 ka_1091 x_1098 h_1099 T_ hG_1094 (22 : Int32) (0 : Int32) (fun j9 => jOK fr_1093 q3_ j9) hG_1095 (fun _ h9 => h9) ⟨(fun h9 => ⟨(by have h9_0 := b_820; unfold bd at h9_0; have h9_1 := b_1087; unfold bd at h9_1; have h9_2 := b_1069; unfold bd at h9_2; have h9_3 := b_1067; unfold bd at h9_3; have h9_4 := h_1077; unfold bd at h9_4; have h9_5 := bx_1089; unfold bd at h9_5; have h9_6 := bx_1092; unfold bd at h9_6; have h9_7 := h_1099; unfold bd at h9_7; have h9_8 := b_813; unfold bd at h9_8; have h9_9 := h_8; unfold bd at h9_9; have h9_10 := by0_; unfold bd at h9_10; have h8_0 := kb_0; unfold bd at h8_0; have h8_1 := kb_22; unfold bd at h8_1; have h8_2 := kb_3; unfold bd at h8_2; have h8_3 := kb_41; unfold bd at h8_3; omega), (by have h9_0 := b_820; unfold bd at h9_0; have h9_1 := b_1087; unfold bd at h9_1; have h9_2 := b_1069; unfold bd at h9_2; have h9_3 := b_1067; unfold bd at h9_3; have h9_4 := h_1077; unfold bd at h9_4; have h9_5 := bx_1089; unfold bd at h9_5; have h9_6 := bx_1092; unfold bd at h9_6; have h9_7 := h_1099; unfold bd at h9_7; have h9_8 := b_813; unfold bd at h9_8; have h9_9 := h_8; unfold bd at h9_9; have h9_10 := by0_; unfold bd at h9_10; have h8_0 := kb_0; unfold bd at h8_0; have h8_1 := kb_22; unfold bd at h8_1; have h8_2 := kb_3; unfold bd at h8_2; have h8_3 := kb_41; unfold bd at h8_3; omega)⟩), (fun h9 => ⟨(by have h9_0 := b_820; unfold bd at h9_0; have h9_1 := b_1087; unfold bd at h9_1; have h9_2 := b_1069; unfold bd at h9_2; have h9_3 := b_1067; unfold bd at h9_3; have h9_4 := h_1077; unfold bd at h9_4; have h9_5 := bx_1089; unfold bd at h9_5; have h9_6 := bx_1092; unfold bd at h9_6; have h9_7 := h_1099; unfold bd at h9_7; have h9_8 := b_813; unfold bd at h9_8; have h9_9 := h_8; unfold bd at h9_9; have h9_10 := by0_; unfold bd at h9_10; have h8_0 := kb_0; unfold bd at h8_0; have h8_1 := kb_22; unfold bd at h8_1; have h8_2 := kb_3; unfold bd at h8_2; have h8_3 := kb_41; unfold bd at h8_3; omega), (by have h9_0 := b_820; unfold bd at h9_0; have h9_1 := b_1087; unfold bd at h9_1; have h9_2 := b_1069; unfold bd at h9_2; have h9_3 := b_1067; unfold bd at h9_3; have h9_4 := h_1077; unfold bd at h9_4; have h9_5 := bx_1089; unfold bd at h9_5; have h9_6 := bx_1092; unfold bd at h9_6; have h9_7 := h_1099; unfold bd at h9_7; have h9_8 := b_813; unfold bd at h9_8; have h9_9 := h_8; unfold bd at h9_9; have h9_10 := by0_; unfold bd at h9_10; have h8_0 := kb_0; unfold bd at h8_0; have h8_1 := kb_22; unfold bd at h8_1; have h8_2 := kb_3; unfold bd at h8_2; have h8_3 := kb_41; unfold bd at h8_3; omega)⟩), (fun h9 => ⟨(by have h9_0 := b_820; unfold bd at h9_0; have h9_1 := b_1087; unfold bd at h9_1; have h9_2 := b_1069; unfold bd at h9_2; have h9_3 := b_1067; unfold bd at h9_3; have h9_4 := h_1077; unfold bd at h9_4; have h9_5 := bx_1089; unfold bd at h9_5; have h9_6 := bx_1092; unfold bd at h9_6; have h9_7 := h_1099; unfold bd at h9_7; have h9_8 := b_813; unfold bd at h9_8; have h9_9 := h_8; unfold bd at h9_9; have h9_10 := by0_; unfold bd at h9_10; have h8_0 := kb_0; unfold bd at h8_0; have h8_1 := kb_22; unfold bd at h8_1; have h8_2 := kb_3; unfold bd at h8_2; have h8_3 := kb_41; unfold bd at h8_3; omega), (by have h9_0 := b_820; unfold bd at h9_0; have h9_1 := b_1087; unfold bd at h9_1; have h9_2 := b_1069; unfold bd at h9_2; have h9_3 := b_1067; unfold bd at h9_3; have h9_4 := h_1077; unfold bd at h9_4; have h9_5 := bx_1089; unfold bd at h9_5; have h9_6 := bx_1092; unfold bd at h9_6; have h9_7 := h_1099; unfold bd at h9_7; have h9_8 := b_813; unfold bd at h9_8; have h9_9 := h_8; unfold bd at h9_9; have h9_10 := by0_; unfold bd at h9_10; have h8_0 := kb_0; unfold bd at h8_0; have h8_1 := kb_22; unfold bd at h8_1; have h8_2 := kb_3; unfold bd at h8_2; have h8_3 := kb_41; unfold bd at h8_3; omega)⟩)⟩ (g.fcts [2, 1, 0] rfl)) (cwV 2 hts (gV_ t_1301 t_1204 t_1205 t_191 t_1206) rfl rfl rfl (by decide +kernel) ⟨(Nat.le_of_ble_eq_true rfl), (Nat.le_of_ble_eq_true rfl)⟩) (pre3V g hK mq3_ kq3_ (by decide) (q := (RX7, TX7, 19)) rfl) rfl rfl hl.1 rfl (lv_room (Nat.le_of_ble_eq_true rfl)) dX2_readArguments_221 ⟨(Nat.le_of_ble_eq_true rfl), (Nat.le_of_ble_eq_true rfl)⟩) g hK (by decide) (by decide) (fx' := [(7, 5, q3_, .ref a_1091), (7, 4, q3_, .ref a_1090), (2, 13, a0_, .int x_1089), (2, 12, a0_, .int x_1088), (8, 6, q0_, .int x_1076), (8, 8, q0_, .int y0_), (2, 14, a0_, .int x_17), (2, 0, a0_, .ref q0_), (2, 1, a0_, .ref q1_), (2, 2, a0_, .ref q2_), (2, 3, a0_, .ref q3_), (0, 0, q2_, .ref q0_), (0, 1, q2_, .ref q1_), (5, 0, q1_, .ref q3_), (5, 1, q1_, .ref q7_)]) rfl (fun fr_1103 H locs hp hMr_1103 g => ?_)
                      obtain ⟨hG_1104, hG_1105, hG_1106, hx_1107, x_1108, h_1109, hF_1110⟩ := hp
                      have hG_1111 := eOK.frame hMr_1103 go_.2.2.2.1 mq2_ kq2_ (by decide) (by decide) hG_1101
                      have g := g.more hF_1110
                      have hs_1112 := jS.mv hs_1102 hG_1106
                      refine lv_aload_n hx hb dX2_readArguments_224 rfl (lv_at hl 4 rfl) ?_
                      refine g_getk (C := RX2) (T := TX2) (N := 16) hx hb hts (mc_ inX2) hown hK g rfl 0 (by decide) rfl (hts _ (List.mem_cons_of_mem _ t_416)) (fun _ h9 => h9) 8 rfl dX2_readArguments_225 ?_
                      refine lv_bipush (v := 59) hx hb dX2_readArguments_228 (by decide) ?_
                      have go_ := g
                      refine g_callv (va_runV (As := [.int 59]) (rest := []) ⟨hx, hb, hml, hown, hts⟩ (r_X8_take l dC dI L kd tys fr_1103 H.size g.2.2.2.1 q0_ mq0_ kq0_ 59 y0_ by0_ (g.fcts [6] rfl)) (cwV 1 hts (gV_ t_1098 t_1099 t_1100 t_184 t_1101) rfl rfl rfl (by decide +kernel) ⟨(Nat.le_of_ble_eq_true rfl), (Nat.le_of_ble_eq_true rfl)⟩) (pre3V g hK mq0_ kq0_ (by decide) (q := (RX8, TX8, 10)) rfl) rfl rfl hl.1 rfl (lv_room (Nat.le_of_ble_eq_true rfl)) dX2_readArguments_230 ⟨(Nat.le_of_ble_eq_true rfl), (Nat.le_of_ble_eq_true rfl)⟩) g hK (by decide) (by decide) (fx' := [(7, 6, q3_, .int x_1108), (7, 5, q3_, .ref a_1091), (7, 4, q3_, .ref a_1090), (2, 13, a0_, .int x_1089), (2, 12, a0_, .int x_1088), (2, 14, a0_, .int x_17), (2, 0, a0_, .ref q0_), (2, 1, a0_, .ref q1_), (2, 2, a0_, .ref q2_), (2, 3, a0_, .ref q3_), (0, 0, q2_, .ref q0_), (0, 1, q2_, .ref q1_), (5, 0, q1_, .ref q3_), (5, 1, q1_, .ref q7_)]) rfl (fun fr_1113 H locs hp hMr_1113 g => ?_)
                      rcases hp with ⟨x_1114, h_1115, hF_1116⟩ | ⟨x_1117, h_1118, hF_1119⟩
                      · have hG_1120 := cOK.frame hMr_1113 go_.2.2.2.1 mq3_ kq3_ (by decide) (by decide) hG_1105
                        have hG_1121 := dOK.frame hMr_1113 go_.2.2.2.1 mq3_ kq3_ (by decide) (by decide) hG_1104
                        have hG_1122 := jS.frame hMr_1113 go_.2.2.2.1 mq3_ kq3_ (by decide) (by decide) hs_1112
                        have hG_1123 := eOK.frame hMr_1113 go_.2.2.2.1 mq2_ kq2_ (by decide) (by decide) hG_1111
                        have g := g.more hF_1116
                        subst hQ
                        exact W.vret hx hb hr (fun t ht hW => ⟨⟨_, rfl, Or.inl ⟨hG_1120, hG_1121, hG_1122, hG_1123, x_1114, h_1115, (g.fcts [0, 1] rfl)⟩, q3_of g hK ht hW⟩, g.2.2.1.F ht⟩) g.2.2.1.2.2 dX2_readArguments_233
                      · have hG_1124 := cOK.frame hMr_1113 go_.2.2.2.1 mq3_ kq3_ (by decide) (by decide) hG_1105
                        have hG_1125 := dOK.frame hMr_1113 go_.2.2.2.1 mq3_ kq3_ (by decide) (by decide) hG_1104
                        have hG_1126 := jS.frame hMr_1113 go_.2.2.2.1 mq3_ kq3_ (by decide) (by decide) hs_1112
                        have hG_1127 := eOK.frame hMr_1113 go_.2.2.2.1 mq2_ kq2_ (by decide) (by decide) hG_1111
                        have g := g.more hF_1119
                        have kb_1201 : bd 1201 1201 (1201 : Int32) := ⟨by decide, by decide⟩
                        subst hQ
                        exact W.vret hx hb hr (fun t ht hW => ⟨⟨_, rfl, Or.inr (⟨hG_1125, hG_1127, 1201, kb_1201, x_1117, h_1118, (g.fcts [0, 1] rfl)⟩), q3_of g hK ht hW⟩, g.2.2.1.F ht⟩) g.2.2.1.2.2 dX2_readArguments_233
                    · have fc_1086 := nle_f c_1086
                      have b_1128 : bd (-2147483648) (-1) v69_2 := ltL fc_1086 (bdT v69_2) b_813 (by decide)
                      refine lv_aload_n hx hb dX2_readArguments_188 rfl (lv_at hl 4 rfl) ?_
                      refine g_getk (C := RX2) (T := TX2) (N := 16) hx hb hts (mc_ inX2) hown hK g rfl 0 (by decide) rfl (hts _ (List.mem_cons_of_mem _ t_416)) (fun _ h9 => h9) 3 rfl dX2_readArguments_189 ?_
                      refine lv_bipush (v := 6) hx hb dX2_readArguments_192 (by decide) ?_
                      refine lv_iload hx hb dX2_readArguments_194 (lv_at hl 0 rfl) ?_
                      have kb_6 : bd 6 6 (6 : Int32) := ⟨by decide, by decide⟩
                      have go_ := g
                      refine g_callv (va_runV (As := [.int 6, .int r_1070]) (rest := []) ⟨hx, hb, hml, hown, hts⟩ (r_X8_fail l dC dI L kd tys fr_1075 H.size g.2.2.2.1 q0_ mq0_ kq0_ 6 (bd_sub kb_6 (by decide)) r_1070 y0_ by0_ (g.fcts [1] rfl)) (cwV 2 hts (gV_ t_1122 t_1107 t_1108 t_184 t_1109) rfl rfl rfl (by decide +kernel) ⟨(Nat.le_of_ble_eq_true rfl), (Nat.le_of_ble_eq_true rfl)⟩) (pre3V g hK mq0_ kq0_ (by decide) (q := (RX8, TX8, 10)) rfl) rfl rfl hl.1 rfl (lv_room (Nat.le_of_ble_eq_true rfl)) dX2_readArguments_196 ⟨(Nat.le_of_ble_eq_true rfl), (Nat.le_of_ble_eq_true rfl)⟩) g hK (by decide) (by decide) (fx' := [(2, 14, a0_, .int x_17), (2, 0, a0_, .ref q0_), (2, 1, a0_, .ref q1_), (2, 2, a0_, .ref q2_), (2, 3, a0_, .ref q3_), (0, 0, q2_, .ref q0_), (0, 1, q2_, .ref q1_), (5, 0, q1_, .ref q3_), (5, 1, q1_, .ref q7_)]) rfl (fun fr_1129 H locs hp hMr_1129 g => ?_)
                      obtain ⟨x_1130, h_1131, hF_1132⟩ := hp
                      have hG_1133 := cOK.frame hMr_1129 go_.2.2.2.1 mq3_ kq3_ (by decide) (by decide) hG_1082
                      have hG_1134 := dOK.frame hMr_1129 go_.2.2.2.1 mq3_ kq3_ (by decide) (by decide) hG_1083
                      have hG_1135 := jS.frame hMr_1129 go_.2.2.2.1 mq3_ kq3_ (by decide) (by decide) hG_1084
                      have hG_1136 := eOK.frame hMr_1129 go_.2.2.2.1 mq2_ kq2_ (by decide) (by decide) hG_1085
                      have g := g.more hF_1132
                      refine lv_aload_n hx hb dX2_readArguments_199 rfl (lv_at hl 4 rfl) ?_
                      refine g_getk (C := RX2) (T := TX2) (N := 16) hx hb hts (mc_ inX2) hown hK g rfl 3 (by decide) rfl (hts _ (List.mem_cons_of_mem _ t_419)) (fun _ h9 => h9) 6 rfl dX2_readArguments_200 ?_
                      refine lv_aload_n hx hb dX2_readArguments_203 rfl (lv_at hl 4 rfl) ?_
                      refine g_geti (C := RX2) (T := TX2) (N := 16) hx hb hts (mc_ inX2) hown hK g ma0_ ka0_ (by decide) rfl 12 (by decide) rfl (hts _ (List.mem_cons_of_mem _ t_428)) (fun _ h9 => h9) rfl dX2_readArguments_204 (fun x_1137 bx_1137 g => ?_)
                      refine lv_aload_n hx hb dX2_readArguments_207 rfl (lv_at hl 4 rfl) ?_
                      refine g_geti (C := RX2) (T := TX2) (N := 16) hx hb hts (mc_ inX2) hown hK g ma0_ ka0_ (by decide) rfl 13 (by decide) rfl (hts _ (List.mem_cons_of_mem _ t_429)) (fun _ h9 => h9) rfl dX2_readArguments_208 (fun x_1138 bx_1138 g => ?_)
                      obtain ⟨a_1139, ma_1139, ka_1139, g⟩ := g_factr g mq3_ kq3_ (by decide) 4 rfl
                      obtain ⟨a_1140, ma_1140, ka_1140, g⟩ := g_factr g mq3_ kq3_ (by decide) 5 rfl
                      obtain ⟨x_1141, bx_1141, g⟩ := g_facti g mq3_ kq3_ (by decide) 6 rfl
                      have go_ := g
                      refine g_callv (va_runV (As := [.int x_1137, .int x_1138]) (rest := []) ⟨hx, hb, hml, hown, hts⟩ (r_X7_emitF l dC dI L kd tys fr_1129 H.size g.2.2.2.1 q3_ mq3_ kq3_ a_1139 ma_1139 ka_1139 a_1140 ma_1140 ka_1140 x_1141 bx_1141 T_ hG_1134 x_1137 x_1138 (g.fcts [2, 1, 0] rfl)) (cwV 2 hts (gV_ t_1301 t_1204 t_1205 t_191 t_1206) rfl rfl rfl (by decide +kernel) ⟨(Nat.le_of_ble_eq_true rfl), (Nat.le_of_ble_eq_true rfl)⟩) (pre3V g hK mq3_ kq3_ (by decide) (q := (RX7, TX7, 19)) rfl) rfl rfl hl.1 rfl (lv_room (Nat.le_of_ble_eq_true rfl)) dX2_readArguments_211 ⟨(Nat.le_of_ble_eq_true rfl), (Nat.le_of_ble_eq_true rfl)⟩) g hK (by decide) (by decide) (fx' := [(7, 5, q3_, .ref a_1140), (7, 4, q3_, .ref a_1139), (2, 13, a0_, .int x_1138), (2, 12, a0_, .int x_1137), (8, 6, q0_, .int 1201), (8, 8, q0_, .int x_1130), (2, 14, a0_, .int x_17), (2, 0, a0_, .ref q0_), (2, 1, a0_, .ref q1_), (2, 2, a0_, .ref q2_), (2, 3, a0_, .ref q3_), (0, 0, q2_, .ref q0_), (0, 1, q2_, .ref q1_), (5, 0, q1_, .ref q3_), (5, 1, q1_, .ref q7_)]) rfl (fun fr_1142 H locs hp hMr_1142 g => ?_)
                      obtain ⟨hG_1143, x_1144, h_1145, hF_1146⟩ := hp
                      have hG_1147 := eOK.frame hMr_1142 go_.2.2.2.1 mq2_ kq2_ (by decide) (by decide) hG_1136
                      have g := g.more hF_1146
                      refine lv_aload_n hx hb dX2_readArguments_214 rfl (lv_at hl 4 rfl) ?_
                      refine g_getk (C := RX2) (T := TX2) (N := 16) hx hb hts (mc_ inX2) hown hK g rfl 3 (by decide) rfl (hts _ (List.mem_cons_of_mem _ t_419)) (fun _ h9 => h9) 11 rfl dX2_readArguments_215 ?_
                      refine lv_bipush (v := 22) hx hb dX2_readArguments_218 (by decide) ?_
                      refine lv_iconst (v := 0) hx hb dX2_readArguments_220 (by decide) ?_
                      have go_ := g
                      refine g_callv (va_runV (As := [.int 22, .int 0]) (rest := []) ⟨hx, hb, hml, hown, hts⟩ (r_X7_emitF l dC dI L kd tys fr_1142 H.size g.2.2.2.1 q3_ mq3_ kq3_ a_1139 ma_1139 ka_1139 a_1140 ma_1140 ka_1140 x_1144 h_1145 T_ hG_1143 (22 : Int32) (0 : Int32) (g.fcts [2, 1, 0] rfl)) (cwV 2 hts (gV_ t_1301 t_1204 t_1205 t_191 t_1206) rfl rfl rfl (by decide +kernel) ⟨(Nat.le_of_ble_eq_true rfl), (Nat.le_of_ble_eq_true rfl)⟩) (pre3V g hK mq3_ kq3_ (by decide) (q := (RX7, TX7, 19)) rfl) rfl rfl hl.1 rfl (lv_room (Nat.le_of_ble_eq_true rfl)) dX2_readArguments_221 ⟨(Nat.le_of_ble_eq_true rfl), (Nat.le_of_ble_eq_true rfl)⟩) g hK (by decide) (by decide) (fx' := [(7, 5, q3_, .ref a_1140), (7, 4, q3_, .ref a_1139), (2, 13, a0_, .int x_1138), (2, 12, a0_, .int x_1137), (8, 6, q0_, .int 1201), (8, 8, q0_, .int x_1130), (2, 14, a0_, .int x_17), (2, 0, a0_, .ref q0_), (2, 1, a0_, .ref q1_), (2, 2, a0_, .ref q2_), (2, 3, a0_, .ref q3_), (0, 0, q2_, .ref q0_), (0, 1, q2_, .ref q1_), (5, 0, q1_, .ref q3_), (5, 1, q1_, .ref q7_)]) rfl (fun fr_1148 H locs hp hMr_1148 g => ?_)
                      obtain ⟨hG_1149, x_1150, h_1151, hF_1152⟩ := hp
                      have hG_1153 := eOK.frame hMr_1148 go_.2.2.2.1 mq2_ kq2_ (by decide) (by decide) hG_1147
                      have g := g.more hF_1152
                      refine lv_aload_n hx hb dX2_readArguments_224 rfl (lv_at hl 4 rfl) ?_
                      refine g_getk (C := RX2) (T := TX2) (N := 16) hx hb hts (mc_ inX2) hown hK g rfl 0 (by decide) rfl (hts _ (List.mem_cons_of_mem _ t_416)) (fun _ h9 => h9) 8 rfl dX2_readArguments_225 ?_
                      refine lv_bipush (v := 59) hx hb dX2_readArguments_228 (by decide) ?_
                      have kb_1201 : bd 1201 1201 (1201 : Int32) := ⟨by decide, by decide⟩
                      have go_ := g
                      refine g_callv (va_runV (As := [.int 59]) (rest := []) ⟨hx, hb, hml, hown, hts⟩ (r_X8_take_2 l dC dI L kd tys fr_1148 H.size g.2.2.2.1 q0_ mq0_ kq0_ 59 1201 kb_1201 x_1130 h_1131 (g.fcts [5, 6] rfl)) (cwV 1 hts (gV_ t_1098 t_1099 t_1100 t_184 t_1101) rfl rfl rfl (by decide +kernel) ⟨(Nat.le_of_ble_eq_true rfl), (Nat.le_of_ble_eq_true rfl)⟩) (pre3V g hK mq0_ kq0_ (by decide) (q := (RX8, TX8, 10)) rfl) rfl rfl hl.1 rfl (lv_room (Nat.le_of_ble_eq_true rfl)) dX2_readArguments_230 ⟨(Nat.le_of_ble_eq_true rfl), (Nat.le_of_ble_eq_true rfl)⟩) g hK (by decide) (by decide) (fx' := [(7, 6, q3_, .int x_1150), (7, 5, q3_, .ref a_1140), (7, 4, q3_, .ref a_1139), (2, 13, a0_, .int x_1138), (2, 12, a0_, .int x_1137), (8, 8, q0_, .int x_1130), (2, 14, a0_, .int x_17), (2, 0, a0_, .ref q0_), (2, 1, a0_, .ref q1_), (2, 2, a0_, .ref q2_), (2, 3, a0_, .ref q3_), (0, 0, q2_, .ref q0_), (0, 1, q2_, .ref q1_), (5, 0, q1_, .ref q3_), (5, 1, q1_, .ref q7_)]) rfl (fun fr_1154 H locs hp hMr_1154 g => ?_)
                      obtain ⟨x_1155, h_1156, hF_1157⟩ := hp
                      have hG_1158 := dOK.frame hMr_1154 go_.2.2.2.1 mq3_ kq3_ (by decide) (by decide) hG_1149
                      have hG_1159 := eOK.frame hMr_1154 go_.2.2.2.1 mq2_ kq2_ (by decide) (by decide) hG_1153
                      have g := g.more hF_1157
                      subst hQ
                      exact W.vret hx hb hr (fun t ht hW => ⟨⟨_, rfl, Or.inr (⟨hG_1158, hG_1159, x_1155, h_1156, x_1130, h_1131, (g.fcts [0, 6] rfl)⟩), q3_of g hK ht hW⟩, g.2.2.1.F ht⟩) g.2.2.1.2.2 dX2_readArguments_233
                  · have hG_1160 := cOK.frame hMr_1075 go_.2.2.2.1 mq3_ kq3_ (by decide) (by decide) hG_1071
                    have hG_1161 := dOK.frame hMr_1075 go_.2.2.2.1 mq3_ kq3_ (by decide) (by decide) hG_1072
                    have hG_1162 := jS.frame hMr_1075 go_.2.2.2.1 mq3_ kq3_ (by decide) (by decide) hG_1073
                    have hG_1163 := eOK.frame hMr_1075 go_.2.2.2.1 mq2_ kq2_ (by decide) (by decide) hG_1074
                    have g := g.more hF_1081
                    refine lv_iload_n hx hb dX2_readArguments_180 rfl (lv_at hl 2 rfl) ?_
                    refine lv_aload_n hx hb dX2_readArguments_181 rfl (lv_at hl 4 rfl) ?_
                    refine g_getk (C := RX2) (T := TX2) (N := 16) hx hb hts (mc_ inX2) hown hK g rfl 14 (by decide) rfl (hts _ (List.mem_cons_of_mem _ t_430)) (fun _ h9 => h9) 2 rfl dX2_readArguments_182 ?_
                    refine lv_icmp_ge (tgt := 199) hx hb dX2_readArguments_185 (by decide) (fun c_1164 => ?_) (fun c_1164 => ?_)
                    · have fc_1164 := le_f c_1164
                      have b_1165 : bd 0 2147483647 v69_2 := leR fc_1164 b_813 (bdT v69_2) (by decide)
                      refine lv_aload_n hx hb dX2_readArguments_199 rfl (lv_at hl 4 rfl) ?_
                      refine g_getk (C := RX2) (T := TX2) (N := 16) hx hb hts (mc_ inX2) hown hK g rfl 3 (by decide) rfl (hts _ (List.mem_cons_of_mem _ t_419)) (fun _ h9 => h9) 6 rfl dX2_readArguments_200 ?_
                      refine lv_aload_n hx hb dX2_readArguments_203 rfl (lv_at hl 4 rfl) ?_
                      refine g_geti (C := RX2) (T := TX2) (N := 16) hx hb hts (mc_ inX2) hown hK g ma0_ ka0_ (by decide) rfl 12 (by decide) rfl (hts _ (List.mem_cons_of_mem _ t_428)) (fun _ h9 => h9) rfl dX2_readArguments_204 (fun x_1166 bx_1166 g => ?_)
                      refine lv_aload_n hx hb dX2_readArguments_207 rfl (lv_at hl 4 rfl) ?_
                      refine g_geti (C := RX2) (T := TX2) (N := 16) hx hb hts (mc_ inX2) hown hK g ma0_ ka0_ (by decide) rfl 13 (by decide) rfl (hts _ (List.mem_cons_of_mem _ t_429)) (fun _ h9 => h9) rfl dX2_readArguments_208 (fun x_1167 bx_1167 g => ?_)
                      obtain ⟨a_1168, ma_1168, ka_1168, g⟩ := g_factr g mq3_ kq3_ (by decide) 4 rfl
                      obtain ⟨a_1169, ma_1169, ka_1169, g⟩ := g_factr g mq3_ kq3_ (by decide) 5 rfl
                      obtain ⟨x_1170, bx_1170, g⟩ := g_facti g mq3_ kq3_ (by decide) 6 rfl
                      have go_ := g
                      refine g_callv (va_runV (As := [.int x_1166, .int x_1167]) (rest := []) ⟨hx, hb, hml, hown, hts⟩ (r_X7_emitF l dC dI L kd tys fr_1075 H.size g.2.2.2.1 q3_ mq3_ kq3_ a_1168 ma_1168 ka_1168 a_1169 ma_1169 ka_1169 x_1170 bx_1170 T_ hG_1161 x_1166 x_1167 (g.fcts [2, 1, 0] rfl)) (cwV 2 hts (gV_ t_1301 t_1204 t_1205 t_191 t_1206) rfl rfl rfl (by decide +kernel) ⟨(Nat.le_of_ble_eq_true rfl), (Nat.le_of_ble_eq_true rfl)⟩) (pre3V g hK mq3_ kq3_ (by decide) (q := (RX7, TX7, 19)) rfl) rfl rfl hl.1 rfl (lv_room (Nat.le_of_ble_eq_true rfl)) dX2_readArguments_211 ⟨(Nat.le_of_ble_eq_true rfl), (Nat.le_of_ble_eq_true rfl)⟩) g hK (by decide) (by decide) (fx' := [(7, 5, q3_, .ref a_1169), (7, 4, q3_, .ref a_1168), (2, 13, a0_, .int x_1167), (2, 12, a0_, .int x_1166), (8, 6, q0_, .int 1201), (8, 8, q0_, .int x_1079), (2, 14, a0_, .int x_17), (2, 0, a0_, .ref q0_), (2, 1, a0_, .ref q1_), (2, 2, a0_, .ref q2_), (2, 3, a0_, .ref q3_), (0, 0, q2_, .ref q0_), (0, 1, q2_, .ref q1_), (5, 0, q1_, .ref q3_), (5, 1, q1_, .ref q7_)]) rfl (fun fr_1171 H locs hp hMr_1171 g => ?_)
                      obtain ⟨hG_1172, x_1173, h_1174, hF_1175⟩ := hp
                      have hG_1176 := eOK.frame hMr_1171 go_.2.2.2.1 mq2_ kq2_ (by decide) (by decide) hG_1163
                      have g := g.more hF_1175
                      refine lv_aload_n hx hb dX2_readArguments_214 rfl (lv_at hl 4 rfl) ?_
                      refine g_getk (C := RX2) (T := TX2) (N := 16) hx hb hts (mc_ inX2) hown hK g rfl 3 (by decide) rfl (hts _ (List.mem_cons_of_mem _ t_419)) (fun _ h9 => h9) 11 rfl dX2_readArguments_215 ?_
                      refine lv_bipush (v := 22) hx hb dX2_readArguments_218 (by decide) ?_
                      refine lv_iconst (v := 0) hx hb dX2_readArguments_220 (by decide) ?_
                      have go_ := g
                      refine g_callv (va_runV (As := [.int 22, .int 0]) (rest := []) ⟨hx, hb, hml, hown, hts⟩ (r_X7_emitF l dC dI L kd tys fr_1171 H.size g.2.2.2.1 q3_ mq3_ kq3_ a_1168 ma_1168 ka_1168 a_1169 ma_1169 ka_1169 x_1173 h_1174 T_ hG_1172 (22 : Int32) (0 : Int32) (g.fcts [2, 1, 0] rfl)) (cwV 2 hts (gV_ t_1301 t_1204 t_1205 t_191 t_1206) rfl rfl rfl (by decide +kernel) ⟨(Nat.le_of_ble_eq_true rfl), (Nat.le_of_ble_eq_true rfl)⟩) (pre3V g hK mq3_ kq3_ (by decide) (q := (RX7, TX7, 19)) rfl) rfl rfl hl.1 rfl (lv_room (Nat.le_of_ble_eq_true rfl)) dX2_readArguments_221 ⟨(Nat.le_of_ble_eq_true rfl), (Nat.le_of_ble_eq_true rfl)⟩) g hK (by decide) (by decide) (fx' := [(7, 5, q3_, .ref a_1169), (7, 4, q3_, .ref a_1168), (2, 13, a0_, .int x_1167), (2, 12, a0_, .int x_1166), (8, 6, q0_, .int 1201), (8, 8, q0_, .int x_1079), (2, 14, a0_, .int x_17), (2, 0, a0_, .ref q0_), (2, 1, a0_, .ref q1_), (2, 2, a0_, .ref q2_), (2, 3, a0_, .ref q3_), (0, 0, q2_, .ref q0_), (0, 1, q2_, .ref q1_), (5, 0, q1_, .ref q3_), (5, 1, q1_, .ref q7_)]) rfl (fun fr_1177 H locs hp hMr_1177 g => ?_)
                      obtain ⟨hG_1178, x_1179, h_1180, hF_1181⟩ := hp
                      have hG_1182 := eOK.frame hMr_1177 go_.2.2.2.1 mq2_ kq2_ (by decide) (by decide) hG_1176
                      have g := g.more hF_1181
                      refine lv_aload_n hx hb dX2_readArguments_224 rfl (lv_at hl 4 rfl) ?_
                      refine g_getk (C := RX2) (T := TX2) (N := 16) hx hb hts (mc_ inX2) hown hK g rfl 0 (by decide) rfl (hts _ (List.mem_cons_of_mem _ t_416)) (fun _ h9 => h9) 8 rfl dX2_readArguments_225 ?_
                      refine lv_bipush (v := 59) hx hb dX2_readArguments_228 (by decide) ?_
                      have kb_1201 : bd 1201 1201 (1201 : Int32) := ⟨by decide, by decide⟩
                      have go_ := g
                      refine g_callv (va_runV (As := [.int 59]) (rest := []) ⟨hx, hb, hml, hown, hts⟩ (r_X8_take_2 l dC dI L kd tys fr_1177 H.size g.2.2.2.1 q0_ mq0_ kq0_ 59 1201 kb_1201 x_1079 h_1080 (g.fcts [5, 6] rfl)) (cwV 1 hts (gV_ t_1098 t_1099 t_1100 t_184 t_1101) rfl rfl rfl (by decide +kernel) ⟨(Nat.le_of_ble_eq_true rfl), (Nat.le_of_ble_eq_true rfl)⟩) (pre3V g hK mq0_ kq0_ (by decide) (q := (RX8, TX8, 10)) rfl) rfl rfl hl.1 rfl (lv_room (Nat.le_of_ble_eq_true rfl)) dX2_readArguments_230 ⟨(Nat.le_of_ble_eq_true rfl), (Nat.le_of_ble_eq_true rfl)⟩) g hK (by decide) (by decide) (fx' := [(7, 6, q3_, .int x_1179), (7, 5, q3_, .ref a_1169), (7, 4, q3_, .ref a_1168), (2, 13, a0_, .int x_1167), (2, 12, a0_, .int x_1166), (8, 8, q0_, .int x_1079), (2, 14, a0_, .int x_17), (2, 0, a0_, .ref q0_), (2, 1, a0_, .ref q1_), (2, 2, a0_, .ref q2_), (2, 3, a0_, .ref q3_), (0, 0, q2_, .ref q0_), (0, 1, q2_, .ref q1_), (5, 0, q1_, .ref q3_), (5, 1, q1_, .ref q7_)]) rfl (fun fr_1183 H locs hp hMr_1183 g => ?_)
                      obtain ⟨x_1184, h_1185, hF_1186⟩ := hp
                      have hG_1187 := dOK.frame hMr_1183 go_.2.2.2.1 mq3_ kq3_ (by decide) (by decide) hG_1178
                      have hG_1188 := eOK.frame hMr_1183 go_.2.2.2.1 mq2_ kq2_ (by decide) (by decide) hG_1182
                      have g := g.more hF_1186
                      subst hQ
                      exact W.vret hx hb hr (fun t ht hW => ⟨⟨_, rfl, Or.inr (⟨hG_1187, hG_1188, x_1184, h_1185, x_1079, h_1080, (g.fcts [0, 6] rfl)⟩), q3_of g hK ht hW⟩, g.2.2.1.F ht⟩) g.2.2.1.2.2 dX2_readArguments_233
                    · have fc_1164 := nle_f c_1164
                      have b_1189 : bd (-2147483648) (-1) v69_2 := ltL fc_1164 (bdT v69_2) b_813 (by decide)
                      refine lv_aload_n hx hb dX2_readArguments_188 rfl (lv_at hl 4 rfl) ?_
                      refine g_getk (C := RX2) (T := TX2) (N := 16) hx hb hts (mc_ inX2) hown hK g rfl 0 (by decide) rfl (hts _ (List.mem_cons_of_mem _ t_416)) (fun _ h9 => h9) 3 rfl dX2_readArguments_189 ?_
                      refine lv_bipush (v := 6) hx hb dX2_readArguments_192 (by decide) ?_
                      refine lv_iload hx hb dX2_readArguments_194 (lv_at hl 0 rfl) ?_
                      have kb_6 : bd 6 6 (6 : Int32) := ⟨by decide, by decide⟩
                      have go_ := g
                      refine g_callv (va_runV (As := [.int 6, .int r_1070]) (rest := []) ⟨hx, hb, hml, hown, hts⟩ (r_X8_fail_2 l dC dI L kd tys fr_1075 H.size g.2.2.2.1 q0_ mq0_ kq0_ 6 (bd_sub kb_6 (by decide)) r_1070 x_1079 h_1080 (g.fcts [1] rfl)) (cwV 2 hts (gV_ t_1122 t_1107 t_1108 t_184 t_1109) rfl rfl rfl (by decide +kernel) ⟨(Nat.le_of_ble_eq_true rfl), (Nat.le_of_ble_eq_true rfl)⟩) (pre3V g hK mq0_ kq0_ (by decide) (q := (RX8, TX8, 10)) rfl) rfl rfl hl.1 rfl (lv_room (Nat.le_of_ble_eq_true rfl)) dX2_readArguments_196 ⟨(Nat.le_of_ble_eq_true rfl), (Nat.le_of_ble_eq_true rfl)⟩) g hK (by decide) (by decide) (fx' := [(8, 8, q0_, .int x_1079), (2, 14, a0_, .int x_17), (2, 0, a0_, .ref q0_), (2, 1, a0_, .ref q1_), (2, 2, a0_, .ref q2_), (2, 3, a0_, .ref q3_), (0, 0, q2_, .ref q0_), (0, 1, q2_, .ref q1_), (5, 0, q1_, .ref q3_), (5, 1, q1_, .ref q7_)]) rfl (fun fr_1190 H locs hp hMr_1190 g => ?_)
                      have hF_1191 := hp
                      have hG_1192 := cOK.frame hMr_1190 go_.2.2.2.1 mq3_ kq3_ (by decide) (by decide) hG_1160
                      have hG_1193 := dOK.frame hMr_1190 go_.2.2.2.1 mq3_ kq3_ (by decide) (by decide) hG_1161
                      have hG_1194 := jS.frame hMr_1190 go_.2.2.2.1 mq3_ kq3_ (by decide) (by decide) hG_1162
                      have hG_1195 := eOK.frame hMr_1190 go_.2.2.2.1 mq2_ kq2_ (by decide) (by decide) hG_1163
                      have g := g.more hF_1191
                      refine lv_aload_n hx hb dX2_readArguments_199 rfl (lv_at hl 4 rfl) ?_
                      refine g_getk (C := RX2) (T := TX2) (N := 16) hx hb hts (mc_ inX2) hown hK g rfl 3 (by decide) rfl (hts _ (List.mem_cons_of_mem _ t_419)) (fun _ h9 => h9) 6 rfl dX2_readArguments_200 ?_
                      refine lv_aload_n hx hb dX2_readArguments_203 rfl (lv_at hl 4 rfl) ?_
                      refine g_geti (C := RX2) (T := TX2) (N := 16) hx hb hts (mc_ inX2) hown hK g ma0_ ka0_ (by decide) rfl 12 (by decide) rfl (hts _ (List.mem_cons_of_mem _ t_428)) (fun _ h9 => h9) rfl dX2_readArguments_204 (fun x_1196 bx_1196 g => ?_)
                      refine lv_aload_n hx hb dX2_readArguments_207 rfl (lv_at hl 4 rfl) ?_
                      refine g_geti (C := RX2) (T := TX2) (N := 16) hx hb hts (mc_ inX2) hown hK g ma0_ ka0_ (by decide) rfl 13 (by decide) rfl (hts _ (List.mem_cons_of_mem _ t_429)) (fun _ h9 => h9) rfl dX2_readArguments_208 (fun x_1197 bx_1197 g => ?_)
                      obtain ⟨a_1198, ma_1198, ka_1198, g⟩ := g_factr g mq3_ kq3_ (by decide) 4 rfl
                      obtain ⟨a_1199, ma_1199, ka_1199, g⟩ := g_factr g mq3_ kq3_ (by decide) 5 rfl
                      obtain ⟨x_1200, bx_1200, g⟩ := g_facti g mq3_ kq3_ (by decide) 6 rfl
                      have go_ := g
                      refine g_callv (va_runV (As := [.int x_1196, .int x_1197]) (rest := []) ⟨hx, hb, hml, hown, hts⟩ (r_X7_emitF l dC dI L kd tys fr_1190 H.size g.2.2.2.1 q3_ mq3_ kq3_ a_1198 ma_1198 ka_1198 a_1199 ma_1199 ka_1199 x_1200 bx_1200 T_ hG_1193 x_1196 x_1197 (g.fcts [2, 1, 0] rfl)) (cwV 2 hts (gV_ t_1301 t_1204 t_1205 t_191 t_1206) rfl rfl rfl (by decide +kernel) ⟨(Nat.le_of_ble_eq_true rfl), (Nat.le_of_ble_eq_true rfl)⟩) (pre3V g hK mq3_ kq3_ (by decide) (q := (RX7, TX7, 19)) rfl) rfl rfl hl.1 rfl (lv_room (Nat.le_of_ble_eq_true rfl)) dX2_readArguments_211 ⟨(Nat.le_of_ble_eq_true rfl), (Nat.le_of_ble_eq_true rfl)⟩) g hK (by decide) (by decide) (fx' := [(7, 5, q3_, .ref a_1199), (7, 4, q3_, .ref a_1198), (2, 13, a0_, .int x_1197), (2, 12, a0_, .int x_1196), (8, 6, q0_, .int 1201), (8, 8, q0_, .int x_1079), (2, 14, a0_, .int x_17), (2, 0, a0_, .ref q0_), (2, 1, a0_, .ref q1_), (2, 2, a0_, .ref q2_), (2, 3, a0_, .ref q3_), (0, 0, q2_, .ref q0_), (0, 1, q2_, .ref q1_), (5, 0, q1_, .ref q3_), (5, 1, q1_, .ref q7_)]) rfl (fun fr_1201 H locs hp hMr_1201 g => ?_)
                      obtain ⟨hG_1202, x_1203, h_1204, hF_1205⟩ := hp
                      have hG_1206 := eOK.frame hMr_1201 go_.2.2.2.1 mq2_ kq2_ (by decide) (by decide) hG_1195
                      have g := g.more hF_1205
                      refine lv_aload_n hx hb dX2_readArguments_214 rfl (lv_at hl 4 rfl) ?_
                      refine g_getk (C := RX2) (T := TX2) (N := 16) hx hb hts (mc_ inX2) hown hK g rfl 3 (by decide) rfl (hts _ (List.mem_cons_of_mem _ t_419)) (fun _ h9 => h9) 11 rfl dX2_readArguments_215 ?_
                      refine lv_bipush (v := 22) hx hb dX2_readArguments_218 (by decide) ?_
                      refine lv_iconst (v := 0) hx hb dX2_readArguments_220 (by decide) ?_
                      have go_ := g
                      refine g_callv (va_runV (As := [.int 22, .int 0]) (rest := []) ⟨hx, hb, hml, hown, hts⟩ (r_X7_emitF l dC dI L kd tys fr_1201 H.size g.2.2.2.1 q3_ mq3_ kq3_ a_1198 ma_1198 ka_1198 a_1199 ma_1199 ka_1199 x_1203 h_1204 T_ hG_1202 (22 : Int32) (0 : Int32) (g.fcts [2, 1, 0] rfl)) (cwV 2 hts (gV_ t_1301 t_1204 t_1205 t_191 t_1206) rfl rfl rfl (by decide +kernel) ⟨(Nat.le_of_ble_eq_true rfl), (Nat.le_of_ble_eq_true rfl)⟩) (pre3V g hK mq3_ kq3_ (by decide) (q := (RX7, TX7, 19)) rfl) rfl rfl hl.1 rfl (lv_room (Nat.le_of_ble_eq_true rfl)) dX2_readArguments_221 ⟨(Nat.le_of_ble_eq_true rfl), (Nat.le_of_ble_eq_true rfl)⟩) g hK (by decide) (by decide) (fx' := [(7, 5, q3_, .ref a_1199), (7, 4, q3_, .ref a_1198), (2, 13, a0_, .int x_1197), (2, 12, a0_, .int x_1196), (8, 6, q0_, .int 1201), (8, 8, q0_, .int x_1079), (2, 14, a0_, .int x_17), (2, 0, a0_, .ref q0_), (2, 1, a0_, .ref q1_), (2, 2, a0_, .ref q2_), (2, 3, a0_, .ref q3_), (0, 0, q2_, .ref q0_), (0, 1, q2_, .ref q1_), (5, 0, q1_, .ref q3_), (5, 1, q1_, .ref q7_)]) rfl (fun fr_1207 H locs hp hMr_1207 g => ?_)
                      obtain ⟨hG_1208, x_1209, h_1210, hF_1211⟩ := hp
                      have hG_1212 := eOK.frame hMr_1207 go_.2.2.2.1 mq2_ kq2_ (by decide) (by decide) hG_1206
                      have g := g.more hF_1211
                      refine lv_aload_n hx hb dX2_readArguments_224 rfl (lv_at hl 4 rfl) ?_
                      refine g_getk (C := RX2) (T := TX2) (N := 16) hx hb hts (mc_ inX2) hown hK g rfl 0 (by decide) rfl (hts _ (List.mem_cons_of_mem _ t_416)) (fun _ h9 => h9) 8 rfl dX2_readArguments_225 ?_
                      refine lv_bipush (v := 59) hx hb dX2_readArguments_228 (by decide) ?_
                      have kb_1201 : bd 1201 1201 (1201 : Int32) := ⟨by decide, by decide⟩
                      have go_ := g
                      refine g_callv (va_runV (As := [.int 59]) (rest := []) ⟨hx, hb, hml, hown, hts⟩ (r_X8_take_2 l dC dI L kd tys fr_1207 H.size g.2.2.2.1 q0_ mq0_ kq0_ 59 1201 kb_1201 x_1079 h_1080 (g.fcts [5, 6] rfl)) (cwV 1 hts (gV_ t_1098 t_1099 t_1100 t_184 t_1101) rfl rfl rfl (by decide +kernel) ⟨(Nat.le_of_ble_eq_true rfl), (Nat.le_of_ble_eq_true rfl)⟩) (pre3V g hK mq0_ kq0_ (by decide) (q := (RX8, TX8, 10)) rfl) rfl rfl hl.1 rfl (lv_room (Nat.le_of_ble_eq_true rfl)) dX2_readArguments_230 ⟨(Nat.le_of_ble_eq_true rfl), (Nat.le_of_ble_eq_true rfl)⟩) g hK (by decide) (by decide) (fx' := [(7, 6, q3_, .int x_1209), (7, 5, q3_, .ref a_1199), (7, 4, q3_, .ref a_1198), (2, 13, a0_, .int x_1197), (2, 12, a0_, .int x_1196), (8, 8, q0_, .int x_1079), (2, 14, a0_, .int x_17), (2, 0, a0_, .ref q0_), (2, 1, a0_, .ref q1_), (2, 2, a0_, .ref q2_), (2, 3, a0_, .ref q3_), (0, 0, q2_, .ref q0_), (0, 1, q2_, .ref q1_), (5, 0, q1_, .ref q3_), (5, 1, q1_, .ref q7_)]) rfl (fun fr_1213 H locs hp hMr_1213 g => ?_)
                      obtain ⟨x_1214, h_1215, hF_1216⟩ := hp
                      have hG_1217 := dOK.frame hMr_1213 go_.2.2.2.1 mq3_ kq3_ (by decide) (by decide) hG_1208
                      have hG_1218 := eOK.frame hMr_1213 go_.2.2.2.1 mq2_ kq2_ (by decide) (by decide) hG_1212
                      have g := g.more hF_1216
                      subst hQ
                      exact W.vret hx hb hr (fun t ht hW => ⟨⟨_, rfl, Or.inr (⟨hG_1217, hG_1218, x_1214, h_1215, x_1079, h_1080, (g.fcts [0, 6] rfl)⟩), q3_of g hK ht hW⟩, g.2.2.1.F ht⟩) g.2.2.1.2.2 dX2_readArguments_233
                · have fc_1068 := neq_f c_1068
                  have b_1219 : bd 1 1 v69_3 := neX fc_1068 bv69_3 kb_0 (by decide)
                  refine lv_aload_n hx hb dX2_readArguments_79 rfl (lv_at hl 4 rfl) ?_
                  refine g_getk (C := RX2) (T := TX2) (N := 16) hx hb hts (mc_ inX2) hown hK g rfl 0 (by decide) rfl (hts _ (List.mem_cons_of_mem _ t_416)) (fun _ h9 => h9) 2 rfl dX2_readArguments_80 ?_
                  refine g_getk (C := RX8) (T := TX8) (N := 10) hx hb hts (mc_ inX8) hown hK g rfl 8 (by decide) rfl (hts _ (List.mem_cons_of_mem _ t_294)) (fun _ h9 => h9) 1 rfl dX2_readArguments_83 ?_
                  refine lv_if_ne (tgt := 162) hx hb dX2_readArguments_86 (by decide) (fun c_1220 => ?_) (fun c_1220 => ?_)
                  · have fc_1220 := neq_f c_1220
                    have b_1221 : bd 1 (-1) y0_ := neX fc_1220 by0_ kb_0 (by decide)
                    exact bd_no b_1221 (by decide)
                  · have fc_1220 := eq_f c_1220
                    refine lv_aload_n hx hb dX2_readArguments_89 rfl (lv_at hl 4 rfl) ?_
                    refine g_getk (C := RX2) (T := TX2) (N := 16) hx hb hts (mc_ inX2) hown hK g rfl 2 (by decide) rfl (hts _ (List.mem_cons_of_mem _ t_418)) (fun _ h9 => h9) 4 rfl dX2_readArguments_90 ?_
                    have go_ := g
                    refine g_callv (va_runV (As := []) (rest := []) ⟨hx, hb, hml, hown, hts⟩ (r_X0_read l dC dI L kd tys f H.size g.2.2.2.1 q2_ mq2_ kq2_ q0_ mq0_ kq0_ q1_ mq1_ kq1_ q3_ mq3_ kq3_ q7_ mq7_ kq7_ y0_ by0_ T_ (fun j9 => jOK f q3_ j9) hG69_e_q2_ hG69_c_q3_ hG69_d_q3_ (fun _ h9 => h9) (g.fcts [6, 7, 8, 9, 1] rfl)) (cwV 0 hts (gV_ t_1182 t_1183 t_1184 t_190 t_1185) rfl rfl rfl (by decide +kernel) ⟨(Nat.le_of_ble_eq_true rfl), (Nat.le_of_ble_eq_true rfl)⟩) (pre3V g hK mq2_ kq2_ (by decide) (q := (RX0, TX0, 14)) rfl) rfl rfl hl.1 rfl (lv_room (Nat.le_of_ble_eq_true rfl)) dX2_readArguments_93 ⟨(Nat.le_of_ble_eq_true rfl), (Nat.le_of_ble_eq_true rfl)⟩) g hK (by decide) (by decide) (fx' := [(2, 14, a0_, .int x_17), (2, 0, a0_, .ref q0_), (2, 1, a0_, .ref q1_), (2, 2, a0_, .ref q2_), (2, 3, a0_, .ref q3_), (0, 0, q2_, .ref q0_), (0, 1, q2_, .ref q1_), (5, 0, q1_, .ref q3_), (5, 1, q1_, .ref q7_)]) rfl (fun fr_1222 H locs hp hMr_1222 g => ?_)
                    rcases hp with ⟨hG_1223, hG_1224, hG_1225, hG_1226, hF_1227⟩ | ⟨hG_1228, hG_1229, x_1230, h_1231, x_1232, h_1233, hF_1234⟩
                    · have g := g.more hF_1227
                      have hs_1235 := jS.mv hG69_s_q3_ hG_1226
                      have kb_1 : bd 1 1 (1 : Int32) := ⟨by decide, by decide⟩
                      obtain ⟨y_1236, ey_1236⟩ : ∃ z : Int32, z = v69_2 + 1 := ⟨_, rfl⟩
                      refine lv_iinc (v := y_1236) (lv' := [(2, .int y_1236), (4, .int v69_4), (3, .int v69_3), (1, .int r_1), (0, .ref a0_)]) hx hb dX2_readArguments_96 hl (k := 2) rfl (by rw [ey_1236]; rfl) (by decide) rfl (fun ls hl => ?_)
                      refine lv_aload_n hx hb dX2_readArguments_99 rfl (lv_at hl 4 rfl) ?_
                      refine g_getk (C := RX2) (T := TX2) (N := 16) hx hb hts (mc_ inX2) hown hK g rfl 0 (by decide) rfl (hts _ (List.mem_cons_of_mem _ t_416)) (fun _ h9 => h9) 3 rfl dX2_readArguments_100 ?_
                      have go_ := g
                      refine g_calli (va_runV (As := []) (rest := []) ⟨hx, hb, hml, hown, hts⟩ (r_X8_kind l dC dI L kd tys fr_1222 H.size g.2.2.2.1 q0_ mq0_ kq0_) (cwV 0 hts (gV_ t_1118 t_1119 t_1120 t_184 t_1121) rfl rfl rfl (by decide +kernel) ⟨(Nat.le_of_ble_eq_true rfl), (Nat.le_of_ble_eq_true rfl)⟩) (pre3V g hK mq0_ kq0_ (by decide) (q := (RX8, TX8, 10)) rfl) rfl rfl hl.1 rfl (lv_room (Nat.le_of_ble_eq_true rfl)) dX2_readArguments_103 ⟨(Nat.le_of_ble_eq_true rfl), (Nat.le_of_ble_eq_true rfl)⟩) g hK (by decide) (by decide) (fx' := [(0, 2, q2_, .ref q3_), (8, 8, q0_, .int y0_), (2, 14, a0_, .int x_17), (2, 0, a0_, .ref q0_), (2, 1, a0_, .ref q1_), (2, 2, a0_, .ref q2_), (2, 3, a0_, .ref q3_), (0, 0, q2_, .ref q0_), (0, 1, q2_, .ref q1_), (5, 0, q1_, .ref q3_), (5, 1, q1_, .ref q7_)]) rfl (fun r_1237 fr_1237 H locs hp hMr_1237 g => ?_)
                      have hG_1238 := cOK.frame hMr_1237 go_.2.2.2.1 mq3_ kq3_ (by decide) (by decide) hG_1224
                      have hG_1239 := dOK.frame hMr_1237 go_.2.2.2.1 mq3_ kq3_ (by decide) (by decide) hG_1225
                      have hG_1240 := jS.frame hMr_1237 go_.2.2.2.1 mq3_ kq3_ (by decide) (by decide) hs_1235
                      have hG_1241 := eOK.frame hMr_1237 go_.2.2.2.1 mq2_ kq2_ (by decide) (by decide) hG_1223
                      refine lv_bipush (v := 44) hx hb dX2_readArguments_106 (by decide) ?_
                      have kb_44 : bd 44 44 (44 : Int32) := ⟨by decide, by decide⟩
                      refine lv_icmp_ne (tgt := 115) hx hb dX2_readArguments_108 (by decide) (fun c_1242 => ?_) (fun c_1242 => ?_)
                      · have fc_1242 := neq_f c_1242
                        refine lv_iconst (v := 0) hx hb dX2_readArguments_115 (by decide) ?_
                        refine lv_istore_n (lv' := [(3, .int 0), (2, .int y_1236), (4, .int v69_4), (1, .int r_1), (0, .ref a0_)]) hx hb dX2_readArguments_116 rfl hl (by decide) rfl (fun ls hl => ?_)
                        refine lv_iload_n hx hb dX2_readArguments_117 rfl (lv_at hl 0 rfl) ?_
                        refine lv_if_eq (tgt := 156) hx hb dX2_readArguments_118 (by decide) (fun c_ => ?_) (fun c_ => absurd (by decide) c_)
                        obtain ⟨y_1243, ey_1243⟩ : ∃ z : Int32, z = v69_4 + 1 := ⟨_, rfl⟩
                        refine lv_iinc (v := y_1243) (lv' := [(4, .int y_1243), (3, .int 0), (2, .int y_1236), (1, .int r_1), (0, .ref a0_)]) hx hb dX2_readArguments_156 hl (k := 2) rfl (by rw [ey_1243]; rfl) (by decide) rfl (fun ls hl => ?_)
                        have ty_1243 := add_bd ey_1243 b_1067 kb_1 (by decide)
                        have b_1244 : bd 1 4 y_1243 := add_rg ty_1243 b_1067 kb_1 (by decide)
                        refine lv_goto (tgt := 69) hx hb dX2_readArguments_159 (by decide) ?_
                        have hl9 := lv_sub hl [0, 1, 2, 3, 4] (by rfl : lv_pick [(4, .int y_1243), (3, .int 0), (2, .int y_1236), (1, .int r_1), (0, .ref a0_)] [0, 1, 2, 3, 4] = [(4, .int y_1243), (3, .int 0), (2, .int y_1236), (1, .int r_1), (0, .ref a0_)])
                        have g9 := g.sub (fx' := [(2, 14, a0_, .int x_17), (8, 8, q0_, .int y0_), (2, 0, a0_, .ref q0_), (2, 1, a0_, .ref q1_), (2, 2, a0_, .ref q2_), (2, 3, a0_, .ref q3_), (0, 0, q2_, .ref q0_), (0, 1, q2_, .ref q1_), (5, 0, q1_, .ref q3_), (5, 1, q1_, .ref q7_)]) [2, 1, 3, 4, 5, 6, 7, 8, 9, 10] rfl
                        exact ih69  y_1243 0 y_1236 (bd_sub b_1244 (by decide)) (bd_sub kb_0 (by decide)) (by have h9_0 := b_1244; unfold bd at h9_0; have h9_1 := bdT v69_2; unfold bd at h9_1; have h9_2 := bdT y_1236; unfold bd at h9_2; have h9_3 := bv69_3; unfold bd at h9_3; have h9_4 := bv69_4; unfold bd at h9_4; have h9_5 := kb_0; unfold bd at h9_5; have h9_6 := kb_1; unfold bd at h9_6; have h9_7 := kb_3; unfold bd at h9_7; have h9_8 := kb_41; unfold bd at h9_8; have h9_9 := kb_44; unfold bd at h9_9; omega) _ _ _ _ g9 hG_1238 hG_1239 hG_1240 hG_1241 hl9
                      · have fc_1242 := eq_f c_1242
                        have b_1245 : bd 44 44 r_1237 := eqX fc_1242 (bdT r_1237) kb_44 (by decide)
                        refine lv_iconst (v := 1) hx hb dX2_readArguments_111 (by decide) ?_
                        refine lv_goto (tgt := 116) hx hb dX2_readArguments_112 (by decide) ?_
                        refine lv_istore_n (lv' := [(3, .int 1), (2, .int y_1236), (4, .int v69_4), (1, .int r_1), (0, .ref a0_)]) hx hb dX2_readArguments_116 rfl hl (by decide) rfl (fun ls hl => ?_)
                        refine lv_iload_n hx hb dX2_readArguments_117 rfl (lv_at hl 0 rfl) ?_
                        refine lv_if_eq (tgt := 156) hx hb dX2_readArguments_118 (by decide) (fun c_ => absurd c_ (by decide)) (fun c_ => ?_)
                        refine lv_aload_n hx hb dX2_readArguments_121 rfl (lv_at hl 4 rfl) ?_
                        refine g_getk (C := RX2) (T := TX2) (N := 16) hx hb hts (mc_ inX2) hown hK g rfl 0 (by decide) rfl (hts _ (List.mem_cons_of_mem _ t_416)) (fun _ h9 => h9) 3 rfl dX2_readArguments_122 ?_
                        have go_ := g
                        refine g_calli (va_runV (As := []) (rest := []) ⟨hx, hb, hml, hown, hts⟩ (r_X8_place l dC dI L kd tys fr_1237 H.size g.2.2.2.1 q0_ mq0_ kq0_) (cwV 0 hts (gV_ t_1110 t_1111 t_1112 t_184 t_1113) rfl rfl rfl (by decide +kernel) ⟨(Nat.le_of_ble_eq_true rfl), (Nat.le_of_ble_eq_true rfl)⟩) (pre3V g hK mq0_ kq0_ (by decide) (q := (RX8, TX8, 10)) rfl) rfl rfl hl.1 rfl (lv_room (Nat.le_of_ble_eq_true rfl)) dX2_readArguments_125 ⟨(Nat.le_of_ble_eq_true rfl), (Nat.le_of_ble_eq_true rfl)⟩) g hK (by decide) (by decide) (fx' := [(0, 2, q2_, .ref q3_), (8, 8, q0_, .int y0_), (2, 14, a0_, .int x_17), (2, 0, a0_, .ref q0_), (2, 1, a0_, .ref q1_), (2, 2, a0_, .ref q2_), (2, 3, a0_, .ref q3_), (0, 0, q2_, .ref q0_), (0, 1, q2_, .ref q1_), (5, 0, q1_, .ref q3_), (5, 1, q1_, .ref q7_)]) rfl (fun r_1246 fr_1246 H locs hp hMr_1246 g => ?_)
                        have hG_1247 := cOK.frame hMr_1246 go_.2.2.2.1 mq3_ kq3_ (by decide) (by decide) hG_1238
                        have hG_1248 := dOK.frame hMr_1246 go_.2.2.2.1 mq3_ kq3_ (by decide) (by decide) hG_1239
                        have hG_1249 := jS.frame hMr_1246 go_.2.2.2.1 mq3_ kq3_ (by decide) (by decide) hG_1240
                        have hG_1250 := eOK.frame hMr_1246 go_.2.2.2.1 mq2_ kq2_ (by decide) (by decide) hG_1241
                        refine lv_istore (lv' := [(5, .int r_1246), (3, .int 1), (2, .int y_1236), (4, .int v69_4), (1, .int r_1), (0, .ref a0_)]) hx hb dX2_readArguments_128 hl (by decide) rfl (fun ls hl => ?_)
                        refine lv_aload_n hx hb dX2_readArguments_130 rfl (lv_at hl 5 rfl) ?_
                        refine g_getk (C := RX2) (T := TX2) (N := 16) hx hb hts (mc_ inX2) hown hK g rfl 0 (by decide) rfl (hts _ (List.mem_cons_of_mem _ t_416)) (fun _ h9 => h9) 3 rfl dX2_readArguments_131 ?_
                        have go_ := g
                        refine g_callv (va_runV (As := []) (rest := []) ⟨hx, hb, hml, hown, hts⟩ (r_X8_next l dC dI L kd tys fr_1246 H.size g.2.2.2.1 q0_ mq0_ kq0_) (cwV 0 hts (gV_ t_1131 t_1103 t_1104 t_184 t_1105) rfl rfl rfl (by decide +kernel) ⟨(Nat.le_of_ble_eq_true rfl), (Nat.le_of_ble_eq_true rfl)⟩) (pre3V g hK mq0_ kq0_ (by decide) (q := (RX8, TX8, 10)) rfl) rfl rfl hl.1 rfl (lv_room (Nat.le_of_ble_eq_true rfl)) dX2_readArguments_134 ⟨(Nat.le_of_ble_eq_true rfl), (Nat.le_of_ble_eq_true rfl)⟩) g hK (by decide) (by decide) (fx' := [(0, 2, q2_, .ref q3_), (8, 8, q0_, .int y0_), (2, 14, a0_, .int x_17), (2, 0, a0_, .ref q0_), (2, 1, a0_, .ref q1_), (2, 2, a0_, .ref q2_), (2, 3, a0_, .ref q3_), (0, 0, q2_, .ref q0_), (0, 1, q2_, .ref q1_), (5, 0, q1_, .ref q3_), (5, 1, q1_, .ref q7_)]) rfl (fun fr_1251 H locs hp hMr_1251 g => ?_)
                        obtain ⟨x_1252, h_1253, hF_1254⟩ := hp
                        have hG_1255 := cOK.frame hMr_1251 go_.2.2.2.1 mq3_ kq3_ (by decide) (by decide) hG_1247
                        have hG_1256 := dOK.frame hMr_1251 go_.2.2.2.1 mq3_ kq3_ (by decide) (by decide) hG_1248
                        have hG_1257 := jS.frame hMr_1251 go_.2.2.2.1 mq3_ kq3_ (by decide) (by decide) hG_1249
                        have hG_1258 := eOK.frame hMr_1251 go_.2.2.2.1 mq2_ kq2_ (by decide) (by decide) hG_1250
                        have g := g.more hF_1254
                        refine lv_iload_n hx hb dX2_readArguments_137 rfl (lv_at hl 2 rfl) ?_
                        refine lv_aload_n hx hb dX2_readArguments_138 rfl (lv_at hl 5 rfl) ?_
                        refine g_getk (C := RX2) (T := TX2) (N := 16) hx hb hts (mc_ inX2) hown hK g rfl 14 (by decide) rfl (hts _ (List.mem_cons_of_mem _ t_430)) (fun _ h9 => h9) 3 rfl dX2_readArguments_139 ?_
                        refine lv_icmp_lt (tgt := 156) hx hb dX2_readArguments_142 (by decide) (fun c_1259 => ?_) (fun c_1259 => ?_)
                        · have fc_1259 := lt_f c_1259
                          have b_1260 : bd (-2147483648) (-1) y_1236 := ltL fc_1259 (bdT y_1236) b_813 (by decide)
                          obtain ⟨y_1261, ey_1261⟩ : ∃ z : Int32, z = v69_4 + 1 := ⟨_, rfl⟩
                          refine lv_iinc (v := y_1261) (lv' := [(4, .int y_1261), (5, .int r_1246), (3, .int 1), (2, .int y_1236), (1, .int r_1), (0, .ref a0_)]) hx hb dX2_readArguments_156 hl (k := 3) rfl (by rw [ey_1261]; rfl) (by decide) rfl (fun ls hl => ?_)
                          have ty_1261 := add_bd ey_1261 b_1067 kb_1 (by decide)
                          have b_1262 : bd 1 4 y_1261 := add_rg ty_1261 b_1067 kb_1 (by decide)
                          refine lv_goto (tgt := 69) hx hb dX2_readArguments_159 (by decide) ?_
                          have hl9 := lv_sub hl [0, 2, 3, 4, 5] (by rfl : lv_pick [(4, .int y_1261), (5, .int r_1246), (3, .int 1), (2, .int y_1236), (1, .int r_1), (0, .ref a0_)] [0, 2, 3, 4, 5] = [(4, .int y_1261), (3, .int 1), (2, .int y_1236), (1, .int r_1), (0, .ref a0_)])
                          have g9 := g.sub (fx' := [(2, 14, a0_, .int x_17), (8, 8, q0_, .int y0_), (2, 0, a0_, .ref q0_), (2, 1, a0_, .ref q1_), (2, 2, a0_, .ref q2_), (2, 3, a0_, .ref q3_), (0, 0, q2_, .ref q0_), (0, 1, q2_, .ref q1_), (5, 0, q1_, .ref q3_), (5, 1, q1_, .ref q7_)]) [3, 2, 4, 5, 6, 7, 8, 9, 10, 11] rfl
                          exact ih69  y_1261 1 y_1236 (bd_sub b_1262 (by decide)) (bd_sub kb_1 (by decide)) (by have h9_0 := b_1260; unfold bd at h9_0; have h9_1 := b_1262; unfold bd at h9_1; have h9_2 := bdT v69_2; unfold bd at h9_2; have h9_3 := bv69_3; unfold bd at h9_3; have h9_4 := bv69_4; unfold bd at h9_4; have h9_5 := kb_0; unfold bd at h9_5; have h9_6 := kb_1; unfold bd at h9_6; have h9_7 := kb_3; unfold bd at h9_7; have h9_8 := kb_41; unfold bd at h9_8; have h9_9 := kb_44; unfold bd at h9_9; omega) _ _ _ _ g9 hG_1255 hG_1256 hG_1257 hG_1258 hl9
                        · have fc_1259 := nlt_f c_1259
                          have b_1263 : bd 0 2147483647 y_1236 := leR fc_1259 b_813 (bdT y_1236) (by decide)
                          refine lv_aload_n hx hb dX2_readArguments_145 rfl (lv_at hl 5 rfl) ?_
                          refine g_getk (C := RX2) (T := TX2) (N := 16) hx hb hts (mc_ inX2) hown hK g rfl 0 (by decide) rfl (hts _ (List.mem_cons_of_mem _ t_416)) (fun _ h9 => h9) 4 rfl dX2_readArguments_146 ?_
                          refine lv_bipush (v := 6) hx hb dX2_readArguments_149 (by decide) ?_
                          refine lv_iload hx hb dX2_readArguments_151 (lv_at hl 0 rfl) ?_
                          have kb_6 : bd 6 6 (6 : Int32) := ⟨by decide, by decide⟩
                          have go_ := g
                          refine g_callv (va_runV (As := [.int 6, .int r_1246]) (rest := []) ⟨hx, hb, hml, hown, hts⟩ (r_X8_fail l dC dI L kd tys fr_1251 H.size g.2.2.2.1 q0_ mq0_ kq0_ 6 (bd_sub kb_6 (by decide)) r_1246 y0_ by0_ (g.fcts [2] rfl)) (cwV 2 hts (gV_ t_1122 t_1107 t_1108 t_184 t_1109) rfl rfl rfl (by decide +kernel) ⟨(Nat.le_of_ble_eq_true rfl), (Nat.le_of_ble_eq_true rfl)⟩) (pre3V g hK mq0_ kq0_ (by decide) (q := (RX8, TX8, 10)) rfl) rfl rfl hl.1 rfl (lv_room (Nat.le_of_ble_eq_true rfl)) dX2_readArguments_153 ⟨(Nat.le_of_ble_eq_true rfl), (Nat.le_of_ble_eq_true rfl)⟩) g hK (by decide) (by decide) (fx' := [(0, 2, q2_, .ref q3_), (2, 14, a0_, .int x_17), (2, 0, a0_, .ref q0_), (2, 1, a0_, .ref q1_), (2, 2, a0_, .ref q2_), (2, 3, a0_, .ref q3_), (0, 0, q2_, .ref q0_), (0, 1, q2_, .ref q1_), (5, 0, q1_, .ref q3_), (5, 1, q1_, .ref q7_)]) rfl (fun fr_1264 H locs hp hMr_1264 g => ?_)
                          obtain ⟨x_1265, h_1266, hF_1267⟩ := hp
                          have hG_1268 := cOK.frame hMr_1264 go_.2.2.2.1 mq3_ kq3_ (by decide) (by decide) hG_1255
                          have hG_1269 := dOK.frame hMr_1264 go_.2.2.2.1 mq3_ kq3_ (by decide) (by decide) hG_1256
                          have hG_1270 := jS.frame hMr_1264 go_.2.2.2.1 mq3_ kq3_ (by decide) (by decide) hG_1257
                          have hG_1271 := eOK.frame hMr_1264 go_.2.2.2.1 mq2_ kq2_ (by decide) (by decide) hG_1258
                          have g := g.more hF_1267
                          obtain ⟨y_1272, ey_1272⟩ : ∃ z : Int32, z = v69_4 + 1 := ⟨_, rfl⟩
                          refine lv_iinc (v := y_1272) (lv' := [(4, .int y_1272), (5, .int r_1246), (3, .int 1), (2, .int y_1236), (1, .int r_1), (0, .ref a0_)]) hx hb dX2_readArguments_156 hl (k := 3) rfl (by rw [ey_1272]; rfl) (by decide) rfl (fun ls hl => ?_)
                          have ty_1272 := add_bd ey_1272 b_1067 kb_1 (by decide)
                          have b_1273 : bd 1 4 y_1272 := add_rg ty_1272 b_1067 kb_1 (by decide)
                          refine lv_goto (tgt := 69) hx hb dX2_readArguments_159 (by decide) ?_
                          refine lv_iload hx hb dX2_readArguments_69 (lv_at hl 0 rfl) ?_
                          refine lv_iconst (v := 3) hx hb dX2_readArguments_71 (by decide) ?_
                          refine lv_icmp_gt (tgt := 162) hx hb dX2_readArguments_72 (by decide) (fun c_1274 => ?_) (fun c_1274 => ?_)
                          · have fc_1274 := lt_f c_1274
                            have b_1275 : bd 4 4 y_1272 := ltR fc_1274 kb_3 b_1273 (by decide)
                            have b_1276 : bd 3 3 v69_4 := add_inv ty_1272 b_1275 b_1067 kb_1 (by decide)
                            refine lv_aload_n hx hb dX2_readArguments_162 rfl (lv_at hl 5 rfl) ?_
                            refine g_getk (C := RX2) (T := TX2) (N := 16) hx hb hts (mc_ inX2) hown hK g rfl 0 (by decide) rfl (hts _ (List.mem_cons_of_mem _ t_416)) (fun _ h9 => h9) 4 rfl dX2_readArguments_163 ?_
                            have go_ := g
                            refine g_calli (va_runV (As := []) (rest := []) ⟨hx, hb, hml, hown, hts⟩ (r_X8_place l dC dI L kd tys fr_1264 H.size g.2.2.2.1 q0_ mq0_ kq0_) (cwV 0 hts (gV_ t_1110 t_1111 t_1112 t_184 t_1113) rfl rfl rfl (by decide +kernel) ⟨(Nat.le_of_ble_eq_true rfl), (Nat.le_of_ble_eq_true rfl)⟩) (pre3V g hK mq0_ kq0_ (by decide) (q := (RX8, TX8, 10)) rfl) rfl rfl hl.1 rfl (lv_room (Nat.le_of_ble_eq_true rfl)) dX2_readArguments_166 ⟨(Nat.le_of_ble_eq_true rfl), (Nat.le_of_ble_eq_true rfl)⟩) g hK (by decide) (by decide) (fx' := [(8, 6, q0_, .int 1201), (8, 8, q0_, .int x_1265), (0, 2, q2_, .ref q3_), (2, 14, a0_, .int x_17), (2, 0, a0_, .ref q0_), (2, 1, a0_, .ref q1_), (2, 2, a0_, .ref q2_), (2, 3, a0_, .ref q3_), (0, 0, q2_, .ref q0_), (0, 1, q2_, .ref q1_), (5, 0, q1_, .ref q3_), (5, 1, q1_, .ref q7_)]) rfl (fun r_1277 fr_1277 H locs hp hMr_1277 g => ?_)
                            have hG_1278 := cOK.frame hMr_1277 go_.2.2.2.1 mq3_ kq3_ (by decide) (by decide) hG_1268
                            have hG_1279 := dOK.frame hMr_1277 go_.2.2.2.1 mq3_ kq3_ (by decide) (by decide) hG_1269
                            have hG_1280 := jS.frame hMr_1277 go_.2.2.2.1 mq3_ kq3_ (by decide) (by decide) hG_1270
                            have hG_1281 := eOK.frame hMr_1277 go_.2.2.2.1 mq2_ kq2_ (by decide) (by decide) hG_1271
                            refine lv_istore (lv' := [(4, .int r_1277), (5, .int r_1246), (3, .int 1), (2, .int y_1236), (1, .int r_1), (0, .ref a0_)]) hx hb dX2_readArguments_169 hl (by decide) rfl (fun ls hl => ?_)
                            refine lv_aload_n hx hb dX2_readArguments_171 rfl (lv_at hl 5 rfl) ?_
                            refine g_getk (C := RX2) (T := TX2) (N := 16) hx hb hts (mc_ inX2) hown hK g rfl 0 (by decide) rfl (hts _ (List.mem_cons_of_mem _ t_416)) (fun _ h9 => h9) 4 rfl dX2_readArguments_172 ?_
                            refine lv_bipush (v := 41) hx hb dX2_readArguments_175 (by decide) ?_
                            have kb_1201 : bd 1201 1201 (1201 : Int32) := ⟨by decide, by decide⟩
                            have go_ := g
                            refine g_callv (va_runV (As := [.int 41]) (rest := []) ⟨hx, hb, hml, hown, hts⟩ (r_X8_take_2 l dC dI L kd tys fr_1277 H.size g.2.2.2.1 q0_ mq0_ kq0_ 41 1201 kb_1201 x_1265 h_1266 (g.fcts [0, 1] rfl)) (cwV 1 hts (gV_ t_1098 t_1099 t_1100 t_184 t_1101) rfl rfl rfl (by decide +kernel) ⟨(Nat.le_of_ble_eq_true rfl), (Nat.le_of_ble_eq_true rfl)⟩) (pre3V g hK mq0_ kq0_ (by decide) (q := (RX8, TX8, 10)) rfl) rfl rfl hl.1 rfl (lv_room (Nat.le_of_ble_eq_true rfl)) dX2_readArguments_177 ⟨(Nat.le_of_ble_eq_true rfl), (Nat.le_of_ble_eq_true rfl)⟩) g hK (by decide) (by decide) (fx' := [(8, 8, q0_, .int x_1265), (0, 2, q2_, .ref q3_), (2, 14, a0_, .int x_17), (2, 0, a0_, .ref q0_), (2, 1, a0_, .ref q1_), (2, 2, a0_, .ref q2_), (2, 3, a0_, .ref q3_), (0, 0, q2_, .ref q0_), (0, 1, q2_, .ref q1_), (5, 0, q1_, .ref q3_), (5, 1, q1_, .ref q7_)]) rfl (fun fr_1282 H locs hp hMr_1282 g => ?_)
                            obtain ⟨x_1283, h_1284, hF_1285⟩ := hp
                            have hG_1286 := cOK.frame hMr_1282 go_.2.2.2.1 mq3_ kq3_ (by decide) (by decide) hG_1278
                            have hG_1287 := dOK.frame hMr_1282 go_.2.2.2.1 mq3_ kq3_ (by decide) (by decide) hG_1279
                            have hG_1288 := jS.frame hMr_1282 go_.2.2.2.1 mq3_ kq3_ (by decide) (by decide) hG_1280
                            have hG_1289 := eOK.frame hMr_1282 go_.2.2.2.1 mq2_ kq2_ (by decide) (by decide) hG_1281
                            have g := g.more hF_1285
                            refine lv_iload_n hx hb dX2_readArguments_180 rfl (lv_at hl 3 rfl) ?_
                            refine lv_aload_n hx hb dX2_readArguments_181 rfl (lv_at hl 5 rfl) ?_
                            refine g_getk (C := RX2) (T := TX2) (N := 16) hx hb hts (mc_ inX2) hown hK g rfl 14 (by decide) rfl (hts _ (List.mem_cons_of_mem _ t_430)) (fun _ h9 => h9) 3 rfl dX2_readArguments_182 ?_
                            refine lv_icmp_ge (tgt := 199) hx hb dX2_readArguments_185 (by decide) (fun c_1290 => ?_) (fun c_1290 => ?_)
                            · have fc_1290 := le_f c_1290
                              refine lv_aload_n hx hb dX2_readArguments_199 rfl (lv_at hl 5 rfl) ?_
                              refine g_getk (C := RX2) (T := TX2) (N := 16) hx hb hts (mc_ inX2) hown hK g rfl 3 (by decide) rfl (hts _ (List.mem_cons_of_mem _ t_419)) (fun _ h9 => h9) 7 rfl dX2_readArguments_200 ?_
                              refine lv_aload_n hx hb dX2_readArguments_203 rfl (lv_at hl 5 rfl) ?_
                              refine g_geti (C := RX2) (T := TX2) (N := 16) hx hb hts (mc_ inX2) hown hK g ma0_ ka0_ (by decide) rfl 12 (by decide) rfl (hts _ (List.mem_cons_of_mem _ t_428)) (fun _ h9 => h9) rfl dX2_readArguments_204 (fun x_1291 bx_1291 g => ?_)
                              refine lv_aload_n hx hb dX2_readArguments_207 rfl (lv_at hl 5 rfl) ?_
                              refine g_geti (C := RX2) (T := TX2) (N := 16) hx hb hts (mc_ inX2) hown hK g ma0_ ka0_ (by decide) rfl 13 (by decide) rfl (hts _ (List.mem_cons_of_mem _ t_429)) (fun _ h9 => h9) rfl dX2_readArguments_208 (fun x_1292 bx_1292 g => ?_)
                              obtain ⟨a_1293, ma_1293, ka_1293, g⟩ := g_factr g mq3_ kq3_ (by decide) 4 rfl
                              obtain ⟨a_1294, ma_1294, ka_1294, g⟩ := g_factr g mq3_ kq3_ (by decide) 5 rfl
                              obtain ⟨x_1295, bx_1295, g⟩ := g_facti g mq3_ kq3_ (by decide) 6 rfl
                              have go_ := g
                              refine g_callv (va_runV (As := [.int x_1291, .int x_1292]) (rest := []) ⟨hx, hb, hml, hown, hts⟩ (r_X7_emitF l dC dI L kd tys fr_1282 H.size g.2.2.2.1 q3_ mq3_ kq3_ a_1293 ma_1293 ka_1293 a_1294 ma_1294 ka_1294 x_1295 bx_1295 T_ hG_1287 x_1291 x_1292 (g.fcts [2, 1, 0] rfl)) (cwV 2 hts (gV_ t_1301 t_1204 t_1205 t_191 t_1206) rfl rfl rfl (by decide +kernel) ⟨(Nat.le_of_ble_eq_true rfl), (Nat.le_of_ble_eq_true rfl)⟩) (pre3V g hK mq3_ kq3_ (by decide) (q := (RX7, TX7, 19)) rfl) rfl rfl hl.1 rfl (lv_room (Nat.le_of_ble_eq_true rfl)) dX2_readArguments_211 ⟨(Nat.le_of_ble_eq_true rfl), (Nat.le_of_ble_eq_true rfl)⟩) g hK (by decide) (by decide) (fx' := [(7, 5, q3_, .ref a_1294), (7, 4, q3_, .ref a_1293), (2, 13, a0_, .int x_1292), (2, 12, a0_, .int x_1291), (8, 6, q0_, .int x_1283), (8, 8, q0_, .int x_1265), (0, 2, q2_, .ref q3_), (2, 14, a0_, .int x_17), (2, 0, a0_, .ref q0_), (2, 1, a0_, .ref q1_), (2, 2, a0_, .ref q2_), (2, 3, a0_, .ref q3_), (0, 0, q2_, .ref q0_), (0, 1, q2_, .ref q1_), (5, 0, q1_, .ref q3_), (5, 1, q1_, .ref q7_)]) rfl (fun fr_1296 H locs hp hMr_1296 g => ?_)
                              obtain ⟨hG_1297, x_1298, h_1299, hF_1300⟩ := hp
                              have hG_1301 := eOK.frame hMr_1296 go_.2.2.2.1 mq2_ kq2_ (by decide) (by decide) hG_1289
                              have g := g.more hF_1300
                              refine lv_aload_n hx hb dX2_readArguments_214 rfl (lv_at hl 5 rfl) ?_
                              refine g_getk (C := RX2) (T := TX2) (N := 16) hx hb hts (mc_ inX2) hown hK g rfl 3 (by decide) rfl (hts _ (List.mem_cons_of_mem _ t_419)) (fun _ h9 => h9) 12 rfl dX2_readArguments_215 ?_
                              refine lv_bipush (v := 22) hx hb dX2_readArguments_218 (by decide) ?_
                              refine lv_iconst (v := 0) hx hb dX2_readArguments_220 (by decide) ?_
                              have go_ := g
                              refine g_callv (va_runV (As := [.int 22, .int 0]) (rest := []) ⟨hx, hb, hml, hown, hts⟩ (r_X7_emitF l dC dI L kd tys fr_1296 H.size g.2.2.2.1 q3_ mq3_ kq3_ a_1293 ma_1293 ka_1293 a_1294 ma_1294 ka_1294 x_1298 h_1299 T_ hG_1297 (22 : Int32) (0 : Int32) (g.fcts [2, 1, 0] rfl)) (cwV 2 hts (gV_ t_1301 t_1204 t_1205 t_191 t_1206) rfl rfl rfl (by decide +kernel) ⟨(Nat.le_of_ble_eq_true rfl), (Nat.le_of_ble_eq_true rfl)⟩) (pre3V g hK mq3_ kq3_ (by decide) (q := (RX7, TX7, 19)) rfl) rfl rfl hl.1 rfl (lv_room (Nat.le_of_ble_eq_true rfl)) dX2_readArguments_221 ⟨(Nat.le_of_ble_eq_true rfl), (Nat.le_of_ble_eq_true rfl)⟩) g hK (by decide) (by decide) (fx' := [(7, 5, q3_, .ref a_1294), (7, 4, q3_, .ref a_1293), (2, 13, a0_, .int x_1292), (2, 12, a0_, .int x_1291), (8, 6, q0_, .int x_1283), (8, 8, q0_, .int x_1265), (0, 2, q2_, .ref q3_), (2, 14, a0_, .int x_17), (2, 0, a0_, .ref q0_), (2, 1, a0_, .ref q1_), (2, 2, a0_, .ref q2_), (2, 3, a0_, .ref q3_), (0, 0, q2_, .ref q0_), (0, 1, q2_, .ref q1_), (5, 0, q1_, .ref q3_), (5, 1, q1_, .ref q7_)]) rfl (fun fr_1302 H locs hp hMr_1302 g => ?_)
                              obtain ⟨hG_1303, x_1304, h_1305, hF_1306⟩ := hp
                              have hG_1307 := eOK.frame hMr_1302 go_.2.2.2.1 mq2_ kq2_ (by decide) (by decide) hG_1301
                              have g := g.more hF_1306
                              refine lv_aload_n hx hb dX2_readArguments_224 rfl (lv_at hl 5 rfl) ?_
                              refine g_getk (C := RX2) (T := TX2) (N := 16) hx hb hts (mc_ inX2) hown hK g rfl 0 (by decide) rfl (hts _ (List.mem_cons_of_mem _ t_416)) (fun _ h9 => h9) 9 rfl dX2_readArguments_225 ?_
                              refine lv_bipush (v := 59) hx hb dX2_readArguments_228 (by decide) ?_
                              have go_ := g
                              refine g_callv (va_runV (As := [.int 59]) (rest := []) ⟨hx, hb, hml, hown, hts⟩ (r_X8_take_2 l dC dI L kd tys fr_1302 H.size g.2.2.2.1 q0_ mq0_ kq0_ 59 x_1283 h_1284 x_1265 h_1266 (g.fcts [5, 6] rfl)) (cwV 1 hts (gV_ t_1098 t_1099 t_1100 t_184 t_1101) rfl rfl rfl (by decide +kernel) ⟨(Nat.le_of_ble_eq_true rfl), (Nat.le_of_ble_eq_true rfl)⟩) (pre3V g hK mq0_ kq0_ (by decide) (q := (RX8, TX8, 10)) rfl) rfl rfl hl.1 rfl (lv_room (Nat.le_of_ble_eq_true rfl)) dX2_readArguments_230 ⟨(Nat.le_of_ble_eq_true rfl), (Nat.le_of_ble_eq_true rfl)⟩) g hK (by decide) (by decide) (fx' := [(7, 6, q3_, .int x_1304), (7, 5, q3_, .ref a_1294), (7, 4, q3_, .ref a_1293), (2, 13, a0_, .int x_1292), (2, 12, a0_, .int x_1291), (8, 8, q0_, .int x_1265), (0, 2, q2_, .ref q3_), (2, 14, a0_, .int x_17), (2, 0, a0_, .ref q0_), (2, 1, a0_, .ref q1_), (2, 2, a0_, .ref q2_), (2, 3, a0_, .ref q3_), (0, 0, q2_, .ref q0_), (0, 1, q2_, .ref q1_), (5, 0, q1_, .ref q3_), (5, 1, q1_, .ref q7_)]) rfl (fun fr_1308 H locs hp hMr_1308 g => ?_)
                              obtain ⟨x_1309, h_1310, hF_1311⟩ := hp
                              have hG_1312 := dOK.frame hMr_1308 go_.2.2.2.1 mq3_ kq3_ (by decide) (by decide) hG_1303
                              have hG_1313 := eOK.frame hMr_1308 go_.2.2.2.1 mq2_ kq2_ (by decide) (by decide) hG_1307
                              have g := g.more hF_1311
                              subst hQ
                              exact W.vret hx hb hr (fun t ht hW => ⟨⟨_, rfl, Or.inr (⟨hG_1312, hG_1313, x_1309, h_1310, x_1265, h_1266, (g.fcts [0, 6] rfl)⟩), q3_of g hK ht hW⟩, g.2.2.1.F ht⟩) g.2.2.1.2.2 dX2_readArguments_233
                            · have fc_1290 := nle_f c_1290
                              have b_1314 : bd 0 (-1) y_1236 := ltL fc_1290 b_1263 b_813 (by decide)
                              exact bd_no b_1314 (by decide)
                          · have fc_1274 := nlt_f c_1274
                            have b_1315 : bd 1 3 y_1272 := leL fc_1274 b_1273 kb_3 (by decide)
                            have b_1316 : bd 0 2 v69_4 := add_inv ty_1272 b_1315 b_1067 kb_1 (by decide)
                            refine lv_iload_n hx hb dX2_readArguments_75 rfl (lv_at hl 2 rfl) ?_
                            refine lv_if_eq (tgt := 162) hx hb dX2_readArguments_76 (by decide) (fun c_ => absurd c_ (by decide)) (fun c_ => ?_)
                            refine lv_aload_n hx hb dX2_readArguments_79 rfl (lv_at hl 5 rfl) ?_
                            refine g_getk (C := RX2) (T := TX2) (N := 16) hx hb hts (mc_ inX2) hown hK g rfl 0 (by decide) rfl (hts _ (List.mem_cons_of_mem _ t_416)) (fun _ h9 => h9) 4 rfl dX2_readArguments_80 ?_
                            refine g_getk (C := RX8) (T := TX8) (N := 10) hx hb hts (mc_ inX8) hown hK g rfl 8 (by decide) rfl (hts _ (List.mem_cons_of_mem _ t_294)) (fun _ h9 => h9) 1 rfl dX2_readArguments_83 ?_
                            refine lv_if_ne (tgt := 162) hx hb dX2_readArguments_86 (by decide) (fun c_1317 => ?_) (fun c_1317 => ?_)
                            · have fc_1317 := neq_f c_1317
                              refine lv_aload_n hx hb dX2_readArguments_162 rfl (lv_at hl 5 rfl) ?_
                              refine g_getk (C := RX2) (T := TX2) (N := 16) hx hb hts (mc_ inX2) hown hK g rfl 0 (by decide) rfl (hts _ (List.mem_cons_of_mem _ t_416)) (fun _ h9 => h9) 4 rfl dX2_readArguments_163 ?_
                              have go_ := g
                              refine g_calli (va_runV (As := []) (rest := []) ⟨hx, hb, hml, hown, hts⟩ (r_X8_place l dC dI L kd tys fr_1264 H.size g.2.2.2.1 q0_ mq0_ kq0_) (cwV 0 hts (gV_ t_1110 t_1111 t_1112 t_184 t_1113) rfl rfl rfl (by decide +kernel) ⟨(Nat.le_of_ble_eq_true rfl), (Nat.le_of_ble_eq_true rfl)⟩) (pre3V g hK mq0_ kq0_ (by decide) (q := (RX8, TX8, 10)) rfl) rfl rfl hl.1 rfl (lv_room (Nat.le_of_ble_eq_true rfl)) dX2_readArguments_166 ⟨(Nat.le_of_ble_eq_true rfl), (Nat.le_of_ble_eq_true rfl)⟩) g hK (by decide) (by decide) (fx' := [(8, 6, q0_, .int 1201), (8, 8, q0_, .int x_1265), (0, 2, q2_, .ref q3_), (2, 14, a0_, .int x_17), (2, 0, a0_, .ref q0_), (2, 1, a0_, .ref q1_), (2, 2, a0_, .ref q2_), (2, 3, a0_, .ref q3_), (0, 0, q2_, .ref q0_), (0, 1, q2_, .ref q1_), (5, 0, q1_, .ref q3_), (5, 1, q1_, .ref q7_)]) rfl (fun r_1318 fr_1318 H locs hp hMr_1318 g => ?_)
                              have hG_1319 := cOK.frame hMr_1318 go_.2.2.2.1 mq3_ kq3_ (by decide) (by decide) hG_1268
                              have hG_1320 := dOK.frame hMr_1318 go_.2.2.2.1 mq3_ kq3_ (by decide) (by decide) hG_1269
                              have hG_1321 := jS.frame hMr_1318 go_.2.2.2.1 mq3_ kq3_ (by decide) (by decide) hG_1270
                              have hG_1322 := eOK.frame hMr_1318 go_.2.2.2.1 mq2_ kq2_ (by decide) (by decide) hG_1271
                              refine lv_istore (lv' := [(4, .int r_1318), (5, .int r_1246), (3, .int 1), (2, .int y_1236), (1, .int r_1), (0, .ref a0_)]) hx hb dX2_readArguments_169 hl (by decide) rfl (fun ls hl => ?_)
                              refine lv_aload_n hx hb dX2_readArguments_171 rfl (lv_at hl 5 rfl) ?_
                              refine g_getk (C := RX2) (T := TX2) (N := 16) hx hb hts (mc_ inX2) hown hK g rfl 0 (by decide) rfl (hts _ (List.mem_cons_of_mem _ t_416)) (fun _ h9 => h9) 4 rfl dX2_readArguments_172 ?_
                              refine lv_bipush (v := 41) hx hb dX2_readArguments_175 (by decide) ?_
                              have kb_1201 : bd 1201 1201 (1201 : Int32) := ⟨by decide, by decide⟩
                              have go_ := g
                              refine g_callv (va_runV (As := [.int 41]) (rest := []) ⟨hx, hb, hml, hown, hts⟩ (r_X8_take_2 l dC dI L kd tys fr_1318 H.size g.2.2.2.1 q0_ mq0_ kq0_ 41 1201 kb_1201 x_1265 h_1266 (g.fcts [0, 1] rfl)) (cwV 1 hts (gV_ t_1098 t_1099 t_1100 t_184 t_1101) rfl rfl rfl (by decide +kernel) ⟨(Nat.le_of_ble_eq_true rfl), (Nat.le_of_ble_eq_true rfl)⟩) (pre3V g hK mq0_ kq0_ (by decide) (q := (RX8, TX8, 10)) rfl) rfl rfl hl.1 rfl (lv_room (Nat.le_of_ble_eq_true rfl)) dX2_readArguments_177 ⟨(Nat.le_of_ble_eq_true rfl), (Nat.le_of_ble_eq_true rfl)⟩) g hK (by decide) (by decide) (fx' := [(8, 8, q0_, .int x_1265), (0, 2, q2_, .ref q3_), (2, 14, a0_, .int x_17), (2, 0, a0_, .ref q0_), (2, 1, a0_, .ref q1_), (2, 2, a0_, .ref q2_), (2, 3, a0_, .ref q3_), (0, 0, q2_, .ref q0_), (0, 1, q2_, .ref q1_), (5, 0, q1_, .ref q3_), (5, 1, q1_, .ref q7_)]) rfl (fun fr_1323 H locs hp hMr_1323 g => ?_)
                              obtain ⟨x_1324, h_1325, hF_1326⟩ := hp
                              have hG_1327 := cOK.frame hMr_1323 go_.2.2.2.1 mq3_ kq3_ (by decide) (by decide) hG_1319
                              have hG_1328 := dOK.frame hMr_1323 go_.2.2.2.1 mq3_ kq3_ (by decide) (by decide) hG_1320
                              have hG_1329 := jS.frame hMr_1323 go_.2.2.2.1 mq3_ kq3_ (by decide) (by decide) hG_1321
                              have hG_1330 := eOK.frame hMr_1323 go_.2.2.2.1 mq2_ kq2_ (by decide) (by decide) hG_1322
                              have g := g.more hF_1326
                              refine lv_iload_n hx hb dX2_readArguments_180 rfl (lv_at hl 3 rfl) ?_
                              refine lv_aload_n hx hb dX2_readArguments_181 rfl (lv_at hl 5 rfl) ?_
                              refine g_getk (C := RX2) (T := TX2) (N := 16) hx hb hts (mc_ inX2) hown hK g rfl 14 (by decide) rfl (hts _ (List.mem_cons_of_mem _ t_430)) (fun _ h9 => h9) 3 rfl dX2_readArguments_182 ?_
                              refine lv_icmp_ge (tgt := 199) hx hb dX2_readArguments_185 (by decide) (fun c_1331 => ?_) (fun c_1331 => ?_)
                              · have fc_1331 := le_f c_1331
                                refine lv_aload_n hx hb dX2_readArguments_199 rfl (lv_at hl 5 rfl) ?_
                                refine g_getk (C := RX2) (T := TX2) (N := 16) hx hb hts (mc_ inX2) hown hK g rfl 3 (by decide) rfl (hts _ (List.mem_cons_of_mem _ t_419)) (fun _ h9 => h9) 7 rfl dX2_readArguments_200 ?_
                                refine lv_aload_n hx hb dX2_readArguments_203 rfl (lv_at hl 5 rfl) ?_
                                refine g_geti (C := RX2) (T := TX2) (N := 16) hx hb hts (mc_ inX2) hown hK g ma0_ ka0_ (by decide) rfl 12 (by decide) rfl (hts _ (List.mem_cons_of_mem _ t_428)) (fun _ h9 => h9) rfl dX2_readArguments_204 (fun x_1332 bx_1332 g => ?_)
                                refine lv_aload_n hx hb dX2_readArguments_207 rfl (lv_at hl 5 rfl) ?_
                                refine g_geti (C := RX2) (T := TX2) (N := 16) hx hb hts (mc_ inX2) hown hK g ma0_ ka0_ (by decide) rfl 13 (by decide) rfl (hts _ (List.mem_cons_of_mem _ t_429)) (fun _ h9 => h9) rfl dX2_readArguments_208 (fun x_1333 bx_1333 g => ?_)
                                obtain ⟨a_1334, ma_1334, ka_1334, g⟩ := g_factr g mq3_ kq3_ (by decide) 4 rfl
                                obtain ⟨a_1335, ma_1335, ka_1335, g⟩ := g_factr g mq3_ kq3_ (by decide) 5 rfl
                                obtain ⟨x_1336, bx_1336, g⟩ := g_facti g mq3_ kq3_ (by decide) 6 rfl
                                have go_ := g
                                refine g_callv (va_runV (As := [.int x_1332, .int x_1333]) (rest := []) ⟨hx, hb, hml, hown, hts⟩ (r_X7_emitF l dC dI L kd tys fr_1323 H.size g.2.2.2.1 q3_ mq3_ kq3_ a_1334 ma_1334 ka_1334 a_1335 ma_1335 ka_1335 x_1336 bx_1336 T_ hG_1328 x_1332 x_1333 (g.fcts [2, 1, 0] rfl)) (cwV 2 hts (gV_ t_1301 t_1204 t_1205 t_191 t_1206) rfl rfl rfl (by decide +kernel) ⟨(Nat.le_of_ble_eq_true rfl), (Nat.le_of_ble_eq_true rfl)⟩) (pre3V g hK mq3_ kq3_ (by decide) (q := (RX7, TX7, 19)) rfl) rfl rfl hl.1 rfl (lv_room (Nat.le_of_ble_eq_true rfl)) dX2_readArguments_211 ⟨(Nat.le_of_ble_eq_true rfl), (Nat.le_of_ble_eq_true rfl)⟩) g hK (by decide) (by decide) (fx' := [(7, 5, q3_, .ref a_1335), (7, 4, q3_, .ref a_1334), (2, 13, a0_, .int x_1333), (2, 12, a0_, .int x_1332), (8, 6, q0_, .int x_1324), (8, 8, q0_, .int x_1265), (0, 2, q2_, .ref q3_), (2, 14, a0_, .int x_17), (2, 0, a0_, .ref q0_), (2, 1, a0_, .ref q1_), (2, 2, a0_, .ref q2_), (2, 3, a0_, .ref q3_), (0, 0, q2_, .ref q0_), (0, 1, q2_, .ref q1_), (5, 0, q1_, .ref q3_), (5, 1, q1_, .ref q7_)]) rfl (fun fr_1337 H locs hp hMr_1337 g => ?_)
                                obtain ⟨hG_1338, x_1339, h_1340, hF_1341⟩ := hp
                                have hG_1342 := eOK.frame hMr_1337 go_.2.2.2.1 mq2_ kq2_ (by decide) (by decide) hG_1330
                                have g := g.more hF_1341
                                refine lv_aload_n hx hb dX2_readArguments_214 rfl (lv_at hl 5 rfl) ?_
                                refine g_getk (C := RX2) (T := TX2) (N := 16) hx hb hts (mc_ inX2) hown hK g rfl 3 (by decide) rfl (hts _ (List.mem_cons_of_mem _ t_419)) (fun _ h9 => h9) 12 rfl dX2_readArguments_215 ?_
                                refine lv_bipush (v := 22) hx hb dX2_readArguments_218 (by decide) ?_
                                refine lv_iconst (v := 0) hx hb dX2_readArguments_220 (by decide) ?_
                                have go_ := g
                                refine g_callv (va_runV (As := [.int 22, .int 0]) (rest := []) ⟨hx, hb, hml, hown, hts⟩ (r_X7_emitF l dC dI L kd tys fr_1337 H.size g.2.2.2.1 q3_ mq3_ kq3_ a_1334 ma_1334 ka_1334 a_1335 ma_1335 ka_1335 x_1339 h_1340 T_ hG_1338 (22 : Int32) (0 : Int32) (g.fcts [2, 1, 0] rfl)) (cwV 2 hts (gV_ t_1301 t_1204 t_1205 t_191 t_1206) rfl rfl rfl (by decide +kernel) ⟨(Nat.le_of_ble_eq_true rfl), (Nat.le_of_ble_eq_true rfl)⟩) (pre3V g hK mq3_ kq3_ (by decide) (q := (RX7, TX7, 19)) rfl) rfl rfl hl.1 rfl (lv_room (Nat.le_of_ble_eq_true rfl)) dX2_readArguments_221 ⟨(Nat.le_of_ble_eq_true rfl), (Nat.le_of_ble_eq_true rfl)⟩) g hK (by decide) (by decide) (fx' := [(7, 5, q3_, .ref a_1335), (7, 4, q3_, .ref a_1334), (2, 13, a0_, .int x_1333), (2, 12, a0_, .int x_1332), (8, 6, q0_, .int x_1324), (8, 8, q0_, .int x_1265), (0, 2, q2_, .ref q3_), (2, 14, a0_, .int x_17), (2, 0, a0_, .ref q0_), (2, 1, a0_, .ref q1_), (2, 2, a0_, .ref q2_), (2, 3, a0_, .ref q3_), (0, 0, q2_, .ref q0_), (0, 1, q2_, .ref q1_), (5, 0, q1_, .ref q3_), (5, 1, q1_, .ref q7_)]) rfl (fun fr_1343 H locs hp hMr_1343 g => ?_)
                                obtain ⟨hG_1344, x_1345, h_1346, hF_1347⟩ := hp
                                have hG_1348 := eOK.frame hMr_1343 go_.2.2.2.1 mq2_ kq2_ (by decide) (by decide) hG_1342
                                have g := g.more hF_1347
                                refine lv_aload_n hx hb dX2_readArguments_224 rfl (lv_at hl 5 rfl) ?_
                                refine g_getk (C := RX2) (T := TX2) (N := 16) hx hb hts (mc_ inX2) hown hK g rfl 0 (by decide) rfl (hts _ (List.mem_cons_of_mem _ t_416)) (fun _ h9 => h9) 9 rfl dX2_readArguments_225 ?_
                                refine lv_bipush (v := 59) hx hb dX2_readArguments_228 (by decide) ?_
                                have go_ := g
                                refine g_callv (va_runV (As := [.int 59]) (rest := []) ⟨hx, hb, hml, hown, hts⟩ (r_X8_take_2 l dC dI L kd tys fr_1343 H.size g.2.2.2.1 q0_ mq0_ kq0_ 59 x_1324 h_1325 x_1265 h_1266 (g.fcts [5, 6] rfl)) (cwV 1 hts (gV_ t_1098 t_1099 t_1100 t_184 t_1101) rfl rfl rfl (by decide +kernel) ⟨(Nat.le_of_ble_eq_true rfl), (Nat.le_of_ble_eq_true rfl)⟩) (pre3V g hK mq0_ kq0_ (by decide) (q := (RX8, TX8, 10)) rfl) rfl rfl hl.1 rfl (lv_room (Nat.le_of_ble_eq_true rfl)) dX2_readArguments_230 ⟨(Nat.le_of_ble_eq_true rfl), (Nat.le_of_ble_eq_true rfl)⟩) g hK (by decide) (by decide) (fx' := [(7, 6, q3_, .int x_1345), (7, 5, q3_, .ref a_1335), (7, 4, q3_, .ref a_1334), (2, 13, a0_, .int x_1333), (2, 12, a0_, .int x_1332), (8, 8, q0_, .int x_1265), (0, 2, q2_, .ref q3_), (2, 14, a0_, .int x_17), (2, 0, a0_, .ref q0_), (2, 1, a0_, .ref q1_), (2, 2, a0_, .ref q2_), (2, 3, a0_, .ref q3_), (0, 0, q2_, .ref q0_), (0, 1, q2_, .ref q1_), (5, 0, q1_, .ref q3_), (5, 1, q1_, .ref q7_)]) rfl (fun fr_1349 H locs hp hMr_1349 g => ?_)
                                obtain ⟨x_1350, h_1351, hF_1352⟩ := hp
                                have hG_1353 := dOK.frame hMr_1349 go_.2.2.2.1 mq3_ kq3_ (by decide) (by decide) hG_1344
                                have hG_1354 := eOK.frame hMr_1349 go_.2.2.2.1 mq2_ kq2_ (by decide) (by decide) hG_1348
                                have g := g.more hF_1352
                                subst hQ
                                exact W.vret hx hb hr (fun t ht hW => ⟨⟨_, rfl, Or.inr (⟨hG_1353, hG_1354, x_1350, h_1351, x_1265, h_1266, (g.fcts [0, 6] rfl)⟩), q3_of g hK ht hW⟩, g.2.2.1.F ht⟩) g.2.2.1.2.2 dX2_readArguments_233
                              · have fc_1331 := nle_f c_1331
                                have b_1355 : bd 0 (-1) y_1236 := ltL fc_1331 b_1263 b_813 (by decide)
                                exact bd_no b_1355 (by decide)
                            · have fc_1317 := eq_f c_1317
                              have b_1356 : bd 1 0 x_1265 := eqX fc_1317 h_1266 kb_0 (by decide)
                              exact bd_no b_1356 (by decide)
                    · have g := g.more hF_1234
                      have kb_1 : bd 1 1 (1 : Int32) := ⟨by decide, by decide⟩
                      obtain ⟨y_1357, ey_1357⟩ : ∃ z : Int32, z = v69_2 + 1 := ⟨_, rfl⟩
                      refine lv_iinc (v := y_1357) (lv' := [(2, .int y_1357), (4, .int v69_4), (3, .int v69_3), (1, .int r_1), (0, .ref a0_)]) hx hb dX2_readArguments_96 hl (k := 2) rfl (by rw [ey_1357]; rfl) (by decide) rfl (fun ls hl => ?_)
                      refine lv_aload_n hx hb dX2_readArguments_99 rfl (lv_at hl 4 rfl) ?_
                      refine g_getk (C := RX2) (T := TX2) (N := 16) hx hb hts (mc_ inX2) hown hK g rfl 0 (by decide) rfl (hts _ (List.mem_cons_of_mem _ t_416)) (fun _ h9 => h9) 4 rfl dX2_readArguments_100 ?_
                      have go_ := g
                      refine g_calli (va_runV (As := []) (rest := []) ⟨hx, hb, hml, hown, hts⟩ (r_X8_kind_2 l dC dI L kd tys fr_1222 H.size g.2.2.2.1 q0_ mq0_ kq0_ x_1230 h_1231 (g.fcts [0] rfl)) (cwV 0 hts (gV_ t_1118 t_1119 t_1120 t_184 t_1121) rfl rfl rfl (by decide +kernel) ⟨(Nat.le_of_ble_eq_true rfl), (Nat.le_of_ble_eq_true rfl)⟩) (pre3V g hK mq0_ kq0_ (by decide) (q := (RX8, TX8, 10)) rfl) rfl rfl hl.1 rfl (lv_room (Nat.le_of_ble_eq_true rfl)) dX2_readArguments_103 ⟨(Nat.le_of_ble_eq_true rfl), (Nat.le_of_ble_eq_true rfl)⟩) g hK (by decide) (by decide) (fx' := [(8, 6, q0_, .int x_1230), (8, 8, q0_, .int x_1232), (0, 2, q2_, .ref q3_), (2, 14, a0_, .int x_17), (2, 0, a0_, .ref q0_), (2, 1, a0_, .ref q1_), (2, 2, a0_, .ref q2_), (2, 3, a0_, .ref q3_), (0, 0, q2_, .ref q0_), (0, 1, q2_, .ref q1_), (5, 0, q1_, .ref q3_), (5, 1, q1_, .ref q7_)]) rfl (fun r_1358 fr_1358 H locs hp hMr_1358 g => ?_)
                      obtain ⟨h_1359, -⟩ := hp
                      have hG_1360 := dOK.frame hMr_1358 go_.2.2.2.1 mq3_ kq3_ (by decide) (by decide) hG_1229
                      have hG_1361 := eOK.frame hMr_1358 go_.2.2.2.1 mq2_ kq2_ (by decide) (by decide) hG_1228
                      obtain rfl : r_1358 = 0 := h_1359
                      refine lv_bipush (v := 44) hx hb dX2_readArguments_106 (by decide) ?_
                      refine lv_icmp_ne (tgt := 115) hx hb dX2_readArguments_108 (by decide) (fun c_ => ?_) (fun c_ => absurd c_ (by decide))
                      refine lv_iconst (v := 0) hx hb dX2_readArguments_115 (by decide) ?_
                      refine lv_istore_n (lv' := [(3, .int 0), (2, .int y_1357), (4, .int v69_4), (1, .int r_1), (0, .ref a0_)]) hx hb dX2_readArguments_116 rfl hl (by decide) rfl (fun ls hl => ?_)
                      refine lv_iload_n hx hb dX2_readArguments_117 rfl (lv_at hl 0 rfl) ?_
                      refine lv_if_eq (tgt := 156) hx hb dX2_readArguments_118 (by decide) (fun c_ => ?_) (fun c_ => absurd (by decide) c_)
                      obtain ⟨y_1362, ey_1362⟩ : ∃ z : Int32, z = v69_4 + 1 := ⟨_, rfl⟩
                      refine lv_iinc (v := y_1362) (lv' := [(4, .int y_1362), (3, .int 0), (2, .int y_1357), (1, .int r_1), (0, .ref a0_)]) hx hb dX2_readArguments_156 hl (k := 2) rfl (by rw [ey_1362]; rfl) (by decide) rfl (fun ls hl => ?_)
                      have ty_1362 := add_bd ey_1362 b_1067 kb_1 (by decide)
                      have b_1363 : bd 1 4 y_1362 := add_rg ty_1362 b_1067 kb_1 (by decide)
                      refine lv_goto (tgt := 69) hx hb dX2_readArguments_159 (by decide) ?_
                      refine lv_iload hx hb dX2_readArguments_69 (lv_at hl 0 rfl) ?_
                      refine lv_iconst (v := 3) hx hb dX2_readArguments_71 (by decide) ?_
                      refine lv_icmp_gt (tgt := 162) hx hb dX2_readArguments_72 (by decide) (fun c_1364 => ?_) (fun c_1364 => ?_)
                      · have fc_1364 := lt_f c_1364
                        have b_1365 : bd 4 4 y_1362 := ltR fc_1364 kb_3 b_1363 (by decide)
                        have b_1366 : bd 3 3 v69_4 := add_inv ty_1362 b_1365 b_1067 kb_1 (by decide)
                        refine lv_aload_n hx hb dX2_readArguments_162 rfl (lv_at hl 4 rfl) ?_
                        refine g_getk (C := RX2) (T := TX2) (N := 16) hx hb hts (mc_ inX2) hown hK g rfl 0 (by decide) rfl (hts _ (List.mem_cons_of_mem _ t_416)) (fun _ h9 => h9) 4 rfl dX2_readArguments_163 ?_
                        have go_ := g
                        refine g_calli (va_runV (As := []) (rest := []) ⟨hx, hb, hml, hown, hts⟩ (r_X8_place l dC dI L kd tys fr_1358 H.size g.2.2.2.1 q0_ mq0_ kq0_) (cwV 0 hts (gV_ t_1110 t_1111 t_1112 t_184 t_1113) rfl rfl rfl (by decide +kernel) ⟨(Nat.le_of_ble_eq_true rfl), (Nat.le_of_ble_eq_true rfl)⟩) (pre3V g hK mq0_ kq0_ (by decide) (q := (RX8, TX8, 10)) rfl) rfl rfl hl.1 rfl (lv_room (Nat.le_of_ble_eq_true rfl)) dX2_readArguments_166 ⟨(Nat.le_of_ble_eq_true rfl), (Nat.le_of_ble_eq_true rfl)⟩) g hK (by decide) (by decide) (fx' := [(8, 6, q0_, .int x_1230), (8, 8, q0_, .int x_1232), (0, 2, q2_, .ref q3_), (2, 14, a0_, .int x_17), (2, 0, a0_, .ref q0_), (2, 1, a0_, .ref q1_), (2, 2, a0_, .ref q2_), (2, 3, a0_, .ref q3_), (0, 0, q2_, .ref q0_), (0, 1, q2_, .ref q1_), (5, 0, q1_, .ref q3_), (5, 1, q1_, .ref q7_)]) rfl (fun r_1367 fr_1367 H locs hp hMr_1367 g => ?_)
                        have hG_1368 := dOK.frame hMr_1367 go_.2.2.2.1 mq3_ kq3_ (by decide) (by decide) hG_1360
                        have hG_1369 := eOK.frame hMr_1367 go_.2.2.2.1 mq2_ kq2_ (by decide) (by decide) hG_1361
                        refine lv_istore (lv' := [(4, .int r_1367), (3, .int 0), (2, .int y_1357), (1, .int r_1), (0, .ref a0_)]) hx hb dX2_readArguments_169 hl (by decide) rfl (fun ls hl => ?_)
                        refine lv_aload_n hx hb dX2_readArguments_171 rfl (lv_at hl 4 rfl) ?_
                        refine g_getk (C := RX2) (T := TX2) (N := 16) hx hb hts (mc_ inX2) hown hK g rfl 0 (by decide) rfl (hts _ (List.mem_cons_of_mem _ t_416)) (fun _ h9 => h9) 4 rfl dX2_readArguments_172 ?_
                        refine lv_bipush (v := 41) hx hb dX2_readArguments_175 (by decide) ?_
                        have go_ := g
                        refine g_callv (va_runV (As := [.int 41]) (rest := []) ⟨hx, hb, hml, hown, hts⟩ (r_X8_take_2 l dC dI L kd tys fr_1367 H.size g.2.2.2.1 q0_ mq0_ kq0_ 41 x_1230 h_1231 x_1232 h_1233 (g.fcts [0, 1] rfl)) (cwV 1 hts (gV_ t_1098 t_1099 t_1100 t_184 t_1101) rfl rfl rfl (by decide +kernel) ⟨(Nat.le_of_ble_eq_true rfl), (Nat.le_of_ble_eq_true rfl)⟩) (pre3V g hK mq0_ kq0_ (by decide) (q := (RX8, TX8, 10)) rfl) rfl rfl hl.1 rfl (lv_room (Nat.le_of_ble_eq_true rfl)) dX2_readArguments_177 ⟨(Nat.le_of_ble_eq_true rfl), (Nat.le_of_ble_eq_true rfl)⟩) g hK (by decide) (by decide) (fx' := [(8, 8, q0_, .int x_1232), (0, 2, q2_, .ref q3_), (2, 14, a0_, .int x_17), (2, 0, a0_, .ref q0_), (2, 1, a0_, .ref q1_), (2, 2, a0_, .ref q2_), (2, 3, a0_, .ref q3_), (0, 0, q2_, .ref q0_), (0, 1, q2_, .ref q1_), (5, 0, q1_, .ref q3_), (5, 1, q1_, .ref q7_)]) rfl (fun fr_1370 H locs hp hMr_1370 g => ?_)
                        obtain ⟨x_1371, h_1372, hF_1373⟩ := hp
                        have hG_1374 := dOK.frame hMr_1370 go_.2.2.2.1 mq3_ kq3_ (by decide) (by decide) hG_1368
                        have hG_1375 := eOK.frame hMr_1370 go_.2.2.2.1 mq2_ kq2_ (by decide) (by decide) hG_1369
                        have g := g.more hF_1373
                        refine lv_iload_n hx hb dX2_readArguments_180 rfl (lv_at hl 2 rfl) ?_
                        refine lv_aload_n hx hb dX2_readArguments_181 rfl (lv_at hl 4 rfl) ?_
                        refine g_getk (C := RX2) (T := TX2) (N := 16) hx hb hts (mc_ inX2) hown hK g rfl 14 (by decide) rfl (hts _ (List.mem_cons_of_mem _ t_430)) (fun _ h9 => h9) 3 rfl dX2_readArguments_182 ?_
                        refine lv_icmp_ge (tgt := 199) hx hb dX2_readArguments_185 (by decide) (fun c_1376 => ?_) (fun c_1376 => ?_)
                        · have fc_1376 := le_f c_1376
                          have b_1377 : bd 0 2147483647 y_1357 := leR fc_1376 b_813 (bdT y_1357) (by decide)
                          refine lv_aload_n hx hb dX2_readArguments_199 rfl (lv_at hl 4 rfl) ?_
                          refine g_getk (C := RX2) (T := TX2) (N := 16) hx hb hts (mc_ inX2) hown hK g rfl 3 (by decide) rfl (hts _ (List.mem_cons_of_mem _ t_419)) (fun _ h9 => h9) 7 rfl dX2_readArguments_200 ?_
                          refine lv_aload_n hx hb dX2_readArguments_203 rfl (lv_at hl 4 rfl) ?_
                          refine g_geti (C := RX2) (T := TX2) (N := 16) hx hb hts (mc_ inX2) hown hK g ma0_ ka0_ (by decide) rfl 12 (by decide) rfl (hts _ (List.mem_cons_of_mem _ t_428)) (fun _ h9 => h9) rfl dX2_readArguments_204 (fun x_1378 bx_1378 g => ?_)
                          refine lv_aload_n hx hb dX2_readArguments_207 rfl (lv_at hl 4 rfl) ?_
                          refine g_geti (C := RX2) (T := TX2) (N := 16) hx hb hts (mc_ inX2) hown hK g ma0_ ka0_ (by decide) rfl 13 (by decide) rfl (hts _ (List.mem_cons_of_mem _ t_429)) (fun _ h9 => h9) rfl dX2_readArguments_208 (fun x_1379 bx_1379 g => ?_)
                          obtain ⟨a_1380, ma_1380, ka_1380, g⟩ := g_factr g mq3_ kq3_ (by decide) 4 rfl
                          obtain ⟨a_1381, ma_1381, ka_1381, g⟩ := g_factr g mq3_ kq3_ (by decide) 5 rfl
                          obtain ⟨x_1382, bx_1382, g⟩ := g_facti g mq3_ kq3_ (by decide) 6 rfl
                          have go_ := g
                          refine g_callv (va_runV (As := [.int x_1378, .int x_1379]) (rest := []) ⟨hx, hb, hml, hown, hts⟩ (r_X7_emitF l dC dI L kd tys fr_1370 H.size g.2.2.2.1 q3_ mq3_ kq3_ a_1380 ma_1380 ka_1380 a_1381 ma_1381 ka_1381 x_1382 bx_1382 T_ hG_1374 x_1378 x_1379 (g.fcts [2, 1, 0] rfl)) (cwV 2 hts (gV_ t_1301 t_1204 t_1205 t_191 t_1206) rfl rfl rfl (by decide +kernel) ⟨(Nat.le_of_ble_eq_true rfl), (Nat.le_of_ble_eq_true rfl)⟩) (pre3V g hK mq3_ kq3_ (by decide) (q := (RX7, TX7, 19)) rfl) rfl rfl hl.1 rfl (lv_room (Nat.le_of_ble_eq_true rfl)) dX2_readArguments_211 ⟨(Nat.le_of_ble_eq_true rfl), (Nat.le_of_ble_eq_true rfl)⟩) g hK (by decide) (by decide) (fx' := [(7, 5, q3_, .ref a_1381), (7, 4, q3_, .ref a_1380), (2, 13, a0_, .int x_1379), (2, 12, a0_, .int x_1378), (8, 6, q0_, .int x_1371), (8, 8, q0_, .int x_1232), (0, 2, q2_, .ref q3_), (2, 14, a0_, .int x_17), (2, 0, a0_, .ref q0_), (2, 1, a0_, .ref q1_), (2, 2, a0_, .ref q2_), (2, 3, a0_, .ref q3_), (0, 0, q2_, .ref q0_), (0, 1, q2_, .ref q1_), (5, 0, q1_, .ref q3_), (5, 1, q1_, .ref q7_)]) rfl (fun fr_1383 H locs hp hMr_1383 g => ?_)
                          obtain ⟨hG_1384, x_1385, h_1386, hF_1387⟩ := hp
                          have hG_1388 := eOK.frame hMr_1383 go_.2.2.2.1 mq2_ kq2_ (by decide) (by decide) hG_1375
                          have g := g.more hF_1387
                          refine lv_aload_n hx hb dX2_readArguments_214 rfl (lv_at hl 4 rfl) ?_
                          refine g_getk (C := RX2) (T := TX2) (N := 16) hx hb hts (mc_ inX2) hown hK g rfl 3 (by decide) rfl (hts _ (List.mem_cons_of_mem _ t_419)) (fun _ h9 => h9) 12 rfl dX2_readArguments_215 ?_
                          refine lv_bipush (v := 22) hx hb dX2_readArguments_218 (by decide) ?_
                          refine lv_iconst (v := 0) hx hb dX2_readArguments_220 (by decide) ?_
                          have go_ := g
                          refine g_callv (va_runV (As := [.int 22, .int 0]) (rest := []) ⟨hx, hb, hml, hown, hts⟩ (r_X7_emitF l dC dI L kd tys fr_1383 H.size g.2.2.2.1 q3_ mq3_ kq3_ a_1380 ma_1380 ka_1380 a_1381 ma_1381 ka_1381 x_1385 h_1386 T_ hG_1384 (22 : Int32) (0 : Int32) (g.fcts [2, 1, 0] rfl)) (cwV 2 hts (gV_ t_1301 t_1204 t_1205 t_191 t_1206) rfl rfl rfl (by decide +kernel) ⟨(Nat.le_of_ble_eq_true rfl), (Nat.le_of_ble_eq_true rfl)⟩) (pre3V g hK mq3_ kq3_ (by decide) (q := (RX7, TX7, 19)) rfl) rfl rfl hl.1 rfl (lv_room (Nat.le_of_ble_eq_true rfl)) dX2_readArguments_221 ⟨(Nat.le_of_ble_eq_true rfl), (Nat.le_of_ble_eq_true rfl)⟩) g hK (by decide) (by decide) (fx' := [(7, 5, q3_, .ref a_1381), (7, 4, q3_, .ref a_1380), (2, 13, a0_, .int x_1379), (2, 12, a0_, .int x_1378), (8, 6, q0_, .int x_1371), (8, 8, q0_, .int x_1232), (0, 2, q2_, .ref q3_), (2, 14, a0_, .int x_17), (2, 0, a0_, .ref q0_), (2, 1, a0_, .ref q1_), (2, 2, a0_, .ref q2_), (2, 3, a0_, .ref q3_), (0, 0, q2_, .ref q0_), (0, 1, q2_, .ref q1_), (5, 0, q1_, .ref q3_), (5, 1, q1_, .ref q7_)]) rfl (fun fr_1389 H locs hp hMr_1389 g => ?_)
                          obtain ⟨hG_1390, x_1391, h_1392, hF_1393⟩ := hp
                          have hG_1394 := eOK.frame hMr_1389 go_.2.2.2.1 mq2_ kq2_ (by decide) (by decide) hG_1388
                          have g := g.more hF_1393
                          refine lv_aload_n hx hb dX2_readArguments_224 rfl (lv_at hl 4 rfl) ?_
                          refine g_getk (C := RX2) (T := TX2) (N := 16) hx hb hts (mc_ inX2) hown hK g rfl 0 (by decide) rfl (hts _ (List.mem_cons_of_mem _ t_416)) (fun _ h9 => h9) 9 rfl dX2_readArguments_225 ?_
                          refine lv_bipush (v := 59) hx hb dX2_readArguments_228 (by decide) ?_
                          have go_ := g
                          refine g_callv (va_runV (As := [.int 59]) (rest := []) ⟨hx, hb, hml, hown, hts⟩ (r_X8_take_2 l dC dI L kd tys fr_1389 H.size g.2.2.2.1 q0_ mq0_ kq0_ 59 x_1371 h_1372 x_1232 h_1233 (g.fcts [5, 6] rfl)) (cwV 1 hts (gV_ t_1098 t_1099 t_1100 t_184 t_1101) rfl rfl rfl (by decide +kernel) ⟨(Nat.le_of_ble_eq_true rfl), (Nat.le_of_ble_eq_true rfl)⟩) (pre3V g hK mq0_ kq0_ (by decide) (q := (RX8, TX8, 10)) rfl) rfl rfl hl.1 rfl (lv_room (Nat.le_of_ble_eq_true rfl)) dX2_readArguments_230 ⟨(Nat.le_of_ble_eq_true rfl), (Nat.le_of_ble_eq_true rfl)⟩) g hK (by decide) (by decide) (fx' := [(7, 6, q3_, .int x_1391), (7, 5, q3_, .ref a_1381), (7, 4, q3_, .ref a_1380), (2, 13, a0_, .int x_1379), (2, 12, a0_, .int x_1378), (8, 8, q0_, .int x_1232), (0, 2, q2_, .ref q3_), (2, 14, a0_, .int x_17), (2, 0, a0_, .ref q0_), (2, 1, a0_, .ref q1_), (2, 2, a0_, .ref q2_), (2, 3, a0_, .ref q3_), (0, 0, q2_, .ref q0_), (0, 1, q2_, .ref q1_), (5, 0, q1_, .ref q3_), (5, 1, q1_, .ref q7_)]) rfl (fun fr_1395 H locs hp hMr_1395 g => ?_)
                          obtain ⟨x_1396, h_1397, hF_1398⟩ := hp
                          have hG_1399 := dOK.frame hMr_1395 go_.2.2.2.1 mq3_ kq3_ (by decide) (by decide) hG_1390
                          have hG_1400 := eOK.frame hMr_1395 go_.2.2.2.1 mq2_ kq2_ (by decide) (by decide) hG_1394
                          have g := g.more hF_1398
                          subst hQ
                          exact W.vret hx hb hr (fun t ht hW => ⟨⟨_, rfl, Or.inr (⟨hG_1399, hG_1400, x_1396, h_1397, x_1232, h_1233, (g.fcts [0, 6] rfl)⟩), q3_of g hK ht hW⟩, g.2.2.1.F ht⟩) g.2.2.1.2.2 dX2_readArguments_233
                        · have fc_1376 := nle_f c_1376
                          have b_1401 : bd (-2147483648) (-1) y_1357 := ltL fc_1376 (bdT y_1357) b_813 (by decide)
                          refine lv_aload_n hx hb dX2_readArguments_188 rfl (lv_at hl 4 rfl) ?_
                          refine g_getk (C := RX2) (T := TX2) (N := 16) hx hb hts (mc_ inX2) hown hK g rfl 0 (by decide) rfl (hts _ (List.mem_cons_of_mem _ t_416)) (fun _ h9 => h9) 4 rfl dX2_readArguments_189 ?_
                          refine lv_bipush (v := 6) hx hb dX2_readArguments_192 (by decide) ?_
                          refine lv_iload hx hb dX2_readArguments_194 (lv_at hl 0 rfl) ?_
                          have kb_6 : bd 6 6 (6 : Int32) := ⟨by decide, by decide⟩
                          have go_ := g
                          refine g_callv (va_runV (As := [.int 6, .int r_1367]) (rest := []) ⟨hx, hb, hml, hown, hts⟩ (r_X8_fail_2 l dC dI L kd tys fr_1370 H.size g.2.2.2.1 q0_ mq0_ kq0_ 6 (bd_sub kb_6 (by decide)) r_1367 x_1232 h_1233 (g.fcts [1] rfl)) (cwV 2 hts (gV_ t_1122 t_1107 t_1108 t_184 t_1109) rfl rfl rfl (by decide +kernel) ⟨(Nat.le_of_ble_eq_true rfl), (Nat.le_of_ble_eq_true rfl)⟩) (pre3V g hK mq0_ kq0_ (by decide) (q := (RX8, TX8, 10)) rfl) rfl rfl hl.1 rfl (lv_room (Nat.le_of_ble_eq_true rfl)) dX2_readArguments_196 ⟨(Nat.le_of_ble_eq_true rfl), (Nat.le_of_ble_eq_true rfl)⟩) g hK (by decide) (by decide) (fx' := [(8, 8, q0_, .int x_1232), (0, 2, q2_, .ref q3_), (2, 14, a0_, .int x_17), (2, 0, a0_, .ref q0_), (2, 1, a0_, .ref q1_), (2, 2, a0_, .ref q2_), (2, 3, a0_, .ref q3_), (0, 0, q2_, .ref q0_), (0, 1, q2_, .ref q1_), (5, 0, q1_, .ref q3_), (5, 1, q1_, .ref q7_)]) rfl (fun fr_1402 H locs hp hMr_1402 g => ?_)
                          have hF_1403 := hp
                          have hG_1404 := dOK.frame hMr_1402 go_.2.2.2.1 mq3_ kq3_ (by decide) (by decide) hG_1374
                          have hG_1405 := eOK.frame hMr_1402 go_.2.2.2.1 mq2_ kq2_ (by decide) (by decide) hG_1375
                          have g := g.more hF_1403
                          refine lv_aload_n hx hb dX2_readArguments_199 rfl (lv_at hl 4 rfl) ?_
                          refine g_getk (C := RX2) (T := TX2) (N := 16) hx hb hts (mc_ inX2) hown hK g rfl 3 (by decide) rfl (hts _ (List.mem_cons_of_mem _ t_419)) (fun _ h9 => h9) 7 rfl dX2_readArguments_200 ?_
                          refine lv_aload_n hx hb dX2_readArguments_203 rfl (lv_at hl 4 rfl) ?_
                          refine g_geti (C := RX2) (T := TX2) (N := 16) hx hb hts (mc_ inX2) hown hK g ma0_ ka0_ (by decide) rfl 12 (by decide) rfl (hts _ (List.mem_cons_of_mem _ t_428)) (fun _ h9 => h9) rfl dX2_readArguments_204 (fun x_1406 bx_1406 g => ?_)
                          refine lv_aload_n hx hb dX2_readArguments_207 rfl (lv_at hl 4 rfl) ?_
                          refine g_geti (C := RX2) (T := TX2) (N := 16) hx hb hts (mc_ inX2) hown hK g ma0_ ka0_ (by decide) rfl 13 (by decide) rfl (hts _ (List.mem_cons_of_mem _ t_429)) (fun _ h9 => h9) rfl dX2_readArguments_208 (fun x_1407 bx_1407 g => ?_)
                          obtain ⟨a_1408, ma_1408, ka_1408, g⟩ := g_factr g mq3_ kq3_ (by decide) 4 rfl
                          obtain ⟨a_1409, ma_1409, ka_1409, g⟩ := g_factr g mq3_ kq3_ (by decide) 5 rfl
                          obtain ⟨x_1410, bx_1410, g⟩ := g_facti g mq3_ kq3_ (by decide) 6 rfl
                          have go_ := g
                          refine g_callv (va_runV (As := [.int x_1406, .int x_1407]) (rest := []) ⟨hx, hb, hml, hown, hts⟩ (r_X7_emitF l dC dI L kd tys fr_1402 H.size g.2.2.2.1 q3_ mq3_ kq3_ a_1408 ma_1408 ka_1408 a_1409 ma_1409 ka_1409 x_1410 bx_1410 T_ hG_1404 x_1406 x_1407 (g.fcts [2, 1, 0] rfl)) (cwV 2 hts (gV_ t_1301 t_1204 t_1205 t_191 t_1206) rfl rfl rfl (by decide +kernel) ⟨(Nat.le_of_ble_eq_true rfl), (Nat.le_of_ble_eq_true rfl)⟩) (pre3V g hK mq3_ kq3_ (by decide) (q := (RX7, TX7, 19)) rfl) rfl rfl hl.1 rfl (lv_room (Nat.le_of_ble_eq_true rfl)) dX2_readArguments_211 ⟨(Nat.le_of_ble_eq_true rfl), (Nat.le_of_ble_eq_true rfl)⟩) g hK (by decide) (by decide) (fx' := [(7, 5, q3_, .ref a_1409), (7, 4, q3_, .ref a_1408), (2, 13, a0_, .int x_1407), (2, 12, a0_, .int x_1406), (8, 6, q0_, .int 1201), (8, 8, q0_, .int x_1232), (0, 2, q2_, .ref q3_), (2, 14, a0_, .int x_17), (2, 0, a0_, .ref q0_), (2, 1, a0_, .ref q1_), (2, 2, a0_, .ref q2_), (2, 3, a0_, .ref q3_), (0, 0, q2_, .ref q0_), (0, 1, q2_, .ref q1_), (5, 0, q1_, .ref q3_), (5, 1, q1_, .ref q7_)]) rfl (fun fr_1411 H locs hp hMr_1411 g => ?_)
                          obtain ⟨hG_1412, x_1413, h_1414, hF_1415⟩ := hp
                          have hG_1416 := eOK.frame hMr_1411 go_.2.2.2.1 mq2_ kq2_ (by decide) (by decide) hG_1405
                          have g := g.more hF_1415
                          refine lv_aload_n hx hb dX2_readArguments_214 rfl (lv_at hl 4 rfl) ?_
                          refine g_getk (C := RX2) (T := TX2) (N := 16) hx hb hts (mc_ inX2) hown hK g rfl 3 (by decide) rfl (hts _ (List.mem_cons_of_mem _ t_419)) (fun _ h9 => h9) 12 rfl dX2_readArguments_215 ?_
                          refine lv_bipush (v := 22) hx hb dX2_readArguments_218 (by decide) ?_
                          refine lv_iconst (v := 0) hx hb dX2_readArguments_220 (by decide) ?_
                          have go_ := g
                          refine g_callv (va_runV (As := [.int 22, .int 0]) (rest := []) ⟨hx, hb, hml, hown, hts⟩ (r_X7_emitF l dC dI L kd tys fr_1411 H.size g.2.2.2.1 q3_ mq3_ kq3_ a_1408 ma_1408 ka_1408 a_1409 ma_1409 ka_1409 x_1413 h_1414 T_ hG_1412 (22 : Int32) (0 : Int32) (g.fcts [2, 1, 0] rfl)) (cwV 2 hts (gV_ t_1301 t_1204 t_1205 t_191 t_1206) rfl rfl rfl (by decide +kernel) ⟨(Nat.le_of_ble_eq_true rfl), (Nat.le_of_ble_eq_true rfl)⟩) (pre3V g hK mq3_ kq3_ (by decide) (q := (RX7, TX7, 19)) rfl) rfl rfl hl.1 rfl (lv_room (Nat.le_of_ble_eq_true rfl)) dX2_readArguments_221 ⟨(Nat.le_of_ble_eq_true rfl), (Nat.le_of_ble_eq_true rfl)⟩) g hK (by decide) (by decide) (fx' := [(7, 5, q3_, .ref a_1409), (7, 4, q3_, .ref a_1408), (2, 13, a0_, .int x_1407), (2, 12, a0_, .int x_1406), (8, 6, q0_, .int 1201), (8, 8, q0_, .int x_1232), (0, 2, q2_, .ref q3_), (2, 14, a0_, .int x_17), (2, 0, a0_, .ref q0_), (2, 1, a0_, .ref q1_), (2, 2, a0_, .ref q2_), (2, 3, a0_, .ref q3_), (0, 0, q2_, .ref q0_), (0, 1, q2_, .ref q1_), (5, 0, q1_, .ref q3_), (5, 1, q1_, .ref q7_)]) rfl (fun fr_1417 H locs hp hMr_1417 g => ?_)
                          obtain ⟨hG_1418, x_1419, h_1420, hF_1421⟩ := hp
                          have hG_1422 := eOK.frame hMr_1417 go_.2.2.2.1 mq2_ kq2_ (by decide) (by decide) hG_1416
                          have g := g.more hF_1421
                          refine lv_aload_n hx hb dX2_readArguments_224 rfl (lv_at hl 4 rfl) ?_
                          refine g_getk (C := RX2) (T := TX2) (N := 16) hx hb hts (mc_ inX2) hown hK g rfl 0 (by decide) rfl (hts _ (List.mem_cons_of_mem _ t_416)) (fun _ h9 => h9) 9 rfl dX2_readArguments_225 ?_
                          refine lv_bipush (v := 59) hx hb dX2_readArguments_228 (by decide) ?_
                          have kb_1201 : bd 1201 1201 (1201 : Int32) := ⟨by decide, by decide⟩
                          have go_ := g
                          refine g_callv (va_runV (As := [.int 59]) (rest := []) ⟨hx, hb, hml, hown, hts⟩ (r_X8_take_2 l dC dI L kd tys fr_1417 H.size g.2.2.2.1 q0_ mq0_ kq0_ 59 1201 kb_1201 x_1232 h_1233 (g.fcts [5, 6] rfl)) (cwV 1 hts (gV_ t_1098 t_1099 t_1100 t_184 t_1101) rfl rfl rfl (by decide +kernel) ⟨(Nat.le_of_ble_eq_true rfl), (Nat.le_of_ble_eq_true rfl)⟩) (pre3V g hK mq0_ kq0_ (by decide) (q := (RX8, TX8, 10)) rfl) rfl rfl hl.1 rfl (lv_room (Nat.le_of_ble_eq_true rfl)) dX2_readArguments_230 ⟨(Nat.le_of_ble_eq_true rfl), (Nat.le_of_ble_eq_true rfl)⟩) g hK (by decide) (by decide) (fx' := [(7, 6, q3_, .int x_1419), (7, 5, q3_, .ref a_1409), (7, 4, q3_, .ref a_1408), (2, 13, a0_, .int x_1407), (2, 12, a0_, .int x_1406), (8, 8, q0_, .int x_1232), (0, 2, q2_, .ref q3_), (2, 14, a0_, .int x_17), (2, 0, a0_, .ref q0_), (2, 1, a0_, .ref q1_), (2, 2, a0_, .ref q2_), (2, 3, a0_, .ref q3_), (0, 0, q2_, .ref q0_), (0, 1, q2_, .ref q1_), (5, 0, q1_, .ref q3_), (5, 1, q1_, .ref q7_)]) rfl (fun fr_1423 H locs hp hMr_1423 g => ?_)
                          obtain ⟨x_1424, h_1425, hF_1426⟩ := hp
                          have hG_1427 := dOK.frame hMr_1423 go_.2.2.2.1 mq3_ kq3_ (by decide) (by decide) hG_1418
                          have hG_1428 := eOK.frame hMr_1423 go_.2.2.2.1 mq2_ kq2_ (by decide) (by decide) hG_1422
                          have g := g.more hF_1426
                          subst hQ
                          exact W.vret hx hb hr (fun t ht hW => ⟨⟨_, rfl, Or.inr (⟨hG_1427, hG_1428, x_1424, h_1425, x_1232, h_1233, (g.fcts [0, 6] rfl)⟩), q3_of g hK ht hW⟩, g.2.2.1.F ht⟩) g.2.2.1.2.2 dX2_readArguments_233
                      · have fc_1364 := nlt_f c_1364
                        have b_1429 : bd 1 3 y_1362 := leL fc_1364 b_1363 kb_3 (by decide)
                        have b_1430 : bd 0 2 v69_4 := add_inv ty_1362 b_1429 b_1067 kb_1 (by decide)
                        refine lv_iload_n hx hb dX2_readArguments_75 rfl (lv_at hl 1 rfl) ?_
                        refine lv_if_eq (tgt := 162) hx hb dX2_readArguments_76 (by decide) (fun c_ => ?_) (fun c_ => absurd (by decide) c_)
                        refine lv_aload_n hx hb dX2_readArguments_162 rfl (lv_at hl 4 rfl) ?_
                        refine g_getk (C := RX2) (T := TX2) (N := 16) hx hb hts (mc_ inX2) hown hK g rfl 0 (by decide) rfl (hts _ (List.mem_cons_of_mem _ t_416)) (fun _ h9 => h9) 4 rfl dX2_readArguments_163 ?_
                        have go_ := g
                        refine g_calli (va_runV (As := []) (rest := []) ⟨hx, hb, hml, hown, hts⟩ (r_X8_place l dC dI L kd tys fr_1358 H.size g.2.2.2.1 q0_ mq0_ kq0_) (cwV 0 hts (gV_ t_1110 t_1111 t_1112 t_184 t_1113) rfl rfl rfl (by decide +kernel) ⟨(Nat.le_of_ble_eq_true rfl), (Nat.le_of_ble_eq_true rfl)⟩) (pre3V g hK mq0_ kq0_ (by decide) (q := (RX8, TX8, 10)) rfl) rfl rfl hl.1 rfl (lv_room (Nat.le_of_ble_eq_true rfl)) dX2_readArguments_166 ⟨(Nat.le_of_ble_eq_true rfl), (Nat.le_of_ble_eq_true rfl)⟩) g hK (by decide) (by decide) (fx' := [(8, 6, q0_, .int x_1230), (8, 8, q0_, .int x_1232), (0, 2, q2_, .ref q3_), (2, 14, a0_, .int x_17), (2, 0, a0_, .ref q0_), (2, 1, a0_, .ref q1_), (2, 2, a0_, .ref q2_), (2, 3, a0_, .ref q3_), (0, 0, q2_, .ref q0_), (0, 1, q2_, .ref q1_), (5, 0, q1_, .ref q3_), (5, 1, q1_, .ref q7_)]) rfl (fun r_1431 fr_1431 H locs hp hMr_1431 g => ?_)
                        have hG_1432 := dOK.frame hMr_1431 go_.2.2.2.1 mq3_ kq3_ (by decide) (by decide) hG_1360
                        have hG_1433 := eOK.frame hMr_1431 go_.2.2.2.1 mq2_ kq2_ (by decide) (by decide) hG_1361
                        refine lv_istore (lv' := [(4, .int r_1431), (3, .int 0), (2, .int y_1357), (1, .int r_1), (0, .ref a0_)]) hx hb dX2_readArguments_169 hl (by decide) rfl (fun ls hl => ?_)
                        refine lv_aload_n hx hb dX2_readArguments_171 rfl (lv_at hl 4 rfl) ?_
                        refine g_getk (C := RX2) (T := TX2) (N := 16) hx hb hts (mc_ inX2) hown hK g rfl 0 (by decide) rfl (hts _ (List.mem_cons_of_mem _ t_416)) (fun _ h9 => h9) 4 rfl dX2_readArguments_172 ?_
                        refine lv_bipush (v := 41) hx hb dX2_readArguments_175 (by decide) ?_
                        have go_ := g
                        refine g_callv (va_runV (As := [.int 41]) (rest := []) ⟨hx, hb, hml, hown, hts⟩ (r_X8_take_2 l dC dI L kd tys fr_1431 H.size g.2.2.2.1 q0_ mq0_ kq0_ 41 x_1230 h_1231 x_1232 h_1233 (g.fcts [0, 1] rfl)) (cwV 1 hts (gV_ t_1098 t_1099 t_1100 t_184 t_1101) rfl rfl rfl (by decide +kernel) ⟨(Nat.le_of_ble_eq_true rfl), (Nat.le_of_ble_eq_true rfl)⟩) (pre3V g hK mq0_ kq0_ (by decide) (q := (RX8, TX8, 10)) rfl) rfl rfl hl.1 rfl (lv_room (Nat.le_of_ble_eq_true rfl)) dX2_readArguments_177 ⟨(Nat.le_of_ble_eq_true rfl), (Nat.le_of_ble_eq_true rfl)⟩) g hK (by decide) (by decide) (fx' := [(8, 8, q0_, .int x_1232), (0, 2, q2_, .ref q3_), (2, 14, a0_, .int x_17), (2, 0, a0_, .ref q0_), (2, 1, a0_, .ref q1_), (2, 2, a0_, .ref q2_), (2, 3, a0_, .ref q3_), (0, 0, q2_, .ref q0_), (0, 1, q2_, .ref q1_), (5, 0, q1_, .ref q3_), (5, 1, q1_, .ref q7_)]) rfl (fun fr_1434 H locs hp hMr_1434 g => ?_)
                        obtain ⟨x_1435, h_1436, hF_1437⟩ := hp
                        have hG_1438 := dOK.frame hMr_1434 go_.2.2.2.1 mq3_ kq3_ (by decide) (by decide) hG_1432
                        have hG_1439 := eOK.frame hMr_1434 go_.2.2.2.1 mq2_ kq2_ (by decide) (by decide) hG_1433
                        have g := g.more hF_1437
                        refine lv_iload_n hx hb dX2_readArguments_180 rfl (lv_at hl 2 rfl) ?_
                        refine lv_aload_n hx hb dX2_readArguments_181 rfl (lv_at hl 4 rfl) ?_
                        refine g_getk (C := RX2) (T := TX2) (N := 16) hx hb hts (mc_ inX2) hown hK g rfl 14 (by decide) rfl (hts _ (List.mem_cons_of_mem _ t_430)) (fun _ h9 => h9) 3 rfl dX2_readArguments_182 ?_
                        refine lv_icmp_ge (tgt := 199) hx hb dX2_readArguments_185 (by decide) (fun c_1440 => ?_) (fun c_1440 => ?_)
                        · have fc_1440 := le_f c_1440
                          have b_1441 : bd 0 2147483647 y_1357 := leR fc_1440 b_813 (bdT y_1357) (by decide)
                          refine lv_aload_n hx hb dX2_readArguments_199 rfl (lv_at hl 4 rfl) ?_
                          refine g_getk (C := RX2) (T := TX2) (N := 16) hx hb hts (mc_ inX2) hown hK g rfl 3 (by decide) rfl (hts _ (List.mem_cons_of_mem _ t_419)) (fun _ h9 => h9) 7 rfl dX2_readArguments_200 ?_
                          refine lv_aload_n hx hb dX2_readArguments_203 rfl (lv_at hl 4 rfl) ?_
                          refine g_geti (C := RX2) (T := TX2) (N := 16) hx hb hts (mc_ inX2) hown hK g ma0_ ka0_ (by decide) rfl 12 (by decide) rfl (hts _ (List.mem_cons_of_mem _ t_428)) (fun _ h9 => h9) rfl dX2_readArguments_204 (fun x_1442 bx_1442 g => ?_)
                          refine lv_aload_n hx hb dX2_readArguments_207 rfl (lv_at hl 4 rfl) ?_
                          refine g_geti (C := RX2) (T := TX2) (N := 16) hx hb hts (mc_ inX2) hown hK g ma0_ ka0_ (by decide) rfl 13 (by decide) rfl (hts _ (List.mem_cons_of_mem _ t_429)) (fun _ h9 => h9) rfl dX2_readArguments_208 (fun x_1443 bx_1443 g => ?_)
                          obtain ⟨a_1444, ma_1444, ka_1444, g⟩ := g_factr g mq3_ kq3_ (by decide) 4 rfl
                          obtain ⟨a_1445, ma_1445, ka_1445, g⟩ := g_factr g mq3_ kq3_ (by decide) 5 rfl
                          obtain ⟨x_1446, bx_1446, g⟩ := g_facti g mq3_ kq3_ (by decide) 6 rfl
                          have go_ := g
                          refine g_callv (va_runV (As := [.int x_1442, .int x_1443]) (rest := []) ⟨hx, hb, hml, hown, hts⟩ (r_X7_emitF l dC dI L kd tys fr_1434 H.size g.2.2.2.1 q3_ mq3_ kq3_ a_1444 ma_1444 ka_1444 a_1445 ma_1445 ka_1445 x_1446 bx_1446 T_ hG_1438 x_1442 x_1443 (g.fcts [2, 1, 0] rfl)) (cwV 2 hts (gV_ t_1301 t_1204 t_1205 t_191 t_1206) rfl rfl rfl (by decide +kernel) ⟨(Nat.le_of_ble_eq_true rfl), (Nat.le_of_ble_eq_true rfl)⟩) (pre3V g hK mq3_ kq3_ (by decide) (q := (RX7, TX7, 19)) rfl) rfl rfl hl.1 rfl (lv_room (Nat.le_of_ble_eq_true rfl)) dX2_readArguments_211 ⟨(Nat.le_of_ble_eq_true rfl), (Nat.le_of_ble_eq_true rfl)⟩) g hK (by decide) (by decide) (fx' := [(7, 5, q3_, .ref a_1445), (7, 4, q3_, .ref a_1444), (2, 13, a0_, .int x_1443), (2, 12, a0_, .int x_1442), (8, 6, q0_, .int x_1435), (8, 8, q0_, .int x_1232), (0, 2, q2_, .ref q3_), (2, 14, a0_, .int x_17), (2, 0, a0_, .ref q0_), (2, 1, a0_, .ref q1_), (2, 2, a0_, .ref q2_), (2, 3, a0_, .ref q3_), (0, 0, q2_, .ref q0_), (0, 1, q2_, .ref q1_), (5, 0, q1_, .ref q3_), (5, 1, q1_, .ref q7_)]) rfl (fun fr_1447 H locs hp hMr_1447 g => ?_)
                          obtain ⟨hG_1448, x_1449, h_1450, hF_1451⟩ := hp
                          have hG_1452 := eOK.frame hMr_1447 go_.2.2.2.1 mq2_ kq2_ (by decide) (by decide) hG_1439
                          have g := g.more hF_1451
                          refine lv_aload_n hx hb dX2_readArguments_214 rfl (lv_at hl 4 rfl) ?_
                          refine g_getk (C := RX2) (T := TX2) (N := 16) hx hb hts (mc_ inX2) hown hK g rfl 3 (by decide) rfl (hts _ (List.mem_cons_of_mem _ t_419)) (fun _ h9 => h9) 12 rfl dX2_readArguments_215 ?_
                          refine lv_bipush (v := 22) hx hb dX2_readArguments_218 (by decide) ?_
                          refine lv_iconst (v := 0) hx hb dX2_readArguments_220 (by decide) ?_
                          have go_ := g
                          refine g_callv (va_runV (As := [.int 22, .int 0]) (rest := []) ⟨hx, hb, hml, hown, hts⟩ (r_X7_emitF l dC dI L kd tys fr_1447 H.size g.2.2.2.1 q3_ mq3_ kq3_ a_1444 ma_1444 ka_1444 a_1445 ma_1445 ka_1445 x_1449 h_1450 T_ hG_1448 (22 : Int32) (0 : Int32) (g.fcts [2, 1, 0] rfl)) (cwV 2 hts (gV_ t_1301 t_1204 t_1205 t_191 t_1206) rfl rfl rfl (by decide +kernel) ⟨(Nat.le_of_ble_eq_true rfl), (Nat.le_of_ble_eq_true rfl)⟩) (pre3V g hK mq3_ kq3_ (by decide) (q := (RX7, TX7, 19)) rfl) rfl rfl hl.1 rfl (lv_room (Nat.le_of_ble_eq_true rfl)) dX2_readArguments_221 ⟨(Nat.le_of_ble_eq_true rfl), (Nat.le_of_ble_eq_true rfl)⟩) g hK (by decide) (by decide) (fx' := [(7, 5, q3_, .ref a_1445), (7, 4, q3_, .ref a_1444), (2, 13, a0_, .int x_1443), (2, 12, a0_, .int x_1442), (8, 6, q0_, .int x_1435), (8, 8, q0_, .int x_1232), (0, 2, q2_, .ref q3_), (2, 14, a0_, .int x_17), (2, 0, a0_, .ref q0_), (2, 1, a0_, .ref q1_), (2, 2, a0_, .ref q2_), (2, 3, a0_, .ref q3_), (0, 0, q2_, .ref q0_), (0, 1, q2_, .ref q1_), (5, 0, q1_, .ref q3_), (5, 1, q1_, .ref q7_)]) rfl (fun fr_1453 H locs hp hMr_1453 g => ?_)
                          obtain ⟨hG_1454, x_1455, h_1456, hF_1457⟩ := hp
                          have hG_1458 := eOK.frame hMr_1453 go_.2.2.2.1 mq2_ kq2_ (by decide) (by decide) hG_1452
                          have g := g.more hF_1457
                          refine lv_aload_n hx hb dX2_readArguments_224 rfl (lv_at hl 4 rfl) ?_
                          refine g_getk (C := RX2) (T := TX2) (N := 16) hx hb hts (mc_ inX2) hown hK g rfl 0 (by decide) rfl (hts _ (List.mem_cons_of_mem _ t_416)) (fun _ h9 => h9) 9 rfl dX2_readArguments_225 ?_
                          refine lv_bipush (v := 59) hx hb dX2_readArguments_228 (by decide) ?_
                          have go_ := g
                          refine g_callv (va_runV (As := [.int 59]) (rest := []) ⟨hx, hb, hml, hown, hts⟩ (r_X8_take_2 l dC dI L kd tys fr_1453 H.size g.2.2.2.1 q0_ mq0_ kq0_ 59 x_1435 h_1436 x_1232 h_1233 (g.fcts [5, 6] rfl)) (cwV 1 hts (gV_ t_1098 t_1099 t_1100 t_184 t_1101) rfl rfl rfl (by decide +kernel) ⟨(Nat.le_of_ble_eq_true rfl), (Nat.le_of_ble_eq_true rfl)⟩) (pre3V g hK mq0_ kq0_ (by decide) (q := (RX8, TX8, 10)) rfl) rfl rfl hl.1 rfl (lv_room (Nat.le_of_ble_eq_true rfl)) dX2_readArguments_230 ⟨(Nat.le_of_ble_eq_true rfl), (Nat.le_of_ble_eq_true rfl)⟩) g hK (by decide) (by decide) (fx' := [(7, 6, q3_, .int x_1455), (7, 5, q3_, .ref a_1445), (7, 4, q3_, .ref a_1444), (2, 13, a0_, .int x_1443), (2, 12, a0_, .int x_1442), (8, 8, q0_, .int x_1232), (0, 2, q2_, .ref q3_), (2, 14, a0_, .int x_17), (2, 0, a0_, .ref q0_), (2, 1, a0_, .ref q1_), (2, 2, a0_, .ref q2_), (2, 3, a0_, .ref q3_), (0, 0, q2_, .ref q0_), (0, 1, q2_, .ref q1_), (5, 0, q1_, .ref q3_), (5, 1, q1_, .ref q7_)]) rfl (fun fr_1459 H locs hp hMr_1459 g => ?_)
                          obtain ⟨x_1460, h_1461, hF_1462⟩ := hp
                          have hG_1463 := dOK.frame hMr_1459 go_.2.2.2.1 mq3_ kq3_ (by decide) (by decide) hG_1454
                          have hG_1464 := eOK.frame hMr_1459 go_.2.2.2.1 mq2_ kq2_ (by decide) (by decide) hG_1458
                          have g := g.more hF_1462
                          subst hQ
                          exact W.vret hx hb hr (fun t ht hW => ⟨⟨_, rfl, Or.inr (⟨hG_1463, hG_1464, x_1460, h_1461, x_1232, h_1233, (g.fcts [0, 6] rfl)⟩), q3_of g hK ht hW⟩, g.2.2.1.F ht⟩) g.2.2.1.2.2 dX2_readArguments_233
                        · have fc_1440 := nle_f c_1440
                          have b_1465 : bd (-2147483648) (-1) y_1357 := ltL fc_1440 (bdT y_1357) b_813 (by decide)
                          refine lv_aload_n hx hb dX2_readArguments_188 rfl (lv_at hl 4 rfl) ?_
                          refine g_getk (C := RX2) (T := TX2) (N := 16) hx hb hts (mc_ inX2) hown hK g rfl 0 (by decide) rfl (hts _ (List.mem_cons_of_mem _ t_416)) (fun _ h9 => h9) 4 rfl dX2_readArguments_189 ?_
                          refine lv_bipush (v := 6) hx hb dX2_readArguments_192 (by decide) ?_
                          refine lv_iload hx hb dX2_readArguments_194 (lv_at hl 0 rfl) ?_
                          have kb_6 : bd 6 6 (6 : Int32) := ⟨by decide, by decide⟩
                          have go_ := g
                          refine g_callv (va_runV (As := [.int 6, .int r_1431]) (rest := []) ⟨hx, hb, hml, hown, hts⟩ (r_X8_fail_2 l dC dI L kd tys fr_1434 H.size g.2.2.2.1 q0_ mq0_ kq0_ 6 (bd_sub kb_6 (by decide)) r_1431 x_1232 h_1233 (g.fcts [1] rfl)) (cwV 2 hts (gV_ t_1122 t_1107 t_1108 t_184 t_1109) rfl rfl rfl (by decide +kernel) ⟨(Nat.le_of_ble_eq_true rfl), (Nat.le_of_ble_eq_true rfl)⟩) (pre3V g hK mq0_ kq0_ (by decide) (q := (RX8, TX8, 10)) rfl) rfl rfl hl.1 rfl (lv_room (Nat.le_of_ble_eq_true rfl)) dX2_readArguments_196 ⟨(Nat.le_of_ble_eq_true rfl), (Nat.le_of_ble_eq_true rfl)⟩) g hK (by decide) (by decide) (fx' := [(8, 8, q0_, .int x_1232), (0, 2, q2_, .ref q3_), (2, 14, a0_, .int x_17), (2, 0, a0_, .ref q0_), (2, 1, a0_, .ref q1_), (2, 2, a0_, .ref q2_), (2, 3, a0_, .ref q3_), (0, 0, q2_, .ref q0_), (0, 1, q2_, .ref q1_), (5, 0, q1_, .ref q3_), (5, 1, q1_, .ref q7_)]) rfl (fun fr_1466 H locs hp hMr_1466 g => ?_)
                          have hF_1467 := hp
                          have hG_1468 := dOK.frame hMr_1466 go_.2.2.2.1 mq3_ kq3_ (by decide) (by decide) hG_1438
                          have hG_1469 := eOK.frame hMr_1466 go_.2.2.2.1 mq2_ kq2_ (by decide) (by decide) hG_1439
                          have g := g.more hF_1467
                          refine lv_aload_n hx hb dX2_readArguments_199 rfl (lv_at hl 4 rfl) ?_
                          refine g_getk (C := RX2) (T := TX2) (N := 16) hx hb hts (mc_ inX2) hown hK g rfl 3 (by decide) rfl (hts _ (List.mem_cons_of_mem _ t_419)) (fun _ h9 => h9) 7 rfl dX2_readArguments_200 ?_
                          refine lv_aload_n hx hb dX2_readArguments_203 rfl (lv_at hl 4 rfl) ?_
                          refine g_geti (C := RX2) (T := TX2) (N := 16) hx hb hts (mc_ inX2) hown hK g ma0_ ka0_ (by decide) rfl 12 (by decide) rfl (hts _ (List.mem_cons_of_mem _ t_428)) (fun _ h9 => h9) rfl dX2_readArguments_204 (fun x_1470 bx_1470 g => ?_)
                          refine lv_aload_n hx hb dX2_readArguments_207 rfl (lv_at hl 4 rfl) ?_
                          refine g_geti (C := RX2) (T := TX2) (N := 16) hx hb hts (mc_ inX2) hown hK g ma0_ ka0_ (by decide) rfl 13 (by decide) rfl (hts _ (List.mem_cons_of_mem _ t_429)) (fun _ h9 => h9) rfl dX2_readArguments_208 (fun x_1471 bx_1471 g => ?_)
                          obtain ⟨a_1472, ma_1472, ka_1472, g⟩ := g_factr g mq3_ kq3_ (by decide) 4 rfl
                          obtain ⟨a_1473, ma_1473, ka_1473, g⟩ := g_factr g mq3_ kq3_ (by decide) 5 rfl
                          obtain ⟨x_1474, bx_1474, g⟩ := g_facti g mq3_ kq3_ (by decide) 6 rfl
                          have go_ := g
                          refine g_callv (va_runV (As := [.int x_1470, .int x_1471]) (rest := []) ⟨hx, hb, hml, hown, hts⟩ (r_X7_emitF l dC dI L kd tys fr_1466 H.size g.2.2.2.1 q3_ mq3_ kq3_ a_1472 ma_1472 ka_1472 a_1473 ma_1473 ka_1473 x_1474 bx_1474 T_ hG_1468 x_1470 x_1471 (g.fcts [2, 1, 0] rfl)) (cwV 2 hts (gV_ t_1301 t_1204 t_1205 t_191 t_1206) rfl rfl rfl (by decide +kernel) ⟨(Nat.le_of_ble_eq_true rfl), (Nat.le_of_ble_eq_true rfl)⟩) (pre3V g hK mq3_ kq3_ (by decide) (q := (RX7, TX7, 19)) rfl) rfl rfl hl.1 rfl (lv_room (Nat.le_of_ble_eq_true rfl)) dX2_readArguments_211 ⟨(Nat.le_of_ble_eq_true rfl), (Nat.le_of_ble_eq_true rfl)⟩) g hK (by decide) (by decide) (fx' := [(7, 5, q3_, .ref a_1473), (7, 4, q3_, .ref a_1472), (2, 13, a0_, .int x_1471), (2, 12, a0_, .int x_1470), (8, 6, q0_, .int 1201), (8, 8, q0_, .int x_1232), (0, 2, q2_, .ref q3_), (2, 14, a0_, .int x_17), (2, 0, a0_, .ref q0_), (2, 1, a0_, .ref q1_), (2, 2, a0_, .ref q2_), (2, 3, a0_, .ref q3_), (0, 0, q2_, .ref q0_), (0, 1, q2_, .ref q1_), (5, 0, q1_, .ref q3_), (5, 1, q1_, .ref q7_)]) rfl (fun fr_1475 H locs hp hMr_1475 g => ?_)
                          obtain ⟨hG_1476, x_1477, h_1478, hF_1479⟩ := hp
                          have hG_1480 := eOK.frame hMr_1475 go_.2.2.2.1 mq2_ kq2_ (by decide) (by decide) hG_1469
                          have g := g.more hF_1479
                          refine lv_aload_n hx hb dX2_readArguments_214 rfl (lv_at hl 4 rfl) ?_
                          refine g_getk (C := RX2) (T := TX2) (N := 16) hx hb hts (mc_ inX2) hown hK g rfl 3 (by decide) rfl (hts _ (List.mem_cons_of_mem _ t_419)) (fun _ h9 => h9) 12 rfl dX2_readArguments_215 ?_
                          refine lv_bipush (v := 22) hx hb dX2_readArguments_218 (by decide) ?_
                          refine lv_iconst (v := 0) hx hb dX2_readArguments_220 (by decide) ?_
                          have go_ := g
                          refine g_callv (va_runV (As := [.int 22, .int 0]) (rest := []) ⟨hx, hb, hml, hown, hts⟩ (r_X7_emitF l dC dI L kd tys fr_1475 H.size g.2.2.2.1 q3_ mq3_ kq3_ a_1472 ma_1472 ka_1472 a_1473 ma_1473 ka_1473 x_1477 h_1478 T_ hG_1476 (22 : Int32) (0 : Int32) (g.fcts [2, 1, 0] rfl)) (cwV 2 hts (gV_ t_1301 t_1204 t_1205 t_191 t_1206) rfl rfl rfl (by decide +kernel) ⟨(Nat.le_of_ble_eq_true rfl), (Nat.le_of_ble_eq_true rfl)⟩) (pre3V g hK mq3_ kq3_ (by decide) (q := (RX7, TX7, 19)) rfl) rfl rfl hl.1 rfl (lv_room (Nat.le_of_ble_eq_true rfl)) dX2_readArguments_221 ⟨(Nat.le_of_ble_eq_true rfl), (Nat.le_of_ble_eq_true rfl)⟩) g hK (by decide) (by decide) (fx' := [(7, 5, q3_, .ref a_1473), (7, 4, q3_, .ref a_1472), (2, 13, a0_, .int x_1471), (2, 12, a0_, .int x_1470), (8, 6, q0_, .int 1201), (8, 8, q0_, .int x_1232), (0, 2, q2_, .ref q3_), (2, 14, a0_, .int x_17), (2, 0, a0_, .ref q0_), (2, 1, a0_, .ref q1_), (2, 2, a0_, .ref q2_), (2, 3, a0_, .ref q3_), (0, 0, q2_, .ref q0_), (0, 1, q2_, .ref q1_), (5, 0, q1_, .ref q3_), (5, 1, q1_, .ref q7_)]) rfl (fun fr_1481 H locs hp hMr_1481 g => ?_)
                          obtain ⟨hG_1482, x_1483, h_1484, hF_1485⟩ := hp
                          have hG_1486 := eOK.frame hMr_1481 go_.2.2.2.1 mq2_ kq2_ (by decide) (by decide) hG_1480
                          have g := g.more hF_1485
                          refine lv_aload_n hx hb dX2_readArguments_224 rfl (lv_at hl 4 rfl) ?_
                          refine g_getk (C := RX2) (T := TX2) (N := 16) hx hb hts (mc_ inX2) hown hK g rfl 0 (by decide) rfl (hts _ (List.mem_cons_of_mem _ t_416)) (fun _ h9 => h9) 9 rfl dX2_readArguments_225 ?_
                          refine lv_bipush (v := 59) hx hb dX2_readArguments_228 (by decide) ?_
                          have kb_1201 : bd 1201 1201 (1201 : Int32) := ⟨by decide, by decide⟩
                          have go_ := g
                          refine g_callv (va_runV (As := [.int 59]) (rest := []) ⟨hx, hb, hml, hown, hts⟩ (r_X8_take_2 l dC dI L kd tys fr_1481 H.size g.2.2.2.1 q0_ mq0_ kq0_ 59 1201 kb_1201 x_1232 h_1233 (g.fcts [5, 6] rfl)) (cwV 1 hts (gV_ t_1098 t_1099 t_1100 t_184 t_1101) rfl rfl rfl (by decide +kernel) ⟨(Nat.le_of_ble_eq_true rfl), (Nat.le_of_ble_eq_true rfl)⟩) (pre3V g hK mq0_ kq0_ (by decide) (q := (RX8, TX8, 10)) rfl) rfl rfl hl.1 rfl (lv_room (Nat.le_of_ble_eq_true rfl)) dX2_readArguments_230 ⟨(Nat.le_of_ble_eq_true rfl), (Nat.le_of_ble_eq_true rfl)⟩) g hK (by decide) (by decide) (fx' := [(7, 6, q3_, .int x_1483), (7, 5, q3_, .ref a_1473), (7, 4, q3_, .ref a_1472), (2, 13, a0_, .int x_1471), (2, 12, a0_, .int x_1470), (8, 8, q0_, .int x_1232), (0, 2, q2_, .ref q3_), (2, 14, a0_, .int x_17), (2, 0, a0_, .ref q0_), (2, 1, a0_, .ref q1_), (2, 2, a0_, .ref q2_), (2, 3, a0_, .ref q3_), (0, 0, q2_, .ref q0_), (0, 1, q2_, .ref q1_), (5, 0, q1_, .ref q3_), (5, 1, q1_, .ref q7_)]) rfl (fun fr_1487 H locs hp hMr_1487 g => ?_)
                          obtain ⟨x_1488, h_1489, hF_1490⟩ := hp
                          have hG_1491 := dOK.frame hMr_1487 go_.2.2.2.1 mq3_ kq3_ (by decide) (by decide) hG_1482
                          have hG_1492 := eOK.frame hMr_1487 go_.2.2.2.1 mq2_ kq2_ (by decide) (by decide) hG_1486
                          have g := g.more hF_1490
                          subst hQ
                          exact W.vret hx hb hr (fun t ht hW => ⟨⟨_, rfl, Or.inr (⟨hG_1491, hG_1492, x_1488, h_1489, x_1232, h_1233, (g.fcts [0, 6] rfl)⟩), q3_of g hK ht hW⟩, g.2.2.1.F ht⟩) g.2.2.1.2.2 dX2_readArguments_233
          have kb_1 : bd 1 1 (1 : Int32) := ⟨by decide, by decide⟩
          have hl9 := lv_sub hl [0, 1, 2, 3, 4] (by rfl : lv_pick [(4, .int 0), (3, .int 1), (2, .int 0), (1, .int r_1), (0, .ref a0_)] [0, 1, 2, 3, 4] = [(4, .int 0), (3, .int 1), (2, .int 0), (1, .int r_1), (0, .ref a0_)])
          have g9 := g.sub (fx' := [(2, 14, a0_, .int x_17), (8, 8, q0_, .int y0_), (2, 0, a0_, .ref q0_), (2, 1, a0_, .ref q1_), (2, 2, a0_, .ref q2_), (2, 3, a0_, .ref q3_), (0, 0, q2_, .ref q0_), (0, 1, q2_, .ref q1_), (5, 0, q1_, .ref q3_), (5, 1, q1_, .ref q7_)]) [0, 2, 3, 4, 5, 6, 7, 8, 9, 10] rfl
          exact loop_915 (11) 0 1 0 (bd_sub kb_0 (by decide)) (bd_sub kb_1 (by decide)) (by have h9_0 := kb_0; unfold bd at h9_0; have h9_1 := kb_1; unfold bd at h9_1; have h9_2 := kb_41; unfold bd at h9_2; omega) _ _ _ _ g9 hG_822 hG_823 hG_824 hG_825 hl9
      · have fc_819 := neq_f c_819
        refine lv_aload_n hx hb dX2_readArguments_36 rfl (lv_at hl 1 rfl) ?_
        refine g_getk (C := RX2) (T := TX2) (N := 16) hx hb hts (mc_ inX2) hown hK g rfl 0 (by decide) rfl (hts _ (List.mem_cons_of_mem _ t_416)) (fun _ h9 => h9) 3 rfl dX2_readArguments_37 ?_
        refine lv_bipush (v := 6) hx hb dX2_readArguments_40 (by decide) ?_
        refine lv_iload_n hx hb dX2_readArguments_42 rfl (lv_at hl 0 rfl) ?_
        have kb_6 : bd 6 6 (6 : Int32) := ⟨by decide, by decide⟩
        have go_ := g
        refine g_callv (va_runV (As := [.int 6, .int r_1]) (rest := []) ⟨hx, hb, hml, hown, hts⟩ (r_X8_fail l dC dI L kd tys fr_814 H.size g.2.2.2.1 q0_ mq0_ kq0_ 6 (bd_sub kb_6 (by decide)) r_1 y0_ by0_ (g.fcts [2] rfl)) (cwV 2 hts (gV_ t_1122 t_1107 t_1108 t_184 t_1109) rfl rfl rfl (by decide +kernel) ⟨(Nat.le_of_ble_eq_true rfl), (Nat.le_of_ble_eq_true rfl)⟩) (pre3V g hK mq0_ kq0_ (by decide) (q := (RX8, TX8, 10)) rfl) rfl rfl hl.1 rfl (lv_room (Nat.le_of_ble_eq_true rfl)) dX2_readArguments_43 ⟨(Nat.le_of_ble_eq_true rfl), (Nat.le_of_ble_eq_true rfl)⟩) g hK (by decide) (by decide) (fx' := [(2, 14, a0_, .int x_17), (2, 0, a0_, .ref q0_), (2, 1, a0_, .ref q1_), (2, 2, a0_, .ref q2_), (2, 3, a0_, .ref q3_), (0, 0, q2_, .ref q0_), (0, 1, q2_, .ref q1_), (5, 0, q1_, .ref q3_), (5, 1, q1_, .ref q7_)]) rfl (fun fr_1493 H locs hp hMr_1493 g => ?_)
        obtain ⟨x_1494, h_1495, hF_1496⟩ := hp
        have hG_1497 := cOK.frame hMr_1493 go_.2.2.2.1 mq3_ kq3_ (by decide) (by decide) hG_815
        have hG_1498 := dOK.frame hMr_1493 go_.2.2.2.1 mq3_ kq3_ (by decide) (by decide) hG_816
        have hG_1499 := jS.frame hMr_1493 go_.2.2.2.1 mq3_ kq3_ (by decide) (by decide) hG_817
        have hG_1500 := eOK.frame hMr_1493 go_.2.2.2.1 mq2_ kq2_ (by decide) (by decide) hG_818
        have g := g.more hF_1496
        refine lv_iconst (v := 0) hx hb dX2_readArguments_46 (by decide) ?_
        refine lv_istore_n (lv' := [(2, .int 0), (1, .int r_1), (0, .ref a0_)]) hx hb dX2_readArguments_47 rfl hl (by decide) rfl (fun ls hl => ?_)
        refine lv_aload_n hx hb dX2_readArguments_48 rfl (lv_at hl 2 rfl) ?_
        refine g_getk (C := RX2) (T := TX2) (N := 16) hx hb hts (mc_ inX2) hown hK g rfl 0 (by decide) rfl (hts _ (List.mem_cons_of_mem _ t_416)) (fun _ h9 => h9) 3 rfl dX2_readArguments_49 ?_
        have kb_1201 : bd 1201 1201 (1201 : Int32) := ⟨by decide, by decide⟩
        have go_ := g
        refine g_calli (va_runV (As := []) (rest := []) ⟨hx, hb, hml, hown, hts⟩ (r_X8_kind_2 l dC dI L kd tys fr_1493 H.size g.2.2.2.1 q0_ mq0_ kq0_ 1201 kb_1201 (g.fcts [0] rfl)) (cwV 0 hts (gV_ t_1118 t_1119 t_1120 t_184 t_1121) rfl rfl rfl (by decide +kernel) ⟨(Nat.le_of_ble_eq_true rfl), (Nat.le_of_ble_eq_true rfl)⟩) (pre3V g hK mq0_ kq0_ (by decide) (q := (RX8, TX8, 10)) rfl) rfl rfl hl.1 rfl (lv_room (Nat.le_of_ble_eq_true rfl)) dX2_readArguments_52 ⟨(Nat.le_of_ble_eq_true rfl), (Nat.le_of_ble_eq_true rfl)⟩) g hK (by decide) (by decide) (fx' := [(8, 6, q0_, .int 1201), (8, 8, q0_, .int x_1494), (2, 14, a0_, .int x_17), (2, 0, a0_, .ref q0_), (2, 1, a0_, .ref q1_), (2, 2, a0_, .ref q2_), (2, 3, a0_, .ref q3_), (0, 0, q2_, .ref q0_), (0, 1, q2_, .ref q1_), (5, 0, q1_, .ref q3_), (5, 1, q1_, .ref q7_)]) rfl (fun r_1501 fr_1501 H locs hp hMr_1501 g => ?_)
        obtain ⟨h_1502, -⟩ := hp
        have hG_1503 := cOK.frame hMr_1501 go_.2.2.2.1 mq3_ kq3_ (by decide) (by decide) hG_1497
        have hG_1504 := dOK.frame hMr_1501 go_.2.2.2.1 mq3_ kq3_ (by decide) (by decide) hG_1498
        have hG_1505 := jS.frame hMr_1501 go_.2.2.2.1 mq3_ kq3_ (by decide) (by decide) hG_1499
        have hG_1506 := eOK.frame hMr_1501 go_.2.2.2.1 mq2_ kq2_ (by decide) (by decide) hG_1500
        obtain rfl : r_1501 = 0 := h_1502
        refine lv_bipush (v := 41) hx hb dX2_readArguments_55 (by decide) ?_
        refine lv_icmp_eq (tgt := 64) hx hb dX2_readArguments_57 (by decide) (fun c_ => absurd c_ (by decide)) (fun c_ => ?_)
        refine lv_iconst (v := 1) hx hb dX2_readArguments_60 (by decide) ?_
        refine lv_goto (tgt := 65) hx hb dX2_readArguments_61 (by decide) ?_
        refine lv_istore_n (lv' := [(3, .int 1), (2, .int 0), (1, .int r_1), (0, .ref a0_)]) hx hb dX2_readArguments_65 rfl hl (by decide) rfl (fun ls hl => ?_)
        refine lv_iconst (v := 0) hx hb dX2_readArguments_66 (by decide) ?_
        refine lv_istore (lv' := [(4, .int 0), (3, .int 1), (2, .int 0), (1, .int r_1), (0, .ref a0_)]) hx hb dX2_readArguments_67 hl (by decide) rfl (fun ls hl => ?_)
        refine lv_iload hx hb dX2_readArguments_69 (lv_at hl 0 rfl) ?_
        refine lv_iconst (v := 3) hx hb dX2_readArguments_71 (by decide) ?_
        refine lv_icmp_gt (tgt := 162) hx hb dX2_readArguments_72 (by decide) (fun c_ => absurd c_ (by decide)) (fun c_ => ?_)
        refine lv_iload_n hx hb dX2_readArguments_75 rfl (lv_at hl 1 rfl) ?_
        refine lv_if_eq (tgt := 162) hx hb dX2_readArguments_76 (by decide) (fun c_ => absurd c_ (by decide)) (fun c_ => ?_)
        refine lv_aload_n hx hb dX2_readArguments_79 rfl (lv_at hl 4 rfl) ?_
        refine g_getk (C := RX2) (T := TX2) (N := 16) hx hb hts (mc_ inX2) hown hK g rfl 0 (by decide) rfl (hts _ (List.mem_cons_of_mem _ t_416)) (fun _ h9 => h9) 3 rfl dX2_readArguments_80 ?_
        refine g_getk (C := RX8) (T := TX8) (N := 10) hx hb hts (mc_ inX8) hown hK g rfl 8 (by decide) rfl (hts _ (List.mem_cons_of_mem _ t_294)) (fun _ h9 => h9) 1 rfl dX2_readArguments_83 ?_
        refine lv_if_ne (tgt := 162) hx hb dX2_readArguments_86 (by decide) (fun c_1507 => ?_) (fun c_1507 => ?_)
        · have fc_1507 := neq_f c_1507
          refine lv_aload_n hx hb dX2_readArguments_162 rfl (lv_at hl 4 rfl) ?_
          refine g_getk (C := RX2) (T := TX2) (N := 16) hx hb hts (mc_ inX2) hown hK g rfl 0 (by decide) rfl (hts _ (List.mem_cons_of_mem _ t_416)) (fun _ h9 => h9) 3 rfl dX2_readArguments_163 ?_
          have go_ := g
          refine g_calli (va_runV (As := []) (rest := []) ⟨hx, hb, hml, hown, hts⟩ (r_X8_place l dC dI L kd tys fr_1501 H.size g.2.2.2.1 q0_ mq0_ kq0_) (cwV 0 hts (gV_ t_1110 t_1111 t_1112 t_184 t_1113) rfl rfl rfl (by decide +kernel) ⟨(Nat.le_of_ble_eq_true rfl), (Nat.le_of_ble_eq_true rfl)⟩) (pre3V g hK mq0_ kq0_ (by decide) (q := (RX8, TX8, 10)) rfl) rfl rfl hl.1 rfl (lv_room (Nat.le_of_ble_eq_true rfl)) dX2_readArguments_166 ⟨(Nat.le_of_ble_eq_true rfl), (Nat.le_of_ble_eq_true rfl)⟩) g hK (by decide) (by decide) (fx' := [(8, 6, q0_, .int 1201), (8, 8, q0_, .int x_1494), (2, 14, a0_, .int x_17), (2, 0, a0_, .ref q0_), (2, 1, a0_, .ref q1_), (2, 2, a0_, .ref q2_), (2, 3, a0_, .ref q3_), (0, 0, q2_, .ref q0_), (0, 1, q2_, .ref q1_), (5, 0, q1_, .ref q3_), (5, 1, q1_, .ref q7_)]) rfl (fun r_1508 fr_1508 H locs hp hMr_1508 g => ?_)
          have hG_1509 := cOK.frame hMr_1508 go_.2.2.2.1 mq3_ kq3_ (by decide) (by decide) hG_1503
          have hG_1510 := dOK.frame hMr_1508 go_.2.2.2.1 mq3_ kq3_ (by decide) (by decide) hG_1504
          have hG_1511 := jS.frame hMr_1508 go_.2.2.2.1 mq3_ kq3_ (by decide) (by decide) hG_1505
          have hG_1512 := eOK.frame hMr_1508 go_.2.2.2.1 mq2_ kq2_ (by decide) (by decide) hG_1506
          refine lv_istore (lv' := [(4, .int r_1508), (3, .int 1), (2, .int 0), (1, .int r_1), (0, .ref a0_)]) hx hb dX2_readArguments_169 hl (by decide) rfl (fun ls hl => ?_)
          refine lv_aload_n hx hb dX2_readArguments_171 rfl (lv_at hl 4 rfl) ?_
          refine g_getk (C := RX2) (T := TX2) (N := 16) hx hb hts (mc_ inX2) hown hK g rfl 0 (by decide) rfl (hts _ (List.mem_cons_of_mem _ t_416)) (fun _ h9 => h9) 3 rfl dX2_readArguments_172 ?_
          refine lv_bipush (v := 41) hx hb dX2_readArguments_175 (by decide) ?_
          have go_ := g
          refine g_callv (va_runV (As := [.int 41]) (rest := []) ⟨hx, hb, hml, hown, hts⟩ (r_X8_take_2 l dC dI L kd tys fr_1508 H.size g.2.2.2.1 q0_ mq0_ kq0_ 41 1201 kb_1201 x_1494 h_1495 (g.fcts [0, 1] rfl)) (cwV 1 hts (gV_ t_1098 t_1099 t_1100 t_184 t_1101) rfl rfl rfl (by decide +kernel) ⟨(Nat.le_of_ble_eq_true rfl), (Nat.le_of_ble_eq_true rfl)⟩) (pre3V g hK mq0_ kq0_ (by decide) (q := (RX8, TX8, 10)) rfl) rfl rfl hl.1 rfl (lv_room (Nat.le_of_ble_eq_true rfl)) dX2_readArguments_177 ⟨(Nat.le_of_ble_eq_true rfl), (Nat.le_of_ble_eq_true rfl)⟩) g hK (by decide) (by decide) (fx' := [(8, 8, q0_, .int x_1494), (2, 14, a0_, .int x_17), (2, 0, a0_, .ref q0_), (2, 1, a0_, .ref q1_), (2, 2, a0_, .ref q2_), (2, 3, a0_, .ref q3_), (0, 0, q2_, .ref q0_), (0, 1, q2_, .ref q1_), (5, 0, q1_, .ref q3_), (5, 1, q1_, .ref q7_)]) rfl (fun fr_1513 H locs hp hMr_1513 g => ?_)
          obtain ⟨x_1514, h_1515, hF_1516⟩ := hp
          have hG_1517 := cOK.frame hMr_1513 go_.2.2.2.1 mq3_ kq3_ (by decide) (by decide) hG_1509
          have hG_1518 := dOK.frame hMr_1513 go_.2.2.2.1 mq3_ kq3_ (by decide) (by decide) hG_1510
          have hG_1519 := jS.frame hMr_1513 go_.2.2.2.1 mq3_ kq3_ (by decide) (by decide) hG_1511
          have hG_1520 := eOK.frame hMr_1513 go_.2.2.2.1 mq2_ kq2_ (by decide) (by decide) hG_1512
          have g := g.more hF_1516
          refine lv_iload_n hx hb dX2_readArguments_180 rfl (lv_at hl 2 rfl) ?_
          refine lv_aload_n hx hb dX2_readArguments_181 rfl (lv_at hl 4 rfl) ?_
          refine g_getk (C := RX2) (T := TX2) (N := 16) hx hb hts (mc_ inX2) hown hK g rfl 14 (by decide) rfl (hts _ (List.mem_cons_of_mem _ t_430)) (fun _ h9 => h9) 2 rfl dX2_readArguments_182 ?_
          refine lv_icmp_ge (tgt := 199) hx hb dX2_readArguments_185 (by decide) (fun c_1521 => ?_) (fun c_1521 => ?_)
          · have fc_1521 := le_f c_1521
            refine lv_aload_n hx hb dX2_readArguments_199 rfl (lv_at hl 4 rfl) ?_
            refine g_getk (C := RX2) (T := TX2) (N := 16) hx hb hts (mc_ inX2) hown hK g rfl 3 (by decide) rfl (hts _ (List.mem_cons_of_mem _ t_419)) (fun _ h9 => h9) 6 rfl dX2_readArguments_200 ?_
            refine lv_aload_n hx hb dX2_readArguments_203 rfl (lv_at hl 4 rfl) ?_
            refine g_geti (C := RX2) (T := TX2) (N := 16) hx hb hts (mc_ inX2) hown hK g ma0_ ka0_ (by decide) rfl 12 (by decide) rfl (hts _ (List.mem_cons_of_mem _ t_428)) (fun _ h9 => h9) rfl dX2_readArguments_204 (fun x_1522 bx_1522 g => ?_)
            refine lv_aload_n hx hb dX2_readArguments_207 rfl (lv_at hl 4 rfl) ?_
            refine g_geti (C := RX2) (T := TX2) (N := 16) hx hb hts (mc_ inX2) hown hK g ma0_ ka0_ (by decide) rfl 13 (by decide) rfl (hts _ (List.mem_cons_of_mem _ t_429)) (fun _ h9 => h9) rfl dX2_readArguments_208 (fun x_1523 bx_1523 g => ?_)
            obtain ⟨a_1524, ma_1524, ka_1524, g⟩ := g_factr g mq3_ kq3_ (by decide) 4 rfl
            obtain ⟨a_1525, ma_1525, ka_1525, g⟩ := g_factr g mq3_ kq3_ (by decide) 5 rfl
            obtain ⟨x_1526, bx_1526, g⟩ := g_facti g mq3_ kq3_ (by decide) 6 rfl
            have go_ := g
            refine g_callv (va_runV (As := [.int x_1522, .int x_1523]) (rest := []) ⟨hx, hb, hml, hown, hts⟩ (r_X7_emitF l dC dI L kd tys fr_1513 H.size g.2.2.2.1 q3_ mq3_ kq3_ a_1524 ma_1524 ka_1524 a_1525 ma_1525 ka_1525 x_1526 bx_1526 T_ hG_1518 x_1522 x_1523 (g.fcts [2, 1, 0] rfl)) (cwV 2 hts (gV_ t_1301 t_1204 t_1205 t_191 t_1206) rfl rfl rfl (by decide +kernel) ⟨(Nat.le_of_ble_eq_true rfl), (Nat.le_of_ble_eq_true rfl)⟩) (pre3V g hK mq3_ kq3_ (by decide) (q := (RX7, TX7, 19)) rfl) rfl rfl hl.1 rfl (lv_room (Nat.le_of_ble_eq_true rfl)) dX2_readArguments_211 ⟨(Nat.le_of_ble_eq_true rfl), (Nat.le_of_ble_eq_true rfl)⟩) g hK (by decide) (by decide) (fx' := [(7, 5, q3_, .ref a_1525), (7, 4, q3_, .ref a_1524), (2, 13, a0_, .int x_1523), (2, 12, a0_, .int x_1522), (8, 6, q0_, .int x_1514), (8, 8, q0_, .int x_1494), (2, 14, a0_, .int x_17), (2, 0, a0_, .ref q0_), (2, 1, a0_, .ref q1_), (2, 2, a0_, .ref q2_), (2, 3, a0_, .ref q3_), (0, 0, q2_, .ref q0_), (0, 1, q2_, .ref q1_), (5, 0, q1_, .ref q3_), (5, 1, q1_, .ref q7_)]) rfl (fun fr_1527 H locs hp hMr_1527 g => ?_)
            obtain ⟨hG_1528, x_1529, h_1530, hF_1531⟩ := hp
            have hG_1532 := eOK.frame hMr_1527 go_.2.2.2.1 mq2_ kq2_ (by decide) (by decide) hG_1520
            have g := g.more hF_1531
            refine lv_aload_n hx hb dX2_readArguments_214 rfl (lv_at hl 4 rfl) ?_
            refine g_getk (C := RX2) (T := TX2) (N := 16) hx hb hts (mc_ inX2) hown hK g rfl 3 (by decide) rfl (hts _ (List.mem_cons_of_mem _ t_419)) (fun _ h9 => h9) 11 rfl dX2_readArguments_215 ?_
            refine lv_bipush (v := 22) hx hb dX2_readArguments_218 (by decide) ?_
            refine lv_iconst (v := 0) hx hb dX2_readArguments_220 (by decide) ?_
            have go_ := g
            refine g_callv (va_runV (As := [.int 22, .int 0]) (rest := []) ⟨hx, hb, hml, hown, hts⟩ (r_X7_emitF l dC dI L kd tys fr_1527 H.size g.2.2.2.1 q3_ mq3_ kq3_ a_1524 ma_1524 ka_1524 a_1525 ma_1525 ka_1525 x_1529 h_1530 T_ hG_1528 (22 : Int32) (0 : Int32) (g.fcts [2, 1, 0] rfl)) (cwV 2 hts (gV_ t_1301 t_1204 t_1205 t_191 t_1206) rfl rfl rfl (by decide +kernel) ⟨(Nat.le_of_ble_eq_true rfl), (Nat.le_of_ble_eq_true rfl)⟩) (pre3V g hK mq3_ kq3_ (by decide) (q := (RX7, TX7, 19)) rfl) rfl rfl hl.1 rfl (lv_room (Nat.le_of_ble_eq_true rfl)) dX2_readArguments_221 ⟨(Nat.le_of_ble_eq_true rfl), (Nat.le_of_ble_eq_true rfl)⟩) g hK (by decide) (by decide) (fx' := [(7, 5, q3_, .ref a_1525), (7, 4, q3_, .ref a_1524), (2, 13, a0_, .int x_1523), (2, 12, a0_, .int x_1522), (8, 6, q0_, .int x_1514), (8, 8, q0_, .int x_1494), (2, 14, a0_, .int x_17), (2, 0, a0_, .ref q0_), (2, 1, a0_, .ref q1_), (2, 2, a0_, .ref q2_), (2, 3, a0_, .ref q3_), (0, 0, q2_, .ref q0_), (0, 1, q2_, .ref q1_), (5, 0, q1_, .ref q3_), (5, 1, q1_, .ref q7_)]) rfl (fun fr_1533 H locs hp hMr_1533 g => ?_)
            obtain ⟨hG_1534, x_1535, h_1536, hF_1537⟩ := hp
            have hG_1538 := eOK.frame hMr_1533 go_.2.2.2.1 mq2_ kq2_ (by decide) (by decide) hG_1532
            have g := g.more hF_1537
            refine lv_aload_n hx hb dX2_readArguments_224 rfl (lv_at hl 4 rfl) ?_
            refine g_getk (C := RX2) (T := TX2) (N := 16) hx hb hts (mc_ inX2) hown hK g rfl 0 (by decide) rfl (hts _ (List.mem_cons_of_mem _ t_416)) (fun _ h9 => h9) 8 rfl dX2_readArguments_225 ?_
            refine lv_bipush (v := 59) hx hb dX2_readArguments_228 (by decide) ?_
            have go_ := g
            refine g_callv (va_runV (As := [.int 59]) (rest := []) ⟨hx, hb, hml, hown, hts⟩ (r_X8_take_2 l dC dI L kd tys fr_1533 H.size g.2.2.2.1 q0_ mq0_ kq0_ 59 x_1514 h_1515 x_1494 h_1495 (g.fcts [5, 6] rfl)) (cwV 1 hts (gV_ t_1098 t_1099 t_1100 t_184 t_1101) rfl rfl rfl (by decide +kernel) ⟨(Nat.le_of_ble_eq_true rfl), (Nat.le_of_ble_eq_true rfl)⟩) (pre3V g hK mq0_ kq0_ (by decide) (q := (RX8, TX8, 10)) rfl) rfl rfl hl.1 rfl (lv_room (Nat.le_of_ble_eq_true rfl)) dX2_readArguments_230 ⟨(Nat.le_of_ble_eq_true rfl), (Nat.le_of_ble_eq_true rfl)⟩) g hK (by decide) (by decide) (fx' := [(7, 6, q3_, .int x_1535), (7, 5, q3_, .ref a_1525), (7, 4, q3_, .ref a_1524), (2, 13, a0_, .int x_1523), (2, 12, a0_, .int x_1522), (8, 8, q0_, .int x_1494), (2, 14, a0_, .int x_17), (2, 0, a0_, .ref q0_), (2, 1, a0_, .ref q1_), (2, 2, a0_, .ref q2_), (2, 3, a0_, .ref q3_), (0, 0, q2_, .ref q0_), (0, 1, q2_, .ref q1_), (5, 0, q1_, .ref q3_), (5, 1, q1_, .ref q7_)]) rfl (fun fr_1539 H locs hp hMr_1539 g => ?_)
            obtain ⟨x_1540, h_1541, hF_1542⟩ := hp
            have hG_1543 := dOK.frame hMr_1539 go_.2.2.2.1 mq3_ kq3_ (by decide) (by decide) hG_1534
            have hG_1544 := eOK.frame hMr_1539 go_.2.2.2.1 mq2_ kq2_ (by decide) (by decide) hG_1538
            have g := g.more hF_1542
            subst hQ
            exact W.vret hx hb hr (fun t ht hW => ⟨⟨_, rfl, Or.inr (⟨hG_1543, hG_1544, x_1540, h_1541, x_1494, h_1495, (g.fcts [0, 6] rfl)⟩), q3_of g hK ht hW⟩, g.2.2.1.F ht⟩) g.2.2.1.2.2 dX2_readArguments_233
          · have fc_1521 := nle_f c_1521
            have b_1545 : bd 0 (-1) (0 : Int32) := ltL fc_1521 kb_0 b_813 (by decide)
            exact bd_no (eqX rfl b_1545 kb_0 (lo := 0) (hi := (-1)) (by decide)) (by decide)
        · have fc_1507 := eq_f c_1507
          have b_1546 : bd 1 0 x_1494 := eqX fc_1507 h_1495 kb_0 (by decide)
          exact bd_no b_1546 (by decide)
  · have hG_1547 := cOK.frame hMr_6 go_.2.2.2.1 mq3_ kq3_ (by decide) (by decide) hG_2
    have hG_1548 := dOK.frame hMr_6 go_.2.2.2.1 mq3_ kq3_ (by decide) (by decide) hG_3
    have hG_1549 := jS.frame hMr_6 go_.2.2.2.1 mq3_ kq3_ (by decide) (by decide) hG_4
    have hG_1550 := eOK.frame hMr_6 go_.2.2.2.1 mq2_ kq2_ (by decide) (by decide) hG_5
    have g := g.more hF_12
    refine lv_aload_n hx hb dX2_readArguments_17 rfl (lv_at hl 1 rfl) ?_
    refine g_geti (C := RX2) (T := TX2) (N := 16) hx hb hts (mc_ inX2) hown hK g ma0_ ka0_ (by decide) rfl 14 (by decide) rfl (hts _ (List.mem_cons_of_mem _ t_430)) (fun _ h9 => h9) rfl dX2_readArguments_18 (fun x_1551 bx_1551 g => ?_)
    have kb_0 : bd 0 0 (0 : Int32) := ⟨by decide, by decide⟩
    refine lv_if_ne (tgt := 46) hx hb dX2_readArguments_21 (by decide) (fun c_1552 => ?_) (fun c_1552 => ?_)
    · have fc_1552 := neq_f c_1552
      refine lv_iconst (v := 0) hx hb dX2_readArguments_46 (by decide) ?_
      refine lv_istore_n (lv' := [(2, .int 0), (1, .int r_1), (0, .ref a0_)]) hx hb dX2_readArguments_47 rfl hl (by decide) rfl (fun ls hl => ?_)
      refine lv_aload_n hx hb dX2_readArguments_48 rfl (lv_at hl 2 rfl) ?_
      refine g_getk (C := RX2) (T := TX2) (N := 16) hx hb hts (mc_ inX2) hown hK g rfl 0 (by decide) rfl (hts _ (List.mem_cons_of_mem _ t_416)) (fun _ h9 => h9) 3 rfl dX2_readArguments_49 ?_
      have kb_1201 : bd 1201 1201 (1201 : Int32) := ⟨by decide, by decide⟩
      have go_ := g
      refine g_calli (va_runV (As := []) (rest := []) ⟨hx, hb, hml, hown, hts⟩ (r_X8_kind_2 l dC dI L kd tys fr_6 H.size g.2.2.2.1 q0_ mq0_ kq0_ 1201 kb_1201 (g.fcts [1] rfl)) (cwV 0 hts (gV_ t_1118 t_1119 t_1120 t_184 t_1121) rfl rfl rfl (by decide +kernel) ⟨(Nat.le_of_ble_eq_true rfl), (Nat.le_of_ble_eq_true rfl)⟩) (pre3V g hK mq0_ kq0_ (by decide) (q := (RX8, TX8, 10)) rfl) rfl rfl hl.1 rfl (lv_room (Nat.le_of_ble_eq_true rfl)) dX2_readArguments_52 ⟨(Nat.le_of_ble_eq_true rfl), (Nat.le_of_ble_eq_true rfl)⟩) g hK (by decide) (by decide) (fx' := [(2, 14, a0_, .int x_1551), (8, 6, q0_, .int 1201), (8, 8, q0_, .int x_10), (2, 0, a0_, .ref q0_), (2, 1, a0_, .ref q1_), (2, 2, a0_, .ref q2_), (2, 3, a0_, .ref q3_), (0, 0, q2_, .ref q0_), (0, 1, q2_, .ref q1_), (5, 0, q1_, .ref q3_), (5, 1, q1_, .ref q7_)]) rfl (fun r_1553 fr_1553 H locs hp hMr_1553 g => ?_)
      obtain ⟨h_1554, -⟩ := hp
      have hG_1555 := cOK.frame hMr_1553 go_.2.2.2.1 mq3_ kq3_ (by decide) (by decide) hG_1547
      have hG_1556 := dOK.frame hMr_1553 go_.2.2.2.1 mq3_ kq3_ (by decide) (by decide) hG_1548
      have hG_1557 := jS.frame hMr_1553 go_.2.2.2.1 mq3_ kq3_ (by decide) (by decide) hG_1549
      have hG_1558 := eOK.frame hMr_1553 go_.2.2.2.1 mq2_ kq2_ (by decide) (by decide) hG_1550
      obtain rfl : r_1553 = 0 := h_1554
      refine lv_bipush (v := 41) hx hb dX2_readArguments_55 (by decide) ?_
      refine lv_icmp_eq (tgt := 64) hx hb dX2_readArguments_57 (by decide) (fun c_ => absurd c_ (by decide)) (fun c_ => ?_)
      refine lv_iconst (v := 1) hx hb dX2_readArguments_60 (by decide) ?_
      refine lv_goto (tgt := 65) hx hb dX2_readArguments_61 (by decide) ?_
      refine lv_istore_n (lv' := [(3, .int 1), (2, .int 0), (1, .int r_1), (0, .ref a0_)]) hx hb dX2_readArguments_65 rfl hl (by decide) rfl (fun ls hl => ?_)
      refine lv_iconst (v := 0) hx hb dX2_readArguments_66 (by decide) ?_
      refine lv_istore (lv' := [(4, .int 0), (3, .int 1), (2, .int 0), (1, .int r_1), (0, .ref a0_)]) hx hb dX2_readArguments_67 hl (by decide) rfl (fun ls hl => ?_)
      refine lv_iload hx hb dX2_readArguments_69 (lv_at hl 0 rfl) ?_
      refine lv_iconst (v := 3) hx hb dX2_readArguments_71 (by decide) ?_
      refine lv_icmp_gt (tgt := 162) hx hb dX2_readArguments_72 (by decide) (fun c_ => absurd c_ (by decide)) (fun c_ => ?_)
      refine lv_iload_n hx hb dX2_readArguments_75 rfl (lv_at hl 1 rfl) ?_
      refine lv_if_eq (tgt := 162) hx hb dX2_readArguments_76 (by decide) (fun c_ => absurd c_ (by decide)) (fun c_ => ?_)
      refine lv_aload_n hx hb dX2_readArguments_79 rfl (lv_at hl 4 rfl) ?_
      refine g_getk (C := RX2) (T := TX2) (N := 16) hx hb hts (mc_ inX2) hown hK g rfl 0 (by decide) rfl (hts _ (List.mem_cons_of_mem _ t_416)) (fun _ h9 => h9) 3 rfl dX2_readArguments_80 ?_
      refine g_getk (C := RX8) (T := TX8) (N := 10) hx hb hts (mc_ inX8) hown hK g rfl 8 (by decide) rfl (hts _ (List.mem_cons_of_mem _ t_294)) (fun _ h9 => h9) 2 rfl dX2_readArguments_83 ?_
      refine lv_if_ne (tgt := 162) hx hb dX2_readArguments_86 (by decide) (fun c_1559 => ?_) (fun c_1559 => ?_)
      · have fc_1559 := neq_f c_1559
        refine lv_aload_n hx hb dX2_readArguments_162 rfl (lv_at hl 4 rfl) ?_
        refine g_getk (C := RX2) (T := TX2) (N := 16) hx hb hts (mc_ inX2) hown hK g rfl 0 (by decide) rfl (hts _ (List.mem_cons_of_mem _ t_416)) (fun _ h9 => h9) 3 rfl dX2_readArguments_163 ?_
        have go_ := g
        refine g_calli (va_runV (As := []) (rest := []) ⟨hx, hb, hml, hown, hts⟩ (r_X8_place l dC dI L kd tys fr_1553 H.size g.2.2.2.1 q0_ mq0_ kq0_) (cwV 0 hts (gV_ t_1110 t_1111 t_1112 t_184 t_1113) rfl rfl rfl (by decide +kernel) ⟨(Nat.le_of_ble_eq_true rfl), (Nat.le_of_ble_eq_true rfl)⟩) (pre3V g hK mq0_ kq0_ (by decide) (q := (RX8, TX8, 10)) rfl) rfl rfl hl.1 rfl (lv_room (Nat.le_of_ble_eq_true rfl)) dX2_readArguments_166 ⟨(Nat.le_of_ble_eq_true rfl), (Nat.le_of_ble_eq_true rfl)⟩) g hK (by decide) (by decide) (fx' := [(2, 14, a0_, .int x_1551), (8, 6, q0_, .int 1201), (8, 8, q0_, .int x_10), (2, 0, a0_, .ref q0_), (2, 1, a0_, .ref q1_), (2, 2, a0_, .ref q2_), (2, 3, a0_, .ref q3_), (0, 0, q2_, .ref q0_), (0, 1, q2_, .ref q1_), (5, 0, q1_, .ref q3_), (5, 1, q1_, .ref q7_)]) rfl (fun r_1560 fr_1560 H locs hp hMr_1560 g => ?_)
        have hG_1561 := cOK.frame hMr_1560 go_.2.2.2.1 mq3_ kq3_ (by decide) (by decide) hG_1555
        have hG_1562 := dOK.frame hMr_1560 go_.2.2.2.1 mq3_ kq3_ (by decide) (by decide) hG_1556
        have hG_1563 := jS.frame hMr_1560 go_.2.2.2.1 mq3_ kq3_ (by decide) (by decide) hG_1557
        have hG_1564 := eOK.frame hMr_1560 go_.2.2.2.1 mq2_ kq2_ (by decide) (by decide) hG_1558
        refine lv_istore (lv' := [(4, .int r_1560), (3, .int 1), (2, .int 0), (1, .int r_1), (0, .ref a0_)]) hx hb dX2_readArguments_169 hl (by decide) rfl (fun ls hl => ?_)
        refine lv_aload_n hx hb dX2_readArguments_171 rfl (lv_at hl 4 rfl) ?_
        refine g_getk (C := RX2) (T := TX2) (N := 16) hx hb hts (mc_ inX2) hown hK g rfl 0 (by decide) rfl (hts _ (List.mem_cons_of_mem _ t_416)) (fun _ h9 => h9) 3 rfl dX2_readArguments_172 ?_
        refine lv_bipush (v := 41) hx hb dX2_readArguments_175 (by decide) ?_
        have go_ := g
        refine g_callv (va_runV (As := [.int 41]) (rest := []) ⟨hx, hb, hml, hown, hts⟩ (r_X8_take_2 l dC dI L kd tys fr_1560 H.size g.2.2.2.1 q0_ mq0_ kq0_ 41 1201 kb_1201 x_10 h_11 (g.fcts [1, 2] rfl)) (cwV 1 hts (gV_ t_1098 t_1099 t_1100 t_184 t_1101) rfl rfl rfl (by decide +kernel) ⟨(Nat.le_of_ble_eq_true rfl), (Nat.le_of_ble_eq_true rfl)⟩) (pre3V g hK mq0_ kq0_ (by decide) (q := (RX8, TX8, 10)) rfl) rfl rfl hl.1 rfl (lv_room (Nat.le_of_ble_eq_true rfl)) dX2_readArguments_177 ⟨(Nat.le_of_ble_eq_true rfl), (Nat.le_of_ble_eq_true rfl)⟩) g hK (by decide) (by decide) (fx' := [(2, 14, a0_, .int x_1551), (8, 8, q0_, .int x_10), (2, 0, a0_, .ref q0_), (2, 1, a0_, .ref q1_), (2, 2, a0_, .ref q2_), (2, 3, a0_, .ref q3_), (0, 0, q2_, .ref q0_), (0, 1, q2_, .ref q1_), (5, 0, q1_, .ref q3_), (5, 1, q1_, .ref q7_)]) rfl (fun fr_1565 H locs hp hMr_1565 g => ?_)
        obtain ⟨x_1566, h_1567, hF_1568⟩ := hp
        have hG_1569 := cOK.frame hMr_1565 go_.2.2.2.1 mq3_ kq3_ (by decide) (by decide) hG_1561
        have hG_1570 := dOK.frame hMr_1565 go_.2.2.2.1 mq3_ kq3_ (by decide) (by decide) hG_1562
        have hG_1571 := jS.frame hMr_1565 go_.2.2.2.1 mq3_ kq3_ (by decide) (by decide) hG_1563
        have hG_1572 := eOK.frame hMr_1565 go_.2.2.2.1 mq2_ kq2_ (by decide) (by decide) hG_1564
        have g := g.more hF_1568
        refine lv_iload_n hx hb dX2_readArguments_180 rfl (lv_at hl 2 rfl) ?_
        refine lv_aload_n hx hb dX2_readArguments_181 rfl (lv_at hl 4 rfl) ?_
        refine g_getk (C := RX2) (T := TX2) (N := 16) hx hb hts (mc_ inX2) hown hK g rfl 14 (by decide) rfl (hts _ (List.mem_cons_of_mem _ t_430)) (fun _ h9 => h9) 1 rfl dX2_readArguments_182 ?_
        refine lv_icmp_ge (tgt := 199) hx hb dX2_readArguments_185 (by decide) (fun c_1573 => ?_) (fun c_1573 => ?_)
        · have fc_1573 := le_f c_1573
          have b_1574 : bd (-2147483648) 0 x_1551 := leL fc_1573 (bdT x_1551) kb_0 (by decide)
          refine lv_aload_n hx hb dX2_readArguments_199 rfl (lv_at hl 4 rfl) ?_
          refine g_getk (C := RX2) (T := TX2) (N := 16) hx hb hts (mc_ inX2) hown hK g rfl 3 (by decide) rfl (hts _ (List.mem_cons_of_mem _ t_419)) (fun _ h9 => h9) 6 rfl dX2_readArguments_200 ?_
          refine lv_aload_n hx hb dX2_readArguments_203 rfl (lv_at hl 4 rfl) ?_
          refine g_geti (C := RX2) (T := TX2) (N := 16) hx hb hts (mc_ inX2) hown hK g ma0_ ka0_ (by decide) rfl 12 (by decide) rfl (hts _ (List.mem_cons_of_mem _ t_428)) (fun _ h9 => h9) rfl dX2_readArguments_204 (fun x_1575 bx_1575 g => ?_)
          refine lv_aload_n hx hb dX2_readArguments_207 rfl (lv_at hl 4 rfl) ?_
          refine g_geti (C := RX2) (T := TX2) (N := 16) hx hb hts (mc_ inX2) hown hK g ma0_ ka0_ (by decide) rfl 13 (by decide) rfl (hts _ (List.mem_cons_of_mem _ t_429)) (fun _ h9 => h9) rfl dX2_readArguments_208 (fun x_1576 bx_1576 g => ?_)
          obtain ⟨a_1577, ma_1577, ka_1577, g⟩ := g_factr g mq3_ kq3_ (by decide) 4 rfl
          obtain ⟨a_1578, ma_1578, ka_1578, g⟩ := g_factr g mq3_ kq3_ (by decide) 5 rfl
          obtain ⟨x_1579, bx_1579, g⟩ := g_facti g mq3_ kq3_ (by decide) 6 rfl
          have go_ := g
          refine g_callv (va_runV (As := [.int x_1575, .int x_1576]) (rest := []) ⟨hx, hb, hml, hown, hts⟩ (r_X7_emitF l dC dI L kd tys fr_1565 H.size g.2.2.2.1 q3_ mq3_ kq3_ a_1577 ma_1577 ka_1577 a_1578 ma_1578 ka_1578 x_1579 bx_1579 T_ hG_1570 x_1575 x_1576 (g.fcts [2, 1, 0] rfl)) (cwV 2 hts (gV_ t_1301 t_1204 t_1205 t_191 t_1206) rfl rfl rfl (by decide +kernel) ⟨(Nat.le_of_ble_eq_true rfl), (Nat.le_of_ble_eq_true rfl)⟩) (pre3V g hK mq3_ kq3_ (by decide) (q := (RX7, TX7, 19)) rfl) rfl rfl hl.1 rfl (lv_room (Nat.le_of_ble_eq_true rfl)) dX2_readArguments_211 ⟨(Nat.le_of_ble_eq_true rfl), (Nat.le_of_ble_eq_true rfl)⟩) g hK (by decide) (by decide) (fx' := [(7, 5, q3_, .ref a_1578), (7, 4, q3_, .ref a_1577), (2, 13, a0_, .int x_1576), (2, 12, a0_, .int x_1575), (8, 6, q0_, .int x_1566), (2, 14, a0_, .int x_1551), (8, 8, q0_, .int x_10), (2, 0, a0_, .ref q0_), (2, 1, a0_, .ref q1_), (2, 2, a0_, .ref q2_), (2, 3, a0_, .ref q3_), (0, 0, q2_, .ref q0_), (0, 1, q2_, .ref q1_), (5, 0, q1_, .ref q3_), (5, 1, q1_, .ref q7_)]) rfl (fun fr_1580 H locs hp hMr_1580 g => ?_)
          obtain ⟨hG_1581, x_1582, h_1583, hF_1584⟩ := hp
          have hG_1585 := eOK.frame hMr_1580 go_.2.2.2.1 mq2_ kq2_ (by decide) (by decide) hG_1572
          have g := g.more hF_1584
          refine lv_aload_n hx hb dX2_readArguments_214 rfl (lv_at hl 4 rfl) ?_
          refine g_getk (C := RX2) (T := TX2) (N := 16) hx hb hts (mc_ inX2) hown hK g rfl 3 (by decide) rfl (hts _ (List.mem_cons_of_mem _ t_419)) (fun _ h9 => h9) 11 rfl dX2_readArguments_215 ?_
          refine lv_bipush (v := 22) hx hb dX2_readArguments_218 (by decide) ?_
          refine lv_iconst (v := 0) hx hb dX2_readArguments_220 (by decide) ?_
          have go_ := g
          refine g_callv (va_runV (As := [.int 22, .int 0]) (rest := []) ⟨hx, hb, hml, hown, hts⟩ (r_X7_emitF l dC dI L kd tys fr_1580 H.size g.2.2.2.1 q3_ mq3_ kq3_ a_1577 ma_1577 ka_1577 a_1578 ma_1578 ka_1578 x_1582 h_1583 T_ hG_1581 (22 : Int32) (0 : Int32) (g.fcts [2, 1, 0] rfl)) (cwV 2 hts (gV_ t_1301 t_1204 t_1205 t_191 t_1206) rfl rfl rfl (by decide +kernel) ⟨(Nat.le_of_ble_eq_true rfl), (Nat.le_of_ble_eq_true rfl)⟩) (pre3V g hK mq3_ kq3_ (by decide) (q := (RX7, TX7, 19)) rfl) rfl rfl hl.1 rfl (lv_room (Nat.le_of_ble_eq_true rfl)) dX2_readArguments_221 ⟨(Nat.le_of_ble_eq_true rfl), (Nat.le_of_ble_eq_true rfl)⟩) g hK (by decide) (by decide) (fx' := [(7, 5, q3_, .ref a_1578), (7, 4, q3_, .ref a_1577), (2, 13, a0_, .int x_1576), (2, 12, a0_, .int x_1575), (8, 6, q0_, .int x_1566), (2, 14, a0_, .int x_1551), (8, 8, q0_, .int x_10), (2, 0, a0_, .ref q0_), (2, 1, a0_, .ref q1_), (2, 2, a0_, .ref q2_), (2, 3, a0_, .ref q3_), (0, 0, q2_, .ref q0_), (0, 1, q2_, .ref q1_), (5, 0, q1_, .ref q3_), (5, 1, q1_, .ref q7_)]) rfl (fun fr_1586 H locs hp hMr_1586 g => ?_)
          obtain ⟨hG_1587, x_1588, h_1589, hF_1590⟩ := hp
          have hG_1591 := eOK.frame hMr_1586 go_.2.2.2.1 mq2_ kq2_ (by decide) (by decide) hG_1585
          have g := g.more hF_1590
          refine lv_aload_n hx hb dX2_readArguments_224 rfl (lv_at hl 4 rfl) ?_
          refine g_getk (C := RX2) (T := TX2) (N := 16) hx hb hts (mc_ inX2) hown hK g rfl 0 (by decide) rfl (hts _ (List.mem_cons_of_mem _ t_416)) (fun _ h9 => h9) 8 rfl dX2_readArguments_225 ?_
          refine lv_bipush (v := 59) hx hb dX2_readArguments_228 (by decide) ?_
          have go_ := g
          refine g_callv (va_runV (As := [.int 59]) (rest := []) ⟨hx, hb, hml, hown, hts⟩ (r_X8_take_2 l dC dI L kd tys fr_1586 H.size g.2.2.2.1 q0_ mq0_ kq0_ 59 x_1566 h_1567 x_10 h_11 (g.fcts [5, 7] rfl)) (cwV 1 hts (gV_ t_1098 t_1099 t_1100 t_184 t_1101) rfl rfl rfl (by decide +kernel) ⟨(Nat.le_of_ble_eq_true rfl), (Nat.le_of_ble_eq_true rfl)⟩) (pre3V g hK mq0_ kq0_ (by decide) (q := (RX8, TX8, 10)) rfl) rfl rfl hl.1 rfl (lv_room (Nat.le_of_ble_eq_true rfl)) dX2_readArguments_230 ⟨(Nat.le_of_ble_eq_true rfl), (Nat.le_of_ble_eq_true rfl)⟩) g hK (by decide) (by decide) (fx' := [(7, 6, q3_, .int x_1588), (7, 5, q3_, .ref a_1578), (7, 4, q3_, .ref a_1577), (2, 13, a0_, .int x_1576), (2, 12, a0_, .int x_1575), (2, 14, a0_, .int x_1551), (8, 8, q0_, .int x_10), (2, 0, a0_, .ref q0_), (2, 1, a0_, .ref q1_), (2, 2, a0_, .ref q2_), (2, 3, a0_, .ref q3_), (0, 0, q2_, .ref q0_), (0, 1, q2_, .ref q1_), (5, 0, q1_, .ref q3_), (5, 1, q1_, .ref q7_)]) rfl (fun fr_1592 H locs hp hMr_1592 g => ?_)
          obtain ⟨x_1593, h_1594, hF_1595⟩ := hp
          have hG_1596 := dOK.frame hMr_1592 go_.2.2.2.1 mq3_ kq3_ (by decide) (by decide) hG_1587
          have hG_1597 := eOK.frame hMr_1592 go_.2.2.2.1 mq2_ kq2_ (by decide) (by decide) hG_1591
          have g := g.more hF_1595
          subst hQ
          exact W.vret hx hb hr (fun t ht hW => ⟨⟨_, rfl, Or.inr (⟨hG_1596, hG_1597, x_1593, h_1594, x_10, h_11, (g.fcts [0, 7] rfl)⟩), q3_of g hK ht hW⟩, g.2.2.1.F ht⟩) g.2.2.1.2.2 dX2_readArguments_233
        · have fc_1573 := nle_f c_1573
          have b_1598 : bd 1 2147483647 x_1551 := ltR fc_1573 kb_0 (bdT x_1551) (by decide)
          refine lv_aload_n hx hb dX2_readArguments_188 rfl (lv_at hl 4 rfl) ?_
          refine g_getk (C := RX2) (T := TX2) (N := 16) hx hb hts (mc_ inX2) hown hK g rfl 0 (by decide) rfl (hts _ (List.mem_cons_of_mem _ t_416)) (fun _ h9 => h9) 3 rfl dX2_readArguments_189 ?_
          refine lv_bipush (v := 6) hx hb dX2_readArguments_192 (by decide) ?_
          refine lv_iload hx hb dX2_readArguments_194 (lv_at hl 0 rfl) ?_
          have kb_6 : bd 6 6 (6 : Int32) := ⟨by decide, by decide⟩
          have go_ := g
          refine g_callv (va_runV (As := [.int 6, .int r_1560]) (rest := []) ⟨hx, hb, hml, hown, hts⟩ (r_X8_fail_2 l dC dI L kd tys fr_1565 H.size g.2.2.2.1 q0_ mq0_ kq0_ 6 (bd_sub kb_6 (by decide)) r_1560 x_10 h_11 (g.fcts [2] rfl)) (cwV 2 hts (gV_ t_1122 t_1107 t_1108 t_184 t_1109) rfl rfl rfl (by decide +kernel) ⟨(Nat.le_of_ble_eq_true rfl), (Nat.le_of_ble_eq_true rfl)⟩) (pre3V g hK mq0_ kq0_ (by decide) (q := (RX8, TX8, 10)) rfl) rfl rfl hl.1 rfl (lv_room (Nat.le_of_ble_eq_true rfl)) dX2_readArguments_196 ⟨(Nat.le_of_ble_eq_true rfl), (Nat.le_of_ble_eq_true rfl)⟩) g hK (by decide) (by decide) (fx' := [(2, 14, a0_, .int x_1551), (8, 8, q0_, .int x_10), (2, 0, a0_, .ref q0_), (2, 1, a0_, .ref q1_), (2, 2, a0_, .ref q2_), (2, 3, a0_, .ref q3_), (0, 0, q2_, .ref q0_), (0, 1, q2_, .ref q1_), (5, 0, q1_, .ref q3_), (5, 1, q1_, .ref q7_)]) rfl (fun fr_1599 H locs hp hMr_1599 g => ?_)
          have hF_1600 := hp
          have hG_1601 := cOK.frame hMr_1599 go_.2.2.2.1 mq3_ kq3_ (by decide) (by decide) hG_1569
          have hG_1602 := dOK.frame hMr_1599 go_.2.2.2.1 mq3_ kq3_ (by decide) (by decide) hG_1570
          have hG_1603 := jS.frame hMr_1599 go_.2.2.2.1 mq3_ kq3_ (by decide) (by decide) hG_1571
          have hG_1604 := eOK.frame hMr_1599 go_.2.2.2.1 mq2_ kq2_ (by decide) (by decide) hG_1572
          have g := g.more hF_1600
          refine lv_aload_n hx hb dX2_readArguments_199 rfl (lv_at hl 4 rfl) ?_
          refine g_getk (C := RX2) (T := TX2) (N := 16) hx hb hts (mc_ inX2) hown hK g rfl 3 (by decide) rfl (hts _ (List.mem_cons_of_mem _ t_419)) (fun _ h9 => h9) 6 rfl dX2_readArguments_200 ?_
          refine lv_aload_n hx hb dX2_readArguments_203 rfl (lv_at hl 4 rfl) ?_
          refine g_geti (C := RX2) (T := TX2) (N := 16) hx hb hts (mc_ inX2) hown hK g ma0_ ka0_ (by decide) rfl 12 (by decide) rfl (hts _ (List.mem_cons_of_mem _ t_428)) (fun _ h9 => h9) rfl dX2_readArguments_204 (fun x_1605 bx_1605 g => ?_)
          refine lv_aload_n hx hb dX2_readArguments_207 rfl (lv_at hl 4 rfl) ?_
          refine g_geti (C := RX2) (T := TX2) (N := 16) hx hb hts (mc_ inX2) hown hK g ma0_ ka0_ (by decide) rfl 13 (by decide) rfl (hts _ (List.mem_cons_of_mem _ t_429)) (fun _ h9 => h9) rfl dX2_readArguments_208 (fun x_1606 bx_1606 g => ?_)
          obtain ⟨a_1607, ma_1607, ka_1607, g⟩ := g_factr g mq3_ kq3_ (by decide) 4 rfl
          obtain ⟨a_1608, ma_1608, ka_1608, g⟩ := g_factr g mq3_ kq3_ (by decide) 5 rfl
          obtain ⟨x_1609, bx_1609, g⟩ := g_facti g mq3_ kq3_ (by decide) 6 rfl
          have go_ := g
          refine g_callv (va_runV (As := [.int x_1605, .int x_1606]) (rest := []) ⟨hx, hb, hml, hown, hts⟩ (r_X7_emitF l dC dI L kd tys fr_1599 H.size g.2.2.2.1 q3_ mq3_ kq3_ a_1607 ma_1607 ka_1607 a_1608 ma_1608 ka_1608 x_1609 bx_1609 T_ hG_1602 x_1605 x_1606 (g.fcts [2, 1, 0] rfl)) (cwV 2 hts (gV_ t_1301 t_1204 t_1205 t_191 t_1206) rfl rfl rfl (by decide +kernel) ⟨(Nat.le_of_ble_eq_true rfl), (Nat.le_of_ble_eq_true rfl)⟩) (pre3V g hK mq3_ kq3_ (by decide) (q := (RX7, TX7, 19)) rfl) rfl rfl hl.1 rfl (lv_room (Nat.le_of_ble_eq_true rfl)) dX2_readArguments_211 ⟨(Nat.le_of_ble_eq_true rfl), (Nat.le_of_ble_eq_true rfl)⟩) g hK (by decide) (by decide) (fx' := [(7, 5, q3_, .ref a_1608), (7, 4, q3_, .ref a_1607), (2, 13, a0_, .int x_1606), (2, 12, a0_, .int x_1605), (8, 6, q0_, .int 1201), (2, 14, a0_, .int x_1551), (8, 8, q0_, .int x_10), (2, 0, a0_, .ref q0_), (2, 1, a0_, .ref q1_), (2, 2, a0_, .ref q2_), (2, 3, a0_, .ref q3_), (0, 0, q2_, .ref q0_), (0, 1, q2_, .ref q1_), (5, 0, q1_, .ref q3_), (5, 1, q1_, .ref q7_)]) rfl (fun fr_1610 H locs hp hMr_1610 g => ?_)
          obtain ⟨hG_1611, x_1612, h_1613, hF_1614⟩ := hp
          have hG_1615 := eOK.frame hMr_1610 go_.2.2.2.1 mq2_ kq2_ (by decide) (by decide) hG_1604
          have g := g.more hF_1614
          refine lv_aload_n hx hb dX2_readArguments_214 rfl (lv_at hl 4 rfl) ?_
          refine g_getk (C := RX2) (T := TX2) (N := 16) hx hb hts (mc_ inX2) hown hK g rfl 3 (by decide) rfl (hts _ (List.mem_cons_of_mem _ t_419)) (fun _ h9 => h9) 11 rfl dX2_readArguments_215 ?_
          refine lv_bipush (v := 22) hx hb dX2_readArguments_218 (by decide) ?_
          refine lv_iconst (v := 0) hx hb dX2_readArguments_220 (by decide) ?_
          have go_ := g
          refine g_callv (va_runV (As := [.int 22, .int 0]) (rest := []) ⟨hx, hb, hml, hown, hts⟩ (r_X7_emitF l dC dI L kd tys fr_1610 H.size g.2.2.2.1 q3_ mq3_ kq3_ a_1607 ma_1607 ka_1607 a_1608 ma_1608 ka_1608 x_1612 h_1613 T_ hG_1611 (22 : Int32) (0 : Int32) (g.fcts [2, 1, 0] rfl)) (cwV 2 hts (gV_ t_1301 t_1204 t_1205 t_191 t_1206) rfl rfl rfl (by decide +kernel) ⟨(Nat.le_of_ble_eq_true rfl), (Nat.le_of_ble_eq_true rfl)⟩) (pre3V g hK mq3_ kq3_ (by decide) (q := (RX7, TX7, 19)) rfl) rfl rfl hl.1 rfl (lv_room (Nat.le_of_ble_eq_true rfl)) dX2_readArguments_221 ⟨(Nat.le_of_ble_eq_true rfl), (Nat.le_of_ble_eq_true rfl)⟩) g hK (by decide) (by decide) (fx' := [(7, 5, q3_, .ref a_1608), (7, 4, q3_, .ref a_1607), (2, 13, a0_, .int x_1606), (2, 12, a0_, .int x_1605), (8, 6, q0_, .int 1201), (2, 14, a0_, .int x_1551), (8, 8, q0_, .int x_10), (2, 0, a0_, .ref q0_), (2, 1, a0_, .ref q1_), (2, 2, a0_, .ref q2_), (2, 3, a0_, .ref q3_), (0, 0, q2_, .ref q0_), (0, 1, q2_, .ref q1_), (5, 0, q1_, .ref q3_), (5, 1, q1_, .ref q7_)]) rfl (fun fr_1616 H locs hp hMr_1616 g => ?_)
          obtain ⟨hG_1617, x_1618, h_1619, hF_1620⟩ := hp
          have hG_1621 := eOK.frame hMr_1616 go_.2.2.2.1 mq2_ kq2_ (by decide) (by decide) hG_1615
          have g := g.more hF_1620
          refine lv_aload_n hx hb dX2_readArguments_224 rfl (lv_at hl 4 rfl) ?_
          refine g_getk (C := RX2) (T := TX2) (N := 16) hx hb hts (mc_ inX2) hown hK g rfl 0 (by decide) rfl (hts _ (List.mem_cons_of_mem _ t_416)) (fun _ h9 => h9) 8 rfl dX2_readArguments_225 ?_
          refine lv_bipush (v := 59) hx hb dX2_readArguments_228 (by decide) ?_
          have go_ := g
          refine g_callv (va_runV (As := [.int 59]) (rest := []) ⟨hx, hb, hml, hown, hts⟩ (r_X8_take_2 l dC dI L kd tys fr_1616 H.size g.2.2.2.1 q0_ mq0_ kq0_ 59 1201 kb_1201 x_10 h_11 (g.fcts [5, 7] rfl)) (cwV 1 hts (gV_ t_1098 t_1099 t_1100 t_184 t_1101) rfl rfl rfl (by decide +kernel) ⟨(Nat.le_of_ble_eq_true rfl), (Nat.le_of_ble_eq_true rfl)⟩) (pre3V g hK mq0_ kq0_ (by decide) (q := (RX8, TX8, 10)) rfl) rfl rfl hl.1 rfl (lv_room (Nat.le_of_ble_eq_true rfl)) dX2_readArguments_230 ⟨(Nat.le_of_ble_eq_true rfl), (Nat.le_of_ble_eq_true rfl)⟩) g hK (by decide) (by decide) (fx' := [(7, 6, q3_, .int x_1618), (7, 5, q3_, .ref a_1608), (7, 4, q3_, .ref a_1607), (2, 13, a0_, .int x_1606), (2, 12, a0_, .int x_1605), (2, 14, a0_, .int x_1551), (8, 8, q0_, .int x_10), (2, 0, a0_, .ref q0_), (2, 1, a0_, .ref q1_), (2, 2, a0_, .ref q2_), (2, 3, a0_, .ref q3_), (0, 0, q2_, .ref q0_), (0, 1, q2_, .ref q1_), (5, 0, q1_, .ref q3_), (5, 1, q1_, .ref q7_)]) rfl (fun fr_1622 H locs hp hMr_1622 g => ?_)
          obtain ⟨x_1623, h_1624, hF_1625⟩ := hp
          have hG_1626 := dOK.frame hMr_1622 go_.2.2.2.1 mq3_ kq3_ (by decide) (by decide) hG_1617
          have hG_1627 := eOK.frame hMr_1622 go_.2.2.2.1 mq2_ kq2_ (by decide) (by decide) hG_1621
          have g := g.more hF_1625
          subst hQ
          exact W.vret hx hb hr (fun t ht hW => ⟨⟨_, rfl, Or.inr (⟨hG_1626, hG_1627, x_1623, h_1624, x_10, h_11, (g.fcts [0, 7] rfl)⟩), q3_of g hK ht hW⟩, g.2.2.1.F ht⟩) g.2.2.1.2.2 dX2_readArguments_233
      · have fc_1559 := eq_f c_1559
        have b_1628 : bd 1 0 x_10 := eqX fc_1559 h_11 kb_0 (by decide)
        exact bd_no b_1628 (by decide)
    · have fc_1552 := eq_f c_1552
      have b_1629 : bd 0 0 x_1551 := eqX fc_1552 (bdT x_1551) kb_0 (by decide)
      refine lv_aload_n hx hb dX2_readArguments_24 rfl (lv_at hl 1 rfl) ?_
      refine g_getk (C := RX2) (T := TX2) (N := 16) hx hb hts (mc_ inX2) hown hK g rfl 0 (by decide) rfl (hts _ (List.mem_cons_of_mem _ t_416)) (fun _ h9 => h9) 3 rfl dX2_readArguments_25 ?_
      have kb_1201 : bd 1201 1201 (1201 : Int32) := ⟨by decide, by decide⟩
      have go_ := g
      refine g_calli (va_runV (As := []) (rest := []) ⟨hx, hb, hml, hown, hts⟩ (r_X8_kind_2 l dC dI L kd tys fr_6 H.size g.2.2.2.1 q0_ mq0_ kq0_ 1201 kb_1201 (g.fcts [1] rfl)) (cwV 0 hts (gV_ t_1118 t_1119 t_1120 t_184 t_1121) rfl rfl rfl (by decide +kernel) ⟨(Nat.le_of_ble_eq_true rfl), (Nat.le_of_ble_eq_true rfl)⟩) (pre3V g hK mq0_ kq0_ (by decide) (q := (RX8, TX8, 10)) rfl) rfl rfl hl.1 rfl (lv_room (Nat.le_of_ble_eq_true rfl)) dX2_readArguments_28 ⟨(Nat.le_of_ble_eq_true rfl), (Nat.le_of_ble_eq_true rfl)⟩) g hK (by decide) (by decide) (fx' := [(2, 14, a0_, .int x_1551), (8, 6, q0_, .int 1201), (8, 8, q0_, .int x_10), (2, 0, a0_, .ref q0_), (2, 1, a0_, .ref q1_), (2, 2, a0_, .ref q2_), (2, 3, a0_, .ref q3_), (0, 0, q2_, .ref q0_), (0, 1, q2_, .ref q1_), (5, 0, q1_, .ref q3_), (5, 1, q1_, .ref q7_)]) rfl (fun r_1630 fr_1630 H locs hp hMr_1630 g => ?_)
      obtain ⟨h_1631, -⟩ := hp
      have hG_1632 := cOK.frame hMr_1630 go_.2.2.2.1 mq3_ kq3_ (by decide) (by decide) hG_1547
      have hG_1633 := dOK.frame hMr_1630 go_.2.2.2.1 mq3_ kq3_ (by decide) (by decide) hG_1548
      have hG_1634 := jS.frame hMr_1630 go_.2.2.2.1 mq3_ kq3_ (by decide) (by decide) hG_1549
      have hG_1635 := eOK.frame hMr_1630 go_.2.2.2.1 mq2_ kq2_ (by decide) (by decide) hG_1550
      obtain rfl : r_1630 = 0 := h_1631
      refine lv_bipush (v := 41) hx hb dX2_readArguments_31 (by decide) ?_
      refine lv_icmp_eq (tgt := 46) hx hb dX2_readArguments_33 (by decide) (fun c_ => absurd c_ (by decide)) (fun c_ => ?_)
      refine lv_aload_n hx hb dX2_readArguments_36 rfl (lv_at hl 1 rfl) ?_
      refine g_getk (C := RX2) (T := TX2) (N := 16) hx hb hts (mc_ inX2) hown hK g rfl 0 (by decide) rfl (hts _ (List.mem_cons_of_mem _ t_416)) (fun _ h9 => h9) 3 rfl dX2_readArguments_37 ?_
      refine lv_bipush (v := 6) hx hb dX2_readArguments_40 (by decide) ?_
      refine lv_iload_n hx hb dX2_readArguments_42 rfl (lv_at hl 0 rfl) ?_
      have kb_6 : bd 6 6 (6 : Int32) := ⟨by decide, by decide⟩
      have go_ := g
      refine g_callv (va_runV (As := [.int 6, .int r_1]) (rest := []) ⟨hx, hb, hml, hown, hts⟩ (r_X8_fail_2 l dC dI L kd tys fr_1630 H.size g.2.2.2.1 q0_ mq0_ kq0_ 6 (bd_sub kb_6 (by decide)) r_1 x_10 h_11 (g.fcts [2] rfl)) (cwV 2 hts (gV_ t_1122 t_1107 t_1108 t_184 t_1109) rfl rfl rfl (by decide +kernel) ⟨(Nat.le_of_ble_eq_true rfl), (Nat.le_of_ble_eq_true rfl)⟩) (pre3V g hK mq0_ kq0_ (by decide) (q := (RX8, TX8, 10)) rfl) rfl rfl hl.1 rfl (lv_room (Nat.le_of_ble_eq_true rfl)) dX2_readArguments_43 ⟨(Nat.le_of_ble_eq_true rfl), (Nat.le_of_ble_eq_true rfl)⟩) g hK (by decide) (by decide) (fx' := [(2, 14, a0_, .int x_1551), (8, 8, q0_, .int x_10), (2, 0, a0_, .ref q0_), (2, 1, a0_, .ref q1_), (2, 2, a0_, .ref q2_), (2, 3, a0_, .ref q3_), (0, 0, q2_, .ref q0_), (0, 1, q2_, .ref q1_), (5, 0, q1_, .ref q3_), (5, 1, q1_, .ref q7_)]) rfl (fun fr_1636 H locs hp hMr_1636 g => ?_)
      have hF_1637 := hp
      have hG_1638 := cOK.frame hMr_1636 go_.2.2.2.1 mq3_ kq3_ (by decide) (by decide) hG_1632
      have hG_1639 := dOK.frame hMr_1636 go_.2.2.2.1 mq3_ kq3_ (by decide) (by decide) hG_1633
      have hG_1640 := jS.frame hMr_1636 go_.2.2.2.1 mq3_ kq3_ (by decide) (by decide) hG_1634
      have hG_1641 := eOK.frame hMr_1636 go_.2.2.2.1 mq2_ kq2_ (by decide) (by decide) hG_1635
      have g := g.more hF_1637
      refine lv_iconst (v := 0) hx hb dX2_readArguments_46 (by decide) ?_
      refine lv_istore_n (lv' := [(2, .int 0), (1, .int r_1), (0, .ref a0_)]) hx hb dX2_readArguments_47 rfl hl (by decide) rfl (fun ls hl => ?_)
      refine lv_aload_n hx hb dX2_readArguments_48 rfl (lv_at hl 2 rfl) ?_
      refine g_getk (C := RX2) (T := TX2) (N := 16) hx hb hts (mc_ inX2) hown hK g rfl 0 (by decide) rfl (hts _ (List.mem_cons_of_mem _ t_416)) (fun _ h9 => h9) 3 rfl dX2_readArguments_49 ?_
      have go_ := g
      refine g_calli (va_runV (As := []) (rest := []) ⟨hx, hb, hml, hown, hts⟩ (r_X8_kind_2 l dC dI L kd tys fr_1636 H.size g.2.2.2.1 q0_ mq0_ kq0_ 1201 kb_1201 (g.fcts [0] rfl)) (cwV 0 hts (gV_ t_1118 t_1119 t_1120 t_184 t_1121) rfl rfl rfl (by decide +kernel) ⟨(Nat.le_of_ble_eq_true rfl), (Nat.le_of_ble_eq_true rfl)⟩) (pre3V g hK mq0_ kq0_ (by decide) (q := (RX8, TX8, 10)) rfl) rfl rfl hl.1 rfl (lv_room (Nat.le_of_ble_eq_true rfl)) dX2_readArguments_52 ⟨(Nat.le_of_ble_eq_true rfl), (Nat.le_of_ble_eq_true rfl)⟩) g hK (by decide) (by decide) (fx' := [(8, 6, q0_, .int 1201), (2, 14, a0_, .int x_1551), (8, 8, q0_, .int x_10), (2, 0, a0_, .ref q0_), (2, 1, a0_, .ref q1_), (2, 2, a0_, .ref q2_), (2, 3, a0_, .ref q3_), (0, 0, q2_, .ref q0_), (0, 1, q2_, .ref q1_), (5, 0, q1_, .ref q3_), (5, 1, q1_, .ref q7_)]) rfl (fun r_1642 fr_1642 H locs hp hMr_1642 g => ?_)
      obtain ⟨h_1643, -⟩ := hp
      have hG_1644 := cOK.frame hMr_1642 go_.2.2.2.1 mq3_ kq3_ (by decide) (by decide) hG_1638
      have hG_1645 := dOK.frame hMr_1642 go_.2.2.2.1 mq3_ kq3_ (by decide) (by decide) hG_1639
      have hG_1646 := jS.frame hMr_1642 go_.2.2.2.1 mq3_ kq3_ (by decide) (by decide) hG_1640
      have hG_1647 := eOK.frame hMr_1642 go_.2.2.2.1 mq2_ kq2_ (by decide) (by decide) hG_1641
      obtain rfl : r_1642 = 0 := h_1643
      refine lv_bipush (v := 41) hx hb dX2_readArguments_55 (by decide) ?_
      refine lv_icmp_eq (tgt := 64) hx hb dX2_readArguments_57 (by decide) (fun c_ => absurd c_ (by decide)) (fun c_ => ?_)
      refine lv_iconst (v := 1) hx hb dX2_readArguments_60 (by decide) ?_
      refine lv_goto (tgt := 65) hx hb dX2_readArguments_61 (by decide) ?_
      refine lv_istore_n (lv' := [(3, .int 1), (2, .int 0), (1, .int r_1), (0, .ref a0_)]) hx hb dX2_readArguments_65 rfl hl (by decide) rfl (fun ls hl => ?_)
      refine lv_iconst (v := 0) hx hb dX2_readArguments_66 (by decide) ?_
      refine lv_istore (lv' := [(4, .int 0), (3, .int 1), (2, .int 0), (1, .int r_1), (0, .ref a0_)]) hx hb dX2_readArguments_67 hl (by decide) rfl (fun ls hl => ?_)
      refine lv_iload hx hb dX2_readArguments_69 (lv_at hl 0 rfl) ?_
      refine lv_iconst (v := 3) hx hb dX2_readArguments_71 (by decide) ?_
      refine lv_icmp_gt (tgt := 162) hx hb dX2_readArguments_72 (by decide) (fun c_ => absurd c_ (by decide)) (fun c_ => ?_)
      refine lv_iload_n hx hb dX2_readArguments_75 rfl (lv_at hl 1 rfl) ?_
      refine lv_if_eq (tgt := 162) hx hb dX2_readArguments_76 (by decide) (fun c_ => absurd c_ (by decide)) (fun c_ => ?_)
      refine lv_aload_n hx hb dX2_readArguments_79 rfl (lv_at hl 4 rfl) ?_
      refine g_getk (C := RX2) (T := TX2) (N := 16) hx hb hts (mc_ inX2) hown hK g rfl 0 (by decide) rfl (hts _ (List.mem_cons_of_mem _ t_416)) (fun _ h9 => h9) 3 rfl dX2_readArguments_80 ?_
      refine g_getk (C := RX8) (T := TX8) (N := 10) hx hb hts (mc_ inX8) hown hK g rfl 8 (by decide) rfl (hts _ (List.mem_cons_of_mem _ t_294)) (fun _ h9 => h9) 2 rfl dX2_readArguments_83 ?_
      refine lv_if_ne (tgt := 162) hx hb dX2_readArguments_86 (by decide) (fun c_1648 => ?_) (fun c_1648 => ?_)
      · have fc_1648 := neq_f c_1648
        refine lv_aload_n hx hb dX2_readArguments_162 rfl (lv_at hl 4 rfl) ?_
        refine g_getk (C := RX2) (T := TX2) (N := 16) hx hb hts (mc_ inX2) hown hK g rfl 0 (by decide) rfl (hts _ (List.mem_cons_of_mem _ t_416)) (fun _ h9 => h9) 3 rfl dX2_readArguments_163 ?_
        have go_ := g
        refine g_calli (va_runV (As := []) (rest := []) ⟨hx, hb, hml, hown, hts⟩ (r_X8_place l dC dI L kd tys fr_1642 H.size g.2.2.2.1 q0_ mq0_ kq0_) (cwV 0 hts (gV_ t_1110 t_1111 t_1112 t_184 t_1113) rfl rfl rfl (by decide +kernel) ⟨(Nat.le_of_ble_eq_true rfl), (Nat.le_of_ble_eq_true rfl)⟩) (pre3V g hK mq0_ kq0_ (by decide) (q := (RX8, TX8, 10)) rfl) rfl rfl hl.1 rfl (lv_room (Nat.le_of_ble_eq_true rfl)) dX2_readArguments_166 ⟨(Nat.le_of_ble_eq_true rfl), (Nat.le_of_ble_eq_true rfl)⟩) g hK (by decide) (by decide) (fx' := [(8, 6, q0_, .int 1201), (2, 14, a0_, .int x_1551), (8, 8, q0_, .int x_10), (2, 0, a0_, .ref q0_), (2, 1, a0_, .ref q1_), (2, 2, a0_, .ref q2_), (2, 3, a0_, .ref q3_), (0, 0, q2_, .ref q0_), (0, 1, q2_, .ref q1_), (5, 0, q1_, .ref q3_), (5, 1, q1_, .ref q7_)]) rfl (fun r_1649 fr_1649 H locs hp hMr_1649 g => ?_)
        have hG_1650 := cOK.frame hMr_1649 go_.2.2.2.1 mq3_ kq3_ (by decide) (by decide) hG_1644
        have hG_1651 := dOK.frame hMr_1649 go_.2.2.2.1 mq3_ kq3_ (by decide) (by decide) hG_1645
        have hG_1652 := jS.frame hMr_1649 go_.2.2.2.1 mq3_ kq3_ (by decide) (by decide) hG_1646
        have hG_1653 := eOK.frame hMr_1649 go_.2.2.2.1 mq2_ kq2_ (by decide) (by decide) hG_1647
        refine lv_istore (lv' := [(4, .int r_1649), (3, .int 1), (2, .int 0), (1, .int r_1), (0, .ref a0_)]) hx hb dX2_readArguments_169 hl (by decide) rfl (fun ls hl => ?_)
        refine lv_aload_n hx hb dX2_readArguments_171 rfl (lv_at hl 4 rfl) ?_
        refine g_getk (C := RX2) (T := TX2) (N := 16) hx hb hts (mc_ inX2) hown hK g rfl 0 (by decide) rfl (hts _ (List.mem_cons_of_mem _ t_416)) (fun _ h9 => h9) 3 rfl dX2_readArguments_172 ?_
        refine lv_bipush (v := 41) hx hb dX2_readArguments_175 (by decide) ?_
        have go_ := g
        refine g_callv (va_runV (As := [.int 41]) (rest := []) ⟨hx, hb, hml, hown, hts⟩ (r_X8_take_2 l dC dI L kd tys fr_1649 H.size g.2.2.2.1 q0_ mq0_ kq0_ 41 1201 kb_1201 x_10 h_11 (g.fcts [0, 2] rfl)) (cwV 1 hts (gV_ t_1098 t_1099 t_1100 t_184 t_1101) rfl rfl rfl (by decide +kernel) ⟨(Nat.le_of_ble_eq_true rfl), (Nat.le_of_ble_eq_true rfl)⟩) (pre3V g hK mq0_ kq0_ (by decide) (q := (RX8, TX8, 10)) rfl) rfl rfl hl.1 rfl (lv_room (Nat.le_of_ble_eq_true rfl)) dX2_readArguments_177 ⟨(Nat.le_of_ble_eq_true rfl), (Nat.le_of_ble_eq_true rfl)⟩) g hK (by decide) (by decide) (fx' := [(2, 14, a0_, .int x_1551), (8, 8, q0_, .int x_10), (2, 0, a0_, .ref q0_), (2, 1, a0_, .ref q1_), (2, 2, a0_, .ref q2_), (2, 3, a0_, .ref q3_), (0, 0, q2_, .ref q0_), (0, 1, q2_, .ref q1_), (5, 0, q1_, .ref q3_), (5, 1, q1_, .ref q7_)]) rfl (fun fr_1654 H locs hp hMr_1654 g => ?_)
        obtain ⟨x_1655, h_1656, hF_1657⟩ := hp
        have hG_1658 := cOK.frame hMr_1654 go_.2.2.2.1 mq3_ kq3_ (by decide) (by decide) hG_1650
        have hG_1659 := dOK.frame hMr_1654 go_.2.2.2.1 mq3_ kq3_ (by decide) (by decide) hG_1651
        have hG_1660 := jS.frame hMr_1654 go_.2.2.2.1 mq3_ kq3_ (by decide) (by decide) hG_1652
        have hG_1661 := eOK.frame hMr_1654 go_.2.2.2.1 mq2_ kq2_ (by decide) (by decide) hG_1653
        have g := g.more hF_1657
        refine lv_iload_n hx hb dX2_readArguments_180 rfl (lv_at hl 2 rfl) ?_
        refine lv_aload_n hx hb dX2_readArguments_181 rfl (lv_at hl 4 rfl) ?_
        refine g_getk (C := RX2) (T := TX2) (N := 16) hx hb hts (mc_ inX2) hown hK g rfl 14 (by decide) rfl (hts _ (List.mem_cons_of_mem _ t_430)) (fun _ h9 => h9) 1 rfl dX2_readArguments_182 ?_
        refine lv_icmp_ge (tgt := 199) hx hb dX2_readArguments_185 (by decide) (fun c_1662 => ?_) (fun c_1662 => ?_)
        · have fc_1662 := le_f c_1662
          refine lv_aload_n hx hb dX2_readArguments_199 rfl (lv_at hl 4 rfl) ?_
          refine g_getk (C := RX2) (T := TX2) (N := 16) hx hb hts (mc_ inX2) hown hK g rfl 3 (by decide) rfl (hts _ (List.mem_cons_of_mem _ t_419)) (fun _ h9 => h9) 6 rfl dX2_readArguments_200 ?_
          refine lv_aload_n hx hb dX2_readArguments_203 rfl (lv_at hl 4 rfl) ?_
          refine g_geti (C := RX2) (T := TX2) (N := 16) hx hb hts (mc_ inX2) hown hK g ma0_ ka0_ (by decide) rfl 12 (by decide) rfl (hts _ (List.mem_cons_of_mem _ t_428)) (fun _ h9 => h9) rfl dX2_readArguments_204 (fun x_1663 bx_1663 g => ?_)
          refine lv_aload_n hx hb dX2_readArguments_207 rfl (lv_at hl 4 rfl) ?_
          refine g_geti (C := RX2) (T := TX2) (N := 16) hx hb hts (mc_ inX2) hown hK g ma0_ ka0_ (by decide) rfl 13 (by decide) rfl (hts _ (List.mem_cons_of_mem _ t_429)) (fun _ h9 => h9) rfl dX2_readArguments_208 (fun x_1664 bx_1664 g => ?_)
          obtain ⟨a_1665, ma_1665, ka_1665, g⟩ := g_factr g mq3_ kq3_ (by decide) 4 rfl
          obtain ⟨a_1666, ma_1666, ka_1666, g⟩ := g_factr g mq3_ kq3_ (by decide) 5 rfl
          obtain ⟨x_1667, bx_1667, g⟩ := g_facti g mq3_ kq3_ (by decide) 6 rfl
          have go_ := g
          refine g_callv (va_runV (As := [.int x_1663, .int x_1664]) (rest := []) ⟨hx, hb, hml, hown, hts⟩ (r_X7_emitF l dC dI L kd tys fr_1654 H.size g.2.2.2.1 q3_ mq3_ kq3_ a_1665 ma_1665 ka_1665 a_1666 ma_1666 ka_1666 x_1667 bx_1667 T_ hG_1659 x_1663 x_1664 (g.fcts [2, 1, 0] rfl)) (cwV 2 hts (gV_ t_1301 t_1204 t_1205 t_191 t_1206) rfl rfl rfl (by decide +kernel) ⟨(Nat.le_of_ble_eq_true rfl), (Nat.le_of_ble_eq_true rfl)⟩) (pre3V g hK mq3_ kq3_ (by decide) (q := (RX7, TX7, 19)) rfl) rfl rfl hl.1 rfl (lv_room (Nat.le_of_ble_eq_true rfl)) dX2_readArguments_211 ⟨(Nat.le_of_ble_eq_true rfl), (Nat.le_of_ble_eq_true rfl)⟩) g hK (by decide) (by decide) (fx' := [(7, 5, q3_, .ref a_1666), (7, 4, q3_, .ref a_1665), (2, 13, a0_, .int x_1664), (2, 12, a0_, .int x_1663), (8, 6, q0_, .int x_1655), (2, 14, a0_, .int x_1551), (8, 8, q0_, .int x_10), (2, 0, a0_, .ref q0_), (2, 1, a0_, .ref q1_), (2, 2, a0_, .ref q2_), (2, 3, a0_, .ref q3_), (0, 0, q2_, .ref q0_), (0, 1, q2_, .ref q1_), (5, 0, q1_, .ref q3_), (5, 1, q1_, .ref q7_)]) rfl (fun fr_1668 H locs hp hMr_1668 g => ?_)
          obtain ⟨hG_1669, x_1670, h_1671, hF_1672⟩ := hp
          have hG_1673 := eOK.frame hMr_1668 go_.2.2.2.1 mq2_ kq2_ (by decide) (by decide) hG_1661
          have g := g.more hF_1672
          refine lv_aload_n hx hb dX2_readArguments_214 rfl (lv_at hl 4 rfl) ?_
          refine g_getk (C := RX2) (T := TX2) (N := 16) hx hb hts (mc_ inX2) hown hK g rfl 3 (by decide) rfl (hts _ (List.mem_cons_of_mem _ t_419)) (fun _ h9 => h9) 11 rfl dX2_readArguments_215 ?_
          refine lv_bipush (v := 22) hx hb dX2_readArguments_218 (by decide) ?_
          refine lv_iconst (v := 0) hx hb dX2_readArguments_220 (by decide) ?_
          have go_ := g
          refine g_callv (va_runV (As := [.int 22, .int 0]) (rest := []) ⟨hx, hb, hml, hown, hts⟩ (r_X7_emitF l dC dI L kd tys fr_1668 H.size g.2.2.2.1 q3_ mq3_ kq3_ a_1665 ma_1665 ka_1665 a_1666 ma_1666 ka_1666 x_1670 h_1671 T_ hG_1669 (22 : Int32) (0 : Int32) (g.fcts [2, 1, 0] rfl)) (cwV 2 hts (gV_ t_1301 t_1204 t_1205 t_191 t_1206) rfl rfl rfl (by decide +kernel) ⟨(Nat.le_of_ble_eq_true rfl), (Nat.le_of_ble_eq_true rfl)⟩) (pre3V g hK mq3_ kq3_ (by decide) (q := (RX7, TX7, 19)) rfl) rfl rfl hl.1 rfl (lv_room (Nat.le_of_ble_eq_true rfl)) dX2_readArguments_221 ⟨(Nat.le_of_ble_eq_true rfl), (Nat.le_of_ble_eq_true rfl)⟩) g hK (by decide) (by decide) (fx' := [(7, 5, q3_, .ref a_1666), (7, 4, q3_, .ref a_1665), (2, 13, a0_, .int x_1664), (2, 12, a0_, .int x_1663), (8, 6, q0_, .int x_1655), (2, 14, a0_, .int x_1551), (8, 8, q0_, .int x_10), (2, 0, a0_, .ref q0_), (2, 1, a0_, .ref q1_), (2, 2, a0_, .ref q2_), (2, 3, a0_, .ref q3_), (0, 0, q2_, .ref q0_), (0, 1, q2_, .ref q1_), (5, 0, q1_, .ref q3_), (5, 1, q1_, .ref q7_)]) rfl (fun fr_1674 H locs hp hMr_1674 g => ?_)
          obtain ⟨hG_1675, x_1676, h_1677, hF_1678⟩ := hp
          have hG_1679 := eOK.frame hMr_1674 go_.2.2.2.1 mq2_ kq2_ (by decide) (by decide) hG_1673
          have g := g.more hF_1678
          refine lv_aload_n hx hb dX2_readArguments_224 rfl (lv_at hl 4 rfl) ?_
          refine g_getk (C := RX2) (T := TX2) (N := 16) hx hb hts (mc_ inX2) hown hK g rfl 0 (by decide) rfl (hts _ (List.mem_cons_of_mem _ t_416)) (fun _ h9 => h9) 8 rfl dX2_readArguments_225 ?_
          refine lv_bipush (v := 59) hx hb dX2_readArguments_228 (by decide) ?_
          have go_ := g
          refine g_callv (va_runV (As := [.int 59]) (rest := []) ⟨hx, hb, hml, hown, hts⟩ (r_X8_take_2 l dC dI L kd tys fr_1674 H.size g.2.2.2.1 q0_ mq0_ kq0_ 59 x_1655 h_1656 x_10 h_11 (g.fcts [5, 7] rfl)) (cwV 1 hts (gV_ t_1098 t_1099 t_1100 t_184 t_1101) rfl rfl rfl (by decide +kernel) ⟨(Nat.le_of_ble_eq_true rfl), (Nat.le_of_ble_eq_true rfl)⟩) (pre3V g hK mq0_ kq0_ (by decide) (q := (RX8, TX8, 10)) rfl) rfl rfl hl.1 rfl (lv_room (Nat.le_of_ble_eq_true rfl)) dX2_readArguments_230 ⟨(Nat.le_of_ble_eq_true rfl), (Nat.le_of_ble_eq_true rfl)⟩) g hK (by decide) (by decide) (fx' := [(7, 6, q3_, .int x_1676), (7, 5, q3_, .ref a_1666), (7, 4, q3_, .ref a_1665), (2, 13, a0_, .int x_1664), (2, 12, a0_, .int x_1663), (2, 14, a0_, .int x_1551), (8, 8, q0_, .int x_10), (2, 0, a0_, .ref q0_), (2, 1, a0_, .ref q1_), (2, 2, a0_, .ref q2_), (2, 3, a0_, .ref q3_), (0, 0, q2_, .ref q0_), (0, 1, q2_, .ref q1_), (5, 0, q1_, .ref q3_), (5, 1, q1_, .ref q7_)]) rfl (fun fr_1680 H locs hp hMr_1680 g => ?_)
          obtain ⟨x_1681, h_1682, hF_1683⟩ := hp
          have hG_1684 := dOK.frame hMr_1680 go_.2.2.2.1 mq3_ kq3_ (by decide) (by decide) hG_1675
          have hG_1685 := eOK.frame hMr_1680 go_.2.2.2.1 mq2_ kq2_ (by decide) (by decide) hG_1679
          have g := g.more hF_1683
          subst hQ
          exact W.vret hx hb hr (fun t ht hW => ⟨⟨_, rfl, Or.inr (⟨hG_1684, hG_1685, x_1681, h_1682, x_10, h_11, (g.fcts [0, 7] rfl)⟩), q3_of g hK ht hW⟩, g.2.2.1.F ht⟩) g.2.2.1.2.2 dX2_readArguments_233
        · have fc_1662 := nle_f c_1662
          have b_1686 : bd 0 (-1) (0 : Int32) := ltL fc_1662 kb_0 b_1629 (by decide)
          exact bd_no (eqX rfl b_1686 kb_0 (lo := 0) (hi := (-1)) (by decide)) (by decide)
      · have fc_1648 := eq_f c_1648
        have b_1687 : bd 1 0 x_10 := eqX fc_1648 h_11 kb_0 (by decide)
        exact bd_no b_1687 (by decide)
