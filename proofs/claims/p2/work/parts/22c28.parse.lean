set_option maxHeartbeats 4000000 in
set_option maxRecDepth 100000 in
theorem r_X2_readArguments_2 (l : Launch) (dC : Nat → ClassId) (dI : Nat → Nat → Nat) (L : List Nat) (kd : Nat → Nat) (tys : List (ClassId × FieldType)) (f0 : Nat → va_E) (sz : Nat) (hWT : WT L kd tys f0) (a0_ : Nat) (ma0_ : a0_ ∈ L) (ka0_ : kd a0_ = 2) (q0_ : Nat) (mq0_ : q0_ ∈ L) (kq0_ : kd q0_ = 8) (q1_ : Nat) (mq1_ : q1_ ∈ L) (kq1_ : kd q1_ = 5) (q2_ : Nat) (mq2_ : q2_ ∈ L) (kq2_ : kd q2_ = 0) (q3_ : Nat) (mq3_ : q3_ ∈ L) (kq3_ : kd q3_ = 7) (q6_ : Nat) (mq6_ : q6_ ∈ L) (kq6_ : kd q6_ = 7) (q7_ : Nat) (mq7_ : q7_ ∈ L) (kq7_ : kd q7_ = 9) (y0_ : Int32) (by0_ : bd 0 0 y0_) (hGeq2_ : eOK f0 q2_) (hfx : Fs L kd f0 [(2, 0, a0_, .ref q0_), (2, 1, a0_, .ref q1_), (2, 2, a0_, .ref q2_), (2, 3, a0_, .ref q3_), (0, 0, q2_, .ref q0_), (0, 1, q2_, .ref q1_), (5, 0, q1_, .ref q6_), (5, 1, q1_, .ref q7_), (8, 8, q0_, .int y0_)]) : Met l yX2_readArguments (.code yX2_readArguments cX2_readArguments 6 none :: lw_g) ({ frames := 4, cells := 0, slots := 0, locals := 97 }) (va_Pc [.ref a0_] (P3 (dC, dI) L tys f0 sz)) (va_Qv (fun (f : Nat → va_E) => (eOK f q2_ ∧ ∃ z0_ : Int32, bd 1 1201 z0_ ∧ ∃ z1_ : Int32, bd 0 0 z1_ ∧ ∃ z2_ : Int32, bd 1 2000 z2_ ∧ Fs L kd f [(8, 6, q0_, .int z0_), (8, 8, q0_, .int z1_), (7, 6, q3_, .int z2_)]) ∨ (eOK f q2_ ∧ ∃ z0_ : Int32, bd 1201 1201 z0_ ∧ ∃ z1_ : Int32, bd 1 7 z1_ ∧ ∃ z2_ : Int32, bd 1 2000 z2_ ∧ Fs L kd f [(8, 6, q0_, .int z0_), (8, 8, q0_, .int z1_), (7, 6, q3_, .int z2_)])) (Q3 (dC, dI) L kd tys [(0, 2), (0, 8), (0, 10), (0, 11), (0, 12), (0, 13), (7, 6), (7, 18), (8, 6), (8, 8), (8, 9)] [110, 111, 112, 113, 114, 115, 138, 139] f0 sz) (pA L sz)) 0 0 (pA L sz) := by
  refine Met.ofW (cc := cX2_readArguments) (maxL := 6) (ret := none) (by decide) rfl ?_
  intro p e s m args below meth c s₁ B hml hv
  obtain ⟨rfl, hsz, hP, hK, hD0⟩ := hv
  have hx := B.exec
  have hb := B.bytes
  have hr := B.returns
  have hts := atoms_spec (ws := (.code yX2_readArguments cX2_readArguments 6 none :: lw_g)) B.pre
  have hown : s.vm.findClass RX2 = some m.cls := findClass_of_methodNamed B.named
  have hlocks := B.notSynchronized
  subst hsz
  have g : G3 (dC, dI) L kd tys s f0 [(0, 2), (0, 8), (0, 10), (0, 11), (0, 12), (0, 13), (7, 6), (7, 18), (8, 6), (8, 8), (8, 9)] [110, 111, 112, 113, 114, 115, 138, 139] f0 s.heap [] [(2, 0, a0_, .ref q0_), (2, 1, a0_, .ref q1_), (2, 2, a0_, .ref q2_), (2, 3, a0_, .ref q3_), (0, 0, q2_, .ref q0_), (0, 1, q2_, .ref q1_), (5, 0, q1_, .ref q6_), (5, 1, q1_, .ref q7_), (8, 8, q0_, .int y0_)] := G3.start hP hD0 hWT hfx
  have hl := lv_entry ([.ref a0_]) (n := 6) (Nat.le_of_ble_eq_true rfl)
  rw [lg_entry_eq]
  generalize (lg_sl ([.ref a0_]) ++ List.replicate (6 - (lg_sl ([.ref a0_])).length) Slot.unset).toArray = ls at hl ⊢
  have hl : lv_has ls 6 [(0, .ref a0_)] := hl
  refine W_q (fun Q hQ => ?_)
  refine lv_aload_n hx hb dX2_readArguments_0 rfl (lv_at hl 0 rfl) ?_
  refine g_getk (C := RX2) (T := TX2) (N := 16) hx hb hts (mc_ inX2) hown hK g rfl 0 (by decide) rfl (hts _ (List.mem_cons_of_mem _ t_416)) (fun _ h9 => h9) 0 rfl dX2_readArguments_1 ?_
  have go_ := g
  refine g_calli (va_runV (As := []) (rest := []) ⟨hx, hb, hml, hown, hts⟩ (r_X8_place l dC dI L kd tys f0 s.heap.size g.2.2.2.1 q0_ mq0_ kq0_) (cwV 0 hts (gV_ t_1110 t_1111 t_1112 t_184 t_1113) rfl rfl rfl (by decide +kernel) ⟨(Nat.le_of_ble_eq_true rfl), (Nat.le_of_ble_eq_true rfl)⟩) (pre3V g hK mq0_ kq0_ (by decide) (q := (RX8, TX8, 10)) rfl) rfl rfl hl.1 rfl (lv_room (Nat.le_of_ble_eq_true rfl)) dX2_readArguments_4 ⟨(Nat.le_of_ble_eq_true rfl), (Nat.le_of_ble_eq_true rfl)⟩) g hK (by decide) (by decide) (fx' := [(2, 0, a0_, .ref q0_), (2, 1, a0_, .ref q1_), (2, 2, a0_, .ref q2_), (2, 3, a0_, .ref q3_), (0, 0, q2_, .ref q0_), (0, 1, q2_, .ref q1_), (5, 0, q1_, .ref q6_), (5, 1, q1_, .ref q7_), (8, 8, q0_, .int y0_)]) rfl (fun r_1 fr_1 H locs hp hMr_1 g => ?_)
  have hG_2 := eOK.frame hMr_1 go_.2.2.2.1 mq2_ kq2_ (by decide) (by decide) hGeq2_
  refine lv_istore_n (lv' := [(1, .int r_1), (0, .ref a0_)]) hx hb dX2_readArguments_7 rfl hl (by decide) rfl (fun ls hl => ?_)
  refine lv_aload_n hx hb dX2_readArguments_8 rfl (lv_at hl 1 rfl) ?_
  refine g_getk (C := RX2) (T := TX2) (N := 16) hx hb hts (mc_ inX2) hown hK g rfl 0 (by decide) rfl (hts _ (List.mem_cons_of_mem _ t_416)) (fun _ h9 => h9) 0 rfl dX2_readArguments_9 ?_
  refine lv_bipush (v := 40) hx hb dX2_readArguments_12 (by decide) ?_
  have go_ := g
  refine g_callv (va_runV (As := [.int 40]) (rest := []) ⟨hx, hb, hml, hown, hts⟩ (r_X8_take l dC dI L kd tys fr_1 H.size g.2.2.2.1 q0_ mq0_ kq0_ 40 y0_ by0_ (g.fcts [8] rfl)) (cwV 1 hts (gV_ t_1098 t_1099 t_1100 t_184 t_1101) rfl rfl rfl (by decide +kernel) ⟨(Nat.le_of_ble_eq_true rfl), (Nat.le_of_ble_eq_true rfl)⟩) (pre3V g hK mq0_ kq0_ (by decide) (q := (RX8, TX8, 10)) rfl) rfl rfl hl.1 rfl (lv_room (Nat.le_of_ble_eq_true rfl)) dX2_readArguments_14 ⟨(Nat.le_of_ble_eq_true rfl), (Nat.le_of_ble_eq_true rfl)⟩) g hK (by decide) (by decide) (fx' := [(2, 0, a0_, .ref q0_), (2, 1, a0_, .ref q1_), (2, 2, a0_, .ref q2_), (2, 3, a0_, .ref q3_), (0, 0, q2_, .ref q0_), (0, 1, q2_, .ref q1_), (5, 0, q1_, .ref q6_), (5, 1, q1_, .ref q7_)]) rfl (fun fr_3 H locs hp hMr_3 g => ?_)
  rcases hp with ⟨x_4, h_5, x_6, h_7, hF_8⟩ | ⟨x_9, h_10, hF_11⟩
  · have hG_12 := eOK.frame hMr_3 go_.2.2.2.1 mq2_ kq2_ (by decide) (by decide) hG_2
    have g := g.more hF_8
    refine lv_aload_n hx hb dX2_readArguments_17 rfl (lv_at hl 1 rfl) ?_
    refine g_geti (C := RX2) (T := TX2) (N := 16) hx hb hts (mc_ inX2) hown hK g ma0_ ka0_ (by decide) rfl 14 (by decide) rfl (hts _ (List.mem_cons_of_mem _ t_430)) (fun _ h9 => h9) rfl dX2_readArguments_18 (fun x_13 bx_13 g => ?_)
    have kb_0 : bd 0 0 (0 : Int32) := ⟨by decide, by decide⟩
    refine lv_if_ne (tgt := 46) hx hb dX2_readArguments_21 (by decide) (fun c_14 => ?_) (fun c_14 => ?_)
    · have fc_14 := neq_f c_14
      refine lv_iconst (v := 0) hx hb dX2_readArguments_46 (by decide) ?_
      refine lv_istore_n (lv' := [(2, .int 0), (1, .int r_1), (0, .ref a0_)]) hx hb dX2_readArguments_47 rfl hl (by decide) rfl (fun ls hl => ?_)
      refine lv_aload_n hx hb dX2_readArguments_48 rfl (lv_at hl 2 rfl) ?_
      refine g_getk (C := RX2) (T := TX2) (N := 16) hx hb hts (mc_ inX2) hown hK g rfl 0 (by decide) rfl (hts _ (List.mem_cons_of_mem _ t_416)) (fun _ h9 => h9) 3 rfl dX2_readArguments_49 ?_
      have go_ := g
      refine g_calli (va_runV (As := []) (rest := []) ⟨hx, hb, hml, hown, hts⟩ (r_X8_kind l dC dI L kd tys fr_3 H.size g.2.2.2.1 q0_ mq0_ kq0_) (cwV 0 hts (gV_ t_1118 t_1119 t_1120 t_184 t_1121) rfl rfl rfl (by decide +kernel) ⟨(Nat.le_of_ble_eq_true rfl), (Nat.le_of_ble_eq_true rfl)⟩) (pre3V g hK mq0_ kq0_ (by decide) (q := (RX8, TX8, 10)) rfl) rfl rfl hl.1 rfl (lv_room (Nat.le_of_ble_eq_true rfl)) dX2_readArguments_52 ⟨(Nat.le_of_ble_eq_true rfl), (Nat.le_of_ble_eq_true rfl)⟩) g hK (by decide) (by decide) (fx' := [(2, 14, a0_, .int x_13), (8, 6, q0_, .int x_4), (8, 8, q0_, .int x_6), (2, 0, a0_, .ref q0_), (2, 1, a0_, .ref q1_), (2, 2, a0_, .ref q2_), (2, 3, a0_, .ref q3_), (0, 0, q2_, .ref q0_), (0, 1, q2_, .ref q1_), (5, 0, q1_, .ref q6_), (5, 1, q1_, .ref q7_)]) rfl (fun r_15 fr_15 H locs hp hMr_15 g => ?_)
      have hG_16 := eOK.frame hMr_15 go_.2.2.2.1 mq2_ kq2_ (by decide) (by decide) hG_12
      refine lv_bipush (v := 41) hx hb dX2_readArguments_55 (by decide) ?_
      have kb_41 : bd 41 41 (41 : Int32) := ⟨by decide, by decide⟩
      refine lv_icmp_eq (tgt := 64) hx hb dX2_readArguments_57 (by decide) (fun c_17 => ?_) (fun c_17 => ?_)
      · have fc_17 := eq_f c_17
        have b_18 : bd 41 41 r_15 := eqX fc_17 (bdT r_15) kb_41 (by decide)
        refine lv_iconst (v := 0) hx hb dX2_readArguments_64 (by decide) ?_
        refine lv_istore_n (lv' := [(3, .int 0), (2, .int 0), (1, .int r_1), (0, .ref a0_)]) hx hb dX2_readArguments_65 rfl hl (by decide) rfl (fun ls hl => ?_)
        refine lv_iconst (v := 0) hx hb dX2_readArguments_66 (by decide) ?_
        refine lv_istore (lv' := [(4, .int 0), (3, .int 0), (2, .int 0), (1, .int r_1), (0, .ref a0_)]) hx hb dX2_readArguments_67 hl (by decide) rfl (fun ls hl => ?_)
        refine lv_iload hx hb dX2_readArguments_69 (lv_at hl 0 rfl) ?_
        refine lv_iconst (v := 3) hx hb dX2_readArguments_71 (by decide) ?_
        refine lv_icmp_gt (tgt := 162) hx hb dX2_readArguments_72 (by decide) (fun c_ => absurd c_ (by decide)) (fun c_ => ?_)
        refine lv_iload_n hx hb dX2_readArguments_75 rfl (lv_at hl 1 rfl) ?_
        refine lv_if_eq (tgt := 162) hx hb dX2_readArguments_76 (by decide) (fun c_ => ?_) (fun c_ => absurd (by decide) c_)
        refine lv_aload_n hx hb dX2_readArguments_162 rfl (lv_at hl 4 rfl) ?_
        refine g_getk (C := RX2) (T := TX2) (N := 16) hx hb hts (mc_ inX2) hown hK g rfl 0 (by decide) rfl (hts _ (List.mem_cons_of_mem _ t_416)) (fun _ h9 => h9) 3 rfl dX2_readArguments_163 ?_
        have go_ := g
        refine g_calli (va_runV (As := []) (rest := []) ⟨hx, hb, hml, hown, hts⟩ (r_X8_place l dC dI L kd tys fr_15 H.size g.2.2.2.1 q0_ mq0_ kq0_) (cwV 0 hts (gV_ t_1110 t_1111 t_1112 t_184 t_1113) rfl rfl rfl (by decide +kernel) ⟨(Nat.le_of_ble_eq_true rfl), (Nat.le_of_ble_eq_true rfl)⟩) (pre3V g hK mq0_ kq0_ (by decide) (q := (RX8, TX8, 10)) rfl) rfl rfl hl.1 rfl (lv_room (Nat.le_of_ble_eq_true rfl)) dX2_readArguments_166 ⟨(Nat.le_of_ble_eq_true rfl), (Nat.le_of_ble_eq_true rfl)⟩) g hK (by decide) (by decide) (fx' := [(2, 14, a0_, .int x_13), (8, 6, q0_, .int x_4), (8, 8, q0_, .int x_6), (2, 0, a0_, .ref q0_), (2, 1, a0_, .ref q1_), (2, 2, a0_, .ref q2_), (2, 3, a0_, .ref q3_), (0, 0, q2_, .ref q0_), (0, 1, q2_, .ref q1_), (5, 0, q1_, .ref q6_), (5, 1, q1_, .ref q7_)]) rfl (fun r_19 fr_19 H locs hp hMr_19 g => ?_)
        have hG_20 := eOK.frame hMr_19 go_.2.2.2.1 mq2_ kq2_ (by decide) (by decide) hG_16
        refine lv_istore (lv' := [(4, .int r_19), (3, .int 0), (2, .int 0), (1, .int r_1), (0, .ref a0_)]) hx hb dX2_readArguments_169 hl (by decide) rfl (fun ls hl => ?_)
        refine lv_aload_n hx hb dX2_readArguments_171 rfl (lv_at hl 4 rfl) ?_
        refine g_getk (C := RX2) (T := TX2) (N := 16) hx hb hts (mc_ inX2) hown hK g rfl 0 (by decide) rfl (hts _ (List.mem_cons_of_mem _ t_416)) (fun _ h9 => h9) 3 rfl dX2_readArguments_172 ?_
        refine lv_bipush (v := 41) hx hb dX2_readArguments_175 (by decide) ?_
        have go_ := g
        refine g_callv (va_runV (As := [.int 41]) (rest := []) ⟨hx, hb, hml, hown, hts⟩ (r_X8_take l dC dI L kd tys fr_19 H.size g.2.2.2.1 q0_ mq0_ kq0_ 41 x_6 h_7 (g.fcts [2] rfl)) (cwV 1 hts (gV_ t_1098 t_1099 t_1100 t_184 t_1101) rfl rfl rfl (by decide +kernel) ⟨(Nat.le_of_ble_eq_true rfl), (Nat.le_of_ble_eq_true rfl)⟩) (pre3V g hK mq0_ kq0_ (by decide) (q := (RX8, TX8, 10)) rfl) rfl rfl hl.1 rfl (lv_room (Nat.le_of_ble_eq_true rfl)) dX2_readArguments_177 ⟨(Nat.le_of_ble_eq_true rfl), (Nat.le_of_ble_eq_true rfl)⟩) g hK (by decide) (by decide) (fx' := [(2, 14, a0_, .int x_13), (2, 0, a0_, .ref q0_), (2, 1, a0_, .ref q1_), (2, 2, a0_, .ref q2_), (2, 3, a0_, .ref q3_), (0, 0, q2_, .ref q0_), (0, 1, q2_, .ref q1_), (5, 0, q1_, .ref q6_), (5, 1, q1_, .ref q7_)]) rfl (fun fr_21 H locs hp hMr_21 g => ?_)
        rcases hp with ⟨x_22, h_23, x_24, h_25, hF_26⟩ | ⟨x_27, h_28, hF_29⟩
        · have hG_30 := eOK.frame hMr_21 go_.2.2.2.1 mq2_ kq2_ (by decide) (by decide) hG_20
          have g := g.more hF_26
          refine lv_iload_n hx hb dX2_readArguments_180 rfl (lv_at hl 2 rfl) ?_
          refine lv_aload_n hx hb dX2_readArguments_181 rfl (lv_at hl 4 rfl) ?_
          refine g_getk (C := RX2) (T := TX2) (N := 16) hx hb hts (mc_ inX2) hown hK g rfl 14 (by decide) rfl (hts _ (List.mem_cons_of_mem _ t_430)) (fun _ h9 => h9) 2 rfl dX2_readArguments_182 ?_
          refine lv_icmp_ge (tgt := 199) hx hb dX2_readArguments_185 (by decide) (fun c_31 => ?_) (fun c_31 => ?_)
          · have fc_31 := le_f c_31
            have b_32 : bd (-2147483648) 0 x_13 := leL fc_31 (bdT x_13) kb_0 (by decide)
            refine lv_aload_n hx hb dX2_readArguments_199 rfl (lv_at hl 4 rfl) ?_
            refine g_getk (C := RX2) (T := TX2) (N := 16) hx hb hts (mc_ inX2) hown hK g rfl 3 (by decide) rfl (hts _ (List.mem_cons_of_mem _ t_419)) (fun _ h9 => h9) 6 rfl dX2_readArguments_200 ?_
            refine lv_aload_n hx hb dX2_readArguments_203 rfl (lv_at hl 4 rfl) ?_
            refine g_geti (C := RX2) (T := TX2) (N := 16) hx hb hts (mc_ inX2) hown hK g ma0_ ka0_ (by decide) rfl 12 (by decide) rfl (hts _ (List.mem_cons_of_mem _ t_428)) (fun _ h9 => h9) rfl dX2_readArguments_204 (fun x_33 bx_33 g => ?_)
            refine lv_aload_n hx hb dX2_readArguments_207 rfl (lv_at hl 4 rfl) ?_
            refine g_geti (C := RX2) (T := TX2) (N := 16) hx hb hts (mc_ inX2) hown hK g ma0_ ka0_ (by decide) rfl 13 (by decide) rfl (hts _ (List.mem_cons_of_mem _ t_429)) (fun _ h9 => h9) rfl dX2_readArguments_208 (fun x_34 bx_34 g => ?_)
            have go_ := g
            refine g_callv (va_runV (As := [.int x_33, .int x_34]) (rest := []) ⟨hx, hb, hml, hown, hts⟩ (r_X7_emit l dC dI L kd tys fr_21 H.size g.2.2.2.1 q3_ mq3_ kq3_ x_33 x_34) (cwV 2 hts (gV_ t_1301 t_1204 t_1205 t_191 t_1206) rfl rfl rfl (by decide +kernel) ⟨(Nat.le_of_ble_eq_true rfl), (Nat.le_of_ble_eq_true rfl)⟩) (pre3V g hK mq3_ kq3_ (by decide) (q := (RX7, TX7, 19)) rfl) rfl rfl hl.1 rfl (lv_room (Nat.le_of_ble_eq_true rfl)) dX2_readArguments_211 ⟨(Nat.le_of_ble_eq_true rfl), (Nat.le_of_ble_eq_true rfl)⟩) g hK (by decide) (by decide) (fx' := [(2, 13, a0_, .int x_34), (2, 12, a0_, .int x_33), (8, 6, q0_, .int x_22), (8, 8, q0_, .int x_24), (2, 14, a0_, .int x_13), (2, 0, a0_, .ref q0_), (2, 1, a0_, .ref q1_), (2, 2, a0_, .ref q2_), (2, 3, a0_, .ref q3_), (0, 0, q2_, .ref q0_), (0, 1, q2_, .ref q1_), (5, 0, q1_, .ref q6_), (5, 1, q1_, .ref q7_)]) rfl (fun fr_35 H locs hp hMr_35 g => ?_)
            obtain ⟨x_36, h_37, hF_38⟩ := hp
            have hG_39 := eOK.frame hMr_35 go_.2.2.2.1 mq2_ kq2_ (by decide) (by decide) hG_30
            have g := g.more hF_38
            refine lv_aload_n hx hb dX2_readArguments_214 rfl (lv_at hl 4 rfl) ?_
            refine g_getk (C := RX2) (T := TX2) (N := 16) hx hb hts (mc_ inX2) hown hK g rfl 3 (by decide) rfl (hts _ (List.mem_cons_of_mem _ t_419)) (fun _ h9 => h9) 9 rfl dX2_readArguments_215 ?_
            refine lv_bipush (v := 22) hx hb dX2_readArguments_218 (by decide) ?_
            refine lv_iconst (v := 0) hx hb dX2_readArguments_220 (by decide) ?_
            have go_ := g
            refine g_callv (va_runV (As := [.int 22, .int 0]) (rest := []) ⟨hx, hb, hml, hown, hts⟩ (r_X7_emit l dC dI L kd tys fr_35 H.size g.2.2.2.1 q3_ mq3_ kq3_ 22 0) (cwV 2 hts (gV_ t_1301 t_1204 t_1205 t_191 t_1206) rfl rfl rfl (by decide +kernel) ⟨(Nat.le_of_ble_eq_true rfl), (Nat.le_of_ble_eq_true rfl)⟩) (pre3V g hK mq3_ kq3_ (by decide) (q := (RX7, TX7, 19)) rfl) rfl rfl hl.1 rfl (lv_room (Nat.le_of_ble_eq_true rfl)) dX2_readArguments_221 ⟨(Nat.le_of_ble_eq_true rfl), (Nat.le_of_ble_eq_true rfl)⟩) g hK (by decide) (by decide) (fx' := [(2, 13, a0_, .int x_34), (2, 12, a0_, .int x_33), (8, 6, q0_, .int x_22), (8, 8, q0_, .int x_24), (2, 14, a0_, .int x_13), (2, 0, a0_, .ref q0_), (2, 1, a0_, .ref q1_), (2, 2, a0_, .ref q2_), (2, 3, a0_, .ref q3_), (0, 0, q2_, .ref q0_), (0, 1, q2_, .ref q1_), (5, 0, q1_, .ref q6_), (5, 1, q1_, .ref q7_)]) rfl (fun fr_40 H locs hp hMr_40 g => ?_)
            obtain ⟨x_41, h_42, hF_43⟩ := hp
            have hG_44 := eOK.frame hMr_40 go_.2.2.2.1 mq2_ kq2_ (by decide) (by decide) hG_39
            have g := g.more hF_43
            refine lv_aload_n hx hb dX2_readArguments_224 rfl (lv_at hl 4 rfl) ?_
            refine g_getk (C := RX2) (T := TX2) (N := 16) hx hb hts (mc_ inX2) hown hK g rfl 0 (by decide) rfl (hts _ (List.mem_cons_of_mem _ t_416)) (fun _ h9 => h9) 6 rfl dX2_readArguments_225 ?_
            refine lv_bipush (v := 59) hx hb dX2_readArguments_228 (by decide) ?_
            have go_ := g
            refine g_callv (va_runV (As := [.int 59]) (rest := []) ⟨hx, hb, hml, hown, hts⟩ (r_X8_take l dC dI L kd tys fr_40 H.size g.2.2.2.1 q0_ mq0_ kq0_ 59 x_24 h_25 (g.fcts [4] rfl)) (cwV 1 hts (gV_ t_1098 t_1099 t_1100 t_184 t_1101) rfl rfl rfl (by decide +kernel) ⟨(Nat.le_of_ble_eq_true rfl), (Nat.le_of_ble_eq_true rfl)⟩) (pre3V g hK mq0_ kq0_ (by decide) (q := (RX8, TX8, 10)) rfl) rfl rfl hl.1 rfl (lv_room (Nat.le_of_ble_eq_true rfl)) dX2_readArguments_230 ⟨(Nat.le_of_ble_eq_true rfl), (Nat.le_of_ble_eq_true rfl)⟩) g hK (by decide) (by decide) (fx' := [(7, 6, q3_, .int x_41), (2, 13, a0_, .int x_34), (2, 12, a0_, .int x_33), (2, 14, a0_, .int x_13), (2, 0, a0_, .ref q0_), (2, 1, a0_, .ref q1_), (2, 2, a0_, .ref q2_), (2, 3, a0_, .ref q3_), (0, 0, q2_, .ref q0_), (0, 1, q2_, .ref q1_), (5, 0, q1_, .ref q6_), (5, 1, q1_, .ref q7_)]) rfl (fun fr_45 H locs hp hMr_45 g => ?_)
            rcases hp with ⟨x_46, h_47, x_48, h_49, hF_50⟩ | ⟨x_51, h_52, hF_53⟩
            · have hG_54 := eOK.frame hMr_45 go_.2.2.2.1 mq2_ kq2_ (by decide) (by decide) hG_44
              have g := g.more hF_50
              subst hQ
              exact W.vret hx hb hr (fun t ht hW => ⟨⟨_, rfl, Or.inl ⟨hG_54, x_46, h_47, x_48, h_49, x_41, h_42, (g.fcts [0, 1, 2] rfl)⟩, q3_of g hK ht hW⟩, g.2.2.1.F ht⟩) g.2.2.1.2.2 dX2_readArguments_233
            · have hG_55 := eOK.frame hMr_45 go_.2.2.2.1 mq2_ kq2_ (by decide) (by decide) hG_44
              have g := g.more hF_53
              have kb_1201 : bd 1201 1201 (1201 : Int32) := ⟨by decide, by decide⟩
              subst hQ
              exact W.vret hx hb hr (fun t ht hW => ⟨⟨_, rfl, Or.inr (⟨hG_55, 1201, kb_1201, x_51, h_52, x_41, h_42, (g.fcts [0, 1, 2] rfl)⟩), q3_of g hK ht hW⟩, g.2.2.1.F ht⟩) g.2.2.1.2.2 dX2_readArguments_233
          · have fc_31 := nle_f c_31
            have b_56 : bd 1 2147483647 x_13 := ltR fc_31 kb_0 (bdT x_13) (by decide)
            refine lv_aload_n hx hb dX2_readArguments_188 rfl (lv_at hl 4 rfl) ?_
            refine g_getk (C := RX2) (T := TX2) (N := 16) hx hb hts (mc_ inX2) hown hK g rfl 0 (by decide) rfl (hts _ (List.mem_cons_of_mem _ t_416)) (fun _ h9 => h9) 3 rfl dX2_readArguments_189 ?_
            refine lv_bipush (v := 6) hx hb dX2_readArguments_192 (by decide) ?_
            refine lv_iload hx hb dX2_readArguments_194 (lv_at hl 0 rfl) ?_
            have kb_6 : bd 6 6 (6 : Int32) := ⟨by decide, by decide⟩
            have go_ := g
            refine g_callv (va_runV (As := [.int 6, .int r_19]) (rest := []) ⟨hx, hb, hml, hown, hts⟩ (r_X8_fail l dC dI L kd tys fr_21 H.size g.2.2.2.1 q0_ mq0_ kq0_ 6 (bd_sub kb_6 (by decide)) r_19 x_24 h_25 (g.fcts [1] rfl)) (cwV 2 hts (gV_ t_1122 t_1107 t_1108 t_184 t_1109) rfl rfl rfl (by decide +kernel) ⟨(Nat.le_of_ble_eq_true rfl), (Nat.le_of_ble_eq_true rfl)⟩) (pre3V g hK mq0_ kq0_ (by decide) (q := (RX8, TX8, 10)) rfl) rfl rfl hl.1 rfl (lv_room (Nat.le_of_ble_eq_true rfl)) dX2_readArguments_196 ⟨(Nat.le_of_ble_eq_true rfl), (Nat.le_of_ble_eq_true rfl)⟩) g hK (by decide) (by decide) (fx' := [(2, 14, a0_, .int x_13), (2, 0, a0_, .ref q0_), (2, 1, a0_, .ref q1_), (2, 2, a0_, .ref q2_), (2, 3, a0_, .ref q3_), (0, 0, q2_, .ref q0_), (0, 1, q2_, .ref q1_), (5, 0, q1_, .ref q6_), (5, 1, q1_, .ref q7_)]) rfl (fun fr_57 H locs hp hMr_57 g => ?_)
            obtain ⟨x_58, h_59, hF_60⟩ := hp
            have hG_61 := eOK.frame hMr_57 go_.2.2.2.1 mq2_ kq2_ (by decide) (by decide) hG_30
            have g := g.more hF_60
            refine lv_aload_n hx hb dX2_readArguments_199 rfl (lv_at hl 4 rfl) ?_
            refine g_getk (C := RX2) (T := TX2) (N := 16) hx hb hts (mc_ inX2) hown hK g rfl 3 (by decide) rfl (hts _ (List.mem_cons_of_mem _ t_419)) (fun _ h9 => h9) 6 rfl dX2_readArguments_200 ?_
            refine lv_aload_n hx hb dX2_readArguments_203 rfl (lv_at hl 4 rfl) ?_
            refine g_geti (C := RX2) (T := TX2) (N := 16) hx hb hts (mc_ inX2) hown hK g ma0_ ka0_ (by decide) rfl 12 (by decide) rfl (hts _ (List.mem_cons_of_mem _ t_428)) (fun _ h9 => h9) rfl dX2_readArguments_204 (fun x_62 bx_62 g => ?_)
            refine lv_aload_n hx hb dX2_readArguments_207 rfl (lv_at hl 4 rfl) ?_
            refine g_geti (C := RX2) (T := TX2) (N := 16) hx hb hts (mc_ inX2) hown hK g ma0_ ka0_ (by decide) rfl 13 (by decide) rfl (hts _ (List.mem_cons_of_mem _ t_429)) (fun _ h9 => h9) rfl dX2_readArguments_208 (fun x_63 bx_63 g => ?_)
            have go_ := g
            refine g_callv (va_runV (As := [.int x_62, .int x_63]) (rest := []) ⟨hx, hb, hml, hown, hts⟩ (r_X7_emit l dC dI L kd tys fr_57 H.size g.2.2.2.1 q3_ mq3_ kq3_ x_62 x_63) (cwV 2 hts (gV_ t_1301 t_1204 t_1205 t_191 t_1206) rfl rfl rfl (by decide +kernel) ⟨(Nat.le_of_ble_eq_true rfl), (Nat.le_of_ble_eq_true rfl)⟩) (pre3V g hK mq3_ kq3_ (by decide) (q := (RX7, TX7, 19)) rfl) rfl rfl hl.1 rfl (lv_room (Nat.le_of_ble_eq_true rfl)) dX2_readArguments_211 ⟨(Nat.le_of_ble_eq_true rfl), (Nat.le_of_ble_eq_true rfl)⟩) g hK (by decide) (by decide) (fx' := [(2, 13, a0_, .int x_63), (2, 12, a0_, .int x_62), (8, 6, q0_, .int 1201), (8, 8, q0_, .int x_58), (2, 14, a0_, .int x_13), (2, 0, a0_, .ref q0_), (2, 1, a0_, .ref q1_), (2, 2, a0_, .ref q2_), (2, 3, a0_, .ref q3_), (0, 0, q2_, .ref q0_), (0, 1, q2_, .ref q1_), (5, 0, q1_, .ref q6_), (5, 1, q1_, .ref q7_)]) rfl (fun fr_64 H locs hp hMr_64 g => ?_)
            obtain ⟨x_65, h_66, hF_67⟩ := hp
            have hG_68 := eOK.frame hMr_64 go_.2.2.2.1 mq2_ kq2_ (by decide) (by decide) hG_61
            have g := g.more hF_67
            refine lv_aload_n hx hb dX2_readArguments_214 rfl (lv_at hl 4 rfl) ?_
            refine g_getk (C := RX2) (T := TX2) (N := 16) hx hb hts (mc_ inX2) hown hK g rfl 3 (by decide) rfl (hts _ (List.mem_cons_of_mem _ t_419)) (fun _ h9 => h9) 9 rfl dX2_readArguments_215 ?_
            refine lv_bipush (v := 22) hx hb dX2_readArguments_218 (by decide) ?_
            refine lv_iconst (v := 0) hx hb dX2_readArguments_220 (by decide) ?_
            have go_ := g
            refine g_callv (va_runV (As := [.int 22, .int 0]) (rest := []) ⟨hx, hb, hml, hown, hts⟩ (r_X7_emit l dC dI L kd tys fr_64 H.size g.2.2.2.1 q3_ mq3_ kq3_ 22 0) (cwV 2 hts (gV_ t_1301 t_1204 t_1205 t_191 t_1206) rfl rfl rfl (by decide +kernel) ⟨(Nat.le_of_ble_eq_true rfl), (Nat.le_of_ble_eq_true rfl)⟩) (pre3V g hK mq3_ kq3_ (by decide) (q := (RX7, TX7, 19)) rfl) rfl rfl hl.1 rfl (lv_room (Nat.le_of_ble_eq_true rfl)) dX2_readArguments_221 ⟨(Nat.le_of_ble_eq_true rfl), (Nat.le_of_ble_eq_true rfl)⟩) g hK (by decide) (by decide) (fx' := [(2, 13, a0_, .int x_63), (2, 12, a0_, .int x_62), (8, 6, q0_, .int 1201), (8, 8, q0_, .int x_58), (2, 14, a0_, .int x_13), (2, 0, a0_, .ref q0_), (2, 1, a0_, .ref q1_), (2, 2, a0_, .ref q2_), (2, 3, a0_, .ref q3_), (0, 0, q2_, .ref q0_), (0, 1, q2_, .ref q1_), (5, 0, q1_, .ref q6_), (5, 1, q1_, .ref q7_)]) rfl (fun fr_69 H locs hp hMr_69 g => ?_)
            obtain ⟨x_70, h_71, hF_72⟩ := hp
            have hG_73 := eOK.frame hMr_69 go_.2.2.2.1 mq2_ kq2_ (by decide) (by decide) hG_68
            have g := g.more hF_72
            refine lv_aload_n hx hb dX2_readArguments_224 rfl (lv_at hl 4 rfl) ?_
            refine g_getk (C := RX2) (T := TX2) (N := 16) hx hb hts (mc_ inX2) hown hK g rfl 0 (by decide) rfl (hts _ (List.mem_cons_of_mem _ t_416)) (fun _ h9 => h9) 6 rfl dX2_readArguments_225 ?_
            refine lv_bipush (v := 59) hx hb dX2_readArguments_228 (by decide) ?_
            have kb_1201 : bd 1201 1201 (1201 : Int32) := ⟨by decide, by decide⟩
            have go_ := g
            refine g_callv (va_runV (As := [.int 59]) (rest := []) ⟨hx, hb, hml, hown, hts⟩ (r_X8_take_2 l dC dI L kd tys fr_69 H.size g.2.2.2.1 q0_ mq0_ kq0_ 59 1201 kb_1201 x_58 h_59 (g.fcts [3, 4] rfl)) (cwV 1 hts (gV_ t_1098 t_1099 t_1100 t_184 t_1101) rfl rfl rfl (by decide +kernel) ⟨(Nat.le_of_ble_eq_true rfl), (Nat.le_of_ble_eq_true rfl)⟩) (pre3V g hK mq0_ kq0_ (by decide) (q := (RX8, TX8, 10)) rfl) rfl rfl hl.1 rfl (lv_room (Nat.le_of_ble_eq_true rfl)) dX2_readArguments_230 ⟨(Nat.le_of_ble_eq_true rfl), (Nat.le_of_ble_eq_true rfl)⟩) g hK (by decide) (by decide) (fx' := [(7, 6, q3_, .int x_70), (2, 13, a0_, .int x_63), (2, 12, a0_, .int x_62), (8, 8, q0_, .int x_58), (2, 14, a0_, .int x_13), (2, 0, a0_, .ref q0_), (2, 1, a0_, .ref q1_), (2, 2, a0_, .ref q2_), (2, 3, a0_, .ref q3_), (0, 0, q2_, .ref q0_), (0, 1, q2_, .ref q1_), (5, 0, q1_, .ref q6_), (5, 1, q1_, .ref q7_)]) rfl (fun fr_74 H locs hp hMr_74 g => ?_)
            obtain ⟨x_75, h_76, hF_77⟩ := hp
            have hG_78 := eOK.frame hMr_74 go_.2.2.2.1 mq2_ kq2_ (by decide) (by decide) hG_73
            have g := g.more hF_77
            subst hQ
            exact W.vret hx hb hr (fun t ht hW => ⟨⟨_, rfl, Or.inr (⟨hG_78, x_75, h_76, x_58, h_59, x_70, h_71, (g.fcts [0, 4, 1] rfl)⟩), q3_of g hK ht hW⟩, g.2.2.1.F ht⟩) g.2.2.1.2.2 dX2_readArguments_233
        · have hG_79 := eOK.frame hMr_21 go_.2.2.2.1 mq2_ kq2_ (by decide) (by decide) hG_20
          have g := g.more hF_29
          refine lv_iload_n hx hb dX2_readArguments_180 rfl (lv_at hl 2 rfl) ?_
          refine lv_aload_n hx hb dX2_readArguments_181 rfl (lv_at hl 4 rfl) ?_
          refine g_getk (C := RX2) (T := TX2) (N := 16) hx hb hts (mc_ inX2) hown hK g rfl 14 (by decide) rfl (hts _ (List.mem_cons_of_mem _ t_430)) (fun _ h9 => h9) 2 rfl dX2_readArguments_182 ?_
          refine lv_icmp_ge (tgt := 199) hx hb dX2_readArguments_185 (by decide) (fun c_80 => ?_) (fun c_80 => ?_)
          · have fc_80 := le_f c_80
            have b_81 : bd (-2147483648) 0 x_13 := leL fc_80 (bdT x_13) kb_0 (by decide)
            refine lv_aload_n hx hb dX2_readArguments_199 rfl (lv_at hl 4 rfl) ?_
            refine g_getk (C := RX2) (T := TX2) (N := 16) hx hb hts (mc_ inX2) hown hK g rfl 3 (by decide) rfl (hts _ (List.mem_cons_of_mem _ t_419)) (fun _ h9 => h9) 6 rfl dX2_readArguments_200 ?_
            refine lv_aload_n hx hb dX2_readArguments_203 rfl (lv_at hl 4 rfl) ?_
            refine g_geti (C := RX2) (T := TX2) (N := 16) hx hb hts (mc_ inX2) hown hK g ma0_ ka0_ (by decide) rfl 12 (by decide) rfl (hts _ (List.mem_cons_of_mem _ t_428)) (fun _ h9 => h9) rfl dX2_readArguments_204 (fun x_82 bx_82 g => ?_)
            refine lv_aload_n hx hb dX2_readArguments_207 rfl (lv_at hl 4 rfl) ?_
            refine g_geti (C := RX2) (T := TX2) (N := 16) hx hb hts (mc_ inX2) hown hK g ma0_ ka0_ (by decide) rfl 13 (by decide) rfl (hts _ (List.mem_cons_of_mem _ t_429)) (fun _ h9 => h9) rfl dX2_readArguments_208 (fun x_83 bx_83 g => ?_)
            have go_ := g
            refine g_callv (va_runV (As := [.int x_82, .int x_83]) (rest := []) ⟨hx, hb, hml, hown, hts⟩ (r_X7_emit l dC dI L kd tys fr_21 H.size g.2.2.2.1 q3_ mq3_ kq3_ x_82 x_83) (cwV 2 hts (gV_ t_1301 t_1204 t_1205 t_191 t_1206) rfl rfl rfl (by decide +kernel) ⟨(Nat.le_of_ble_eq_true rfl), (Nat.le_of_ble_eq_true rfl)⟩) (pre3V g hK mq3_ kq3_ (by decide) (q := (RX7, TX7, 19)) rfl) rfl rfl hl.1 rfl (lv_room (Nat.le_of_ble_eq_true rfl)) dX2_readArguments_211 ⟨(Nat.le_of_ble_eq_true rfl), (Nat.le_of_ble_eq_true rfl)⟩) g hK (by decide) (by decide) (fx' := [(2, 13, a0_, .int x_83), (2, 12, a0_, .int x_82), (8, 6, q0_, .int 1201), (8, 8, q0_, .int x_27), (2, 14, a0_, .int x_13), (2, 0, a0_, .ref q0_), (2, 1, a0_, .ref q1_), (2, 2, a0_, .ref q2_), (2, 3, a0_, .ref q3_), (0, 0, q2_, .ref q0_), (0, 1, q2_, .ref q1_), (5, 0, q1_, .ref q6_), (5, 1, q1_, .ref q7_)]) rfl (fun fr_84 H locs hp hMr_84 g => ?_)
            obtain ⟨x_85, h_86, hF_87⟩ := hp
            have hG_88 := eOK.frame hMr_84 go_.2.2.2.1 mq2_ kq2_ (by decide) (by decide) hG_79
            have g := g.more hF_87
            refine lv_aload_n hx hb dX2_readArguments_214 rfl (lv_at hl 4 rfl) ?_
            refine g_getk (C := RX2) (T := TX2) (N := 16) hx hb hts (mc_ inX2) hown hK g rfl 3 (by decide) rfl (hts _ (List.mem_cons_of_mem _ t_419)) (fun _ h9 => h9) 9 rfl dX2_readArguments_215 ?_
            refine lv_bipush (v := 22) hx hb dX2_readArguments_218 (by decide) ?_
            refine lv_iconst (v := 0) hx hb dX2_readArguments_220 (by decide) ?_
            have go_ := g
            refine g_callv (va_runV (As := [.int 22, .int 0]) (rest := []) ⟨hx, hb, hml, hown, hts⟩ (r_X7_emit l dC dI L kd tys fr_84 H.size g.2.2.2.1 q3_ mq3_ kq3_ 22 0) (cwV 2 hts (gV_ t_1301 t_1204 t_1205 t_191 t_1206) rfl rfl rfl (by decide +kernel) ⟨(Nat.le_of_ble_eq_true rfl), (Nat.le_of_ble_eq_true rfl)⟩) (pre3V g hK mq3_ kq3_ (by decide) (q := (RX7, TX7, 19)) rfl) rfl rfl hl.1 rfl (lv_room (Nat.le_of_ble_eq_true rfl)) dX2_readArguments_221 ⟨(Nat.le_of_ble_eq_true rfl), (Nat.le_of_ble_eq_true rfl)⟩) g hK (by decide) (by decide) (fx' := [(2, 13, a0_, .int x_83), (2, 12, a0_, .int x_82), (8, 6, q0_, .int 1201), (8, 8, q0_, .int x_27), (2, 14, a0_, .int x_13), (2, 0, a0_, .ref q0_), (2, 1, a0_, .ref q1_), (2, 2, a0_, .ref q2_), (2, 3, a0_, .ref q3_), (0, 0, q2_, .ref q0_), (0, 1, q2_, .ref q1_), (5, 0, q1_, .ref q6_), (5, 1, q1_, .ref q7_)]) rfl (fun fr_89 H locs hp hMr_89 g => ?_)
            obtain ⟨x_90, h_91, hF_92⟩ := hp
            have hG_93 := eOK.frame hMr_89 go_.2.2.2.1 mq2_ kq2_ (by decide) (by decide) hG_88
            have g := g.more hF_92
            refine lv_aload_n hx hb dX2_readArguments_224 rfl (lv_at hl 4 rfl) ?_
            refine g_getk (C := RX2) (T := TX2) (N := 16) hx hb hts (mc_ inX2) hown hK g rfl 0 (by decide) rfl (hts _ (List.mem_cons_of_mem _ t_416)) (fun _ h9 => h9) 6 rfl dX2_readArguments_225 ?_
            refine lv_bipush (v := 59) hx hb dX2_readArguments_228 (by decide) ?_
            have kb_1201 : bd 1201 1201 (1201 : Int32) := ⟨by decide, by decide⟩
            have go_ := g
            refine g_callv (va_runV (As := [.int 59]) (rest := []) ⟨hx, hb, hml, hown, hts⟩ (r_X8_take_2 l dC dI L kd tys fr_89 H.size g.2.2.2.1 q0_ mq0_ kq0_ 59 1201 kb_1201 x_27 h_28 (g.fcts [3, 4] rfl)) (cwV 1 hts (gV_ t_1098 t_1099 t_1100 t_184 t_1101) rfl rfl rfl (by decide +kernel) ⟨(Nat.le_of_ble_eq_true rfl), (Nat.le_of_ble_eq_true rfl)⟩) (pre3V g hK mq0_ kq0_ (by decide) (q := (RX8, TX8, 10)) rfl) rfl rfl hl.1 rfl (lv_room (Nat.le_of_ble_eq_true rfl)) dX2_readArguments_230 ⟨(Nat.le_of_ble_eq_true rfl), (Nat.le_of_ble_eq_true rfl)⟩) g hK (by decide) (by decide) (fx' := [(7, 6, q3_, .int x_90), (2, 13, a0_, .int x_83), (2, 12, a0_, .int x_82), (8, 8, q0_, .int x_27), (2, 14, a0_, .int x_13), (2, 0, a0_, .ref q0_), (2, 1, a0_, .ref q1_), (2, 2, a0_, .ref q2_), (2, 3, a0_, .ref q3_), (0, 0, q2_, .ref q0_), (0, 1, q2_, .ref q1_), (5, 0, q1_, .ref q6_), (5, 1, q1_, .ref q7_)]) rfl (fun fr_94 H locs hp hMr_94 g => ?_)
            obtain ⟨x_95, h_96, hF_97⟩ := hp
            have hG_98 := eOK.frame hMr_94 go_.2.2.2.1 mq2_ kq2_ (by decide) (by decide) hG_93
            have g := g.more hF_97
            subst hQ
            exact W.vret hx hb hr (fun t ht hW => ⟨⟨_, rfl, Or.inr (⟨hG_98, x_95, h_96, x_27, h_28, x_90, h_91, (g.fcts [0, 4, 1] rfl)⟩), q3_of g hK ht hW⟩, g.2.2.1.F ht⟩) g.2.2.1.2.2 dX2_readArguments_233
          · have fc_80 := nle_f c_80
            have b_99 : bd 1 2147483647 x_13 := ltR fc_80 kb_0 (bdT x_13) (by decide)
            refine lv_aload_n hx hb dX2_readArguments_188 rfl (lv_at hl 4 rfl) ?_
            refine g_getk (C := RX2) (T := TX2) (N := 16) hx hb hts (mc_ inX2) hown hK g rfl 0 (by decide) rfl (hts _ (List.mem_cons_of_mem _ t_416)) (fun _ h9 => h9) 3 rfl dX2_readArguments_189 ?_
            refine lv_bipush (v := 6) hx hb dX2_readArguments_192 (by decide) ?_
            refine lv_iload hx hb dX2_readArguments_194 (lv_at hl 0 rfl) ?_
            have kb_6 : bd 6 6 (6 : Int32) := ⟨by decide, by decide⟩
            have go_ := g
            refine g_callv (va_runV (As := [.int 6, .int r_19]) (rest := []) ⟨hx, hb, hml, hown, hts⟩ (r_X8_fail_2 l dC dI L kd tys fr_21 H.size g.2.2.2.1 q0_ mq0_ kq0_ 6 (bd_sub kb_6 (by decide)) r_19 x_27 h_28 (g.fcts [1] rfl)) (cwV 2 hts (gV_ t_1122 t_1107 t_1108 t_184 t_1109) rfl rfl rfl (by decide +kernel) ⟨(Nat.le_of_ble_eq_true rfl), (Nat.le_of_ble_eq_true rfl)⟩) (pre3V g hK mq0_ kq0_ (by decide) (q := (RX8, TX8, 10)) rfl) rfl rfl hl.1 rfl (lv_room (Nat.le_of_ble_eq_true rfl)) dX2_readArguments_196 ⟨(Nat.le_of_ble_eq_true rfl), (Nat.le_of_ble_eq_true rfl)⟩) g hK (by decide) (by decide) (fx' := [(8, 8, q0_, .int x_27), (2, 14, a0_, .int x_13), (2, 0, a0_, .ref q0_), (2, 1, a0_, .ref q1_), (2, 2, a0_, .ref q2_), (2, 3, a0_, .ref q3_), (0, 0, q2_, .ref q0_), (0, 1, q2_, .ref q1_), (5, 0, q1_, .ref q6_), (5, 1, q1_, .ref q7_)]) rfl (fun fr_100 H locs hp hMr_100 g => ?_)
            have hF_101 := hp
            have hG_102 := eOK.frame hMr_100 go_.2.2.2.1 mq2_ kq2_ (by decide) (by decide) hG_79
            have g := g.more hF_101
            refine lv_aload_n hx hb dX2_readArguments_199 rfl (lv_at hl 4 rfl) ?_
            refine g_getk (C := RX2) (T := TX2) (N := 16) hx hb hts (mc_ inX2) hown hK g rfl 3 (by decide) rfl (hts _ (List.mem_cons_of_mem _ t_419)) (fun _ h9 => h9) 6 rfl dX2_readArguments_200 ?_
            refine lv_aload_n hx hb dX2_readArguments_203 rfl (lv_at hl 4 rfl) ?_
            refine g_geti (C := RX2) (T := TX2) (N := 16) hx hb hts (mc_ inX2) hown hK g ma0_ ka0_ (by decide) rfl 12 (by decide) rfl (hts _ (List.mem_cons_of_mem _ t_428)) (fun _ h9 => h9) rfl dX2_readArguments_204 (fun x_103 bx_103 g => ?_)
            refine lv_aload_n hx hb dX2_readArguments_207 rfl (lv_at hl 4 rfl) ?_
            refine g_geti (C := RX2) (T := TX2) (N := 16) hx hb hts (mc_ inX2) hown hK g ma0_ ka0_ (by decide) rfl 13 (by decide) rfl (hts _ (List.mem_cons_of_mem _ t_429)) (fun _ h9 => h9) rfl dX2_readArguments_208 (fun x_104 bx_104 g => ?_)
            have go_ := g
            refine g_callv (va_runV (As := [.int x_103, .int x_104]) (rest := []) ⟨hx, hb, hml, hown, hts⟩ (r_X7_emit l dC dI L kd tys fr_100 H.size g.2.2.2.1 q3_ mq3_ kq3_ x_103 x_104) (cwV 2 hts (gV_ t_1301 t_1204 t_1205 t_191 t_1206) rfl rfl rfl (by decide +kernel) ⟨(Nat.le_of_ble_eq_true rfl), (Nat.le_of_ble_eq_true rfl)⟩) (pre3V g hK mq3_ kq3_ (by decide) (q := (RX7, TX7, 19)) rfl) rfl rfl hl.1 rfl (lv_room (Nat.le_of_ble_eq_true rfl)) dX2_readArguments_211 ⟨(Nat.le_of_ble_eq_true rfl), (Nat.le_of_ble_eq_true rfl)⟩) g hK (by decide) (by decide) (fx' := [(2, 13, a0_, .int x_104), (2, 12, a0_, .int x_103), (8, 6, q0_, .int 1201), (8, 8, q0_, .int x_27), (2, 14, a0_, .int x_13), (2, 0, a0_, .ref q0_), (2, 1, a0_, .ref q1_), (2, 2, a0_, .ref q2_), (2, 3, a0_, .ref q3_), (0, 0, q2_, .ref q0_), (0, 1, q2_, .ref q1_), (5, 0, q1_, .ref q6_), (5, 1, q1_, .ref q7_)]) rfl (fun fr_105 H locs hp hMr_105 g => ?_)
            obtain ⟨x_106, h_107, hF_108⟩ := hp
            have hG_109 := eOK.frame hMr_105 go_.2.2.2.1 mq2_ kq2_ (by decide) (by decide) hG_102
            have g := g.more hF_108
            refine lv_aload_n hx hb dX2_readArguments_214 rfl (lv_at hl 4 rfl) ?_
            refine g_getk (C := RX2) (T := TX2) (N := 16) hx hb hts (mc_ inX2) hown hK g rfl 3 (by decide) rfl (hts _ (List.mem_cons_of_mem _ t_419)) (fun _ h9 => h9) 9 rfl dX2_readArguments_215 ?_
            refine lv_bipush (v := 22) hx hb dX2_readArguments_218 (by decide) ?_
            refine lv_iconst (v := 0) hx hb dX2_readArguments_220 (by decide) ?_
            have go_ := g
            refine g_callv (va_runV (As := [.int 22, .int 0]) (rest := []) ⟨hx, hb, hml, hown, hts⟩ (r_X7_emit l dC dI L kd tys fr_105 H.size g.2.2.2.1 q3_ mq3_ kq3_ 22 0) (cwV 2 hts (gV_ t_1301 t_1204 t_1205 t_191 t_1206) rfl rfl rfl (by decide +kernel) ⟨(Nat.le_of_ble_eq_true rfl), (Nat.le_of_ble_eq_true rfl)⟩) (pre3V g hK mq3_ kq3_ (by decide) (q := (RX7, TX7, 19)) rfl) rfl rfl hl.1 rfl (lv_room (Nat.le_of_ble_eq_true rfl)) dX2_readArguments_221 ⟨(Nat.le_of_ble_eq_true rfl), (Nat.le_of_ble_eq_true rfl)⟩) g hK (by decide) (by decide) (fx' := [(2, 13, a0_, .int x_104), (2, 12, a0_, .int x_103), (8, 6, q0_, .int 1201), (8, 8, q0_, .int x_27), (2, 14, a0_, .int x_13), (2, 0, a0_, .ref q0_), (2, 1, a0_, .ref q1_), (2, 2, a0_, .ref q2_), (2, 3, a0_, .ref q3_), (0, 0, q2_, .ref q0_), (0, 1, q2_, .ref q1_), (5, 0, q1_, .ref q6_), (5, 1, q1_, .ref q7_)]) rfl (fun fr_110 H locs hp hMr_110 g => ?_)
            obtain ⟨x_111, h_112, hF_113⟩ := hp
            have hG_114 := eOK.frame hMr_110 go_.2.2.2.1 mq2_ kq2_ (by decide) (by decide) hG_109
            have g := g.more hF_113
            refine lv_aload_n hx hb dX2_readArguments_224 rfl (lv_at hl 4 rfl) ?_
            refine g_getk (C := RX2) (T := TX2) (N := 16) hx hb hts (mc_ inX2) hown hK g rfl 0 (by decide) rfl (hts _ (List.mem_cons_of_mem _ t_416)) (fun _ h9 => h9) 6 rfl dX2_readArguments_225 ?_
            refine lv_bipush (v := 59) hx hb dX2_readArguments_228 (by decide) ?_
            have kb_1201 : bd 1201 1201 (1201 : Int32) := ⟨by decide, by decide⟩
            have go_ := g
            refine g_callv (va_runV (As := [.int 59]) (rest := []) ⟨hx, hb, hml, hown, hts⟩ (r_X8_take_2 l dC dI L kd tys fr_110 H.size g.2.2.2.1 q0_ mq0_ kq0_ 59 1201 kb_1201 x_27 h_28 (g.fcts [3, 4] rfl)) (cwV 1 hts (gV_ t_1098 t_1099 t_1100 t_184 t_1101) rfl rfl rfl (by decide +kernel) ⟨(Nat.le_of_ble_eq_true rfl), (Nat.le_of_ble_eq_true rfl)⟩) (pre3V g hK mq0_ kq0_ (by decide) (q := (RX8, TX8, 10)) rfl) rfl rfl hl.1 rfl (lv_room (Nat.le_of_ble_eq_true rfl)) dX2_readArguments_230 ⟨(Nat.le_of_ble_eq_true rfl), (Nat.le_of_ble_eq_true rfl)⟩) g hK (by decide) (by decide) (fx' := [(7, 6, q3_, .int x_111), (2, 13, a0_, .int x_104), (2, 12, a0_, .int x_103), (8, 8, q0_, .int x_27), (2, 14, a0_, .int x_13), (2, 0, a0_, .ref q0_), (2, 1, a0_, .ref q1_), (2, 2, a0_, .ref q2_), (2, 3, a0_, .ref q3_), (0, 0, q2_, .ref q0_), (0, 1, q2_, .ref q1_), (5, 0, q1_, .ref q6_), (5, 1, q1_, .ref q7_)]) rfl (fun fr_115 H locs hp hMr_115 g => ?_)
            obtain ⟨x_116, h_117, hF_118⟩ := hp
            have hG_119 := eOK.frame hMr_115 go_.2.2.2.1 mq2_ kq2_ (by decide) (by decide) hG_114
            have g := g.more hF_118
            subst hQ
            exact W.vret hx hb hr (fun t ht hW => ⟨⟨_, rfl, Or.inr (⟨hG_119, x_116, h_117, x_27, h_28, x_111, h_112, (g.fcts [0, 4, 1] rfl)⟩), q3_of g hK ht hW⟩, g.2.2.1.F ht⟩) g.2.2.1.2.2 dX2_readArguments_233
      · have fc_17 := neq_f c_17
        refine lv_iconst (v := 1) hx hb dX2_readArguments_60 (by decide) ?_
        refine lv_goto (tgt := 65) hx hb dX2_readArguments_61 (by decide) ?_
        refine lv_istore_n (lv' := [(3, .int 1), (2, .int 0), (1, .int r_1), (0, .ref a0_)]) hx hb dX2_readArguments_65 rfl hl (by decide) rfl (fun ls hl => ?_)
        refine lv_iconst (v := 0) hx hb dX2_readArguments_66 (by decide) ?_
        refine lv_istore (lv' := [(4, .int 0), (3, .int 1), (2, .int 0), (1, .int r_1), (0, .ref a0_)]) hx hb dX2_readArguments_67 hl (by decide) rfl (fun ls hl => ?_)
        have loop_120 : ∀ (n : Nat) (v69_4 : Int32) (v69_3 : Int32) (v69_2 : Int32) (w69_8_8_q0_ : Int32), bd 0 4 v69_4 → bd 0 1 v69_3 → bd 0 0 w69_8_8_q0_ → (4 - v69_4.toInt < (n : Int)) → ∀ (f : Nat → va_E) (H : Heap) (locs : List Loc) (ls : Array Slot), G3 (dC, dI) L kd tys s f0 [(0, 2), (0, 8), (0, 10), (0, 11), (0, 12), (0, 13), (7, 6), (7, 18), (8, 6), (8, 8), (8, 9)] [110, 111, 112, 113, 114, 115, 138, 139] f H locs [(2, 14, a0_, .int x_13), (8, 8, q0_, .int w69_8_8_q0_), (2, 0, a0_, .ref q0_), (2, 1, a0_, .ref q1_), (2, 2, a0_, .ref q2_), (2, 3, a0_, .ref q3_), (0, 0, q2_, .ref q0_), (0, 1, q2_, .ref q1_), (5, 0, q1_, .ref q6_), (5, 1, q1_, .ref q7_)] → eOK f q2_ → lv_has ls 6 [(4, .int v69_4), (3, .int v69_3), (2, .int v69_2), (1, .int r_1), (0, .ref a0_)] → W p l e ({ frames := 4, cells := 0, slots := 0, locals := 97 } : Room) s m [.ref a0_].toArray below meth c H locs 0 0 Q (F0 m 69 ls []) := by
          intro n69
          induction n69 with
          | zero =>
            intro v69_4 v69_3 v69_2 w69_8_8_q0_ bv69_4 bv69_3  bw69_8_8_q0_ hm69 f H locs ls g hG69_e_q2_ hl
            exact absurd hm69 (by have h9_v69_4 := bv69_4; unfold bd at h9_v69_4; have h9_v69_3 := bv69_3; unfold bd at h9_v69_3; have h9_v69_2 := bdT v69_2; unfold bd at h9_v69_2; have h9_w69_8_8_q0_ := bw69_8_8_q0_; unfold bd at h9_w69_8_8_q0_; omega)
          | succ n69 ih69 =>
            intro v69_4 v69_3 v69_2 w69_8_8_q0_ bv69_4 bv69_3  bw69_8_8_q0_ hm69 f H locs ls g hG69_e_q2_ hl
            refine lv_iload hx hb dX2_readArguments_69 (lv_at hl 0 rfl) ?_
            refine lv_iconst (v := 3) hx hb dX2_readArguments_71 (by decide) ?_
            have kb_3 : bd 3 3 (3 : Int32) := ⟨by decide, by decide⟩
            refine lv_icmp_gt (tgt := 162) hx hb dX2_readArguments_72 (by decide) (fun c_121 => ?_) (fun c_121 => ?_)
            · have fc_121 := lt_f c_121
              have b_122 : bd 4 4 v69_4 := ltR fc_121 kb_3 bv69_4 (by decide)
              refine lv_aload_n hx hb dX2_readArguments_162 rfl (lv_at hl 4 rfl) ?_
              refine g_getk (C := RX2) (T := TX2) (N := 16) hx hb hts (mc_ inX2) hown hK g rfl 0 (by decide) rfl (hts _ (List.mem_cons_of_mem _ t_416)) (fun _ h9 => h9) 2 rfl dX2_readArguments_163 ?_
              have go_ := g
              refine g_calli (va_runV (As := []) (rest := []) ⟨hx, hb, hml, hown, hts⟩ (r_X8_place l dC dI L kd tys f H.size g.2.2.2.1 q0_ mq0_ kq0_) (cwV 0 hts (gV_ t_1110 t_1111 t_1112 t_184 t_1113) rfl rfl rfl (by decide +kernel) ⟨(Nat.le_of_ble_eq_true rfl), (Nat.le_of_ble_eq_true rfl)⟩) (pre3V g hK mq0_ kq0_ (by decide) (q := (RX8, TX8, 10)) rfl) rfl rfl hl.1 rfl (lv_room (Nat.le_of_ble_eq_true rfl)) dX2_readArguments_166 ⟨(Nat.le_of_ble_eq_true rfl), (Nat.le_of_ble_eq_true rfl)⟩) g hK (by decide) (by decide) (fx' := [(2, 14, a0_, .int x_13), (8, 8, q0_, .int w69_8_8_q0_), (2, 0, a0_, .ref q0_), (2, 1, a0_, .ref q1_), (2, 2, a0_, .ref q2_), (2, 3, a0_, .ref q3_), (0, 0, q2_, .ref q0_), (0, 1, q2_, .ref q1_), (5, 0, q1_, .ref q6_), (5, 1, q1_, .ref q7_)]) rfl (fun r_123 fr_123 H locs hp hMr_123 g => ?_)
              have hG_124 := eOK.frame hMr_123 go_.2.2.2.1 mq2_ kq2_ (by decide) (by decide) hG69_e_q2_
              refine lv_istore (lv' := [(4, .int r_123), (3, .int v69_3), (2, .int v69_2), (1, .int r_1), (0, .ref a0_)]) hx hb dX2_readArguments_169 hl (by decide) rfl (fun ls hl => ?_)
              refine lv_aload_n hx hb dX2_readArguments_171 rfl (lv_at hl 4 rfl) ?_
              refine g_getk (C := RX2) (T := TX2) (N := 16) hx hb hts (mc_ inX2) hown hK g rfl 0 (by decide) rfl (hts _ (List.mem_cons_of_mem _ t_416)) (fun _ h9 => h9) 2 rfl dX2_readArguments_172 ?_
              refine lv_bipush (v := 41) hx hb dX2_readArguments_175 (by decide) ?_
              have go_ := g
              refine g_callv (va_runV (As := [.int 41]) (rest := []) ⟨hx, hb, hml, hown, hts⟩ (r_X8_take l dC dI L kd tys fr_123 H.size g.2.2.2.1 q0_ mq0_ kq0_ 41 w69_8_8_q0_ bw69_8_8_q0_ (g.fcts [1] rfl)) (cwV 1 hts (gV_ t_1098 t_1099 t_1100 t_184 t_1101) rfl rfl rfl (by decide +kernel) ⟨(Nat.le_of_ble_eq_true rfl), (Nat.le_of_ble_eq_true rfl)⟩) (pre3V g hK mq0_ kq0_ (by decide) (q := (RX8, TX8, 10)) rfl) rfl rfl hl.1 rfl (lv_room (Nat.le_of_ble_eq_true rfl)) dX2_readArguments_177 ⟨(Nat.le_of_ble_eq_true rfl), (Nat.le_of_ble_eq_true rfl)⟩) g hK (by decide) (by decide) (fx' := [(2, 14, a0_, .int x_13), (2, 0, a0_, .ref q0_), (2, 1, a0_, .ref q1_), (2, 2, a0_, .ref q2_), (2, 3, a0_, .ref q3_), (0, 0, q2_, .ref q0_), (0, 1, q2_, .ref q1_), (5, 0, q1_, .ref q6_), (5, 1, q1_, .ref q7_)]) rfl (fun fr_125 H locs hp hMr_125 g => ?_)
              rcases hp with ⟨x_126, h_127, x_128, h_129, hF_130⟩ | ⟨x_131, h_132, hF_133⟩
              · have hG_134 := eOK.frame hMr_125 go_.2.2.2.1 mq2_ kq2_ (by decide) (by decide) hG_124
                have g := g.more hF_130
                refine lv_iload_n hx hb dX2_readArguments_180 rfl (lv_at hl 2 rfl) ?_
                refine lv_aload_n hx hb dX2_readArguments_181 rfl (lv_at hl 4 rfl) ?_
                refine g_getk (C := RX2) (T := TX2) (N := 16) hx hb hts (mc_ inX2) hown hK g rfl 14 (by decide) rfl (hts _ (List.mem_cons_of_mem _ t_430)) (fun _ h9 => h9) 2 rfl dX2_readArguments_182 ?_
                refine lv_icmp_ge (tgt := 199) hx hb dX2_readArguments_185 (by decide) (fun c_135 => ?_) (fun c_135 => ?_)
                · have fc_135 := le_f c_135
                  refine lv_aload_n hx hb dX2_readArguments_199 rfl (lv_at hl 4 rfl) ?_
                  refine g_getk (C := RX2) (T := TX2) (N := 16) hx hb hts (mc_ inX2) hown hK g rfl 3 (by decide) rfl (hts _ (List.mem_cons_of_mem _ t_419)) (fun _ h9 => h9) 6 rfl dX2_readArguments_200 ?_
                  refine lv_aload_n hx hb dX2_readArguments_203 rfl (lv_at hl 4 rfl) ?_
                  refine g_geti (C := RX2) (T := TX2) (N := 16) hx hb hts (mc_ inX2) hown hK g ma0_ ka0_ (by decide) rfl 12 (by decide) rfl (hts _ (List.mem_cons_of_mem _ t_428)) (fun _ h9 => h9) rfl dX2_readArguments_204 (fun x_136 bx_136 g => ?_)
                  refine lv_aload_n hx hb dX2_readArguments_207 rfl (lv_at hl 4 rfl) ?_
                  refine g_geti (C := RX2) (T := TX2) (N := 16) hx hb hts (mc_ inX2) hown hK g ma0_ ka0_ (by decide) rfl 13 (by decide) rfl (hts _ (List.mem_cons_of_mem _ t_429)) (fun _ h9 => h9) rfl dX2_readArguments_208 (fun x_137 bx_137 g => ?_)
                  have go_ := g
                  refine g_callv (va_runV (As := [.int x_136, .int x_137]) (rest := []) ⟨hx, hb, hml, hown, hts⟩ (r_X7_emit l dC dI L kd tys fr_125 H.size g.2.2.2.1 q3_ mq3_ kq3_ x_136 x_137) (cwV 2 hts (gV_ t_1301 t_1204 t_1205 t_191 t_1206) rfl rfl rfl (by decide +kernel) ⟨(Nat.le_of_ble_eq_true rfl), (Nat.le_of_ble_eq_true rfl)⟩) (pre3V g hK mq3_ kq3_ (by decide) (q := (RX7, TX7, 19)) rfl) rfl rfl hl.1 rfl (lv_room (Nat.le_of_ble_eq_true rfl)) dX2_readArguments_211 ⟨(Nat.le_of_ble_eq_true rfl), (Nat.le_of_ble_eq_true rfl)⟩) g hK (by decide) (by decide) (fx' := [(2, 13, a0_, .int x_137), (2, 12, a0_, .int x_136), (8, 6, q0_, .int x_126), (8, 8, q0_, .int x_128), (2, 14, a0_, .int x_13), (2, 0, a0_, .ref q0_), (2, 1, a0_, .ref q1_), (2, 2, a0_, .ref q2_), (2, 3, a0_, .ref q3_), (0, 0, q2_, .ref q0_), (0, 1, q2_, .ref q1_), (5, 0, q1_, .ref q6_), (5, 1, q1_, .ref q7_)]) rfl (fun fr_138 H locs hp hMr_138 g => ?_)
                  obtain ⟨x_139, h_140, hF_141⟩ := hp
                  have hG_142 := eOK.frame hMr_138 go_.2.2.2.1 mq2_ kq2_ (by decide) (by decide) hG_134
                  have g := g.more hF_141
                  refine lv_aload_n hx hb dX2_readArguments_214 rfl (lv_at hl 4 rfl) ?_
                  refine g_getk (C := RX2) (T := TX2) (N := 16) hx hb hts (mc_ inX2) hown hK g rfl 3 (by decide) rfl (hts _ (List.mem_cons_of_mem _ t_419)) (fun _ h9 => h9) 9 rfl dX2_readArguments_215 ?_
                  refine lv_bipush (v := 22) hx hb dX2_readArguments_218 (by decide) ?_
                  refine lv_iconst (v := 0) hx hb dX2_readArguments_220 (by decide) ?_
                  have go_ := g
                  refine g_callv (va_runV (As := [.int 22, .int 0]) (rest := []) ⟨hx, hb, hml, hown, hts⟩ (r_X7_emit l dC dI L kd tys fr_138 H.size g.2.2.2.1 q3_ mq3_ kq3_ 22 0) (cwV 2 hts (gV_ t_1301 t_1204 t_1205 t_191 t_1206) rfl rfl rfl (by decide +kernel) ⟨(Nat.le_of_ble_eq_true rfl), (Nat.le_of_ble_eq_true rfl)⟩) (pre3V g hK mq3_ kq3_ (by decide) (q := (RX7, TX7, 19)) rfl) rfl rfl hl.1 rfl (lv_room (Nat.le_of_ble_eq_true rfl)) dX2_readArguments_221 ⟨(Nat.le_of_ble_eq_true rfl), (Nat.le_of_ble_eq_true rfl)⟩) g hK (by decide) (by decide) (fx' := [(2, 13, a0_, .int x_137), (2, 12, a0_, .int x_136), (8, 6, q0_, .int x_126), (8, 8, q0_, .int x_128), (2, 14, a0_, .int x_13), (2, 0, a0_, .ref q0_), (2, 1, a0_, .ref q1_), (2, 2, a0_, .ref q2_), (2, 3, a0_, .ref q3_), (0, 0, q2_, .ref q0_), (0, 1, q2_, .ref q1_), (5, 0, q1_, .ref q6_), (5, 1, q1_, .ref q7_)]) rfl (fun fr_143 H locs hp hMr_143 g => ?_)
                  obtain ⟨x_144, h_145, hF_146⟩ := hp
                  have hG_147 := eOK.frame hMr_143 go_.2.2.2.1 mq2_ kq2_ (by decide) (by decide) hG_142
                  have g := g.more hF_146
                  refine lv_aload_n hx hb dX2_readArguments_224 rfl (lv_at hl 4 rfl) ?_
                  refine g_getk (C := RX2) (T := TX2) (N := 16) hx hb hts (mc_ inX2) hown hK g rfl 0 (by decide) rfl (hts _ (List.mem_cons_of_mem _ t_416)) (fun _ h9 => h9) 6 rfl dX2_readArguments_225 ?_
                  refine lv_bipush (v := 59) hx hb dX2_readArguments_228 (by decide) ?_
                  have go_ := g
                  refine g_callv (va_runV (As := [.int 59]) (rest := []) ⟨hx, hb, hml, hown, hts⟩ (r_X8_take l dC dI L kd tys fr_143 H.size g.2.2.2.1 q0_ mq0_ kq0_ 59 x_128 h_129 (g.fcts [4] rfl)) (cwV 1 hts (gV_ t_1098 t_1099 t_1100 t_184 t_1101) rfl rfl rfl (by decide +kernel) ⟨(Nat.le_of_ble_eq_true rfl), (Nat.le_of_ble_eq_true rfl)⟩) (pre3V g hK mq0_ kq0_ (by decide) (q := (RX8, TX8, 10)) rfl) rfl rfl hl.1 rfl (lv_room (Nat.le_of_ble_eq_true rfl)) dX2_readArguments_230 ⟨(Nat.le_of_ble_eq_true rfl), (Nat.le_of_ble_eq_true rfl)⟩) g hK (by decide) (by decide) (fx' := [(7, 6, q3_, .int x_144), (2, 13, a0_, .int x_137), (2, 12, a0_, .int x_136), (2, 14, a0_, .int x_13), (2, 0, a0_, .ref q0_), (2, 1, a0_, .ref q1_), (2, 2, a0_, .ref q2_), (2, 3, a0_, .ref q3_), (0, 0, q2_, .ref q0_), (0, 1, q2_, .ref q1_), (5, 0, q1_, .ref q6_), (5, 1, q1_, .ref q7_)]) rfl (fun fr_148 H locs hp hMr_148 g => ?_)
                  rcases hp with ⟨x_149, h_150, x_151, h_152, hF_153⟩ | ⟨x_154, h_155, hF_156⟩
                  · have hG_157 := eOK.frame hMr_148 go_.2.2.2.1 mq2_ kq2_ (by decide) (by decide) hG_147
                    have g := g.more hF_153
                    subst hQ
                    exact W.vret hx hb hr (fun t ht hW => ⟨⟨_, rfl, Or.inl ⟨hG_157, x_149, h_150, x_151, h_152, x_144, h_145, (g.fcts [0, 1, 2] rfl)⟩, q3_of g hK ht hW⟩, g.2.2.1.F ht⟩) g.2.2.1.2.2 dX2_readArguments_233
                  · have hG_158 := eOK.frame hMr_148 go_.2.2.2.1 mq2_ kq2_ (by decide) (by decide) hG_147
                    have g := g.more hF_156
                    have kb_1201 : bd 1201 1201 (1201 : Int32) := ⟨by decide, by decide⟩
                    subst hQ
                    exact W.vret hx hb hr (fun t ht hW => ⟨⟨_, rfl, Or.inr (⟨hG_158, 1201, kb_1201, x_154, h_155, x_144, h_145, (g.fcts [0, 1, 2] rfl)⟩), q3_of g hK ht hW⟩, g.2.2.1.F ht⟩) g.2.2.1.2.2 dX2_readArguments_233
                · have fc_135 := nle_f c_135
                  have b_159 : bd (-2147483648) 2147483646 v69_2 := ltL fc_135 (bdT v69_2) (bdT x_13) (by decide)
                  have b_160 : bd (-2147483647) 2147483647 x_13 := ltR fc_135 (bdT v69_2) (bdT x_13) (by decide)
                  refine lv_aload_n hx hb dX2_readArguments_188 rfl (lv_at hl 4 rfl) ?_
                  refine g_getk (C := RX2) (T := TX2) (N := 16) hx hb hts (mc_ inX2) hown hK g rfl 0 (by decide) rfl (hts _ (List.mem_cons_of_mem _ t_416)) (fun _ h9 => h9) 3 rfl dX2_readArguments_189 ?_
                  refine lv_bipush (v := 6) hx hb dX2_readArguments_192 (by decide) ?_
                  refine lv_iload hx hb dX2_readArguments_194 (lv_at hl 0 rfl) ?_
                  have kb_6 : bd 6 6 (6 : Int32) := ⟨by decide, by decide⟩
                  have go_ := g
                  refine g_callv (va_runV (As := [.int 6, .int r_123]) (rest := []) ⟨hx, hb, hml, hown, hts⟩ (r_X8_fail l dC dI L kd tys fr_125 H.size g.2.2.2.1 q0_ mq0_ kq0_ 6 (bd_sub kb_6 (by decide)) r_123 x_128 h_129 (g.fcts [1] rfl)) (cwV 2 hts (gV_ t_1122 t_1107 t_1108 t_184 t_1109) rfl rfl rfl (by decide +kernel) ⟨(Nat.le_of_ble_eq_true rfl), (Nat.le_of_ble_eq_true rfl)⟩) (pre3V g hK mq0_ kq0_ (by decide) (q := (RX8, TX8, 10)) rfl) rfl rfl hl.1 rfl (lv_room (Nat.le_of_ble_eq_true rfl)) dX2_readArguments_196 ⟨(Nat.le_of_ble_eq_true rfl), (Nat.le_of_ble_eq_true rfl)⟩) g hK (by decide) (by decide) (fx' := [(2, 14, a0_, .int x_13), (2, 0, a0_, .ref q0_), (2, 1, a0_, .ref q1_), (2, 2, a0_, .ref q2_), (2, 3, a0_, .ref q3_), (0, 0, q2_, .ref q0_), (0, 1, q2_, .ref q1_), (5, 0, q1_, .ref q6_), (5, 1, q1_, .ref q7_)]) rfl (fun fr_161 H locs hp hMr_161 g => ?_)
                  obtain ⟨x_162, h_163, hF_164⟩ := hp
                  have hG_165 := eOK.frame hMr_161 go_.2.2.2.1 mq2_ kq2_ (by decide) (by decide) hG_134
                  have g := g.more hF_164
                  refine lv_aload_n hx hb dX2_readArguments_199 rfl (lv_at hl 4 rfl) ?_
                  refine g_getk (C := RX2) (T := TX2) (N := 16) hx hb hts (mc_ inX2) hown hK g rfl 3 (by decide) rfl (hts _ (List.mem_cons_of_mem _ t_419)) (fun _ h9 => h9) 6 rfl dX2_readArguments_200 ?_
                  refine lv_aload_n hx hb dX2_readArguments_203 rfl (lv_at hl 4 rfl) ?_
                  refine g_geti (C := RX2) (T := TX2) (N := 16) hx hb hts (mc_ inX2) hown hK g ma0_ ka0_ (by decide) rfl 12 (by decide) rfl (hts _ (List.mem_cons_of_mem _ t_428)) (fun _ h9 => h9) rfl dX2_readArguments_204 (fun x_166 bx_166 g => ?_)
                  refine lv_aload_n hx hb dX2_readArguments_207 rfl (lv_at hl 4 rfl) ?_
                  refine g_geti (C := RX2) (T := TX2) (N := 16) hx hb hts (mc_ inX2) hown hK g ma0_ ka0_ (by decide) rfl 13 (by decide) rfl (hts _ (List.mem_cons_of_mem _ t_429)) (fun _ h9 => h9) rfl dX2_readArguments_208 (fun x_167 bx_167 g => ?_)
                  have go_ := g
                  refine g_callv (va_runV (As := [.int x_166, .int x_167]) (rest := []) ⟨hx, hb, hml, hown, hts⟩ (r_X7_emit l dC dI L kd tys fr_161 H.size g.2.2.2.1 q3_ mq3_ kq3_ x_166 x_167) (cwV 2 hts (gV_ t_1301 t_1204 t_1205 t_191 t_1206) rfl rfl rfl (by decide +kernel) ⟨(Nat.le_of_ble_eq_true rfl), (Nat.le_of_ble_eq_true rfl)⟩) (pre3V g hK mq3_ kq3_ (by decide) (q := (RX7, TX7, 19)) rfl) rfl rfl hl.1 rfl (lv_room (Nat.le_of_ble_eq_true rfl)) dX2_readArguments_211 ⟨(Nat.le_of_ble_eq_true rfl), (Nat.le_of_ble_eq_true rfl)⟩) g hK (by decide) (by decide) (fx' := [(2, 13, a0_, .int x_167), (2, 12, a0_, .int x_166), (8, 6, q0_, .int 1201), (8, 8, q0_, .int x_162), (2, 14, a0_, .int x_13), (2, 0, a0_, .ref q0_), (2, 1, a0_, .ref q1_), (2, 2, a0_, .ref q2_), (2, 3, a0_, .ref q3_), (0, 0, q2_, .ref q0_), (0, 1, q2_, .ref q1_), (5, 0, q1_, .ref q6_), (5, 1, q1_, .ref q7_)]) rfl (fun fr_168 H locs hp hMr_168 g => ?_)
                  obtain ⟨x_169, h_170, hF_171⟩ := hp
                  have hG_172 := eOK.frame hMr_168 go_.2.2.2.1 mq2_ kq2_ (by decide) (by decide) hG_165
                  have g := g.more hF_171
                  refine lv_aload_n hx hb dX2_readArguments_214 rfl (lv_at hl 4 rfl) ?_
                  refine g_getk (C := RX2) (T := TX2) (N := 16) hx hb hts (mc_ inX2) hown hK g rfl 3 (by decide) rfl (hts _ (List.mem_cons_of_mem _ t_419)) (fun _ h9 => h9) 9 rfl dX2_readArguments_215 ?_
                  refine lv_bipush (v := 22) hx hb dX2_readArguments_218 (by decide) ?_
                  refine lv_iconst (v := 0) hx hb dX2_readArguments_220 (by decide) ?_
                  have go_ := g
                  refine g_callv (va_runV (As := [.int 22, .int 0]) (rest := []) ⟨hx, hb, hml, hown, hts⟩ (r_X7_emit l dC dI L kd tys fr_168 H.size g.2.2.2.1 q3_ mq3_ kq3_ 22 0) (cwV 2 hts (gV_ t_1301 t_1204 t_1205 t_191 t_1206) rfl rfl rfl (by decide +kernel) ⟨(Nat.le_of_ble_eq_true rfl), (Nat.le_of_ble_eq_true rfl)⟩) (pre3V g hK mq3_ kq3_ (by decide) (q := (RX7, TX7, 19)) rfl) rfl rfl hl.1 rfl (lv_room (Nat.le_of_ble_eq_true rfl)) dX2_readArguments_221 ⟨(Nat.le_of_ble_eq_true rfl), (Nat.le_of_ble_eq_true rfl)⟩) g hK (by decide) (by decide) (fx' := [(2, 13, a0_, .int x_167), (2, 12, a0_, .int x_166), (8, 6, q0_, .int 1201), (8, 8, q0_, .int x_162), (2, 14, a0_, .int x_13), (2, 0, a0_, .ref q0_), (2, 1, a0_, .ref q1_), (2, 2, a0_, .ref q2_), (2, 3, a0_, .ref q3_), (0, 0, q2_, .ref q0_), (0, 1, q2_, .ref q1_), (5, 0, q1_, .ref q6_), (5, 1, q1_, .ref q7_)]) rfl (fun fr_173 H locs hp hMr_173 g => ?_)
                  obtain ⟨x_174, h_175, hF_176⟩ := hp
                  have hG_177 := eOK.frame hMr_173 go_.2.2.2.1 mq2_ kq2_ (by decide) (by decide) hG_172
                  have g := g.more hF_176
                  refine lv_aload_n hx hb dX2_readArguments_224 rfl (lv_at hl 4 rfl) ?_
                  refine g_getk (C := RX2) (T := TX2) (N := 16) hx hb hts (mc_ inX2) hown hK g rfl 0 (by decide) rfl (hts _ (List.mem_cons_of_mem _ t_416)) (fun _ h9 => h9) 6 rfl dX2_readArguments_225 ?_
                  refine lv_bipush (v := 59) hx hb dX2_readArguments_228 (by decide) ?_
                  have kb_1201 : bd 1201 1201 (1201 : Int32) := ⟨by decide, by decide⟩
                  have go_ := g
                  refine g_callv (va_runV (As := [.int 59]) (rest := []) ⟨hx, hb, hml, hown, hts⟩ (r_X8_take_2 l dC dI L kd tys fr_173 H.size g.2.2.2.1 q0_ mq0_ kq0_ 59 1201 kb_1201 x_162 h_163 (g.fcts [3, 4] rfl)) (cwV 1 hts (gV_ t_1098 t_1099 t_1100 t_184 t_1101) rfl rfl rfl (by decide +kernel) ⟨(Nat.le_of_ble_eq_true rfl), (Nat.le_of_ble_eq_true rfl)⟩) (pre3V g hK mq0_ kq0_ (by decide) (q := (RX8, TX8, 10)) rfl) rfl rfl hl.1 rfl (lv_room (Nat.le_of_ble_eq_true rfl)) dX2_readArguments_230 ⟨(Nat.le_of_ble_eq_true rfl), (Nat.le_of_ble_eq_true rfl)⟩) g hK (by decide) (by decide) (fx' := [(7, 6, q3_, .int x_174), (2, 13, a0_, .int x_167), (2, 12, a0_, .int x_166), (8, 8, q0_, .int x_162), (2, 14, a0_, .int x_13), (2, 0, a0_, .ref q0_), (2, 1, a0_, .ref q1_), (2, 2, a0_, .ref q2_), (2, 3, a0_, .ref q3_), (0, 0, q2_, .ref q0_), (0, 1, q2_, .ref q1_), (5, 0, q1_, .ref q6_), (5, 1, q1_, .ref q7_)]) rfl (fun fr_178 H locs hp hMr_178 g => ?_)
                  obtain ⟨x_179, h_180, hF_181⟩ := hp
                  have hG_182 := eOK.frame hMr_178 go_.2.2.2.1 mq2_ kq2_ (by decide) (by decide) hG_177
                  have g := g.more hF_181
                  subst hQ
                  exact W.vret hx hb hr (fun t ht hW => ⟨⟨_, rfl, Or.inr (⟨hG_182, x_179, h_180, x_162, h_163, x_174, h_175, (g.fcts [0, 4, 1] rfl)⟩), q3_of g hK ht hW⟩, g.2.2.1.F ht⟩) g.2.2.1.2.2 dX2_readArguments_233
              · have hG_183 := eOK.frame hMr_125 go_.2.2.2.1 mq2_ kq2_ (by decide) (by decide) hG_124
                have g := g.more hF_133
                refine lv_iload_n hx hb dX2_readArguments_180 rfl (lv_at hl 2 rfl) ?_
                refine lv_aload_n hx hb dX2_readArguments_181 rfl (lv_at hl 4 rfl) ?_
                refine g_getk (C := RX2) (T := TX2) (N := 16) hx hb hts (mc_ inX2) hown hK g rfl 14 (by decide) rfl (hts _ (List.mem_cons_of_mem _ t_430)) (fun _ h9 => h9) 2 rfl dX2_readArguments_182 ?_
                refine lv_icmp_ge (tgt := 199) hx hb dX2_readArguments_185 (by decide) (fun c_184 => ?_) (fun c_184 => ?_)
                · have fc_184 := le_f c_184
                  refine lv_aload_n hx hb dX2_readArguments_199 rfl (lv_at hl 4 rfl) ?_
                  refine g_getk (C := RX2) (T := TX2) (N := 16) hx hb hts (mc_ inX2) hown hK g rfl 3 (by decide) rfl (hts _ (List.mem_cons_of_mem _ t_419)) (fun _ h9 => h9) 6 rfl dX2_readArguments_200 ?_
                  refine lv_aload_n hx hb dX2_readArguments_203 rfl (lv_at hl 4 rfl) ?_
                  refine g_geti (C := RX2) (T := TX2) (N := 16) hx hb hts (mc_ inX2) hown hK g ma0_ ka0_ (by decide) rfl 12 (by decide) rfl (hts _ (List.mem_cons_of_mem _ t_428)) (fun _ h9 => h9) rfl dX2_readArguments_204 (fun x_185 bx_185 g => ?_)
                  refine lv_aload_n hx hb dX2_readArguments_207 rfl (lv_at hl 4 rfl) ?_
                  refine g_geti (C := RX2) (T := TX2) (N := 16) hx hb hts (mc_ inX2) hown hK g ma0_ ka0_ (by decide) rfl 13 (by decide) rfl (hts _ (List.mem_cons_of_mem _ t_429)) (fun _ h9 => h9) rfl dX2_readArguments_208 (fun x_186 bx_186 g => ?_)
                  have go_ := g
                  refine g_callv (va_runV (As := [.int x_185, .int x_186]) (rest := []) ⟨hx, hb, hml, hown, hts⟩ (r_X7_emit l dC dI L kd tys fr_125 H.size g.2.2.2.1 q3_ mq3_ kq3_ x_185 x_186) (cwV 2 hts (gV_ t_1301 t_1204 t_1205 t_191 t_1206) rfl rfl rfl (by decide +kernel) ⟨(Nat.le_of_ble_eq_true rfl), (Nat.le_of_ble_eq_true rfl)⟩) (pre3V g hK mq3_ kq3_ (by decide) (q := (RX7, TX7, 19)) rfl) rfl rfl hl.1 rfl (lv_room (Nat.le_of_ble_eq_true rfl)) dX2_readArguments_211 ⟨(Nat.le_of_ble_eq_true rfl), (Nat.le_of_ble_eq_true rfl)⟩) g hK (by decide) (by decide) (fx' := [(2, 13, a0_, .int x_186), (2, 12, a0_, .int x_185), (8, 6, q0_, .int 1201), (8, 8, q0_, .int x_131), (2, 14, a0_, .int x_13), (2, 0, a0_, .ref q0_), (2, 1, a0_, .ref q1_), (2, 2, a0_, .ref q2_), (2, 3, a0_, .ref q3_), (0, 0, q2_, .ref q0_), (0, 1, q2_, .ref q1_), (5, 0, q1_, .ref q6_), (5, 1, q1_, .ref q7_)]) rfl (fun fr_187 H locs hp hMr_187 g => ?_)
                  obtain ⟨x_188, h_189, hF_190⟩ := hp
                  have hG_191 := eOK.frame hMr_187 go_.2.2.2.1 mq2_ kq2_ (by decide) (by decide) hG_183
                  have g := g.more hF_190
                  refine lv_aload_n hx hb dX2_readArguments_214 rfl (lv_at hl 4 rfl) ?_
                  refine g_getk (C := RX2) (T := TX2) (N := 16) hx hb hts (mc_ inX2) hown hK g rfl 3 (by decide) rfl (hts _ (List.mem_cons_of_mem _ t_419)) (fun _ h9 => h9) 9 rfl dX2_readArguments_215 ?_
                  refine lv_bipush (v := 22) hx hb dX2_readArguments_218 (by decide) ?_
                  refine lv_iconst (v := 0) hx hb dX2_readArguments_220 (by decide) ?_
                  have go_ := g
                  refine g_callv (va_runV (As := [.int 22, .int 0]) (rest := []) ⟨hx, hb, hml, hown, hts⟩ (r_X7_emit l dC dI L kd tys fr_187 H.size g.2.2.2.1 q3_ mq3_ kq3_ 22 0) (cwV 2 hts (gV_ t_1301 t_1204 t_1205 t_191 t_1206) rfl rfl rfl (by decide +kernel) ⟨(Nat.le_of_ble_eq_true rfl), (Nat.le_of_ble_eq_true rfl)⟩) (pre3V g hK mq3_ kq3_ (by decide) (q := (RX7, TX7, 19)) rfl) rfl rfl hl.1 rfl (lv_room (Nat.le_of_ble_eq_true rfl)) dX2_readArguments_221 ⟨(Nat.le_of_ble_eq_true rfl), (Nat.le_of_ble_eq_true rfl)⟩) g hK (by decide) (by decide) (fx' := [(2, 13, a0_, .int x_186), (2, 12, a0_, .int x_185), (8, 6, q0_, .int 1201), (8, 8, q0_, .int x_131), (2, 14, a0_, .int x_13), (2, 0, a0_, .ref q0_), (2, 1, a0_, .ref q1_), (2, 2, a0_, .ref q2_), (2, 3, a0_, .ref q3_), (0, 0, q2_, .ref q0_), (0, 1, q2_, .ref q1_), (5, 0, q1_, .ref q6_), (5, 1, q1_, .ref q7_)]) rfl (fun fr_192 H locs hp hMr_192 g => ?_)
                  obtain ⟨x_193, h_194, hF_195⟩ := hp
                  have hG_196 := eOK.frame hMr_192 go_.2.2.2.1 mq2_ kq2_ (by decide) (by decide) hG_191
                  have g := g.more hF_195
                  refine lv_aload_n hx hb dX2_readArguments_224 rfl (lv_at hl 4 rfl) ?_
                  refine g_getk (C := RX2) (T := TX2) (N := 16) hx hb hts (mc_ inX2) hown hK g rfl 0 (by decide) rfl (hts _ (List.mem_cons_of_mem _ t_416)) (fun _ h9 => h9) 6 rfl dX2_readArguments_225 ?_
                  refine lv_bipush (v := 59) hx hb dX2_readArguments_228 (by decide) ?_
                  have kb_1201 : bd 1201 1201 (1201 : Int32) := ⟨by decide, by decide⟩
                  have go_ := g
                  refine g_callv (va_runV (As := [.int 59]) (rest := []) ⟨hx, hb, hml, hown, hts⟩ (r_X8_take_2 l dC dI L kd tys fr_192 H.size g.2.2.2.1 q0_ mq0_ kq0_ 59 1201 kb_1201 x_131 h_132 (g.fcts [3, 4] rfl)) (cwV 1 hts (gV_ t_1098 t_1099 t_1100 t_184 t_1101) rfl rfl rfl (by decide +kernel) ⟨(Nat.le_of_ble_eq_true rfl), (Nat.le_of_ble_eq_true rfl)⟩) (pre3V g hK mq0_ kq0_ (by decide) (q := (RX8, TX8, 10)) rfl) rfl rfl hl.1 rfl (lv_room (Nat.le_of_ble_eq_true rfl)) dX2_readArguments_230 ⟨(Nat.le_of_ble_eq_true rfl), (Nat.le_of_ble_eq_true rfl)⟩) g hK (by decide) (by decide) (fx' := [(7, 6, q3_, .int x_193), (2, 13, a0_, .int x_186), (2, 12, a0_, .int x_185), (8, 8, q0_, .int x_131), (2, 14, a0_, .int x_13), (2, 0, a0_, .ref q0_), (2, 1, a0_, .ref q1_), (2, 2, a0_, .ref q2_), (2, 3, a0_, .ref q3_), (0, 0, q2_, .ref q0_), (0, 1, q2_, .ref q1_), (5, 0, q1_, .ref q6_), (5, 1, q1_, .ref q7_)]) rfl (fun fr_197 H locs hp hMr_197 g => ?_)
                  obtain ⟨x_198, h_199, hF_200⟩ := hp
                  have hG_201 := eOK.frame hMr_197 go_.2.2.2.1 mq2_ kq2_ (by decide) (by decide) hG_196
                  have g := g.more hF_200
                  subst hQ
                  exact W.vret hx hb hr (fun t ht hW => ⟨⟨_, rfl, Or.inr (⟨hG_201, x_198, h_199, x_131, h_132, x_193, h_194, (g.fcts [0, 4, 1] rfl)⟩), q3_of g hK ht hW⟩, g.2.2.1.F ht⟩) g.2.2.1.2.2 dX2_readArguments_233
                · have fc_184 := nle_f c_184
                  have b_202 : bd (-2147483648) 2147483646 v69_2 := ltL fc_184 (bdT v69_2) (bdT x_13) (by decide)
                  have b_203 : bd (-2147483647) 2147483647 x_13 := ltR fc_184 (bdT v69_2) (bdT x_13) (by decide)
                  refine lv_aload_n hx hb dX2_readArguments_188 rfl (lv_at hl 4 rfl) ?_
                  refine g_getk (C := RX2) (T := TX2) (N := 16) hx hb hts (mc_ inX2) hown hK g rfl 0 (by decide) rfl (hts _ (List.mem_cons_of_mem _ t_416)) (fun _ h9 => h9) 3 rfl dX2_readArguments_189 ?_
                  refine lv_bipush (v := 6) hx hb dX2_readArguments_192 (by decide) ?_
                  refine lv_iload hx hb dX2_readArguments_194 (lv_at hl 0 rfl) ?_
                  have kb_6 : bd 6 6 (6 : Int32) := ⟨by decide, by decide⟩
                  have go_ := g
                  refine g_callv (va_runV (As := [.int 6, .int r_123]) (rest := []) ⟨hx, hb, hml, hown, hts⟩ (r_X8_fail_2 l dC dI L kd tys fr_125 H.size g.2.2.2.1 q0_ mq0_ kq0_ 6 (bd_sub kb_6 (by decide)) r_123 x_131 h_132 (g.fcts [1] rfl)) (cwV 2 hts (gV_ t_1122 t_1107 t_1108 t_184 t_1109) rfl rfl rfl (by decide +kernel) ⟨(Nat.le_of_ble_eq_true rfl), (Nat.le_of_ble_eq_true rfl)⟩) (pre3V g hK mq0_ kq0_ (by decide) (q := (RX8, TX8, 10)) rfl) rfl rfl hl.1 rfl (lv_room (Nat.le_of_ble_eq_true rfl)) dX2_readArguments_196 ⟨(Nat.le_of_ble_eq_true rfl), (Nat.le_of_ble_eq_true rfl)⟩) g hK (by decide) (by decide) (fx' := [(8, 8, q0_, .int x_131), (2, 14, a0_, .int x_13), (2, 0, a0_, .ref q0_), (2, 1, a0_, .ref q1_), (2, 2, a0_, .ref q2_), (2, 3, a0_, .ref q3_), (0, 0, q2_, .ref q0_), (0, 1, q2_, .ref q1_), (5, 0, q1_, .ref q6_), (5, 1, q1_, .ref q7_)]) rfl (fun fr_204 H locs hp hMr_204 g => ?_)
                  have hF_205 := hp
                  have hG_206 := eOK.frame hMr_204 go_.2.2.2.1 mq2_ kq2_ (by decide) (by decide) hG_183
                  have g := g.more hF_205
                  refine lv_aload_n hx hb dX2_readArguments_199 rfl (lv_at hl 4 rfl) ?_
                  refine g_getk (C := RX2) (T := TX2) (N := 16) hx hb hts (mc_ inX2) hown hK g rfl 3 (by decide) rfl (hts _ (List.mem_cons_of_mem _ t_419)) (fun _ h9 => h9) 6 rfl dX2_readArguments_200 ?_
                  refine lv_aload_n hx hb dX2_readArguments_203 rfl (lv_at hl 4 rfl) ?_
                  refine g_geti (C := RX2) (T := TX2) (N := 16) hx hb hts (mc_ inX2) hown hK g ma0_ ka0_ (by decide) rfl 12 (by decide) rfl (hts _ (List.mem_cons_of_mem _ t_428)) (fun _ h9 => h9) rfl dX2_readArguments_204 (fun x_207 bx_207 g => ?_)
                  refine lv_aload_n hx hb dX2_readArguments_207 rfl (lv_at hl 4 rfl) ?_
                  refine g_geti (C := RX2) (T := TX2) (N := 16) hx hb hts (mc_ inX2) hown hK g ma0_ ka0_ (by decide) rfl 13 (by decide) rfl (hts _ (List.mem_cons_of_mem _ t_429)) (fun _ h9 => h9) rfl dX2_readArguments_208 (fun x_208 bx_208 g => ?_)
                  have go_ := g
                  refine g_callv (va_runV (As := [.int x_207, .int x_208]) (rest := []) ⟨hx, hb, hml, hown, hts⟩ (r_X7_emit l dC dI L kd tys fr_204 H.size g.2.2.2.1 q3_ mq3_ kq3_ x_207 x_208) (cwV 2 hts (gV_ t_1301 t_1204 t_1205 t_191 t_1206) rfl rfl rfl (by decide +kernel) ⟨(Nat.le_of_ble_eq_true rfl), (Nat.le_of_ble_eq_true rfl)⟩) (pre3V g hK mq3_ kq3_ (by decide) (q := (RX7, TX7, 19)) rfl) rfl rfl hl.1 rfl (lv_room (Nat.le_of_ble_eq_true rfl)) dX2_readArguments_211 ⟨(Nat.le_of_ble_eq_true rfl), (Nat.le_of_ble_eq_true rfl)⟩) g hK (by decide) (by decide) (fx' := [(2, 13, a0_, .int x_208), (2, 12, a0_, .int x_207), (8, 6, q0_, .int 1201), (8, 8, q0_, .int x_131), (2, 14, a0_, .int x_13), (2, 0, a0_, .ref q0_), (2, 1, a0_, .ref q1_), (2, 2, a0_, .ref q2_), (2, 3, a0_, .ref q3_), (0, 0, q2_, .ref q0_), (0, 1, q2_, .ref q1_), (5, 0, q1_, .ref q6_), (5, 1, q1_, .ref q7_)]) rfl (fun fr_209 H locs hp hMr_209 g => ?_)
                  obtain ⟨x_210, h_211, hF_212⟩ := hp
                  have hG_213 := eOK.frame hMr_209 go_.2.2.2.1 mq2_ kq2_ (by decide) (by decide) hG_206
                  have g := g.more hF_212
                  refine lv_aload_n hx hb dX2_readArguments_214 rfl (lv_at hl 4 rfl) ?_
                  refine g_getk (C := RX2) (T := TX2) (N := 16) hx hb hts (mc_ inX2) hown hK g rfl 3 (by decide) rfl (hts _ (List.mem_cons_of_mem _ t_419)) (fun _ h9 => h9) 9 rfl dX2_readArguments_215 ?_
                  refine lv_bipush (v := 22) hx hb dX2_readArguments_218 (by decide) ?_
                  refine lv_iconst (v := 0) hx hb dX2_readArguments_220 (by decide) ?_
                  have go_ := g
                  refine g_callv (va_runV (As := [.int 22, .int 0]) (rest := []) ⟨hx, hb, hml, hown, hts⟩ (r_X7_emit l dC dI L kd tys fr_209 H.size g.2.2.2.1 q3_ mq3_ kq3_ 22 0) (cwV 2 hts (gV_ t_1301 t_1204 t_1205 t_191 t_1206) rfl rfl rfl (by decide +kernel) ⟨(Nat.le_of_ble_eq_true rfl), (Nat.le_of_ble_eq_true rfl)⟩) (pre3V g hK mq3_ kq3_ (by decide) (q := (RX7, TX7, 19)) rfl) rfl rfl hl.1 rfl (lv_room (Nat.le_of_ble_eq_true rfl)) dX2_readArguments_221 ⟨(Nat.le_of_ble_eq_true rfl), (Nat.le_of_ble_eq_true rfl)⟩) g hK (by decide) (by decide) (fx' := [(2, 13, a0_, .int x_208), (2, 12, a0_, .int x_207), (8, 6, q0_, .int 1201), (8, 8, q0_, .int x_131), (2, 14, a0_, .int x_13), (2, 0, a0_, .ref q0_), (2, 1, a0_, .ref q1_), (2, 2, a0_, .ref q2_), (2, 3, a0_, .ref q3_), (0, 0, q2_, .ref q0_), (0, 1, q2_, .ref q1_), (5, 0, q1_, .ref q6_), (5, 1, q1_, .ref q7_)]) rfl (fun fr_214 H locs hp hMr_214 g => ?_)
                  obtain ⟨x_215, h_216, hF_217⟩ := hp
                  have hG_218 := eOK.frame hMr_214 go_.2.2.2.1 mq2_ kq2_ (by decide) (by decide) hG_213
                  have g := g.more hF_217
                  refine lv_aload_n hx hb dX2_readArguments_224 rfl (lv_at hl 4 rfl) ?_
                  refine g_getk (C := RX2) (T := TX2) (N := 16) hx hb hts (mc_ inX2) hown hK g rfl 0 (by decide) rfl (hts _ (List.mem_cons_of_mem _ t_416)) (fun _ h9 => h9) 6 rfl dX2_readArguments_225 ?_
                  refine lv_bipush (v := 59) hx hb dX2_readArguments_228 (by decide) ?_
                  have kb_1201 : bd 1201 1201 (1201 : Int32) := ⟨by decide, by decide⟩
                  have go_ := g
                  refine g_callv (va_runV (As := [.int 59]) (rest := []) ⟨hx, hb, hml, hown, hts⟩ (r_X8_take_2 l dC dI L kd tys fr_214 H.size g.2.2.2.1 q0_ mq0_ kq0_ 59 1201 kb_1201 x_131 h_132 (g.fcts [3, 4] rfl)) (cwV 1 hts (gV_ t_1098 t_1099 t_1100 t_184 t_1101) rfl rfl rfl (by decide +kernel) ⟨(Nat.le_of_ble_eq_true rfl), (Nat.le_of_ble_eq_true rfl)⟩) (pre3V g hK mq0_ kq0_ (by decide) (q := (RX8, TX8, 10)) rfl) rfl rfl hl.1 rfl (lv_room (Nat.le_of_ble_eq_true rfl)) dX2_readArguments_230 ⟨(Nat.le_of_ble_eq_true rfl), (Nat.le_of_ble_eq_true rfl)⟩) g hK (by decide) (by decide) (fx' := [(7, 6, q3_, .int x_215), (2, 13, a0_, .int x_208), (2, 12, a0_, .int x_207), (8, 8, q0_, .int x_131), (2, 14, a0_, .int x_13), (2, 0, a0_, .ref q0_), (2, 1, a0_, .ref q1_), (2, 2, a0_, .ref q2_), (2, 3, a0_, .ref q3_), (0, 0, q2_, .ref q0_), (0, 1, q2_, .ref q1_), (5, 0, q1_, .ref q6_), (5, 1, q1_, .ref q7_)]) rfl (fun fr_219 H locs hp hMr_219 g => ?_)
                  obtain ⟨x_220, h_221, hF_222⟩ := hp
                  have hG_223 := eOK.frame hMr_219 go_.2.2.2.1 mq2_ kq2_ (by decide) (by decide) hG_218
                  have g := g.more hF_222
                  subst hQ
                  exact W.vret hx hb hr (fun t ht hW => ⟨⟨_, rfl, Or.inr (⟨hG_223, x_220, h_221, x_131, h_132, x_215, h_216, (g.fcts [0, 4, 1] rfl)⟩), q3_of g hK ht hW⟩, g.2.2.1.F ht⟩) g.2.2.1.2.2 dX2_readArguments_233
            · have fc_121 := nlt_f c_121
              have b_224 : bd 0 3 v69_4 := leL fc_121 bv69_4 kb_3 (by decide)
              refine lv_iload_n hx hb dX2_readArguments_75 rfl (lv_at hl 1 rfl) ?_
              refine lv_if_eq (tgt := 162) hx hb dX2_readArguments_76 (by decide) (fun c_225 => ?_) (fun c_225 => ?_)
              · have fc_225 := eq_f c_225
                have b_226 : bd 0 0 v69_3 := eqX fc_225 bv69_3 kb_0 (by decide)
                refine lv_aload_n hx hb dX2_readArguments_162 rfl (lv_at hl 4 rfl) ?_
                refine g_getk (C := RX2) (T := TX2) (N := 16) hx hb hts (mc_ inX2) hown hK g rfl 0 (by decide) rfl (hts _ (List.mem_cons_of_mem _ t_416)) (fun _ h9 => h9) 2 rfl dX2_readArguments_163 ?_
                have go_ := g
                refine g_calli (va_runV (As := []) (rest := []) ⟨hx, hb, hml, hown, hts⟩ (r_X8_place l dC dI L kd tys f H.size g.2.2.2.1 q0_ mq0_ kq0_) (cwV 0 hts (gV_ t_1110 t_1111 t_1112 t_184 t_1113) rfl rfl rfl (by decide +kernel) ⟨(Nat.le_of_ble_eq_true rfl), (Nat.le_of_ble_eq_true rfl)⟩) (pre3V g hK mq0_ kq0_ (by decide) (q := (RX8, TX8, 10)) rfl) rfl rfl hl.1 rfl (lv_room (Nat.le_of_ble_eq_true rfl)) dX2_readArguments_166 ⟨(Nat.le_of_ble_eq_true rfl), (Nat.le_of_ble_eq_true rfl)⟩) g hK (by decide) (by decide) (fx' := [(2, 14, a0_, .int x_13), (8, 8, q0_, .int w69_8_8_q0_), (2, 0, a0_, .ref q0_), (2, 1, a0_, .ref q1_), (2, 2, a0_, .ref q2_), (2, 3, a0_, .ref q3_), (0, 0, q2_, .ref q0_), (0, 1, q2_, .ref q1_), (5, 0, q1_, .ref q6_), (5, 1, q1_, .ref q7_)]) rfl (fun r_227 fr_227 H locs hp hMr_227 g => ?_)
                have hG_228 := eOK.frame hMr_227 go_.2.2.2.1 mq2_ kq2_ (by decide) (by decide) hG69_e_q2_
                refine lv_istore (lv' := [(4, .int r_227), (3, .int v69_3), (2, .int v69_2), (1, .int r_1), (0, .ref a0_)]) hx hb dX2_readArguments_169 hl (by decide) rfl (fun ls hl => ?_)
                refine lv_aload_n hx hb dX2_readArguments_171 rfl (lv_at hl 4 rfl) ?_
                refine g_getk (C := RX2) (T := TX2) (N := 16) hx hb hts (mc_ inX2) hown hK g rfl 0 (by decide) rfl (hts _ (List.mem_cons_of_mem _ t_416)) (fun _ h9 => h9) 2 rfl dX2_readArguments_172 ?_
                refine lv_bipush (v := 41) hx hb dX2_readArguments_175 (by decide) ?_
                have go_ := g
                refine g_callv (va_runV (As := [.int 41]) (rest := []) ⟨hx, hb, hml, hown, hts⟩ (r_X8_take l dC dI L kd tys fr_227 H.size g.2.2.2.1 q0_ mq0_ kq0_ 41 w69_8_8_q0_ bw69_8_8_q0_ (g.fcts [1] rfl)) (cwV 1 hts (gV_ t_1098 t_1099 t_1100 t_184 t_1101) rfl rfl rfl (by decide +kernel) ⟨(Nat.le_of_ble_eq_true rfl), (Nat.le_of_ble_eq_true rfl)⟩) (pre3V g hK mq0_ kq0_ (by decide) (q := (RX8, TX8, 10)) rfl) rfl rfl hl.1 rfl (lv_room (Nat.le_of_ble_eq_true rfl)) dX2_readArguments_177 ⟨(Nat.le_of_ble_eq_true rfl), (Nat.le_of_ble_eq_true rfl)⟩) g hK (by decide) (by decide) (fx' := [(2, 14, a0_, .int x_13), (2, 0, a0_, .ref q0_), (2, 1, a0_, .ref q1_), (2, 2, a0_, .ref q2_), (2, 3, a0_, .ref q3_), (0, 0, q2_, .ref q0_), (0, 1, q2_, .ref q1_), (5, 0, q1_, .ref q6_), (5, 1, q1_, .ref q7_)]) rfl (fun fr_229 H locs hp hMr_229 g => ?_)
                rcases hp with ⟨x_230, h_231, x_232, h_233, hF_234⟩ | ⟨x_235, h_236, hF_237⟩
                · have hG_238 := eOK.frame hMr_229 go_.2.2.2.1 mq2_ kq2_ (by decide) (by decide) hG_228
                  have g := g.more hF_234
                  refine lv_iload_n hx hb dX2_readArguments_180 rfl (lv_at hl 2 rfl) ?_
                  refine lv_aload_n hx hb dX2_readArguments_181 rfl (lv_at hl 4 rfl) ?_
                  refine g_getk (C := RX2) (T := TX2) (N := 16) hx hb hts (mc_ inX2) hown hK g rfl 14 (by decide) rfl (hts _ (List.mem_cons_of_mem _ t_430)) (fun _ h9 => h9) 2 rfl dX2_readArguments_182 ?_
                  refine lv_icmp_ge (tgt := 199) hx hb dX2_readArguments_185 (by decide) (fun c_239 => ?_) (fun c_239 => ?_)
                  · have fc_239 := le_f c_239
                    refine lv_aload_n hx hb dX2_readArguments_199 rfl (lv_at hl 4 rfl) ?_
                    refine g_getk (C := RX2) (T := TX2) (N := 16) hx hb hts (mc_ inX2) hown hK g rfl 3 (by decide) rfl (hts _ (List.mem_cons_of_mem _ t_419)) (fun _ h9 => h9) 6 rfl dX2_readArguments_200 ?_
                    refine lv_aload_n hx hb dX2_readArguments_203 rfl (lv_at hl 4 rfl) ?_
                    refine g_geti (C := RX2) (T := TX2) (N := 16) hx hb hts (mc_ inX2) hown hK g ma0_ ka0_ (by decide) rfl 12 (by decide) rfl (hts _ (List.mem_cons_of_mem _ t_428)) (fun _ h9 => h9) rfl dX2_readArguments_204 (fun x_240 bx_240 g => ?_)
                    refine lv_aload_n hx hb dX2_readArguments_207 rfl (lv_at hl 4 rfl) ?_
                    refine g_geti (C := RX2) (T := TX2) (N := 16) hx hb hts (mc_ inX2) hown hK g ma0_ ka0_ (by decide) rfl 13 (by decide) rfl (hts _ (List.mem_cons_of_mem _ t_429)) (fun _ h9 => h9) rfl dX2_readArguments_208 (fun x_241 bx_241 g => ?_)
                    have go_ := g
                    refine g_callv (va_runV (As := [.int x_240, .int x_241]) (rest := []) ⟨hx, hb, hml, hown, hts⟩ (r_X7_emit l dC dI L kd tys fr_229 H.size g.2.2.2.1 q3_ mq3_ kq3_ x_240 x_241) (cwV 2 hts (gV_ t_1301 t_1204 t_1205 t_191 t_1206) rfl rfl rfl (by decide +kernel) ⟨(Nat.le_of_ble_eq_true rfl), (Nat.le_of_ble_eq_true rfl)⟩) (pre3V g hK mq3_ kq3_ (by decide) (q := (RX7, TX7, 19)) rfl) rfl rfl hl.1 rfl (lv_room (Nat.le_of_ble_eq_true rfl)) dX2_readArguments_211 ⟨(Nat.le_of_ble_eq_true rfl), (Nat.le_of_ble_eq_true rfl)⟩) g hK (by decide) (by decide) (fx' := [(2, 13, a0_, .int x_241), (2, 12, a0_, .int x_240), (8, 6, q0_, .int x_230), (8, 8, q0_, .int x_232), (2, 14, a0_, .int x_13), (2, 0, a0_, .ref q0_), (2, 1, a0_, .ref q1_), (2, 2, a0_, .ref q2_), (2, 3, a0_, .ref q3_), (0, 0, q2_, .ref q0_), (0, 1, q2_, .ref q1_), (5, 0, q1_, .ref q6_), (5, 1, q1_, .ref q7_)]) rfl (fun fr_242 H locs hp hMr_242 g => ?_)
                    obtain ⟨x_243, h_244, hF_245⟩ := hp
                    have hG_246 := eOK.frame hMr_242 go_.2.2.2.1 mq2_ kq2_ (by decide) (by decide) hG_238
                    have g := g.more hF_245
                    refine lv_aload_n hx hb dX2_readArguments_214 rfl (lv_at hl 4 rfl) ?_
                    refine g_getk (C := RX2) (T := TX2) (N := 16) hx hb hts (mc_ inX2) hown hK g rfl 3 (by decide) rfl (hts _ (List.mem_cons_of_mem _ t_419)) (fun _ h9 => h9) 9 rfl dX2_readArguments_215 ?_
                    refine lv_bipush (v := 22) hx hb dX2_readArguments_218 (by decide) ?_
                    refine lv_iconst (v := 0) hx hb dX2_readArguments_220 (by decide) ?_
                    have go_ := g
                    refine g_callv (va_runV (As := [.int 22, .int 0]) (rest := []) ⟨hx, hb, hml, hown, hts⟩ (r_X7_emit l dC dI L kd tys fr_242 H.size g.2.2.2.1 q3_ mq3_ kq3_ 22 0) (cwV 2 hts (gV_ t_1301 t_1204 t_1205 t_191 t_1206) rfl rfl rfl (by decide +kernel) ⟨(Nat.le_of_ble_eq_true rfl), (Nat.le_of_ble_eq_true rfl)⟩) (pre3V g hK mq3_ kq3_ (by decide) (q := (RX7, TX7, 19)) rfl) rfl rfl hl.1 rfl (lv_room (Nat.le_of_ble_eq_true rfl)) dX2_readArguments_221 ⟨(Nat.le_of_ble_eq_true rfl), (Nat.le_of_ble_eq_true rfl)⟩) g hK (by decide) (by decide) (fx' := [(2, 13, a0_, .int x_241), (2, 12, a0_, .int x_240), (8, 6, q0_, .int x_230), (8, 8, q0_, .int x_232), (2, 14, a0_, .int x_13), (2, 0, a0_, .ref q0_), (2, 1, a0_, .ref q1_), (2, 2, a0_, .ref q2_), (2, 3, a0_, .ref q3_), (0, 0, q2_, .ref q0_), (0, 1, q2_, .ref q1_), (5, 0, q1_, .ref q6_), (5, 1, q1_, .ref q7_)]) rfl (fun fr_247 H locs hp hMr_247 g => ?_)
                    obtain ⟨x_248, h_249, hF_250⟩ := hp
                    have hG_251 := eOK.frame hMr_247 go_.2.2.2.1 mq2_ kq2_ (by decide) (by decide) hG_246
                    have g := g.more hF_250
                    refine lv_aload_n hx hb dX2_readArguments_224 rfl (lv_at hl 4 rfl) ?_
                    refine g_getk (C := RX2) (T := TX2) (N := 16) hx hb hts (mc_ inX2) hown hK g rfl 0 (by decide) rfl (hts _ (List.mem_cons_of_mem _ t_416)) (fun _ h9 => h9) 6 rfl dX2_readArguments_225 ?_
                    refine lv_bipush (v := 59) hx hb dX2_readArguments_228 (by decide) ?_
                    have go_ := g
                    refine g_callv (va_runV (As := [.int 59]) (rest := []) ⟨hx, hb, hml, hown, hts⟩ (r_X8_take l dC dI L kd tys fr_247 H.size g.2.2.2.1 q0_ mq0_ kq0_ 59 x_232 h_233 (g.fcts [4] rfl)) (cwV 1 hts (gV_ t_1098 t_1099 t_1100 t_184 t_1101) rfl rfl rfl (by decide +kernel) ⟨(Nat.le_of_ble_eq_true rfl), (Nat.le_of_ble_eq_true rfl)⟩) (pre3V g hK mq0_ kq0_ (by decide) (q := (RX8, TX8, 10)) rfl) rfl rfl hl.1 rfl (lv_room (Nat.le_of_ble_eq_true rfl)) dX2_readArguments_230 ⟨(Nat.le_of_ble_eq_true rfl), (Nat.le_of_ble_eq_true rfl)⟩) g hK (by decide) (by decide) (fx' := [(7, 6, q3_, .int x_248), (2, 13, a0_, .int x_241), (2, 12, a0_, .int x_240), (2, 14, a0_, .int x_13), (2, 0, a0_, .ref q0_), (2, 1, a0_, .ref q1_), (2, 2, a0_, .ref q2_), (2, 3, a0_, .ref q3_), (0, 0, q2_, .ref q0_), (0, 1, q2_, .ref q1_), (5, 0, q1_, .ref q6_), (5, 1, q1_, .ref q7_)]) rfl (fun fr_252 H locs hp hMr_252 g => ?_)
                    rcases hp with ⟨x_253, h_254, x_255, h_256, hF_257⟩ | ⟨x_258, h_259, hF_260⟩
                    · have hG_261 := eOK.frame hMr_252 go_.2.2.2.1 mq2_ kq2_ (by decide) (by decide) hG_251
                      have g := g.more hF_257
                      subst hQ
                      exact W.vret hx hb hr (fun t ht hW => ⟨⟨_, rfl, Or.inl ⟨hG_261, x_253, h_254, x_255, h_256, x_248, h_249, (g.fcts [0, 1, 2] rfl)⟩, q3_of g hK ht hW⟩, g.2.2.1.F ht⟩) g.2.2.1.2.2 dX2_readArguments_233
                    · have hG_262 := eOK.frame hMr_252 go_.2.2.2.1 mq2_ kq2_ (by decide) (by decide) hG_251
                      have g := g.more hF_260
                      have kb_1201 : bd 1201 1201 (1201 : Int32) := ⟨by decide, by decide⟩
                      subst hQ
                      exact W.vret hx hb hr (fun t ht hW => ⟨⟨_, rfl, Or.inr (⟨hG_262, 1201, kb_1201, x_258, h_259, x_248, h_249, (g.fcts [0, 1, 2] rfl)⟩), q3_of g hK ht hW⟩, g.2.2.1.F ht⟩) g.2.2.1.2.2 dX2_readArguments_233
                  · have fc_239 := nle_f c_239
                    have b_263 : bd (-2147483648) 2147483646 v69_2 := ltL fc_239 (bdT v69_2) (bdT x_13) (by decide)
                    have b_264 : bd (-2147483647) 2147483647 x_13 := ltR fc_239 (bdT v69_2) (bdT x_13) (by decide)
                    refine lv_aload_n hx hb dX2_readArguments_188 rfl (lv_at hl 4 rfl) ?_
                    refine g_getk (C := RX2) (T := TX2) (N := 16) hx hb hts (mc_ inX2) hown hK g rfl 0 (by decide) rfl (hts _ (List.mem_cons_of_mem _ t_416)) (fun _ h9 => h9) 3 rfl dX2_readArguments_189 ?_
                    refine lv_bipush (v := 6) hx hb dX2_readArguments_192 (by decide) ?_
                    refine lv_iload hx hb dX2_readArguments_194 (lv_at hl 0 rfl) ?_
                    have kb_6 : bd 6 6 (6 : Int32) := ⟨by decide, by decide⟩
                    have go_ := g
                    refine g_callv (va_runV (As := [.int 6, .int r_227]) (rest := []) ⟨hx, hb, hml, hown, hts⟩ (r_X8_fail l dC dI L kd tys fr_229 H.size g.2.2.2.1 q0_ mq0_ kq0_ 6 (bd_sub kb_6 (by decide)) r_227 x_232 h_233 (g.fcts [1] rfl)) (cwV 2 hts (gV_ t_1122 t_1107 t_1108 t_184 t_1109) rfl rfl rfl (by decide +kernel) ⟨(Nat.le_of_ble_eq_true rfl), (Nat.le_of_ble_eq_true rfl)⟩) (pre3V g hK mq0_ kq0_ (by decide) (q := (RX8, TX8, 10)) rfl) rfl rfl hl.1 rfl (lv_room (Nat.le_of_ble_eq_true rfl)) dX2_readArguments_196 ⟨(Nat.le_of_ble_eq_true rfl), (Nat.le_of_ble_eq_true rfl)⟩) g hK (by decide) (by decide) (fx' := [(2, 14, a0_, .int x_13), (2, 0, a0_, .ref q0_), (2, 1, a0_, .ref q1_), (2, 2, a0_, .ref q2_), (2, 3, a0_, .ref q3_), (0, 0, q2_, .ref q0_), (0, 1, q2_, .ref q1_), (5, 0, q1_, .ref q6_), (5, 1, q1_, .ref q7_)]) rfl (fun fr_265 H locs hp hMr_265 g => ?_)
                    obtain ⟨x_266, h_267, hF_268⟩ := hp
                    have hG_269 := eOK.frame hMr_265 go_.2.2.2.1 mq2_ kq2_ (by decide) (by decide) hG_238
                    have g := g.more hF_268
                    refine lv_aload_n hx hb dX2_readArguments_199 rfl (lv_at hl 4 rfl) ?_
                    refine g_getk (C := RX2) (T := TX2) (N := 16) hx hb hts (mc_ inX2) hown hK g rfl 3 (by decide) rfl (hts _ (List.mem_cons_of_mem _ t_419)) (fun _ h9 => h9) 6 rfl dX2_readArguments_200 ?_
                    refine lv_aload_n hx hb dX2_readArguments_203 rfl (lv_at hl 4 rfl) ?_
                    refine g_geti (C := RX2) (T := TX2) (N := 16) hx hb hts (mc_ inX2) hown hK g ma0_ ka0_ (by decide) rfl 12 (by decide) rfl (hts _ (List.mem_cons_of_mem _ t_428)) (fun _ h9 => h9) rfl dX2_readArguments_204 (fun x_270 bx_270 g => ?_)
                    refine lv_aload_n hx hb dX2_readArguments_207 rfl (lv_at hl 4 rfl) ?_
                    refine g_geti (C := RX2) (T := TX2) (N := 16) hx hb hts (mc_ inX2) hown hK g ma0_ ka0_ (by decide) rfl 13 (by decide) rfl (hts _ (List.mem_cons_of_mem _ t_429)) (fun _ h9 => h9) rfl dX2_readArguments_208 (fun x_271 bx_271 g => ?_)
                    have go_ := g
                    refine g_callv (va_runV (As := [.int x_270, .int x_271]) (rest := []) ⟨hx, hb, hml, hown, hts⟩ (r_X7_emit l dC dI L kd tys fr_265 H.size g.2.2.2.1 q3_ mq3_ kq3_ x_270 x_271) (cwV 2 hts (gV_ t_1301 t_1204 t_1205 t_191 t_1206) rfl rfl rfl (by decide +kernel) ⟨(Nat.le_of_ble_eq_true rfl), (Nat.le_of_ble_eq_true rfl)⟩) (pre3V g hK mq3_ kq3_ (by decide) (q := (RX7, TX7, 19)) rfl) rfl rfl hl.1 rfl (lv_room (Nat.le_of_ble_eq_true rfl)) dX2_readArguments_211 ⟨(Nat.le_of_ble_eq_true rfl), (Nat.le_of_ble_eq_true rfl)⟩) g hK (by decide) (by decide) (fx' := [(2, 13, a0_, .int x_271), (2, 12, a0_, .int x_270), (8, 6, q0_, .int 1201), (8, 8, q0_, .int x_266), (2, 14, a0_, .int x_13), (2, 0, a0_, .ref q0_), (2, 1, a0_, .ref q1_), (2, 2, a0_, .ref q2_), (2, 3, a0_, .ref q3_), (0, 0, q2_, .ref q0_), (0, 1, q2_, .ref q1_), (5, 0, q1_, .ref q6_), (5, 1, q1_, .ref q7_)]) rfl (fun fr_272 H locs hp hMr_272 g => ?_)
                    obtain ⟨x_273, h_274, hF_275⟩ := hp
                    have hG_276 := eOK.frame hMr_272 go_.2.2.2.1 mq2_ kq2_ (by decide) (by decide) hG_269
                    have g := g.more hF_275
                    refine lv_aload_n hx hb dX2_readArguments_214 rfl (lv_at hl 4 rfl) ?_
                    refine g_getk (C := RX2) (T := TX2) (N := 16) hx hb hts (mc_ inX2) hown hK g rfl 3 (by decide) rfl (hts _ (List.mem_cons_of_mem _ t_419)) (fun _ h9 => h9) 9 rfl dX2_readArguments_215 ?_
                    refine lv_bipush (v := 22) hx hb dX2_readArguments_218 (by decide) ?_
                    refine lv_iconst (v := 0) hx hb dX2_readArguments_220 (by decide) ?_
                    have go_ := g
                    refine g_callv (va_runV (As := [.int 22, .int 0]) (rest := []) ⟨hx, hb, hml, hown, hts⟩ (r_X7_emit l dC dI L kd tys fr_272 H.size g.2.2.2.1 q3_ mq3_ kq3_ 22 0) (cwV 2 hts (gV_ t_1301 t_1204 t_1205 t_191 t_1206) rfl rfl rfl (by decide +kernel) ⟨(Nat.le_of_ble_eq_true rfl), (Nat.le_of_ble_eq_true rfl)⟩) (pre3V g hK mq3_ kq3_ (by decide) (q := (RX7, TX7, 19)) rfl) rfl rfl hl.1 rfl (lv_room (Nat.le_of_ble_eq_true rfl)) dX2_readArguments_221 ⟨(Nat.le_of_ble_eq_true rfl), (Nat.le_of_ble_eq_true rfl)⟩) g hK (by decide) (by decide) (fx' := [(2, 13, a0_, .int x_271), (2, 12, a0_, .int x_270), (8, 6, q0_, .int 1201), (8, 8, q0_, .int x_266), (2, 14, a0_, .int x_13), (2, 0, a0_, .ref q0_), (2, 1, a0_, .ref q1_), (2, 2, a0_, .ref q2_), (2, 3, a0_, .ref q3_), (0, 0, q2_, .ref q0_), (0, 1, q2_, .ref q1_), (5, 0, q1_, .ref q6_), (5, 1, q1_, .ref q7_)]) rfl (fun fr_277 H locs hp hMr_277 g => ?_)
                    obtain ⟨x_278, h_279, hF_280⟩ := hp
                    have hG_281 := eOK.frame hMr_277 go_.2.2.2.1 mq2_ kq2_ (by decide) (by decide) hG_276
                    have g := g.more hF_280
                    refine lv_aload_n hx hb dX2_readArguments_224 rfl (lv_at hl 4 rfl) ?_
                    refine g_getk (C := RX2) (T := TX2) (N := 16) hx hb hts (mc_ inX2) hown hK g rfl 0 (by decide) rfl (hts _ (List.mem_cons_of_mem _ t_416)) (fun _ h9 => h9) 6 rfl dX2_readArguments_225 ?_
                    refine lv_bipush (v := 59) hx hb dX2_readArguments_228 (by decide) ?_
                    have kb_1201 : bd 1201 1201 (1201 : Int32) := ⟨by decide, by decide⟩
                    have go_ := g
                    refine g_callv (va_runV (As := [.int 59]) (rest := []) ⟨hx, hb, hml, hown, hts⟩ (r_X8_take_2 l dC dI L kd tys fr_277 H.size g.2.2.2.1 q0_ mq0_ kq0_ 59 1201 kb_1201 x_266 h_267 (g.fcts [3, 4] rfl)) (cwV 1 hts (gV_ t_1098 t_1099 t_1100 t_184 t_1101) rfl rfl rfl (by decide +kernel) ⟨(Nat.le_of_ble_eq_true rfl), (Nat.le_of_ble_eq_true rfl)⟩) (pre3V g hK mq0_ kq0_ (by decide) (q := (RX8, TX8, 10)) rfl) rfl rfl hl.1 rfl (lv_room (Nat.le_of_ble_eq_true rfl)) dX2_readArguments_230 ⟨(Nat.le_of_ble_eq_true rfl), (Nat.le_of_ble_eq_true rfl)⟩) g hK (by decide) (by decide) (fx' := [(7, 6, q3_, .int x_278), (2, 13, a0_, .int x_271), (2, 12, a0_, .int x_270), (8, 8, q0_, .int x_266), (2, 14, a0_, .int x_13), (2, 0, a0_, .ref q0_), (2, 1, a0_, .ref q1_), (2, 2, a0_, .ref q2_), (2, 3, a0_, .ref q3_), (0, 0, q2_, .ref q0_), (0, 1, q2_, .ref q1_), (5, 0, q1_, .ref q6_), (5, 1, q1_, .ref q7_)]) rfl (fun fr_282 H locs hp hMr_282 g => ?_)
                    obtain ⟨x_283, h_284, hF_285⟩ := hp
                    have hG_286 := eOK.frame hMr_282 go_.2.2.2.1 mq2_ kq2_ (by decide) (by decide) hG_281
                    have g := g.more hF_285
                    subst hQ
                    exact W.vret hx hb hr (fun t ht hW => ⟨⟨_, rfl, Or.inr (⟨hG_286, x_283, h_284, x_266, h_267, x_278, h_279, (g.fcts [0, 4, 1] rfl)⟩), q3_of g hK ht hW⟩, g.2.2.1.F ht⟩) g.2.2.1.2.2 dX2_readArguments_233
                · have hG_287 := eOK.frame hMr_229 go_.2.2.2.1 mq2_ kq2_ (by decide) (by decide) hG_228
                  have g := g.more hF_237
                  refine lv_iload_n hx hb dX2_readArguments_180 rfl (lv_at hl 2 rfl) ?_
                  refine lv_aload_n hx hb dX2_readArguments_181 rfl (lv_at hl 4 rfl) ?_
                  refine g_getk (C := RX2) (T := TX2) (N := 16) hx hb hts (mc_ inX2) hown hK g rfl 14 (by decide) rfl (hts _ (List.mem_cons_of_mem _ t_430)) (fun _ h9 => h9) 2 rfl dX2_readArguments_182 ?_
                  refine lv_icmp_ge (tgt := 199) hx hb dX2_readArguments_185 (by decide) (fun c_288 => ?_) (fun c_288 => ?_)
                  · have fc_288 := le_f c_288
                    refine lv_aload_n hx hb dX2_readArguments_199 rfl (lv_at hl 4 rfl) ?_
                    refine g_getk (C := RX2) (T := TX2) (N := 16) hx hb hts (mc_ inX2) hown hK g rfl 3 (by decide) rfl (hts _ (List.mem_cons_of_mem _ t_419)) (fun _ h9 => h9) 6 rfl dX2_readArguments_200 ?_
                    refine lv_aload_n hx hb dX2_readArguments_203 rfl (lv_at hl 4 rfl) ?_
                    refine g_geti (C := RX2) (T := TX2) (N := 16) hx hb hts (mc_ inX2) hown hK g ma0_ ka0_ (by decide) rfl 12 (by decide) rfl (hts _ (List.mem_cons_of_mem _ t_428)) (fun _ h9 => h9) rfl dX2_readArguments_204 (fun x_289 bx_289 g => ?_)
                    refine lv_aload_n hx hb dX2_readArguments_207 rfl (lv_at hl 4 rfl) ?_
                    refine g_geti (C := RX2) (T := TX2) (N := 16) hx hb hts (mc_ inX2) hown hK g ma0_ ka0_ (by decide) rfl 13 (by decide) rfl (hts _ (List.mem_cons_of_mem _ t_429)) (fun _ h9 => h9) rfl dX2_readArguments_208 (fun x_290 bx_290 g => ?_)
                    have go_ := g
                    refine g_callv (va_runV (As := [.int x_289, .int x_290]) (rest := []) ⟨hx, hb, hml, hown, hts⟩ (r_X7_emit l dC dI L kd tys fr_229 H.size g.2.2.2.1 q3_ mq3_ kq3_ x_289 x_290) (cwV 2 hts (gV_ t_1301 t_1204 t_1205 t_191 t_1206) rfl rfl rfl (by decide +kernel) ⟨(Nat.le_of_ble_eq_true rfl), (Nat.le_of_ble_eq_true rfl)⟩) (pre3V g hK mq3_ kq3_ (by decide) (q := (RX7, TX7, 19)) rfl) rfl rfl hl.1 rfl (lv_room (Nat.le_of_ble_eq_true rfl)) dX2_readArguments_211 ⟨(Nat.le_of_ble_eq_true rfl), (Nat.le_of_ble_eq_true rfl)⟩) g hK (by decide) (by decide) (fx' := [(2, 13, a0_, .int x_290), (2, 12, a0_, .int x_289), (8, 6, q0_, .int 1201), (8, 8, q0_, .int x_235), (2, 14, a0_, .int x_13), (2, 0, a0_, .ref q0_), (2, 1, a0_, .ref q1_), (2, 2, a0_, .ref q2_), (2, 3, a0_, .ref q3_), (0, 0, q2_, .ref q0_), (0, 1, q2_, .ref q1_), (5, 0, q1_, .ref q6_), (5, 1, q1_, .ref q7_)]) rfl (fun fr_291 H locs hp hMr_291 g => ?_)
                    obtain ⟨x_292, h_293, hF_294⟩ := hp
                    have hG_295 := eOK.frame hMr_291 go_.2.2.2.1 mq2_ kq2_ (by decide) (by decide) hG_287
                    have g := g.more hF_294
                    refine lv_aload_n hx hb dX2_readArguments_214 rfl (lv_at hl 4 rfl) ?_
                    refine g_getk (C := RX2) (T := TX2) (N := 16) hx hb hts (mc_ inX2) hown hK g rfl 3 (by decide) rfl (hts _ (List.mem_cons_of_mem _ t_419)) (fun _ h9 => h9) 9 rfl dX2_readArguments_215 ?_
                    refine lv_bipush (v := 22) hx hb dX2_readArguments_218 (by decide) ?_
                    refine lv_iconst (v := 0) hx hb dX2_readArguments_220 (by decide) ?_
                    have go_ := g
                    refine g_callv (va_runV (As := [.int 22, .int 0]) (rest := []) ⟨hx, hb, hml, hown, hts⟩ (r_X7_emit l dC dI L kd tys fr_291 H.size g.2.2.2.1 q3_ mq3_ kq3_ 22 0) (cwV 2 hts (gV_ t_1301 t_1204 t_1205 t_191 t_1206) rfl rfl rfl (by decide +kernel) ⟨(Nat.le_of_ble_eq_true rfl), (Nat.le_of_ble_eq_true rfl)⟩) (pre3V g hK mq3_ kq3_ (by decide) (q := (RX7, TX7, 19)) rfl) rfl rfl hl.1 rfl (lv_room (Nat.le_of_ble_eq_true rfl)) dX2_readArguments_221 ⟨(Nat.le_of_ble_eq_true rfl), (Nat.le_of_ble_eq_true rfl)⟩) g hK (by decide) (by decide) (fx' := [(2, 13, a0_, .int x_290), (2, 12, a0_, .int x_289), (8, 6, q0_, .int 1201), (8, 8, q0_, .int x_235), (2, 14, a0_, .int x_13), (2, 0, a0_, .ref q0_), (2, 1, a0_, .ref q1_), (2, 2, a0_, .ref q2_), (2, 3, a0_, .ref q3_), (0, 0, q2_, .ref q0_), (0, 1, q2_, .ref q1_), (5, 0, q1_, .ref q6_), (5, 1, q1_, .ref q7_)]) rfl (fun fr_296 H locs hp hMr_296 g => ?_)
                    obtain ⟨x_297, h_298, hF_299⟩ := hp
                    have hG_300 := eOK.frame hMr_296 go_.2.2.2.1 mq2_ kq2_ (by decide) (by decide) hG_295
                    have g := g.more hF_299
                    refine lv_aload_n hx hb dX2_readArguments_224 rfl (lv_at hl 4 rfl) ?_
                    refine g_getk (C := RX2) (T := TX2) (N := 16) hx hb hts (mc_ inX2) hown hK g rfl 0 (by decide) rfl (hts _ (List.mem_cons_of_mem _ t_416)) (fun _ h9 => h9) 6 rfl dX2_readArguments_225 ?_
                    refine lv_bipush (v := 59) hx hb dX2_readArguments_228 (by decide) ?_
                    have kb_1201 : bd 1201 1201 (1201 : Int32) := ⟨by decide, by decide⟩
                    have go_ := g
                    refine g_callv (va_runV (As := [.int 59]) (rest := []) ⟨hx, hb, hml, hown, hts⟩ (r_X8_take_2 l dC dI L kd tys fr_296 H.size g.2.2.2.1 q0_ mq0_ kq0_ 59 1201 kb_1201 x_235 h_236 (g.fcts [3, 4] rfl)) (cwV 1 hts (gV_ t_1098 t_1099 t_1100 t_184 t_1101) rfl rfl rfl (by decide +kernel) ⟨(Nat.le_of_ble_eq_true rfl), (Nat.le_of_ble_eq_true rfl)⟩) (pre3V g hK mq0_ kq0_ (by decide) (q := (RX8, TX8, 10)) rfl) rfl rfl hl.1 rfl (lv_room (Nat.le_of_ble_eq_true rfl)) dX2_readArguments_230 ⟨(Nat.le_of_ble_eq_true rfl), (Nat.le_of_ble_eq_true rfl)⟩) g hK (by decide) (by decide) (fx' := [(7, 6, q3_, .int x_297), (2, 13, a0_, .int x_290), (2, 12, a0_, .int x_289), (8, 8, q0_, .int x_235), (2, 14, a0_, .int x_13), (2, 0, a0_, .ref q0_), (2, 1, a0_, .ref q1_), (2, 2, a0_, .ref q2_), (2, 3, a0_, .ref q3_), (0, 0, q2_, .ref q0_), (0, 1, q2_, .ref q1_), (5, 0, q1_, .ref q6_), (5, 1, q1_, .ref q7_)]) rfl (fun fr_301 H locs hp hMr_301 g => ?_)
                    obtain ⟨x_302, h_303, hF_304⟩ := hp
                    have hG_305 := eOK.frame hMr_301 go_.2.2.2.1 mq2_ kq2_ (by decide) (by decide) hG_300
                    have g := g.more hF_304
                    subst hQ
                    exact W.vret hx hb hr (fun t ht hW => ⟨⟨_, rfl, Or.inr (⟨hG_305, x_302, h_303, x_235, h_236, x_297, h_298, (g.fcts [0, 4, 1] rfl)⟩), q3_of g hK ht hW⟩, g.2.2.1.F ht⟩) g.2.2.1.2.2 dX2_readArguments_233
                  · have fc_288 := nle_f c_288
                    have b_306 : bd (-2147483648) 2147483646 v69_2 := ltL fc_288 (bdT v69_2) (bdT x_13) (by decide)
                    have b_307 : bd (-2147483647) 2147483647 x_13 := ltR fc_288 (bdT v69_2) (bdT x_13) (by decide)
                    refine lv_aload_n hx hb dX2_readArguments_188 rfl (lv_at hl 4 rfl) ?_
                    refine g_getk (C := RX2) (T := TX2) (N := 16) hx hb hts (mc_ inX2) hown hK g rfl 0 (by decide) rfl (hts _ (List.mem_cons_of_mem _ t_416)) (fun _ h9 => h9) 3 rfl dX2_readArguments_189 ?_
                    refine lv_bipush (v := 6) hx hb dX2_readArguments_192 (by decide) ?_
                    refine lv_iload hx hb dX2_readArguments_194 (lv_at hl 0 rfl) ?_
                    have kb_6 : bd 6 6 (6 : Int32) := ⟨by decide, by decide⟩
                    have go_ := g
                    refine g_callv (va_runV (As := [.int 6, .int r_227]) (rest := []) ⟨hx, hb, hml, hown, hts⟩ (r_X8_fail_2 l dC dI L kd tys fr_229 H.size g.2.2.2.1 q0_ mq0_ kq0_ 6 (bd_sub kb_6 (by decide)) r_227 x_235 h_236 (g.fcts [1] rfl)) (cwV 2 hts (gV_ t_1122 t_1107 t_1108 t_184 t_1109) rfl rfl rfl (by decide +kernel) ⟨(Nat.le_of_ble_eq_true rfl), (Nat.le_of_ble_eq_true rfl)⟩) (pre3V g hK mq0_ kq0_ (by decide) (q := (RX8, TX8, 10)) rfl) rfl rfl hl.1 rfl (lv_room (Nat.le_of_ble_eq_true rfl)) dX2_readArguments_196 ⟨(Nat.le_of_ble_eq_true rfl), (Nat.le_of_ble_eq_true rfl)⟩) g hK (by decide) (by decide) (fx' := [(8, 8, q0_, .int x_235), (2, 14, a0_, .int x_13), (2, 0, a0_, .ref q0_), (2, 1, a0_, .ref q1_), (2, 2, a0_, .ref q2_), (2, 3, a0_, .ref q3_), (0, 0, q2_, .ref q0_), (0, 1, q2_, .ref q1_), (5, 0, q1_, .ref q6_), (5, 1, q1_, .ref q7_)]) rfl (fun fr_308 H locs hp hMr_308 g => ?_)
                    have hF_309 := hp
                    have hG_310 := eOK.frame hMr_308 go_.2.2.2.1 mq2_ kq2_ (by decide) (by decide) hG_287
                    have g := g.more hF_309
                    refine lv_aload_n hx hb dX2_readArguments_199 rfl (lv_at hl 4 rfl) ?_
                    refine g_getk (C := RX2) (T := TX2) (N := 16) hx hb hts (mc_ inX2) hown hK g rfl 3 (by decide) rfl (hts _ (List.mem_cons_of_mem _ t_419)) (fun _ h9 => h9) 6 rfl dX2_readArguments_200 ?_
                    refine lv_aload_n hx hb dX2_readArguments_203 rfl (lv_at hl 4 rfl) ?_
                    refine g_geti (C := RX2) (T := TX2) (N := 16) hx hb hts (mc_ inX2) hown hK g ma0_ ka0_ (by decide) rfl 12 (by decide) rfl (hts _ (List.mem_cons_of_mem _ t_428)) (fun _ h9 => h9) rfl dX2_readArguments_204 (fun x_311 bx_311 g => ?_)
                    refine lv_aload_n hx hb dX2_readArguments_207 rfl (lv_at hl 4 rfl) ?_
                    refine g_geti (C := RX2) (T := TX2) (N := 16) hx hb hts (mc_ inX2) hown hK g ma0_ ka0_ (by decide) rfl 13 (by decide) rfl (hts _ (List.mem_cons_of_mem _ t_429)) (fun _ h9 => h9) rfl dX2_readArguments_208 (fun x_312 bx_312 g => ?_)
                    have go_ := g
                    refine g_callv (va_runV (As := [.int x_311, .int x_312]) (rest := []) ⟨hx, hb, hml, hown, hts⟩ (r_X7_emit l dC dI L kd tys fr_308 H.size g.2.2.2.1 q3_ mq3_ kq3_ x_311 x_312) (cwV 2 hts (gV_ t_1301 t_1204 t_1205 t_191 t_1206) rfl rfl rfl (by decide +kernel) ⟨(Nat.le_of_ble_eq_true rfl), (Nat.le_of_ble_eq_true rfl)⟩) (pre3V g hK mq3_ kq3_ (by decide) (q := (RX7, TX7, 19)) rfl) rfl rfl hl.1 rfl (lv_room (Nat.le_of_ble_eq_true rfl)) dX2_readArguments_211 ⟨(Nat.le_of_ble_eq_true rfl), (Nat.le_of_ble_eq_true rfl)⟩) g hK (by decide) (by decide) (fx' := [(2, 13, a0_, .int x_312), (2, 12, a0_, .int x_311), (8, 6, q0_, .int 1201), (8, 8, q0_, .int x_235), (2, 14, a0_, .int x_13), (2, 0, a0_, .ref q0_), (2, 1, a0_, .ref q1_), (2, 2, a0_, .ref q2_), (2, 3, a0_, .ref q3_), (0, 0, q2_, .ref q0_), (0, 1, q2_, .ref q1_), (5, 0, q1_, .ref q6_), (5, 1, q1_, .ref q7_)]) rfl (fun fr_313 H locs hp hMr_313 g => ?_)
                    obtain ⟨x_314, h_315, hF_316⟩ := hp
                    have hG_317 := eOK.frame hMr_313 go_.2.2.2.1 mq2_ kq2_ (by decide) (by decide) hG_310
                    have g := g.more hF_316
                    refine lv_aload_n hx hb dX2_readArguments_214 rfl (lv_at hl 4 rfl) ?_
                    refine g_getk (C := RX2) (T := TX2) (N := 16) hx hb hts (mc_ inX2) hown hK g rfl 3 (by decide) rfl (hts _ (List.mem_cons_of_mem _ t_419)) (fun _ h9 => h9) 9 rfl dX2_readArguments_215 ?_
                    refine lv_bipush (v := 22) hx hb dX2_readArguments_218 (by decide) ?_
                    refine lv_iconst (v := 0) hx hb dX2_readArguments_220 (by decide) ?_
                    have go_ := g
                    refine g_callv (va_runV (As := [.int 22, .int 0]) (rest := []) ⟨hx, hb, hml, hown, hts⟩ (r_X7_emit l dC dI L kd tys fr_313 H.size g.2.2.2.1 q3_ mq3_ kq3_ 22 0) (cwV 2 hts (gV_ t_1301 t_1204 t_1205 t_191 t_1206) rfl rfl rfl (by decide +kernel) ⟨(Nat.le_of_ble_eq_true rfl), (Nat.le_of_ble_eq_true rfl)⟩) (pre3V g hK mq3_ kq3_ (by decide) (q := (RX7, TX7, 19)) rfl) rfl rfl hl.1 rfl (lv_room (Nat.le_of_ble_eq_true rfl)) dX2_readArguments_221 ⟨(Nat.le_of_ble_eq_true rfl), (Nat.le_of_ble_eq_true rfl)⟩) g hK (by decide) (by decide) (fx' := [(2, 13, a0_, .int x_312), (2, 12, a0_, .int x_311), (8, 6, q0_, .int 1201), (8, 8, q0_, .int x_235), (2, 14, a0_, .int x_13), (2, 0, a0_, .ref q0_), (2, 1, a0_, .ref q1_), (2, 2, a0_, .ref q2_), (2, 3, a0_, .ref q3_), (0, 0, q2_, .ref q0_), (0, 1, q2_, .ref q1_), (5, 0, q1_, .ref q6_), (5, 1, q1_, .ref q7_)]) rfl (fun fr_318 H locs hp hMr_318 g => ?_)
                    obtain ⟨x_319, h_320, hF_321⟩ := hp
                    have hG_322 := eOK.frame hMr_318 go_.2.2.2.1 mq2_ kq2_ (by decide) (by decide) hG_317
                    have g := g.more hF_321
                    refine lv_aload_n hx hb dX2_readArguments_224 rfl (lv_at hl 4 rfl) ?_
                    refine g_getk (C := RX2) (T := TX2) (N := 16) hx hb hts (mc_ inX2) hown hK g rfl 0 (by decide) rfl (hts _ (List.mem_cons_of_mem _ t_416)) (fun _ h9 => h9) 6 rfl dX2_readArguments_225 ?_
                    refine lv_bipush (v := 59) hx hb dX2_readArguments_228 (by decide) ?_
                    have kb_1201 : bd 1201 1201 (1201 : Int32) := ⟨by decide, by decide⟩
                    have go_ := g
                    refine g_callv (va_runV (As := [.int 59]) (rest := []) ⟨hx, hb, hml, hown, hts⟩ (r_X8_take_2 l dC dI L kd tys fr_318 H.size g.2.2.2.1 q0_ mq0_ kq0_ 59 1201 kb_1201 x_235 h_236 (g.fcts [3, 4] rfl)) (cwV 1 hts (gV_ t_1098 t_1099 t_1100 t_184 t_1101) rfl rfl rfl (by decide +kernel) ⟨(Nat.le_of_ble_eq_true rfl), (Nat.le_of_ble_eq_true rfl)⟩) (pre3V g hK mq0_ kq0_ (by decide) (q := (RX8, TX8, 10)) rfl) rfl rfl hl.1 rfl (lv_room (Nat.le_of_ble_eq_true rfl)) dX2_readArguments_230 ⟨(Nat.le_of_ble_eq_true rfl), (Nat.le_of_ble_eq_true rfl)⟩) g hK (by decide) (by decide) (fx' := [(7, 6, q3_, .int x_319), (2, 13, a0_, .int x_312), (2, 12, a0_, .int x_311), (8, 8, q0_, .int x_235), (2, 14, a0_, .int x_13), (2, 0, a0_, .ref q0_), (2, 1, a0_, .ref q1_), (2, 2, a0_, .ref q2_), (2, 3, a0_, .ref q3_), (0, 0, q2_, .ref q0_), (0, 1, q2_, .ref q1_), (5, 0, q1_, .ref q6_), (5, 1, q1_, .ref q7_)]) rfl (fun fr_323 H locs hp hMr_323 g => ?_)
                    obtain ⟨x_324, h_325, hF_326⟩ := hp
                    have hG_327 := eOK.frame hMr_323 go_.2.2.2.1 mq2_ kq2_ (by decide) (by decide) hG_322
                    have g := g.more hF_326
                    subst hQ
                    exact W.vret hx hb hr (fun t ht hW => ⟨⟨_, rfl, Or.inr (⟨hG_327, x_324, h_325, x_235, h_236, x_319, h_320, (g.fcts [0, 4, 1] rfl)⟩), q3_of g hK ht hW⟩, g.2.2.1.F ht⟩) g.2.2.1.2.2 dX2_readArguments_233
              · have fc_225 := neq_f c_225
                have b_328 : bd 1 1 v69_3 := neX fc_225 bv69_3 kb_0 (by decide)
                refine lv_aload_n hx hb dX2_readArguments_79 rfl (lv_at hl 4 rfl) ?_
                refine g_getk (C := RX2) (T := TX2) (N := 16) hx hb hts (mc_ inX2) hown hK g rfl 0 (by decide) rfl (hts _ (List.mem_cons_of_mem _ t_416)) (fun _ h9 => h9) 2 rfl dX2_readArguments_80 ?_
                refine g_getk (C := RX8) (T := TX8) (N := 10) hx hb hts (mc_ inX8) hown hK g rfl 8 (by decide) rfl (hts _ (List.mem_cons_of_mem _ t_294)) (fun _ h9 => h9) 1 rfl dX2_readArguments_83 ?_
                refine lv_if_ne (tgt := 162) hx hb dX2_readArguments_86 (by decide) (fun c_329 => ?_) (fun c_329 => ?_)
                · have fc_329 := neq_f c_329
                  have b_330 : bd 1 (-1) w69_8_8_q0_ := neX fc_329 bw69_8_8_q0_ kb_0 (by decide)
                  exact bd_no b_330 (by decide)
                · have fc_329 := eq_f c_329
                  refine lv_aload_n hx hb dX2_readArguments_89 rfl (lv_at hl 4 rfl) ?_
                  refine g_getk (C := RX2) (T := TX2) (N := 16) hx hb hts (mc_ inX2) hown hK g rfl 2 (by decide) rfl (hts _ (List.mem_cons_of_mem _ t_418)) (fun _ h9 => h9) 4 rfl dX2_readArguments_90 ?_
                  have go_ := g
                  refine g_callv (va_runV (As := []) (rest := []) ⟨hx, hb, hml, hown, hts⟩ (r_X0_read l dC dI L kd tys f H.size g.2.2.2.1 q2_ mq2_ kq2_ q0_ mq0_ kq0_ q1_ mq1_ kq1_ q6_ mq6_ kq6_ q7_ mq7_ kq7_ w69_8_8_q0_ bw69_8_8_q0_ hG69_e_q2_ (g.fcts [6, 7, 8, 9, 1] rfl)) (cwV 0 hts (gV_ t_1182 t_1183 t_1184 t_190 t_1185) rfl rfl rfl (by decide +kernel) ⟨(Nat.le_of_ble_eq_true rfl), (Nat.le_of_ble_eq_true rfl)⟩) (pre3V g hK mq2_ kq2_ (by decide) (q := (RX0, TX0, 14)) rfl) rfl rfl hl.1 rfl (lv_room (Nat.le_of_ble_eq_true rfl)) dX2_readArguments_93 ⟨(Nat.le_of_ble_eq_true rfl), (Nat.le_of_ble_eq_true rfl)⟩) g hK (by decide) (by decide) (fx' := [(2, 14, a0_, .int x_13), (2, 0, a0_, .ref q0_), (2, 1, a0_, .ref q1_), (2, 2, a0_, .ref q2_), (2, 3, a0_, .ref q3_), (0, 0, q2_, .ref q0_), (0, 1, q2_, .ref q1_), (5, 0, q1_, .ref q6_), (5, 1, q1_, .ref q7_)]) rfl (fun fr_331 H locs hp hMr_331 g => ?_)
                  rcases hp with ⟨hG_332, x_333, h_334, hF_335⟩ | ⟨hG_336, x_337, h_338, x_339, h_340, hF_341⟩
                  · have g := g.more hF_335
                    have kb_1 : bd 1 1 (1 : Int32) := ⟨by decide, by decide⟩
                    obtain ⟨y_342, ey_342⟩ : ∃ z : Int32, z = v69_2 + 1 := ⟨_, rfl⟩
                    refine lv_iinc (v := y_342) (lv' := [(2, .int y_342), (4, .int v69_4), (3, .int v69_3), (1, .int r_1), (0, .ref a0_)]) hx hb dX2_readArguments_96 hl (k := 2) rfl (by rw [ey_342]; rfl) (by decide) rfl (fun ls hl => ?_)
                    refine lv_aload_n hx hb dX2_readArguments_99 rfl (lv_at hl 4 rfl) ?_
                    refine g_getk (C := RX2) (T := TX2) (N := 16) hx hb hts (mc_ inX2) hown hK g rfl 0 (by decide) rfl (hts _ (List.mem_cons_of_mem _ t_416)) (fun _ h9 => h9) 3 rfl dX2_readArguments_100 ?_
                    have go_ := g
                    refine g_calli (va_runV (As := []) (rest := []) ⟨hx, hb, hml, hown, hts⟩ (r_X8_kind l dC dI L kd tys fr_331 H.size g.2.2.2.1 q0_ mq0_ kq0_) (cwV 0 hts (gV_ t_1118 t_1119 t_1120 t_184 t_1121) rfl rfl rfl (by decide +kernel) ⟨(Nat.le_of_ble_eq_true rfl), (Nat.le_of_ble_eq_true rfl)⟩) (pre3V g hK mq0_ kq0_ (by decide) (q := (RX8, TX8, 10)) rfl) rfl rfl hl.1 rfl (lv_room (Nat.le_of_ble_eq_true rfl)) dX2_readArguments_103 ⟨(Nat.le_of_ble_eq_true rfl), (Nat.le_of_ble_eq_true rfl)⟩) g hK (by decide) (by decide) (fx' := [(0, 2, q2_, .ref q6_), (8, 8, q0_, .int x_333), (2, 14, a0_, .int x_13), (2, 0, a0_, .ref q0_), (2, 1, a0_, .ref q1_), (2, 2, a0_, .ref q2_), (2, 3, a0_, .ref q3_), (0, 0, q2_, .ref q0_), (0, 1, q2_, .ref q1_), (5, 0, q1_, .ref q6_), (5, 1, q1_, .ref q7_)]) rfl (fun r_343 fr_343 H locs hp hMr_343 g => ?_)
                    have hG_344 := eOK.frame hMr_343 go_.2.2.2.1 mq2_ kq2_ (by decide) (by decide) hG_332
                    refine lv_bipush (v := 44) hx hb dX2_readArguments_106 (by decide) ?_
                    have kb_44 : bd 44 44 (44 : Int32) := ⟨by decide, by decide⟩
                    refine lv_icmp_ne (tgt := 115) hx hb dX2_readArguments_108 (by decide) (fun c_345 => ?_) (fun c_345 => ?_)
                    · have fc_345 := neq_f c_345
                      refine lv_iconst (v := 0) hx hb dX2_readArguments_115 (by decide) ?_
                      refine lv_istore_n (lv' := [(3, .int 0), (2, .int y_342), (4, .int v69_4), (1, .int r_1), (0, .ref a0_)]) hx hb dX2_readArguments_116 rfl hl (by decide) rfl (fun ls hl => ?_)
                      refine lv_iload_n hx hb dX2_readArguments_117 rfl (lv_at hl 0 rfl) ?_
                      refine lv_if_eq (tgt := 156) hx hb dX2_readArguments_118 (by decide) (fun c_ => ?_) (fun c_ => absurd (by decide) c_)
                      obtain ⟨y_346, ey_346⟩ : ∃ z : Int32, z = v69_4 + 1 := ⟨_, rfl⟩
                      refine lv_iinc (v := y_346) (lv' := [(4, .int y_346), (3, .int 0), (2, .int y_342), (1, .int r_1), (0, .ref a0_)]) hx hb dX2_readArguments_156 hl (k := 2) rfl (by rw [ey_346]; rfl) (by decide) rfl (fun ls hl => ?_)
                      have ty_346 := add_bd ey_346 b_224 kb_1 (by decide)
                      have b_347 : bd 1 4 y_346 := add_rg ty_346 b_224 kb_1 (by decide)
                      refine lv_goto (tgt := 69) hx hb dX2_readArguments_159 (by decide) ?_
                      have hl9 := lv_sub hl [0, 1, 2, 3, 4] (by rfl : lv_pick [(4, .int y_346), (3, .int 0), (2, .int y_342), (1, .int r_1), (0, .ref a0_)] [0, 1, 2, 3, 4] = [(4, .int y_346), (3, .int 0), (2, .int y_342), (1, .int r_1), (0, .ref a0_)])
                      have g9 := g.sub (fx' := [(2, 14, a0_, .int x_13), (8, 8, q0_, .int x_333), (2, 0, a0_, .ref q0_), (2, 1, a0_, .ref q1_), (2, 2, a0_, .ref q2_), (2, 3, a0_, .ref q3_), (0, 0, q2_, .ref q0_), (0, 1, q2_, .ref q1_), (5, 0, q1_, .ref q6_), (5, 1, q1_, .ref q7_)]) [2, 1, 3, 4, 5, 6, 7, 8, 9, 10] rfl
                      exact ih69  y_346 0 y_342 x_333 (bd_sub b_347 (by decide)) (bd_sub kb_0 (by decide)) h_334 (by have h9_0 := b_347; unfold bd at h9_0; have h9_1 := bdT v69_2; unfold bd at h9_1; have h9_2 := bdT y_342; unfold bd at h9_2; have h9_3 := bv69_3; unfold bd at h9_3; have h9_4 := bv69_4; unfold bd at h9_4; have h9_5 := bw69_8_8_q0_; unfold bd at h9_5; have h9_6 := h_334; unfold bd at h9_6; have h9_7 := kb_0; unfold bd at h9_7; have h9_8 := kb_1; unfold bd at h9_8; have h9_9 := kb_3; unfold bd at h9_9; have h9_10 := kb_41; unfold bd at h9_10; have h9_11 := kb_44; unfold bd at h9_11; omega) _ _ _ _ g9 hG_344 hl9
                    · have fc_345 := eq_f c_345
                      have b_348 : bd 44 44 r_343 := eqX fc_345 (bdT r_343) kb_44 (by decide)
                      refine lv_iconst (v := 1) hx hb dX2_readArguments_111 (by decide) ?_
                      refine lv_goto (tgt := 116) hx hb dX2_readArguments_112 (by decide) ?_
                      refine lv_istore_n (lv' := [(3, .int 1), (2, .int y_342), (4, .int v69_4), (1, .int r_1), (0, .ref a0_)]) hx hb dX2_readArguments_116 rfl hl (by decide) rfl (fun ls hl => ?_)
                      refine lv_iload_n hx hb dX2_readArguments_117 rfl (lv_at hl 0 rfl) ?_
                      refine lv_if_eq (tgt := 156) hx hb dX2_readArguments_118 (by decide) (fun c_ => absurd c_ (by decide)) (fun c_ => ?_)
                      refine lv_aload_n hx hb dX2_readArguments_121 rfl (lv_at hl 4 rfl) ?_
                      refine g_getk (C := RX2) (T := TX2) (N := 16) hx hb hts (mc_ inX2) hown hK g rfl 0 (by decide) rfl (hts _ (List.mem_cons_of_mem _ t_416)) (fun _ h9 => h9) 3 rfl dX2_readArguments_122 ?_
                      have go_ := g
                      refine g_calli (va_runV (As := []) (rest := []) ⟨hx, hb, hml, hown, hts⟩ (r_X8_place l dC dI L kd tys fr_343 H.size g.2.2.2.1 q0_ mq0_ kq0_) (cwV 0 hts (gV_ t_1110 t_1111 t_1112 t_184 t_1113) rfl rfl rfl (by decide +kernel) ⟨(Nat.le_of_ble_eq_true rfl), (Nat.le_of_ble_eq_true rfl)⟩) (pre3V g hK mq0_ kq0_ (by decide) (q := (RX8, TX8, 10)) rfl) rfl rfl hl.1 rfl (lv_room (Nat.le_of_ble_eq_true rfl)) dX2_readArguments_125 ⟨(Nat.le_of_ble_eq_true rfl), (Nat.le_of_ble_eq_true rfl)⟩) g hK (by decide) (by decide) (fx' := [(0, 2, q2_, .ref q6_), (8, 8, q0_, .int x_333), (2, 14, a0_, .int x_13), (2, 0, a0_, .ref q0_), (2, 1, a0_, .ref q1_), (2, 2, a0_, .ref q2_), (2, 3, a0_, .ref q3_), (0, 0, q2_, .ref q0_), (0, 1, q2_, .ref q1_), (5, 0, q1_, .ref q6_), (5, 1, q1_, .ref q7_)]) rfl (fun r_349 fr_349 H locs hp hMr_349 g => ?_)
                      have hG_350 := eOK.frame hMr_349 go_.2.2.2.1 mq2_ kq2_ (by decide) (by decide) hG_344
                      refine lv_istore (lv' := [(5, .int r_349), (3, .int 1), (2, .int y_342), (4, .int v69_4), (1, .int r_1), (0, .ref a0_)]) hx hb dX2_readArguments_128 hl (by decide) rfl (fun ls hl => ?_)
                      refine lv_aload_n hx hb dX2_readArguments_130 rfl (lv_at hl 5 rfl) ?_
                      refine g_getk (C := RX2) (T := TX2) (N := 16) hx hb hts (mc_ inX2) hown hK g rfl 0 (by decide) rfl (hts _ (List.mem_cons_of_mem _ t_416)) (fun _ h9 => h9) 3 rfl dX2_readArguments_131 ?_
                      have go_ := g
                      refine g_callv (va_runV (As := []) (rest := []) ⟨hx, hb, hml, hown, hts⟩ (r_X8_next l dC dI L kd tys fr_349 H.size g.2.2.2.1 q0_ mq0_ kq0_) (cwV 0 hts (gV_ t_1131 t_1103 t_1104 t_184 t_1105) rfl rfl rfl (by decide +kernel) ⟨(Nat.le_of_ble_eq_true rfl), (Nat.le_of_ble_eq_true rfl)⟩) (pre3V g hK mq0_ kq0_ (by decide) (q := (RX8, TX8, 10)) rfl) rfl rfl hl.1 rfl (lv_room (Nat.le_of_ble_eq_true rfl)) dX2_readArguments_134 ⟨(Nat.le_of_ble_eq_true rfl), (Nat.le_of_ble_eq_true rfl)⟩) g hK (by decide) (by decide) (fx' := [(0, 2, q2_, .ref q6_), (8, 8, q0_, .int x_333), (2, 14, a0_, .int x_13), (2, 0, a0_, .ref q0_), (2, 1, a0_, .ref q1_), (2, 2, a0_, .ref q2_), (2, 3, a0_, .ref q3_), (0, 0, q2_, .ref q0_), (0, 1, q2_, .ref q1_), (5, 0, q1_, .ref q6_), (5, 1, q1_, .ref q7_)]) rfl (fun fr_351 H locs hp hMr_351 g => ?_)
                      obtain ⟨x_352, h_353, hF_354⟩ := hp
                      have hG_355 := eOK.frame hMr_351 go_.2.2.2.1 mq2_ kq2_ (by decide) (by decide) hG_350
                      have g := g.more hF_354
                      refine lv_iload_n hx hb dX2_readArguments_137 rfl (lv_at hl 2 rfl) ?_
                      refine lv_aload_n hx hb dX2_readArguments_138 rfl (lv_at hl 5 rfl) ?_
                      refine g_getk (C := RX2) (T := TX2) (N := 16) hx hb hts (mc_ inX2) hown hK g rfl 14 (by decide) rfl (hts _ (List.mem_cons_of_mem _ t_430)) (fun _ h9 => h9) 3 rfl dX2_readArguments_139 ?_
                      refine lv_icmp_lt (tgt := 156) hx hb dX2_readArguments_142 (by decide) (fun c_356 => ?_) (fun c_356 => ?_)
                      · have fc_356 := lt_f c_356
                        have b_357 : bd (-2147483648) 2147483646 y_342 := ltL fc_356 (bdT y_342) (bdT x_13) (by decide)
                        have b_358 : bd (-2147483647) 2147483647 x_13 := ltR fc_356 (bdT y_342) (bdT x_13) (by decide)
                        obtain ⟨y_359, ey_359⟩ : ∃ z : Int32, z = v69_4 + 1 := ⟨_, rfl⟩
                        refine lv_iinc (v := y_359) (lv' := [(4, .int y_359), (5, .int r_349), (3, .int 1), (2, .int y_342), (1, .int r_1), (0, .ref a0_)]) hx hb dX2_readArguments_156 hl (k := 3) rfl (by rw [ey_359]; rfl) (by decide) rfl (fun ls hl => ?_)
                        have ty_359 := add_bd ey_359 b_224 kb_1 (by decide)
                        have b_360 : bd 1 4 y_359 := add_rg ty_359 b_224 kb_1 (by decide)
                        refine lv_goto (tgt := 69) hx hb dX2_readArguments_159 (by decide) ?_
                        have hl9 := lv_sub hl [0, 2, 3, 4, 5] (by rfl : lv_pick [(4, .int y_359), (5, .int r_349), (3, .int 1), (2, .int y_342), (1, .int r_1), (0, .ref a0_)] [0, 2, 3, 4, 5] = [(4, .int y_359), (3, .int 1), (2, .int y_342), (1, .int r_1), (0, .ref a0_)])
                        have g9 := g.sub (fx' := [(2, 14, a0_, .int x_13), (8, 8, q0_, .int x_333), (2, 0, a0_, .ref q0_), (2, 1, a0_, .ref q1_), (2, 2, a0_, .ref q2_), (2, 3, a0_, .ref q3_), (0, 0, q2_, .ref q0_), (0, 1, q2_, .ref q1_), (5, 0, q1_, .ref q6_), (5, 1, q1_, .ref q7_)]) [3, 2, 4, 5, 6, 7, 8, 9, 10, 11] rfl
                        exact ih69  y_359 1 y_342 x_333 (bd_sub b_360 (by decide)) (bd_sub kb_1 (by decide)) h_334 (by have h9_0 := b_357; unfold bd at h9_0; have h9_1 := b_360; unfold bd at h9_1; have h9_2 := bdT v69_2; unfold bd at h9_2; have h9_3 := bv69_3; unfold bd at h9_3; have h9_4 := bv69_4; unfold bd at h9_4; have h9_5 := bw69_8_8_q0_; unfold bd at h9_5; have h9_6 := h_334; unfold bd at h9_6; have h9_7 := h_353; unfold bd at h9_7; have h9_8 := kb_0; unfold bd at h9_8; have h9_9 := kb_1; unfold bd at h9_9; have h9_10 := kb_3; unfold bd at h9_10; have h9_11 := kb_41; unfold bd at h9_11; have h9_12 := kb_44; unfold bd at h9_12; omega) _ _ _ _ g9 hG_355 hl9
                      · have fc_356 := nlt_f c_356
                        refine lv_aload_n hx hb dX2_readArguments_145 rfl (lv_at hl 5 rfl) ?_
                        refine g_getk (C := RX2) (T := TX2) (N := 16) hx hb hts (mc_ inX2) hown hK g rfl 0 (by decide) rfl (hts _ (List.mem_cons_of_mem _ t_416)) (fun _ h9 => h9) 4 rfl dX2_readArguments_146 ?_
                        refine lv_bipush (v := 6) hx hb dX2_readArguments_149 (by decide) ?_
                        refine lv_iload hx hb dX2_readArguments_151 (lv_at hl 0 rfl) ?_
                        have kb_6 : bd 6 6 (6 : Int32) := ⟨by decide, by decide⟩
                        have go_ := g
                        refine g_callv (va_runV (As := [.int 6, .int r_349]) (rest := []) ⟨hx, hb, hml, hown, hts⟩ (r_X8_fail l dC dI L kd tys fr_351 H.size g.2.2.2.1 q0_ mq0_ kq0_ 6 (bd_sub kb_6 (by decide)) r_349 x_333 h_334 (g.fcts [2] rfl)) (cwV 2 hts (gV_ t_1122 t_1107 t_1108 t_184 t_1109) rfl rfl rfl (by decide +kernel) ⟨(Nat.le_of_ble_eq_true rfl), (Nat.le_of_ble_eq_true rfl)⟩) (pre3V g hK mq0_ kq0_ (by decide) (q := (RX8, TX8, 10)) rfl) rfl rfl hl.1 rfl (lv_room (Nat.le_of_ble_eq_true rfl)) dX2_readArguments_153 ⟨(Nat.le_of_ble_eq_true rfl), (Nat.le_of_ble_eq_true rfl)⟩) g hK (by decide) (by decide) (fx' := [(0, 2, q2_, .ref q6_), (2, 14, a0_, .int x_13), (2, 0, a0_, .ref q0_), (2, 1, a0_, .ref q1_), (2, 2, a0_, .ref q2_), (2, 3, a0_, .ref q3_), (0, 0, q2_, .ref q0_), (0, 1, q2_, .ref q1_), (5, 0, q1_, .ref q6_), (5, 1, q1_, .ref q7_)]) rfl (fun fr_361 H locs hp hMr_361 g => ?_)
                        obtain ⟨x_362, h_363, hF_364⟩ := hp
                        have hG_365 := eOK.frame hMr_361 go_.2.2.2.1 mq2_ kq2_ (by decide) (by decide) hG_355
                        have g := g.more hF_364
                        obtain ⟨y_366, ey_366⟩ : ∃ z : Int32, z = v69_4 + 1 := ⟨_, rfl⟩
                        refine lv_iinc (v := y_366) (lv' := [(4, .int y_366), (5, .int r_349), (3, .int 1), (2, .int y_342), (1, .int r_1), (0, .ref a0_)]) hx hb dX2_readArguments_156 hl (k := 3) rfl (by rw [ey_366]; rfl) (by decide) rfl (fun ls hl => ?_)
                        have ty_366 := add_bd ey_366 b_224 kb_1 (by decide)
                        have b_367 : bd 1 4 y_366 := add_rg ty_366 b_224 kb_1 (by decide)
                        refine lv_goto (tgt := 69) hx hb dX2_readArguments_159 (by decide) ?_
                        refine lv_iload hx hb dX2_readArguments_69 (lv_at hl 0 rfl) ?_
                        refine lv_iconst (v := 3) hx hb dX2_readArguments_71 (by decide) ?_
                        refine lv_icmp_gt (tgt := 162) hx hb dX2_readArguments_72 (by decide) (fun c_368 => ?_) (fun c_368 => ?_)
                        · have fc_368 := lt_f c_368
                          have b_369 : bd 4 4 y_366 := ltR fc_368 kb_3 b_367 (by decide)
                          have b_370 : bd 3 3 v69_4 := add_inv ty_366 b_369 b_224 kb_1 (by decide)
                          refine lv_aload_n hx hb dX2_readArguments_162 rfl (lv_at hl 5 rfl) ?_
                          refine g_getk (C := RX2) (T := TX2) (N := 16) hx hb hts (mc_ inX2) hown hK g rfl 0 (by decide) rfl (hts _ (List.mem_cons_of_mem _ t_416)) (fun _ h9 => h9) 4 rfl dX2_readArguments_163 ?_
                          have go_ := g
                          refine g_calli (va_runV (As := []) (rest := []) ⟨hx, hb, hml, hown, hts⟩ (r_X8_place l dC dI L kd tys fr_361 H.size g.2.2.2.1 q0_ mq0_ kq0_) (cwV 0 hts (gV_ t_1110 t_1111 t_1112 t_184 t_1113) rfl rfl rfl (by decide +kernel) ⟨(Nat.le_of_ble_eq_true rfl), (Nat.le_of_ble_eq_true rfl)⟩) (pre3V g hK mq0_ kq0_ (by decide) (q := (RX8, TX8, 10)) rfl) rfl rfl hl.1 rfl (lv_room (Nat.le_of_ble_eq_true rfl)) dX2_readArguments_166 ⟨(Nat.le_of_ble_eq_true rfl), (Nat.le_of_ble_eq_true rfl)⟩) g hK (by decide) (by decide) (fx' := [(8, 6, q0_, .int 1201), (8, 8, q0_, .int x_362), (0, 2, q2_, .ref q6_), (2, 14, a0_, .int x_13), (2, 0, a0_, .ref q0_), (2, 1, a0_, .ref q1_), (2, 2, a0_, .ref q2_), (2, 3, a0_, .ref q3_), (0, 0, q2_, .ref q0_), (0, 1, q2_, .ref q1_), (5, 0, q1_, .ref q6_), (5, 1, q1_, .ref q7_)]) rfl (fun r_371 fr_371 H locs hp hMr_371 g => ?_)
                          have hG_372 := eOK.frame hMr_371 go_.2.2.2.1 mq2_ kq2_ (by decide) (by decide) hG_365
                          refine lv_istore (lv' := [(4, .int r_371), (5, .int r_349), (3, .int 1), (2, .int y_342), (1, .int r_1), (0, .ref a0_)]) hx hb dX2_readArguments_169 hl (by decide) rfl (fun ls hl => ?_)
                          refine lv_aload_n hx hb dX2_readArguments_171 rfl (lv_at hl 5 rfl) ?_
                          refine g_getk (C := RX2) (T := TX2) (N := 16) hx hb hts (mc_ inX2) hown hK g rfl 0 (by decide) rfl (hts _ (List.mem_cons_of_mem _ t_416)) (fun _ h9 => h9) 4 rfl dX2_readArguments_172 ?_
                          refine lv_bipush (v := 41) hx hb dX2_readArguments_175 (by decide) ?_
                          have kb_1201 : bd 1201 1201 (1201 : Int32) := ⟨by decide, by decide⟩
                          have go_ := g
                          refine g_callv (va_runV (As := [.int 41]) (rest := []) ⟨hx, hb, hml, hown, hts⟩ (r_X8_take_2 l dC dI L kd tys fr_371 H.size g.2.2.2.1 q0_ mq0_ kq0_ 41 1201 kb_1201 x_362 h_363 (g.fcts [0, 1] rfl)) (cwV 1 hts (gV_ t_1098 t_1099 t_1100 t_184 t_1101) rfl rfl rfl (by decide +kernel) ⟨(Nat.le_of_ble_eq_true rfl), (Nat.le_of_ble_eq_true rfl)⟩) (pre3V g hK mq0_ kq0_ (by decide) (q := (RX8, TX8, 10)) rfl) rfl rfl hl.1 rfl (lv_room (Nat.le_of_ble_eq_true rfl)) dX2_readArguments_177 ⟨(Nat.le_of_ble_eq_true rfl), (Nat.le_of_ble_eq_true rfl)⟩) g hK (by decide) (by decide) (fx' := [(8, 8, q0_, .int x_362), (0, 2, q2_, .ref q6_), (2, 14, a0_, .int x_13), (2, 0, a0_, .ref q0_), (2, 1, a0_, .ref q1_), (2, 2, a0_, .ref q2_), (2, 3, a0_, .ref q3_), (0, 0, q2_, .ref q0_), (0, 1, q2_, .ref q1_), (5, 0, q1_, .ref q6_), (5, 1, q1_, .ref q7_)]) rfl (fun fr_373 H locs hp hMr_373 g => ?_)
                          obtain ⟨x_374, h_375, hF_376⟩ := hp
                          have hG_377 := eOK.frame hMr_373 go_.2.2.2.1 mq2_ kq2_ (by decide) (by decide) hG_372
                          have g := g.more hF_376
                          refine lv_iload_n hx hb dX2_readArguments_180 rfl (lv_at hl 3 rfl) ?_
                          refine lv_aload_n hx hb dX2_readArguments_181 rfl (lv_at hl 5 rfl) ?_
                          refine g_getk (C := RX2) (T := TX2) (N := 16) hx hb hts (mc_ inX2) hown hK g rfl 14 (by decide) rfl (hts _ (List.mem_cons_of_mem _ t_430)) (fun _ h9 => h9) 3 rfl dX2_readArguments_182 ?_
                          refine lv_icmp_ge (tgt := 199) hx hb dX2_readArguments_185 (by decide) (fun c_378 => ?_) (fun c_378 => ?_)
                          · have fc_378 := le_f c_378
                            refine lv_aload_n hx hb dX2_readArguments_199 rfl (lv_at hl 5 rfl) ?_
                            refine g_getk (C := RX2) (T := TX2) (N := 16) hx hb hts (mc_ inX2) hown hK g rfl 3 (by decide) rfl (hts _ (List.mem_cons_of_mem _ t_419)) (fun _ h9 => h9) 7 rfl dX2_readArguments_200 ?_
                            refine lv_aload_n hx hb dX2_readArguments_203 rfl (lv_at hl 5 rfl) ?_
                            refine g_geti (C := RX2) (T := TX2) (N := 16) hx hb hts (mc_ inX2) hown hK g ma0_ ka0_ (by decide) rfl 12 (by decide) rfl (hts _ (List.mem_cons_of_mem _ t_428)) (fun _ h9 => h9) rfl dX2_readArguments_204 (fun x_379 bx_379 g => ?_)
                            refine lv_aload_n hx hb dX2_readArguments_207 rfl (lv_at hl 5 rfl) ?_
                            refine g_geti (C := RX2) (T := TX2) (N := 16) hx hb hts (mc_ inX2) hown hK g ma0_ ka0_ (by decide) rfl 13 (by decide) rfl (hts _ (List.mem_cons_of_mem _ t_429)) (fun _ h9 => h9) rfl dX2_readArguments_208 (fun x_380 bx_380 g => ?_)
                            have go_ := g
                            refine g_callv (va_runV (As := [.int x_379, .int x_380]) (rest := []) ⟨hx, hb, hml, hown, hts⟩ (r_X7_emit l dC dI L kd tys fr_373 H.size g.2.2.2.1 q3_ mq3_ kq3_ x_379 x_380) (cwV 2 hts (gV_ t_1301 t_1204 t_1205 t_191 t_1206) rfl rfl rfl (by decide +kernel) ⟨(Nat.le_of_ble_eq_true rfl), (Nat.le_of_ble_eq_true rfl)⟩) (pre3V g hK mq3_ kq3_ (by decide) (q := (RX7, TX7, 19)) rfl) rfl rfl hl.1 rfl (lv_room (Nat.le_of_ble_eq_true rfl)) dX2_readArguments_211 ⟨(Nat.le_of_ble_eq_true rfl), (Nat.le_of_ble_eq_true rfl)⟩) g hK (by decide) (by decide) (fx' := [(2, 13, a0_, .int x_380), (2, 12, a0_, .int x_379), (8, 6, q0_, .int x_374), (8, 8, q0_, .int x_362), (0, 2, q2_, .ref q6_), (2, 14, a0_, .int x_13), (2, 0, a0_, .ref q0_), (2, 1, a0_, .ref q1_), (2, 2, a0_, .ref q2_), (2, 3, a0_, .ref q3_), (0, 0, q2_, .ref q0_), (0, 1, q2_, .ref q1_), (5, 0, q1_, .ref q6_), (5, 1, q1_, .ref q7_)]) rfl (fun fr_381 H locs hp hMr_381 g => ?_)
                            obtain ⟨x_382, h_383, hF_384⟩ := hp
                            have hG_385 := eOK.frame hMr_381 go_.2.2.2.1 mq2_ kq2_ (by decide) (by decide) hG_377
                            have g := g.more hF_384
                            refine lv_aload_n hx hb dX2_readArguments_214 rfl (lv_at hl 5 rfl) ?_
                            refine g_getk (C := RX2) (T := TX2) (N := 16) hx hb hts (mc_ inX2) hown hK g rfl 3 (by decide) rfl (hts _ (List.mem_cons_of_mem _ t_419)) (fun _ h9 => h9) 10 rfl dX2_readArguments_215 ?_
                            refine lv_bipush (v := 22) hx hb dX2_readArguments_218 (by decide) ?_
                            refine lv_iconst (v := 0) hx hb dX2_readArguments_220 (by decide) ?_
                            have go_ := g
                            refine g_callv (va_runV (As := [.int 22, .int 0]) (rest := []) ⟨hx, hb, hml, hown, hts⟩ (r_X7_emit l dC dI L kd tys fr_381 H.size g.2.2.2.1 q3_ mq3_ kq3_ 22 0) (cwV 2 hts (gV_ t_1301 t_1204 t_1205 t_191 t_1206) rfl rfl rfl (by decide +kernel) ⟨(Nat.le_of_ble_eq_true rfl), (Nat.le_of_ble_eq_true rfl)⟩) (pre3V g hK mq3_ kq3_ (by decide) (q := (RX7, TX7, 19)) rfl) rfl rfl hl.1 rfl (lv_room (Nat.le_of_ble_eq_true rfl)) dX2_readArguments_221 ⟨(Nat.le_of_ble_eq_true rfl), (Nat.le_of_ble_eq_true rfl)⟩) g hK (by decide) (by decide) (fx' := [(2, 13, a0_, .int x_380), (2, 12, a0_, .int x_379), (8, 6, q0_, .int x_374), (8, 8, q0_, .int x_362), (0, 2, q2_, .ref q6_), (2, 14, a0_, .int x_13), (2, 0, a0_, .ref q0_), (2, 1, a0_, .ref q1_), (2, 2, a0_, .ref q2_), (2, 3, a0_, .ref q3_), (0, 0, q2_, .ref q0_), (0, 1, q2_, .ref q1_), (5, 0, q1_, .ref q6_), (5, 1, q1_, .ref q7_)]) rfl (fun fr_386 H locs hp hMr_386 g => ?_)
                            obtain ⟨x_387, h_388, hF_389⟩ := hp
                            have hG_390 := eOK.frame hMr_386 go_.2.2.2.1 mq2_ kq2_ (by decide) (by decide) hG_385
                            have g := g.more hF_389
                            refine lv_aload_n hx hb dX2_readArguments_224 rfl (lv_at hl 5 rfl) ?_
                            refine g_getk (C := RX2) (T := TX2) (N := 16) hx hb hts (mc_ inX2) hown hK g rfl 0 (by decide) rfl (hts _ (List.mem_cons_of_mem _ t_416)) (fun _ h9 => h9) 7 rfl dX2_readArguments_225 ?_
                            refine lv_bipush (v := 59) hx hb dX2_readArguments_228 (by decide) ?_
                            have go_ := g
                            refine g_callv (va_runV (As := [.int 59]) (rest := []) ⟨hx, hb, hml, hown, hts⟩ (r_X8_take_2 l dC dI L kd tys fr_386 H.size g.2.2.2.1 q0_ mq0_ kq0_ 59 x_374 h_375 x_362 h_363 (g.fcts [3, 4] rfl)) (cwV 1 hts (gV_ t_1098 t_1099 t_1100 t_184 t_1101) rfl rfl rfl (by decide +kernel) ⟨(Nat.le_of_ble_eq_true rfl), (Nat.le_of_ble_eq_true rfl)⟩) (pre3V g hK mq0_ kq0_ (by decide) (q := (RX8, TX8, 10)) rfl) rfl rfl hl.1 rfl (lv_room (Nat.le_of_ble_eq_true rfl)) dX2_readArguments_230 ⟨(Nat.le_of_ble_eq_true rfl), (Nat.le_of_ble_eq_true rfl)⟩) g hK (by decide) (by decide) (fx' := [(7, 6, q3_, .int x_387), (2, 13, a0_, .int x_380), (2, 12, a0_, .int x_379), (8, 8, q0_, .int x_362), (0, 2, q2_, .ref q6_), (2, 14, a0_, .int x_13), (2, 0, a0_, .ref q0_), (2, 1, a0_, .ref q1_), (2, 2, a0_, .ref q2_), (2, 3, a0_, .ref q3_), (0, 0, q2_, .ref q0_), (0, 1, q2_, .ref q1_), (5, 0, q1_, .ref q6_), (5, 1, q1_, .ref q7_)]) rfl (fun fr_391 H locs hp hMr_391 g => ?_)
                            obtain ⟨x_392, h_393, hF_394⟩ := hp
                            have hG_395 := eOK.frame hMr_391 go_.2.2.2.1 mq2_ kq2_ (by decide) (by decide) hG_390
                            have g := g.more hF_394
                            subst hQ
                            exact W.vret hx hb hr (fun t ht hW => ⟨⟨_, rfl, Or.inr (⟨hG_395, x_392, h_393, x_362, h_363, x_387, h_388, (g.fcts [0, 4, 1] rfl)⟩), q3_of g hK ht hW⟩, g.2.2.1.F ht⟩) g.2.2.1.2.2 dX2_readArguments_233
                          · have fc_378 := nle_f c_378
                            have b_396 : bd (-2147483648) 2147483646 y_342 := ltL fc_378 (bdT y_342) (bdT x_13) (by decide)
                            have b_397 : bd (-2147483647) 2147483647 x_13 := ltR fc_378 (bdT y_342) (bdT x_13) (by decide)
                            refine lv_aload_n hx hb dX2_readArguments_188 rfl (lv_at hl 5 rfl) ?_
                            refine g_getk (C := RX2) (T := TX2) (N := 16) hx hb hts (mc_ inX2) hown hK g rfl 0 (by decide) rfl (hts _ (List.mem_cons_of_mem _ t_416)) (fun _ h9 => h9) 4 rfl dX2_readArguments_189 ?_
                            refine lv_bipush (v := 6) hx hb dX2_readArguments_192 (by decide) ?_
                            refine lv_iload hx hb dX2_readArguments_194 (lv_at hl 0 rfl) ?_
                            have go_ := g
                            refine g_callv (va_runV (As := [.int 6, .int r_371]) (rest := []) ⟨hx, hb, hml, hown, hts⟩ (r_X8_fail_2 l dC dI L kd tys fr_373 H.size g.2.2.2.1 q0_ mq0_ kq0_ 6 (bd_sub kb_6 (by decide)) r_371 x_362 h_363 (g.fcts [1] rfl)) (cwV 2 hts (gV_ t_1122 t_1107 t_1108 t_184 t_1109) rfl rfl rfl (by decide +kernel) ⟨(Nat.le_of_ble_eq_true rfl), (Nat.le_of_ble_eq_true rfl)⟩) (pre3V g hK mq0_ kq0_ (by decide) (q := (RX8, TX8, 10)) rfl) rfl rfl hl.1 rfl (lv_room (Nat.le_of_ble_eq_true rfl)) dX2_readArguments_196 ⟨(Nat.le_of_ble_eq_true rfl), (Nat.le_of_ble_eq_true rfl)⟩) g hK (by decide) (by decide) (fx' := [(8, 8, q0_, .int x_362), (0, 2, q2_, .ref q6_), (2, 14, a0_, .int x_13), (2, 0, a0_, .ref q0_), (2, 1, a0_, .ref q1_), (2, 2, a0_, .ref q2_), (2, 3, a0_, .ref q3_), (0, 0, q2_, .ref q0_), (0, 1, q2_, .ref q1_), (5, 0, q1_, .ref q6_), (5, 1, q1_, .ref q7_)]) rfl (fun fr_398 H locs hp hMr_398 g => ?_)
                            have hF_399 := hp
                            have hG_400 := eOK.frame hMr_398 go_.2.2.2.1 mq2_ kq2_ (by decide) (by decide) hG_377
                            have g := g.more hF_399
                            refine lv_aload_n hx hb dX2_readArguments_199 rfl (lv_at hl 5 rfl) ?_
                            refine g_getk (C := RX2) (T := TX2) (N := 16) hx hb hts (mc_ inX2) hown hK g rfl 3 (by decide) rfl (hts _ (List.mem_cons_of_mem _ t_419)) (fun _ h9 => h9) 7 rfl dX2_readArguments_200 ?_
                            refine lv_aload_n hx hb dX2_readArguments_203 rfl (lv_at hl 5 rfl) ?_
                            refine g_geti (C := RX2) (T := TX2) (N := 16) hx hb hts (mc_ inX2) hown hK g ma0_ ka0_ (by decide) rfl 12 (by decide) rfl (hts _ (List.mem_cons_of_mem _ t_428)) (fun _ h9 => h9) rfl dX2_readArguments_204 (fun x_401 bx_401 g => ?_)
                            refine lv_aload_n hx hb dX2_readArguments_207 rfl (lv_at hl 5 rfl) ?_
                            refine g_geti (C := RX2) (T := TX2) (N := 16) hx hb hts (mc_ inX2) hown hK g ma0_ ka0_ (by decide) rfl 13 (by decide) rfl (hts _ (List.mem_cons_of_mem _ t_429)) (fun _ h9 => h9) rfl dX2_readArguments_208 (fun x_402 bx_402 g => ?_)
                            have go_ := g
                            refine g_callv (va_runV (As := [.int x_401, .int x_402]) (rest := []) ⟨hx, hb, hml, hown, hts⟩ (r_X7_emit l dC dI L kd tys fr_398 H.size g.2.2.2.1 q3_ mq3_ kq3_ x_401 x_402) (cwV 2 hts (gV_ t_1301 t_1204 t_1205 t_191 t_1206) rfl rfl rfl (by decide +kernel) ⟨(Nat.le_of_ble_eq_true rfl), (Nat.le_of_ble_eq_true rfl)⟩) (pre3V g hK mq3_ kq3_ (by decide) (q := (RX7, TX7, 19)) rfl) rfl rfl hl.1 rfl (lv_room (Nat.le_of_ble_eq_true rfl)) dX2_readArguments_211 ⟨(Nat.le_of_ble_eq_true rfl), (Nat.le_of_ble_eq_true rfl)⟩) g hK (by decide) (by decide) (fx' := [(2, 13, a0_, .int x_402), (2, 12, a0_, .int x_401), (8, 6, q0_, .int 1201), (8, 8, q0_, .int x_362), (0, 2, q2_, .ref q6_), (2, 14, a0_, .int x_13), (2, 0, a0_, .ref q0_), (2, 1, a0_, .ref q1_), (2, 2, a0_, .ref q2_), (2, 3, a0_, .ref q3_), (0, 0, q2_, .ref q0_), (0, 1, q2_, .ref q1_), (5, 0, q1_, .ref q6_), (5, 1, q1_, .ref q7_)]) rfl (fun fr_403 H locs hp hMr_403 g => ?_)
                            obtain ⟨x_404, h_405, hF_406⟩ := hp
                            have hG_407 := eOK.frame hMr_403 go_.2.2.2.1 mq2_ kq2_ (by decide) (by decide) hG_400
                            have g := g.more hF_406
                            refine lv_aload_n hx hb dX2_readArguments_214 rfl (lv_at hl 5 rfl) ?_
                            refine g_getk (C := RX2) (T := TX2) (N := 16) hx hb hts (mc_ inX2) hown hK g rfl 3 (by decide) rfl (hts _ (List.mem_cons_of_mem _ t_419)) (fun _ h9 => h9) 10 rfl dX2_readArguments_215 ?_
                            refine lv_bipush (v := 22) hx hb dX2_readArguments_218 (by decide) ?_
                            refine lv_iconst (v := 0) hx hb dX2_readArguments_220 (by decide) ?_
                            have go_ := g
                            refine g_callv (va_runV (As := [.int 22, .int 0]) (rest := []) ⟨hx, hb, hml, hown, hts⟩ (r_X7_emit l dC dI L kd tys fr_403 H.size g.2.2.2.1 q3_ mq3_ kq3_ 22 0) (cwV 2 hts (gV_ t_1301 t_1204 t_1205 t_191 t_1206) rfl rfl rfl (by decide +kernel) ⟨(Nat.le_of_ble_eq_true rfl), (Nat.le_of_ble_eq_true rfl)⟩) (pre3V g hK mq3_ kq3_ (by decide) (q := (RX7, TX7, 19)) rfl) rfl rfl hl.1 rfl (lv_room (Nat.le_of_ble_eq_true rfl)) dX2_readArguments_221 ⟨(Nat.le_of_ble_eq_true rfl), (Nat.le_of_ble_eq_true rfl)⟩) g hK (by decide) (by decide) (fx' := [(2, 13, a0_, .int x_402), (2, 12, a0_, .int x_401), (8, 6, q0_, .int 1201), (8, 8, q0_, .int x_362), (0, 2, q2_, .ref q6_), (2, 14, a0_, .int x_13), (2, 0, a0_, .ref q0_), (2, 1, a0_, .ref q1_), (2, 2, a0_, .ref q2_), (2, 3, a0_, .ref q3_), (0, 0, q2_, .ref q0_), (0, 1, q2_, .ref q1_), (5, 0, q1_, .ref q6_), (5, 1, q1_, .ref q7_)]) rfl (fun fr_408 H locs hp hMr_408 g => ?_)
                            obtain ⟨x_409, h_410, hF_411⟩ := hp
                            have hG_412 := eOK.frame hMr_408 go_.2.2.2.1 mq2_ kq2_ (by decide) (by decide) hG_407
                            have g := g.more hF_411
                            refine lv_aload_n hx hb dX2_readArguments_224 rfl (lv_at hl 5 rfl) ?_
                            refine g_getk (C := RX2) (T := TX2) (N := 16) hx hb hts (mc_ inX2) hown hK g rfl 0 (by decide) rfl (hts _ (List.mem_cons_of_mem _ t_416)) (fun _ h9 => h9) 7 rfl dX2_readArguments_225 ?_
                            refine lv_bipush (v := 59) hx hb dX2_readArguments_228 (by decide) ?_
                            have go_ := g
                            refine g_callv (va_runV (As := [.int 59]) (rest := []) ⟨hx, hb, hml, hown, hts⟩ (r_X8_take_2 l dC dI L kd tys fr_408 H.size g.2.2.2.1 q0_ mq0_ kq0_ 59 1201 kb_1201 x_362 h_363 (g.fcts [3, 4] rfl)) (cwV 1 hts (gV_ t_1098 t_1099 t_1100 t_184 t_1101) rfl rfl rfl (by decide +kernel) ⟨(Nat.le_of_ble_eq_true rfl), (Nat.le_of_ble_eq_true rfl)⟩) (pre3V g hK mq0_ kq0_ (by decide) (q := (RX8, TX8, 10)) rfl) rfl rfl hl.1 rfl (lv_room (Nat.le_of_ble_eq_true rfl)) dX2_readArguments_230 ⟨(Nat.le_of_ble_eq_true rfl), (Nat.le_of_ble_eq_true rfl)⟩) g hK (by decide) (by decide) (fx' := [(7, 6, q3_, .int x_409), (2, 13, a0_, .int x_402), (2, 12, a0_, .int x_401), (8, 8, q0_, .int x_362), (0, 2, q2_, .ref q6_), (2, 14, a0_, .int x_13), (2, 0, a0_, .ref q0_), (2, 1, a0_, .ref q1_), (2, 2, a0_, .ref q2_), (2, 3, a0_, .ref q3_), (0, 0, q2_, .ref q0_), (0, 1, q2_, .ref q1_), (5, 0, q1_, .ref q6_), (5, 1, q1_, .ref q7_)]) rfl (fun fr_413 H locs hp hMr_413 g => ?_)
                            obtain ⟨x_414, h_415, hF_416⟩ := hp
                            have hG_417 := eOK.frame hMr_413 go_.2.2.2.1 mq2_ kq2_ (by decide) (by decide) hG_412
                            have g := g.more hF_416
                            subst hQ
                            exact W.vret hx hb hr (fun t ht hW => ⟨⟨_, rfl, Or.inr (⟨hG_417, x_414, h_415, x_362, h_363, x_409, h_410, (g.fcts [0, 4, 1] rfl)⟩), q3_of g hK ht hW⟩, g.2.2.1.F ht⟩) g.2.2.1.2.2 dX2_readArguments_233
                        · have fc_368 := nlt_f c_368
                          have b_418 : bd 1 3 y_366 := leL fc_368 b_367 kb_3 (by decide)
                          have b_419 : bd 0 2 v69_4 := add_inv ty_366 b_418 b_224 kb_1 (by decide)
                          refine lv_iload_n hx hb dX2_readArguments_75 rfl (lv_at hl 2 rfl) ?_
                          refine lv_if_eq (tgt := 162) hx hb dX2_readArguments_76 (by decide) (fun c_ => absurd c_ (by decide)) (fun c_ => ?_)
                          refine lv_aload_n hx hb dX2_readArguments_79 rfl (lv_at hl 5 rfl) ?_
                          refine g_getk (C := RX2) (T := TX2) (N := 16) hx hb hts (mc_ inX2) hown hK g rfl 0 (by decide) rfl (hts _ (List.mem_cons_of_mem _ t_416)) (fun _ h9 => h9) 4 rfl dX2_readArguments_80 ?_
                          refine g_getk (C := RX8) (T := TX8) (N := 10) hx hb hts (mc_ inX8) hown hK g rfl 8 (by decide) rfl (hts _ (List.mem_cons_of_mem _ t_294)) (fun _ h9 => h9) 1 rfl dX2_readArguments_83 ?_
                          refine lv_if_ne (tgt := 162) hx hb dX2_readArguments_86 (by decide) (fun c_420 => ?_) (fun c_420 => ?_)
                          · have fc_420 := neq_f c_420
                            refine lv_aload_n hx hb dX2_readArguments_162 rfl (lv_at hl 5 rfl) ?_
                            refine g_getk (C := RX2) (T := TX2) (N := 16) hx hb hts (mc_ inX2) hown hK g rfl 0 (by decide) rfl (hts _ (List.mem_cons_of_mem _ t_416)) (fun _ h9 => h9) 4 rfl dX2_readArguments_163 ?_
                            have go_ := g
                            refine g_calli (va_runV (As := []) (rest := []) ⟨hx, hb, hml, hown, hts⟩ (r_X8_place l dC dI L kd tys fr_361 H.size g.2.2.2.1 q0_ mq0_ kq0_) (cwV 0 hts (gV_ t_1110 t_1111 t_1112 t_184 t_1113) rfl rfl rfl (by decide +kernel) ⟨(Nat.le_of_ble_eq_true rfl), (Nat.le_of_ble_eq_true rfl)⟩) (pre3V g hK mq0_ kq0_ (by decide) (q := (RX8, TX8, 10)) rfl) rfl rfl hl.1 rfl (lv_room (Nat.le_of_ble_eq_true rfl)) dX2_readArguments_166 ⟨(Nat.le_of_ble_eq_true rfl), (Nat.le_of_ble_eq_true rfl)⟩) g hK (by decide) (by decide) (fx' := [(8, 6, q0_, .int 1201), (8, 8, q0_, .int x_362), (0, 2, q2_, .ref q6_), (2, 14, a0_, .int x_13), (2, 0, a0_, .ref q0_), (2, 1, a0_, .ref q1_), (2, 2, a0_, .ref q2_), (2, 3, a0_, .ref q3_), (0, 0, q2_, .ref q0_), (0, 1, q2_, .ref q1_), (5, 0, q1_, .ref q6_), (5, 1, q1_, .ref q7_)]) rfl (fun r_421 fr_421 H locs hp hMr_421 g => ?_)
                            have hG_422 := eOK.frame hMr_421 go_.2.2.2.1 mq2_ kq2_ (by decide) (by decide) hG_365
                            refine lv_istore (lv' := [(4, .int r_421), (5, .int r_349), (3, .int 1), (2, .int y_342), (1, .int r_1), (0, .ref a0_)]) hx hb dX2_readArguments_169 hl (by decide) rfl (fun ls hl => ?_)
                            refine lv_aload_n hx hb dX2_readArguments_171 rfl (lv_at hl 5 rfl) ?_
                            refine g_getk (C := RX2) (T := TX2) (N := 16) hx hb hts (mc_ inX2) hown hK g rfl 0 (by decide) rfl (hts _ (List.mem_cons_of_mem _ t_416)) (fun _ h9 => h9) 4 rfl dX2_readArguments_172 ?_
                            refine lv_bipush (v := 41) hx hb dX2_readArguments_175 (by decide) ?_
                            have kb_1201 : bd 1201 1201 (1201 : Int32) := ⟨by decide, by decide⟩
                            have go_ := g
                            refine g_callv (va_runV (As := [.int 41]) (rest := []) ⟨hx, hb, hml, hown, hts⟩ (r_X8_take_2 l dC dI L kd tys fr_421 H.size g.2.2.2.1 q0_ mq0_ kq0_ 41 1201 kb_1201 x_362 h_363 (g.fcts [0, 1] rfl)) (cwV 1 hts (gV_ t_1098 t_1099 t_1100 t_184 t_1101) rfl rfl rfl (by decide +kernel) ⟨(Nat.le_of_ble_eq_true rfl), (Nat.le_of_ble_eq_true rfl)⟩) (pre3V g hK mq0_ kq0_ (by decide) (q := (RX8, TX8, 10)) rfl) rfl rfl hl.1 rfl (lv_room (Nat.le_of_ble_eq_true rfl)) dX2_readArguments_177 ⟨(Nat.le_of_ble_eq_true rfl), (Nat.le_of_ble_eq_true rfl)⟩) g hK (by decide) (by decide) (fx' := [(8, 8, q0_, .int x_362), (0, 2, q2_, .ref q6_), (2, 14, a0_, .int x_13), (2, 0, a0_, .ref q0_), (2, 1, a0_, .ref q1_), (2, 2, a0_, .ref q2_), (2, 3, a0_, .ref q3_), (0, 0, q2_, .ref q0_), (0, 1, q2_, .ref q1_), (5, 0, q1_, .ref q6_), (5, 1, q1_, .ref q7_)]) rfl (fun fr_423 H locs hp hMr_423 g => ?_)
                            obtain ⟨x_424, h_425, hF_426⟩ := hp
                            have hG_427 := eOK.frame hMr_423 go_.2.2.2.1 mq2_ kq2_ (by decide) (by decide) hG_422
                            have g := g.more hF_426
                            refine lv_iload_n hx hb dX2_readArguments_180 rfl (lv_at hl 3 rfl) ?_
                            refine lv_aload_n hx hb dX2_readArguments_181 rfl (lv_at hl 5 rfl) ?_
                            refine g_getk (C := RX2) (T := TX2) (N := 16) hx hb hts (mc_ inX2) hown hK g rfl 14 (by decide) rfl (hts _ (List.mem_cons_of_mem _ t_430)) (fun _ h9 => h9) 3 rfl dX2_readArguments_182 ?_
                            refine lv_icmp_ge (tgt := 199) hx hb dX2_readArguments_185 (by decide) (fun c_428 => ?_) (fun c_428 => ?_)
                            · have fc_428 := le_f c_428
                              refine lv_aload_n hx hb dX2_readArguments_199 rfl (lv_at hl 5 rfl) ?_
                              refine g_getk (C := RX2) (T := TX2) (N := 16) hx hb hts (mc_ inX2) hown hK g rfl 3 (by decide) rfl (hts _ (List.mem_cons_of_mem _ t_419)) (fun _ h9 => h9) 7 rfl dX2_readArguments_200 ?_
                              refine lv_aload_n hx hb dX2_readArguments_203 rfl (lv_at hl 5 rfl) ?_
                              refine g_geti (C := RX2) (T := TX2) (N := 16) hx hb hts (mc_ inX2) hown hK g ma0_ ka0_ (by decide) rfl 12 (by decide) rfl (hts _ (List.mem_cons_of_mem _ t_428)) (fun _ h9 => h9) rfl dX2_readArguments_204 (fun x_429 bx_429 g => ?_)
                              refine lv_aload_n hx hb dX2_readArguments_207 rfl (lv_at hl 5 rfl) ?_
                              refine g_geti (C := RX2) (T := TX2) (N := 16) hx hb hts (mc_ inX2) hown hK g ma0_ ka0_ (by decide) rfl 13 (by decide) rfl (hts _ (List.mem_cons_of_mem _ t_429)) (fun _ h9 => h9) rfl dX2_readArguments_208 (fun x_430 bx_430 g => ?_)
                              have go_ := g
                              refine g_callv (va_runV (As := [.int x_429, .int x_430]) (rest := []) ⟨hx, hb, hml, hown, hts⟩ (r_X7_emit l dC dI L kd tys fr_423 H.size g.2.2.2.1 q3_ mq3_ kq3_ x_429 x_430) (cwV 2 hts (gV_ t_1301 t_1204 t_1205 t_191 t_1206) rfl rfl rfl (by decide +kernel) ⟨(Nat.le_of_ble_eq_true rfl), (Nat.le_of_ble_eq_true rfl)⟩) (pre3V g hK mq3_ kq3_ (by decide) (q := (RX7, TX7, 19)) rfl) rfl rfl hl.1 rfl (lv_room (Nat.le_of_ble_eq_true rfl)) dX2_readArguments_211 ⟨(Nat.le_of_ble_eq_true rfl), (Nat.le_of_ble_eq_true rfl)⟩) g hK (by decide) (by decide) (fx' := [(2, 13, a0_, .int x_430), (2, 12, a0_, .int x_429), (8, 6, q0_, .int x_424), (8, 8, q0_, .int x_362), (0, 2, q2_, .ref q6_), (2, 14, a0_, .int x_13), (2, 0, a0_, .ref q0_), (2, 1, a0_, .ref q1_), (2, 2, a0_, .ref q2_), (2, 3, a0_, .ref q3_), (0, 0, q2_, .ref q0_), (0, 1, q2_, .ref q1_), (5, 0, q1_, .ref q6_), (5, 1, q1_, .ref q7_)]) rfl (fun fr_431 H locs hp hMr_431 g => ?_)
                              obtain ⟨x_432, h_433, hF_434⟩ := hp
                              have hG_435 := eOK.frame hMr_431 go_.2.2.2.1 mq2_ kq2_ (by decide) (by decide) hG_427
                              have g := g.more hF_434
                              refine lv_aload_n hx hb dX2_readArguments_214 rfl (lv_at hl 5 rfl) ?_
                              refine g_getk (C := RX2) (T := TX2) (N := 16) hx hb hts (mc_ inX2) hown hK g rfl 3 (by decide) rfl (hts _ (List.mem_cons_of_mem _ t_419)) (fun _ h9 => h9) 10 rfl dX2_readArguments_215 ?_
                              refine lv_bipush (v := 22) hx hb dX2_readArguments_218 (by decide) ?_
                              refine lv_iconst (v := 0) hx hb dX2_readArguments_220 (by decide) ?_
                              have go_ := g
                              refine g_callv (va_runV (As := [.int 22, .int 0]) (rest := []) ⟨hx, hb, hml, hown, hts⟩ (r_X7_emit l dC dI L kd tys fr_431 H.size g.2.2.2.1 q3_ mq3_ kq3_ 22 0) (cwV 2 hts (gV_ t_1301 t_1204 t_1205 t_191 t_1206) rfl rfl rfl (by decide +kernel) ⟨(Nat.le_of_ble_eq_true rfl), (Nat.le_of_ble_eq_true rfl)⟩) (pre3V g hK mq3_ kq3_ (by decide) (q := (RX7, TX7, 19)) rfl) rfl rfl hl.1 rfl (lv_room (Nat.le_of_ble_eq_true rfl)) dX2_readArguments_221 ⟨(Nat.le_of_ble_eq_true rfl), (Nat.le_of_ble_eq_true rfl)⟩) g hK (by decide) (by decide) (fx' := [(2, 13, a0_, .int x_430), (2, 12, a0_, .int x_429), (8, 6, q0_, .int x_424), (8, 8, q0_, .int x_362), (0, 2, q2_, .ref q6_), (2, 14, a0_, .int x_13), (2, 0, a0_, .ref q0_), (2, 1, a0_, .ref q1_), (2, 2, a0_, .ref q2_), (2, 3, a0_, .ref q3_), (0, 0, q2_, .ref q0_), (0, 1, q2_, .ref q1_), (5, 0, q1_, .ref q6_), (5, 1, q1_, .ref q7_)]) rfl (fun fr_436 H locs hp hMr_436 g => ?_)
                              obtain ⟨x_437, h_438, hF_439⟩ := hp
                              have hG_440 := eOK.frame hMr_436 go_.2.2.2.1 mq2_ kq2_ (by decide) (by decide) hG_435
                              have g := g.more hF_439
                              refine lv_aload_n hx hb dX2_readArguments_224 rfl (lv_at hl 5 rfl) ?_
                              refine g_getk (C := RX2) (T := TX2) (N := 16) hx hb hts (mc_ inX2) hown hK g rfl 0 (by decide) rfl (hts _ (List.mem_cons_of_mem _ t_416)) (fun _ h9 => h9) 7 rfl dX2_readArguments_225 ?_
                              refine lv_bipush (v := 59) hx hb dX2_readArguments_228 (by decide) ?_
                              have go_ := g
                              refine g_callv (va_runV (As := [.int 59]) (rest := []) ⟨hx, hb, hml, hown, hts⟩ (r_X8_take_2 l dC dI L kd tys fr_436 H.size g.2.2.2.1 q0_ mq0_ kq0_ 59 x_424 h_425 x_362 h_363 (g.fcts [3, 4] rfl)) (cwV 1 hts (gV_ t_1098 t_1099 t_1100 t_184 t_1101) rfl rfl rfl (by decide +kernel) ⟨(Nat.le_of_ble_eq_true rfl), (Nat.le_of_ble_eq_true rfl)⟩) (pre3V g hK mq0_ kq0_ (by decide) (q := (RX8, TX8, 10)) rfl) rfl rfl hl.1 rfl (lv_room (Nat.le_of_ble_eq_true rfl)) dX2_readArguments_230 ⟨(Nat.le_of_ble_eq_true rfl), (Nat.le_of_ble_eq_true rfl)⟩) g hK (by decide) (by decide) (fx' := [(7, 6, q3_, .int x_437), (2, 13, a0_, .int x_430), (2, 12, a0_, .int x_429), (8, 8, q0_, .int x_362), (0, 2, q2_, .ref q6_), (2, 14, a0_, .int x_13), (2, 0, a0_, .ref q0_), (2, 1, a0_, .ref q1_), (2, 2, a0_, .ref q2_), (2, 3, a0_, .ref q3_), (0, 0, q2_, .ref q0_), (0, 1, q2_, .ref q1_), (5, 0, q1_, .ref q6_), (5, 1, q1_, .ref q7_)]) rfl (fun fr_441 H locs hp hMr_441 g => ?_)
                              obtain ⟨x_442, h_443, hF_444⟩ := hp
                              have hG_445 := eOK.frame hMr_441 go_.2.2.2.1 mq2_ kq2_ (by decide) (by decide) hG_440
                              have g := g.more hF_444
                              subst hQ
                              exact W.vret hx hb hr (fun t ht hW => ⟨⟨_, rfl, Or.inr (⟨hG_445, x_442, h_443, x_362, h_363, x_437, h_438, (g.fcts [0, 4, 1] rfl)⟩), q3_of g hK ht hW⟩, g.2.2.1.F ht⟩) g.2.2.1.2.2 dX2_readArguments_233
                            · have fc_428 := nle_f c_428
                              have b_446 : bd (-2147483648) 2147483646 y_342 := ltL fc_428 (bdT y_342) (bdT x_13) (by decide)
                              have b_447 : bd (-2147483647) 2147483647 x_13 := ltR fc_428 (bdT y_342) (bdT x_13) (by decide)
                              refine lv_aload_n hx hb dX2_readArguments_188 rfl (lv_at hl 5 rfl) ?_
                              refine g_getk (C := RX2) (T := TX2) (N := 16) hx hb hts (mc_ inX2) hown hK g rfl 0 (by decide) rfl (hts _ (List.mem_cons_of_mem _ t_416)) (fun _ h9 => h9) 4 rfl dX2_readArguments_189 ?_
                              refine lv_bipush (v := 6) hx hb dX2_readArguments_192 (by decide) ?_
                              refine lv_iload hx hb dX2_readArguments_194 (lv_at hl 0 rfl) ?_
                              have go_ := g
                              refine g_callv (va_runV (As := [.int 6, .int r_421]) (rest := []) ⟨hx, hb, hml, hown, hts⟩ (r_X8_fail_2 l dC dI L kd tys fr_423 H.size g.2.2.2.1 q0_ mq0_ kq0_ 6 (bd_sub kb_6 (by decide)) r_421 x_362 h_363 (g.fcts [1] rfl)) (cwV 2 hts (gV_ t_1122 t_1107 t_1108 t_184 t_1109) rfl rfl rfl (by decide +kernel) ⟨(Nat.le_of_ble_eq_true rfl), (Nat.le_of_ble_eq_true rfl)⟩) (pre3V g hK mq0_ kq0_ (by decide) (q := (RX8, TX8, 10)) rfl) rfl rfl hl.1 rfl (lv_room (Nat.le_of_ble_eq_true rfl)) dX2_readArguments_196 ⟨(Nat.le_of_ble_eq_true rfl), (Nat.le_of_ble_eq_true rfl)⟩) g hK (by decide) (by decide) (fx' := [(8, 8, q0_, .int x_362), (0, 2, q2_, .ref q6_), (2, 14, a0_, .int x_13), (2, 0, a0_, .ref q0_), (2, 1, a0_, .ref q1_), (2, 2, a0_, .ref q2_), (2, 3, a0_, .ref q3_), (0, 0, q2_, .ref q0_), (0, 1, q2_, .ref q1_), (5, 0, q1_, .ref q6_), (5, 1, q1_, .ref q7_)]) rfl (fun fr_448 H locs hp hMr_448 g => ?_)
                              have hF_449 := hp
                              have hG_450 := eOK.frame hMr_448 go_.2.2.2.1 mq2_ kq2_ (by decide) (by decide) hG_427
                              have g := g.more hF_449
                              refine lv_aload_n hx hb dX2_readArguments_199 rfl (lv_at hl 5 rfl) ?_
                              refine g_getk (C := RX2) (T := TX2) (N := 16) hx hb hts (mc_ inX2) hown hK g rfl 3 (by decide) rfl (hts _ (List.mem_cons_of_mem _ t_419)) (fun _ h9 => h9) 7 rfl dX2_readArguments_200 ?_
                              refine lv_aload_n hx hb dX2_readArguments_203 rfl (lv_at hl 5 rfl) ?_
                              refine g_geti (C := RX2) (T := TX2) (N := 16) hx hb hts (mc_ inX2) hown hK g ma0_ ka0_ (by decide) rfl 12 (by decide) rfl (hts _ (List.mem_cons_of_mem _ t_428)) (fun _ h9 => h9) rfl dX2_readArguments_204 (fun x_451 bx_451 g => ?_)
                              refine lv_aload_n hx hb dX2_readArguments_207 rfl (lv_at hl 5 rfl) ?_
                              refine g_geti (C := RX2) (T := TX2) (N := 16) hx hb hts (mc_ inX2) hown hK g ma0_ ka0_ (by decide) rfl 13 (by decide) rfl (hts _ (List.mem_cons_of_mem _ t_429)) (fun _ h9 => h9) rfl dX2_readArguments_208 (fun x_452 bx_452 g => ?_)
                              have go_ := g
                              refine g_callv (va_runV (As := [.int x_451, .int x_452]) (rest := []) ⟨hx, hb, hml, hown, hts⟩ (r_X7_emit l dC dI L kd tys fr_448 H.size g.2.2.2.1 q3_ mq3_ kq3_ x_451 x_452) (cwV 2 hts (gV_ t_1301 t_1204 t_1205 t_191 t_1206) rfl rfl rfl (by decide +kernel) ⟨(Nat.le_of_ble_eq_true rfl), (Nat.le_of_ble_eq_true rfl)⟩) (pre3V g hK mq3_ kq3_ (by decide) (q := (RX7, TX7, 19)) rfl) rfl rfl hl.1 rfl (lv_room (Nat.le_of_ble_eq_true rfl)) dX2_readArguments_211 ⟨(Nat.le_of_ble_eq_true rfl), (Nat.le_of_ble_eq_true rfl)⟩) g hK (by decide) (by decide) (fx' := [(2, 13, a0_, .int x_452), (2, 12, a0_, .int x_451), (8, 6, q0_, .int 1201), (8, 8, q0_, .int x_362), (0, 2, q2_, .ref q6_), (2, 14, a0_, .int x_13), (2, 0, a0_, .ref q0_), (2, 1, a0_, .ref q1_), (2, 2, a0_, .ref q2_), (2, 3, a0_, .ref q3_), (0, 0, q2_, .ref q0_), (0, 1, q2_, .ref q1_), (5, 0, q1_, .ref q6_), (5, 1, q1_, .ref q7_)]) rfl (fun fr_453 H locs hp hMr_453 g => ?_)
                              obtain ⟨x_454, h_455, hF_456⟩ := hp
                              have hG_457 := eOK.frame hMr_453 go_.2.2.2.1 mq2_ kq2_ (by decide) (by decide) hG_450
                              have g := g.more hF_456
                              refine lv_aload_n hx hb dX2_readArguments_214 rfl (lv_at hl 5 rfl) ?_
                              refine g_getk (C := RX2) (T := TX2) (N := 16) hx hb hts (mc_ inX2) hown hK g rfl 3 (by decide) rfl (hts _ (List.mem_cons_of_mem _ t_419)) (fun _ h9 => h9) 10 rfl dX2_readArguments_215 ?_
                              refine lv_bipush (v := 22) hx hb dX2_readArguments_218 (by decide) ?_
                              refine lv_iconst (v := 0) hx hb dX2_readArguments_220 (by decide) ?_
                              have go_ := g
                              refine g_callv (va_runV (As := [.int 22, .int 0]) (rest := []) ⟨hx, hb, hml, hown, hts⟩ (r_X7_emit l dC dI L kd tys fr_453 H.size g.2.2.2.1 q3_ mq3_ kq3_ 22 0) (cwV 2 hts (gV_ t_1301 t_1204 t_1205 t_191 t_1206) rfl rfl rfl (by decide +kernel) ⟨(Nat.le_of_ble_eq_true rfl), (Nat.le_of_ble_eq_true rfl)⟩) (pre3V g hK mq3_ kq3_ (by decide) (q := (RX7, TX7, 19)) rfl) rfl rfl hl.1 rfl (lv_room (Nat.le_of_ble_eq_true rfl)) dX2_readArguments_221 ⟨(Nat.le_of_ble_eq_true rfl), (Nat.le_of_ble_eq_true rfl)⟩) g hK (by decide) (by decide) (fx' := [(2, 13, a0_, .int x_452), (2, 12, a0_, .int x_451), (8, 6, q0_, .int 1201), (8, 8, q0_, .int x_362), (0, 2, q2_, .ref q6_), (2, 14, a0_, .int x_13), (2, 0, a0_, .ref q0_), (2, 1, a0_, .ref q1_), (2, 2, a0_, .ref q2_), (2, 3, a0_, .ref q3_), (0, 0, q2_, .ref q0_), (0, 1, q2_, .ref q1_), (5, 0, q1_, .ref q6_), (5, 1, q1_, .ref q7_)]) rfl (fun fr_458 H locs hp hMr_458 g => ?_)
                              obtain ⟨x_459, h_460, hF_461⟩ := hp
                              have hG_462 := eOK.frame hMr_458 go_.2.2.2.1 mq2_ kq2_ (by decide) (by decide) hG_457
                              have g := g.more hF_461
                              refine lv_aload_n hx hb dX2_readArguments_224 rfl (lv_at hl 5 rfl) ?_
                              refine g_getk (C := RX2) (T := TX2) (N := 16) hx hb hts (mc_ inX2) hown hK g rfl 0 (by decide) rfl (hts _ (List.mem_cons_of_mem _ t_416)) (fun _ h9 => h9) 7 rfl dX2_readArguments_225 ?_
                              refine lv_bipush (v := 59) hx hb dX2_readArguments_228 (by decide) ?_
                              have go_ := g
                              refine g_callv (va_runV (As := [.int 59]) (rest := []) ⟨hx, hb, hml, hown, hts⟩ (r_X8_take_2 l dC dI L kd tys fr_458 H.size g.2.2.2.1 q0_ mq0_ kq0_ 59 1201 kb_1201 x_362 h_363 (g.fcts [3, 4] rfl)) (cwV 1 hts (gV_ t_1098 t_1099 t_1100 t_184 t_1101) rfl rfl rfl (by decide +kernel) ⟨(Nat.le_of_ble_eq_true rfl), (Nat.le_of_ble_eq_true rfl)⟩) (pre3V g hK mq0_ kq0_ (by decide) (q := (RX8, TX8, 10)) rfl) rfl rfl hl.1 rfl (lv_room (Nat.le_of_ble_eq_true rfl)) dX2_readArguments_230 ⟨(Nat.le_of_ble_eq_true rfl), (Nat.le_of_ble_eq_true rfl)⟩) g hK (by decide) (by decide) (fx' := [(7, 6, q3_, .int x_459), (2, 13, a0_, .int x_452), (2, 12, a0_, .int x_451), (8, 8, q0_, .int x_362), (0, 2, q2_, .ref q6_), (2, 14, a0_, .int x_13), (2, 0, a0_, .ref q0_), (2, 1, a0_, .ref q1_), (2, 2, a0_, .ref q2_), (2, 3, a0_, .ref q3_), (0, 0, q2_, .ref q0_), (0, 1, q2_, .ref q1_), (5, 0, q1_, .ref q6_), (5, 1, q1_, .ref q7_)]) rfl (fun fr_463 H locs hp hMr_463 g => ?_)
                              obtain ⟨x_464, h_465, hF_466⟩ := hp
                              have hG_467 := eOK.frame hMr_463 go_.2.2.2.1 mq2_ kq2_ (by decide) (by decide) hG_462
                              have g := g.more hF_466
                              subst hQ
                              exact W.vret hx hb hr (fun t ht hW => ⟨⟨_, rfl, Or.inr (⟨hG_467, x_464, h_465, x_362, h_363, x_459, h_460, (g.fcts [0, 4, 1] rfl)⟩), q3_of g hK ht hW⟩, g.2.2.1.F ht⟩) g.2.2.1.2.2 dX2_readArguments_233
                          · have fc_420 := eq_f c_420
                            have b_468 : bd 1 0 x_362 := eqX fc_420 h_363 kb_0 (by decide)
                            exact bd_no b_468 (by decide)
                  · have g := g.more hF_341
                    have kb_1 : bd 1 1 (1 : Int32) := ⟨by decide, by decide⟩
                    obtain ⟨y_469, ey_469⟩ : ∃ z : Int32, z = v69_2 + 1 := ⟨_, rfl⟩
                    refine lv_iinc (v := y_469) (lv' := [(2, .int y_469), (4, .int v69_4), (3, .int v69_3), (1, .int r_1), (0, .ref a0_)]) hx hb dX2_readArguments_96 hl (k := 2) rfl (by rw [ey_469]; rfl) (by decide) rfl (fun ls hl => ?_)
                    refine lv_aload_n hx hb dX2_readArguments_99 rfl (lv_at hl 4 rfl) ?_
                    refine g_getk (C := RX2) (T := TX2) (N := 16) hx hb hts (mc_ inX2) hown hK g rfl 0 (by decide) rfl (hts _ (List.mem_cons_of_mem _ t_416)) (fun _ h9 => h9) 4 rfl dX2_readArguments_100 ?_
                    have go_ := g
                    refine g_calli (va_runV (As := []) (rest := []) ⟨hx, hb, hml, hown, hts⟩ (r_X8_kind_2 l dC dI L kd tys fr_331 H.size g.2.2.2.1 q0_ mq0_ kq0_ x_337 h_338 (g.fcts [0] rfl)) (cwV 0 hts (gV_ t_1118 t_1119 t_1120 t_184 t_1121) rfl rfl rfl (by decide +kernel) ⟨(Nat.le_of_ble_eq_true rfl), (Nat.le_of_ble_eq_true rfl)⟩) (pre3V g hK mq0_ kq0_ (by decide) (q := (RX8, TX8, 10)) rfl) rfl rfl hl.1 rfl (lv_room (Nat.le_of_ble_eq_true rfl)) dX2_readArguments_103 ⟨(Nat.le_of_ble_eq_true rfl), (Nat.le_of_ble_eq_true rfl)⟩) g hK (by decide) (by decide) (fx' := [(8, 6, q0_, .int x_337), (8, 8, q0_, .int x_339), (0, 2, q2_, .ref q6_), (2, 14, a0_, .int x_13), (2, 0, a0_, .ref q0_), (2, 1, a0_, .ref q1_), (2, 2, a0_, .ref q2_), (2, 3, a0_, .ref q3_), (0, 0, q2_, .ref q0_), (0, 1, q2_, .ref q1_), (5, 0, q1_, .ref q6_), (5, 1, q1_, .ref q7_)]) rfl (fun r_470 fr_470 H locs hp hMr_470 g => ?_)
                    obtain ⟨h_471, -⟩ := hp
                    have hG_472 := eOK.frame hMr_470 go_.2.2.2.1 mq2_ kq2_ (by decide) (by decide) hG_336
                    obtain rfl : r_470 = 0 := h_471
                    refine lv_bipush (v := 44) hx hb dX2_readArguments_106 (by decide) ?_
                    refine lv_icmp_ne (tgt := 115) hx hb dX2_readArguments_108 (by decide) (fun c_ => ?_) (fun c_ => absurd c_ (by decide))
                    refine lv_iconst (v := 0) hx hb dX2_readArguments_115 (by decide) ?_
                    refine lv_istore_n (lv' := [(3, .int 0), (2, .int y_469), (4, .int v69_4), (1, .int r_1), (0, .ref a0_)]) hx hb dX2_readArguments_116 rfl hl (by decide) rfl (fun ls hl => ?_)
                    refine lv_iload_n hx hb dX2_readArguments_117 rfl (lv_at hl 0 rfl) ?_
                    refine lv_if_eq (tgt := 156) hx hb dX2_readArguments_118 (by decide) (fun c_ => ?_) (fun c_ => absurd (by decide) c_)
                    obtain ⟨y_473, ey_473⟩ : ∃ z : Int32, z = v69_4 + 1 := ⟨_, rfl⟩
                    refine lv_iinc (v := y_473) (lv' := [(4, .int y_473), (3, .int 0), (2, .int y_469), (1, .int r_1), (0, .ref a0_)]) hx hb dX2_readArguments_156 hl (k := 2) rfl (by rw [ey_473]; rfl) (by decide) rfl (fun ls hl => ?_)
                    have ty_473 := add_bd ey_473 b_224 kb_1 (by decide)
                    have b_474 : bd 1 4 y_473 := add_rg ty_473 b_224 kb_1 (by decide)
                    refine lv_goto (tgt := 69) hx hb dX2_readArguments_159 (by decide) ?_
                    refine lv_iload hx hb dX2_readArguments_69 (lv_at hl 0 rfl) ?_
                    refine lv_iconst (v := 3) hx hb dX2_readArguments_71 (by decide) ?_
                    refine lv_icmp_gt (tgt := 162) hx hb dX2_readArguments_72 (by decide) (fun c_475 => ?_) (fun c_475 => ?_)
                    · have fc_475 := lt_f c_475
                      have b_476 : bd 4 4 y_473 := ltR fc_475 kb_3 b_474 (by decide)
                      have b_477 : bd 3 3 v69_4 := add_inv ty_473 b_476 b_224 kb_1 (by decide)
                      refine lv_aload_n hx hb dX2_readArguments_162 rfl (lv_at hl 4 rfl) ?_
                      refine g_getk (C := RX2) (T := TX2) (N := 16) hx hb hts (mc_ inX2) hown hK g rfl 0 (by decide) rfl (hts _ (List.mem_cons_of_mem _ t_416)) (fun _ h9 => h9) 4 rfl dX2_readArguments_163 ?_
                      have go_ := g
                      refine g_calli (va_runV (As := []) (rest := []) ⟨hx, hb, hml, hown, hts⟩ (r_X8_place l dC dI L kd tys fr_470 H.size g.2.2.2.1 q0_ mq0_ kq0_) (cwV 0 hts (gV_ t_1110 t_1111 t_1112 t_184 t_1113) rfl rfl rfl (by decide +kernel) ⟨(Nat.le_of_ble_eq_true rfl), (Nat.le_of_ble_eq_true rfl)⟩) (pre3V g hK mq0_ kq0_ (by decide) (q := (RX8, TX8, 10)) rfl) rfl rfl hl.1 rfl (lv_room (Nat.le_of_ble_eq_true rfl)) dX2_readArguments_166 ⟨(Nat.le_of_ble_eq_true rfl), (Nat.le_of_ble_eq_true rfl)⟩) g hK (by decide) (by decide) (fx' := [(8, 6, q0_, .int x_337), (8, 8, q0_, .int x_339), (0, 2, q2_, .ref q6_), (2, 14, a0_, .int x_13), (2, 0, a0_, .ref q0_), (2, 1, a0_, .ref q1_), (2, 2, a0_, .ref q2_), (2, 3, a0_, .ref q3_), (0, 0, q2_, .ref q0_), (0, 1, q2_, .ref q1_), (5, 0, q1_, .ref q6_), (5, 1, q1_, .ref q7_)]) rfl (fun r_478 fr_478 H locs hp hMr_478 g => ?_)
                      have hG_479 := eOK.frame hMr_478 go_.2.2.2.1 mq2_ kq2_ (by decide) (by decide) hG_472
                      refine lv_istore (lv' := [(4, .int r_478), (3, .int 0), (2, .int y_469), (1, .int r_1), (0, .ref a0_)]) hx hb dX2_readArguments_169 hl (by decide) rfl (fun ls hl => ?_)
                      refine lv_aload_n hx hb dX2_readArguments_171 rfl (lv_at hl 4 rfl) ?_
                      refine g_getk (C := RX2) (T := TX2) (N := 16) hx hb hts (mc_ inX2) hown hK g rfl 0 (by decide) rfl (hts _ (List.mem_cons_of_mem _ t_416)) (fun _ h9 => h9) 4 rfl dX2_readArguments_172 ?_
                      refine lv_bipush (v := 41) hx hb dX2_readArguments_175 (by decide) ?_
                      have go_ := g
                      refine g_callv (va_runV (As := [.int 41]) (rest := []) ⟨hx, hb, hml, hown, hts⟩ (r_X8_take_2 l dC dI L kd tys fr_478 H.size g.2.2.2.1 q0_ mq0_ kq0_ 41 x_337 h_338 x_339 h_340 (g.fcts [0, 1] rfl)) (cwV 1 hts (gV_ t_1098 t_1099 t_1100 t_184 t_1101) rfl rfl rfl (by decide +kernel) ⟨(Nat.le_of_ble_eq_true rfl), (Nat.le_of_ble_eq_true rfl)⟩) (pre3V g hK mq0_ kq0_ (by decide) (q := (RX8, TX8, 10)) rfl) rfl rfl hl.1 rfl (lv_room (Nat.le_of_ble_eq_true rfl)) dX2_readArguments_177 ⟨(Nat.le_of_ble_eq_true rfl), (Nat.le_of_ble_eq_true rfl)⟩) g hK (by decide) (by decide) (fx' := [(8, 8, q0_, .int x_339), (0, 2, q2_, .ref q6_), (2, 14, a0_, .int x_13), (2, 0, a0_, .ref q0_), (2, 1, a0_, .ref q1_), (2, 2, a0_, .ref q2_), (2, 3, a0_, .ref q3_), (0, 0, q2_, .ref q0_), (0, 1, q2_, .ref q1_), (5, 0, q1_, .ref q6_), (5, 1, q1_, .ref q7_)]) rfl (fun fr_480 H locs hp hMr_480 g => ?_)
                      obtain ⟨x_481, h_482, hF_483⟩ := hp
                      have hG_484 := eOK.frame hMr_480 go_.2.2.2.1 mq2_ kq2_ (by decide) (by decide) hG_479
                      have g := g.more hF_483
                      refine lv_iload_n hx hb dX2_readArguments_180 rfl (lv_at hl 2 rfl) ?_
                      refine lv_aload_n hx hb dX2_readArguments_181 rfl (lv_at hl 4 rfl) ?_
                      refine g_getk (C := RX2) (T := TX2) (N := 16) hx hb hts (mc_ inX2) hown hK g rfl 14 (by decide) rfl (hts _ (List.mem_cons_of_mem _ t_430)) (fun _ h9 => h9) 3 rfl dX2_readArguments_182 ?_
                      refine lv_icmp_ge (tgt := 199) hx hb dX2_readArguments_185 (by decide) (fun c_485 => ?_) (fun c_485 => ?_)
                      · have fc_485 := le_f c_485
                        refine lv_aload_n hx hb dX2_readArguments_199 rfl (lv_at hl 4 rfl) ?_
                        refine g_getk (C := RX2) (T := TX2) (N := 16) hx hb hts (mc_ inX2) hown hK g rfl 3 (by decide) rfl (hts _ (List.mem_cons_of_mem _ t_419)) (fun _ h9 => h9) 7 rfl dX2_readArguments_200 ?_
                        refine lv_aload_n hx hb dX2_readArguments_203 rfl (lv_at hl 4 rfl) ?_
                        refine g_geti (C := RX2) (T := TX2) (N := 16) hx hb hts (mc_ inX2) hown hK g ma0_ ka0_ (by decide) rfl 12 (by decide) rfl (hts _ (List.mem_cons_of_mem _ t_428)) (fun _ h9 => h9) rfl dX2_readArguments_204 (fun x_486 bx_486 g => ?_)
                        refine lv_aload_n hx hb dX2_readArguments_207 rfl (lv_at hl 4 rfl) ?_
                        refine g_geti (C := RX2) (T := TX2) (N := 16) hx hb hts (mc_ inX2) hown hK g ma0_ ka0_ (by decide) rfl 13 (by decide) rfl (hts _ (List.mem_cons_of_mem _ t_429)) (fun _ h9 => h9) rfl dX2_readArguments_208 (fun x_487 bx_487 g => ?_)
                        have go_ := g
                        refine g_callv (va_runV (As := [.int x_486, .int x_487]) (rest := []) ⟨hx, hb, hml, hown, hts⟩ (r_X7_emit l dC dI L kd tys fr_480 H.size g.2.2.2.1 q3_ mq3_ kq3_ x_486 x_487) (cwV 2 hts (gV_ t_1301 t_1204 t_1205 t_191 t_1206) rfl rfl rfl (by decide +kernel) ⟨(Nat.le_of_ble_eq_true rfl), (Nat.le_of_ble_eq_true rfl)⟩) (pre3V g hK mq3_ kq3_ (by decide) (q := (RX7, TX7, 19)) rfl) rfl rfl hl.1 rfl (lv_room (Nat.le_of_ble_eq_true rfl)) dX2_readArguments_211 ⟨(Nat.le_of_ble_eq_true rfl), (Nat.le_of_ble_eq_true rfl)⟩) g hK (by decide) (by decide) (fx' := [(2, 13, a0_, .int x_487), (2, 12, a0_, .int x_486), (8, 6, q0_, .int x_481), (8, 8, q0_, .int x_339), (0, 2, q2_, .ref q6_), (2, 14, a0_, .int x_13), (2, 0, a0_, .ref q0_), (2, 1, a0_, .ref q1_), (2, 2, a0_, .ref q2_), (2, 3, a0_, .ref q3_), (0, 0, q2_, .ref q0_), (0, 1, q2_, .ref q1_), (5, 0, q1_, .ref q6_), (5, 1, q1_, .ref q7_)]) rfl (fun fr_488 H locs hp hMr_488 g => ?_)
                        obtain ⟨x_489, h_490, hF_491⟩ := hp
                        have hG_492 := eOK.frame hMr_488 go_.2.2.2.1 mq2_ kq2_ (by decide) (by decide) hG_484
                        have g := g.more hF_491
                        refine lv_aload_n hx hb dX2_readArguments_214 rfl (lv_at hl 4 rfl) ?_
                        refine g_getk (C := RX2) (T := TX2) (N := 16) hx hb hts (mc_ inX2) hown hK g rfl 3 (by decide) rfl (hts _ (List.mem_cons_of_mem _ t_419)) (fun _ h9 => h9) 10 rfl dX2_readArguments_215 ?_
                        refine lv_bipush (v := 22) hx hb dX2_readArguments_218 (by decide) ?_
                        refine lv_iconst (v := 0) hx hb dX2_readArguments_220 (by decide) ?_
                        have go_ := g
                        refine g_callv (va_runV (As := [.int 22, .int 0]) (rest := []) ⟨hx, hb, hml, hown, hts⟩ (r_X7_emit l dC dI L kd tys fr_488 H.size g.2.2.2.1 q3_ mq3_ kq3_ 22 0) (cwV 2 hts (gV_ t_1301 t_1204 t_1205 t_191 t_1206) rfl rfl rfl (by decide +kernel) ⟨(Nat.le_of_ble_eq_true rfl), (Nat.le_of_ble_eq_true rfl)⟩) (pre3V g hK mq3_ kq3_ (by decide) (q := (RX7, TX7, 19)) rfl) rfl rfl hl.1 rfl (lv_room (Nat.le_of_ble_eq_true rfl)) dX2_readArguments_221 ⟨(Nat.le_of_ble_eq_true rfl), (Nat.le_of_ble_eq_true rfl)⟩) g hK (by decide) (by decide) (fx' := [(2, 13, a0_, .int x_487), (2, 12, a0_, .int x_486), (8, 6, q0_, .int x_481), (8, 8, q0_, .int x_339), (0, 2, q2_, .ref q6_), (2, 14, a0_, .int x_13), (2, 0, a0_, .ref q0_), (2, 1, a0_, .ref q1_), (2, 2, a0_, .ref q2_), (2, 3, a0_, .ref q3_), (0, 0, q2_, .ref q0_), (0, 1, q2_, .ref q1_), (5, 0, q1_, .ref q6_), (5, 1, q1_, .ref q7_)]) rfl (fun fr_493 H locs hp hMr_493 g => ?_)
                        obtain ⟨x_494, h_495, hF_496⟩ := hp
                        have hG_497 := eOK.frame hMr_493 go_.2.2.2.1 mq2_ kq2_ (by decide) (by decide) hG_492
                        have g := g.more hF_496
                        refine lv_aload_n hx hb dX2_readArguments_224 rfl (lv_at hl 4 rfl) ?_
                        refine g_getk (C := RX2) (T := TX2) (N := 16) hx hb hts (mc_ inX2) hown hK g rfl 0 (by decide) rfl (hts _ (List.mem_cons_of_mem _ t_416)) (fun _ h9 => h9) 7 rfl dX2_readArguments_225 ?_
                        refine lv_bipush (v := 59) hx hb dX2_readArguments_228 (by decide) ?_
                        have go_ := g
                        refine g_callv (va_runV (As := [.int 59]) (rest := []) ⟨hx, hb, hml, hown, hts⟩ (r_X8_take_2 l dC dI L kd tys fr_493 H.size g.2.2.2.1 q0_ mq0_ kq0_ 59 x_481 h_482 x_339 h_340 (g.fcts [3, 4] rfl)) (cwV 1 hts (gV_ t_1098 t_1099 t_1100 t_184 t_1101) rfl rfl rfl (by decide +kernel) ⟨(Nat.le_of_ble_eq_true rfl), (Nat.le_of_ble_eq_true rfl)⟩) (pre3V g hK mq0_ kq0_ (by decide) (q := (RX8, TX8, 10)) rfl) rfl rfl hl.1 rfl (lv_room (Nat.le_of_ble_eq_true rfl)) dX2_readArguments_230 ⟨(Nat.le_of_ble_eq_true rfl), (Nat.le_of_ble_eq_true rfl)⟩) g hK (by decide) (by decide) (fx' := [(7, 6, q3_, .int x_494), (2, 13, a0_, .int x_487), (2, 12, a0_, .int x_486), (8, 8, q0_, .int x_339), (0, 2, q2_, .ref q6_), (2, 14, a0_, .int x_13), (2, 0, a0_, .ref q0_), (2, 1, a0_, .ref q1_), (2, 2, a0_, .ref q2_), (2, 3, a0_, .ref q3_), (0, 0, q2_, .ref q0_), (0, 1, q2_, .ref q1_), (5, 0, q1_, .ref q6_), (5, 1, q1_, .ref q7_)]) rfl (fun fr_498 H locs hp hMr_498 g => ?_)
                        obtain ⟨x_499, h_500, hF_501⟩ := hp
                        have hG_502 := eOK.frame hMr_498 go_.2.2.2.1 mq2_ kq2_ (by decide) (by decide) hG_497
                        have g := g.more hF_501
                        subst hQ
                        exact W.vret hx hb hr (fun t ht hW => ⟨⟨_, rfl, Or.inr (⟨hG_502, x_499, h_500, x_339, h_340, x_494, h_495, (g.fcts [0, 4, 1] rfl)⟩), q3_of g hK ht hW⟩, g.2.2.1.F ht⟩) g.2.2.1.2.2 dX2_readArguments_233
                      · have fc_485 := nle_f c_485
                        have b_503 : bd (-2147483648) 2147483646 y_469 := ltL fc_485 (bdT y_469) (bdT x_13) (by decide)
                        have b_504 : bd (-2147483647) 2147483647 x_13 := ltR fc_485 (bdT y_469) (bdT x_13) (by decide)
                        refine lv_aload_n hx hb dX2_readArguments_188 rfl (lv_at hl 4 rfl) ?_
                        refine g_getk (C := RX2) (T := TX2) (N := 16) hx hb hts (mc_ inX2) hown hK g rfl 0 (by decide) rfl (hts _ (List.mem_cons_of_mem _ t_416)) (fun _ h9 => h9) 4 rfl dX2_readArguments_189 ?_
                        refine lv_bipush (v := 6) hx hb dX2_readArguments_192 (by decide) ?_
                        refine lv_iload hx hb dX2_readArguments_194 (lv_at hl 0 rfl) ?_
                        have kb_6 : bd 6 6 (6 : Int32) := ⟨by decide, by decide⟩
                        have go_ := g
                        refine g_callv (va_runV (As := [.int 6, .int r_478]) (rest := []) ⟨hx, hb, hml, hown, hts⟩ (r_X8_fail_2 l dC dI L kd tys fr_480 H.size g.2.2.2.1 q0_ mq0_ kq0_ 6 (bd_sub kb_6 (by decide)) r_478 x_339 h_340 (g.fcts [1] rfl)) (cwV 2 hts (gV_ t_1122 t_1107 t_1108 t_184 t_1109) rfl rfl rfl (by decide +kernel) ⟨(Nat.le_of_ble_eq_true rfl), (Nat.le_of_ble_eq_true rfl)⟩) (pre3V g hK mq0_ kq0_ (by decide) (q := (RX8, TX8, 10)) rfl) rfl rfl hl.1 rfl (lv_room (Nat.le_of_ble_eq_true rfl)) dX2_readArguments_196 ⟨(Nat.le_of_ble_eq_true rfl), (Nat.le_of_ble_eq_true rfl)⟩) g hK (by decide) (by decide) (fx' := [(8, 8, q0_, .int x_339), (0, 2, q2_, .ref q6_), (2, 14, a0_, .int x_13), (2, 0, a0_, .ref q0_), (2, 1, a0_, .ref q1_), (2, 2, a0_, .ref q2_), (2, 3, a0_, .ref q3_), (0, 0, q2_, .ref q0_), (0, 1, q2_, .ref q1_), (5, 0, q1_, .ref q6_), (5, 1, q1_, .ref q7_)]) rfl (fun fr_505 H locs hp hMr_505 g => ?_)
                        have hF_506 := hp
                        have hG_507 := eOK.frame hMr_505 go_.2.2.2.1 mq2_ kq2_ (by decide) (by decide) hG_484
                        have g := g.more hF_506
                        refine lv_aload_n hx hb dX2_readArguments_199 rfl (lv_at hl 4 rfl) ?_
                        refine g_getk (C := RX2) (T := TX2) (N := 16) hx hb hts (mc_ inX2) hown hK g rfl 3 (by decide) rfl (hts _ (List.mem_cons_of_mem _ t_419)) (fun _ h9 => h9) 7 rfl dX2_readArguments_200 ?_
                        refine lv_aload_n hx hb dX2_readArguments_203 rfl (lv_at hl 4 rfl) ?_
                        refine g_geti (C := RX2) (T := TX2) (N := 16) hx hb hts (mc_ inX2) hown hK g ma0_ ka0_ (by decide) rfl 12 (by decide) rfl (hts _ (List.mem_cons_of_mem _ t_428)) (fun _ h9 => h9) rfl dX2_readArguments_204 (fun x_508 bx_508 g => ?_)
                        refine lv_aload_n hx hb dX2_readArguments_207 rfl (lv_at hl 4 rfl) ?_
                        refine g_geti (C := RX2) (T := TX2) (N := 16) hx hb hts (mc_ inX2) hown hK g ma0_ ka0_ (by decide) rfl 13 (by decide) rfl (hts _ (List.mem_cons_of_mem _ t_429)) (fun _ h9 => h9) rfl dX2_readArguments_208 (fun x_509 bx_509 g => ?_)
                        have go_ := g
                        refine g_callv (va_runV (As := [.int x_508, .int x_509]) (rest := []) ⟨hx, hb, hml, hown, hts⟩ (r_X7_emit l dC dI L kd tys fr_505 H.size g.2.2.2.1 q3_ mq3_ kq3_ x_508 x_509) (cwV 2 hts (gV_ t_1301 t_1204 t_1205 t_191 t_1206) rfl rfl rfl (by decide +kernel) ⟨(Nat.le_of_ble_eq_true rfl), (Nat.le_of_ble_eq_true rfl)⟩) (pre3V g hK mq3_ kq3_ (by decide) (q := (RX7, TX7, 19)) rfl) rfl rfl hl.1 rfl (lv_room (Nat.le_of_ble_eq_true rfl)) dX2_readArguments_211 ⟨(Nat.le_of_ble_eq_true rfl), (Nat.le_of_ble_eq_true rfl)⟩) g hK (by decide) (by decide) (fx' := [(2, 13, a0_, .int x_509), (2, 12, a0_, .int x_508), (8, 6, q0_, .int 1201), (8, 8, q0_, .int x_339), (0, 2, q2_, .ref q6_), (2, 14, a0_, .int x_13), (2, 0, a0_, .ref q0_), (2, 1, a0_, .ref q1_), (2, 2, a0_, .ref q2_), (2, 3, a0_, .ref q3_), (0, 0, q2_, .ref q0_), (0, 1, q2_, .ref q1_), (5, 0, q1_, .ref q6_), (5, 1, q1_, .ref q7_)]) rfl (fun fr_510 H locs hp hMr_510 g => ?_)
                        obtain ⟨x_511, h_512, hF_513⟩ := hp
                        have hG_514 := eOK.frame hMr_510 go_.2.2.2.1 mq2_ kq2_ (by decide) (by decide) hG_507
                        have g := g.more hF_513
                        refine lv_aload_n hx hb dX2_readArguments_214 rfl (lv_at hl 4 rfl) ?_
                        refine g_getk (C := RX2) (T := TX2) (N := 16) hx hb hts (mc_ inX2) hown hK g rfl 3 (by decide) rfl (hts _ (List.mem_cons_of_mem _ t_419)) (fun _ h9 => h9) 10 rfl dX2_readArguments_215 ?_
                        refine lv_bipush (v := 22) hx hb dX2_readArguments_218 (by decide) ?_
                        refine lv_iconst (v := 0) hx hb dX2_readArguments_220 (by decide) ?_
                        have go_ := g
                        refine g_callv (va_runV (As := [.int 22, .int 0]) (rest := []) ⟨hx, hb, hml, hown, hts⟩ (r_X7_emit l dC dI L kd tys fr_510 H.size g.2.2.2.1 q3_ mq3_ kq3_ 22 0) (cwV 2 hts (gV_ t_1301 t_1204 t_1205 t_191 t_1206) rfl rfl rfl (by decide +kernel) ⟨(Nat.le_of_ble_eq_true rfl), (Nat.le_of_ble_eq_true rfl)⟩) (pre3V g hK mq3_ kq3_ (by decide) (q := (RX7, TX7, 19)) rfl) rfl rfl hl.1 rfl (lv_room (Nat.le_of_ble_eq_true rfl)) dX2_readArguments_221 ⟨(Nat.le_of_ble_eq_true rfl), (Nat.le_of_ble_eq_true rfl)⟩) g hK (by decide) (by decide) (fx' := [(2, 13, a0_, .int x_509), (2, 12, a0_, .int x_508), (8, 6, q0_, .int 1201), (8, 8, q0_, .int x_339), (0, 2, q2_, .ref q6_), (2, 14, a0_, .int x_13), (2, 0, a0_, .ref q0_), (2, 1, a0_, .ref q1_), (2, 2, a0_, .ref q2_), (2, 3, a0_, .ref q3_), (0, 0, q2_, .ref q0_), (0, 1, q2_, .ref q1_), (5, 0, q1_, .ref q6_), (5, 1, q1_, .ref q7_)]) rfl (fun fr_515 H locs hp hMr_515 g => ?_)
                        obtain ⟨x_516, h_517, hF_518⟩ := hp
                        have hG_519 := eOK.frame hMr_515 go_.2.2.2.1 mq2_ kq2_ (by decide) (by decide) hG_514
                        have g := g.more hF_518
                        refine lv_aload_n hx hb dX2_readArguments_224 rfl (lv_at hl 4 rfl) ?_
                        refine g_getk (C := RX2) (T := TX2) (N := 16) hx hb hts (mc_ inX2) hown hK g rfl 0 (by decide) rfl (hts _ (List.mem_cons_of_mem _ t_416)) (fun _ h9 => h9) 7 rfl dX2_readArguments_225 ?_
                        refine lv_bipush (v := 59) hx hb dX2_readArguments_228 (by decide) ?_
                        have kb_1201 : bd 1201 1201 (1201 : Int32) := ⟨by decide, by decide⟩
                        have go_ := g
                        refine g_callv (va_runV (As := [.int 59]) (rest := []) ⟨hx, hb, hml, hown, hts⟩ (r_X8_take_2 l dC dI L kd tys fr_515 H.size g.2.2.2.1 q0_ mq0_ kq0_ 59 1201 kb_1201 x_339 h_340 (g.fcts [3, 4] rfl)) (cwV 1 hts (gV_ t_1098 t_1099 t_1100 t_184 t_1101) rfl rfl rfl (by decide +kernel) ⟨(Nat.le_of_ble_eq_true rfl), (Nat.le_of_ble_eq_true rfl)⟩) (pre3V g hK mq0_ kq0_ (by decide) (q := (RX8, TX8, 10)) rfl) rfl rfl hl.1 rfl (lv_room (Nat.le_of_ble_eq_true rfl)) dX2_readArguments_230 ⟨(Nat.le_of_ble_eq_true rfl), (Nat.le_of_ble_eq_true rfl)⟩) g hK (by decide) (by decide) (fx' := [(7, 6, q3_, .int x_516), (2, 13, a0_, .int x_509), (2, 12, a0_, .int x_508), (8, 8, q0_, .int x_339), (0, 2, q2_, .ref q6_), (2, 14, a0_, .int x_13), (2, 0, a0_, .ref q0_), (2, 1, a0_, .ref q1_), (2, 2, a0_, .ref q2_), (2, 3, a0_, .ref q3_), (0, 0, q2_, .ref q0_), (0, 1, q2_, .ref q1_), (5, 0, q1_, .ref q6_), (5, 1, q1_, .ref q7_)]) rfl (fun fr_520 H locs hp hMr_520 g => ?_)
                        obtain ⟨x_521, h_522, hF_523⟩ := hp
                        have hG_524 := eOK.frame hMr_520 go_.2.2.2.1 mq2_ kq2_ (by decide) (by decide) hG_519
                        have g := g.more hF_523
                        subst hQ
                        exact W.vret hx hb hr (fun t ht hW => ⟨⟨_, rfl, Or.inr (⟨hG_524, x_521, h_522, x_339, h_340, x_516, h_517, (g.fcts [0, 4, 1] rfl)⟩), q3_of g hK ht hW⟩, g.2.2.1.F ht⟩) g.2.2.1.2.2 dX2_readArguments_233
                    · have fc_475 := nlt_f c_475
                      have b_525 : bd 1 3 y_473 := leL fc_475 b_474 kb_3 (by decide)
                      have b_526 : bd 0 2 v69_4 := add_inv ty_473 b_525 b_224 kb_1 (by decide)
                      refine lv_iload_n hx hb dX2_readArguments_75 rfl (lv_at hl 1 rfl) ?_
                      refine lv_if_eq (tgt := 162) hx hb dX2_readArguments_76 (by decide) (fun c_ => ?_) (fun c_ => absurd (by decide) c_)
                      refine lv_aload_n hx hb dX2_readArguments_162 rfl (lv_at hl 4 rfl) ?_
                      refine g_getk (C := RX2) (T := TX2) (N := 16) hx hb hts (mc_ inX2) hown hK g rfl 0 (by decide) rfl (hts _ (List.mem_cons_of_mem _ t_416)) (fun _ h9 => h9) 4 rfl dX2_readArguments_163 ?_
                      have go_ := g
                      refine g_calli (va_runV (As := []) (rest := []) ⟨hx, hb, hml, hown, hts⟩ (r_X8_place l dC dI L kd tys fr_470 H.size g.2.2.2.1 q0_ mq0_ kq0_) (cwV 0 hts (gV_ t_1110 t_1111 t_1112 t_184 t_1113) rfl rfl rfl (by decide +kernel) ⟨(Nat.le_of_ble_eq_true rfl), (Nat.le_of_ble_eq_true rfl)⟩) (pre3V g hK mq0_ kq0_ (by decide) (q := (RX8, TX8, 10)) rfl) rfl rfl hl.1 rfl (lv_room (Nat.le_of_ble_eq_true rfl)) dX2_readArguments_166 ⟨(Nat.le_of_ble_eq_true rfl), (Nat.le_of_ble_eq_true rfl)⟩) g hK (by decide) (by decide) (fx' := [(8, 6, q0_, .int x_337), (8, 8, q0_, .int x_339), (0, 2, q2_, .ref q6_), (2, 14, a0_, .int x_13), (2, 0, a0_, .ref q0_), (2, 1, a0_, .ref q1_), (2, 2, a0_, .ref q2_), (2, 3, a0_, .ref q3_), (0, 0, q2_, .ref q0_), (0, 1, q2_, .ref q1_), (5, 0, q1_, .ref q6_), (5, 1, q1_, .ref q7_)]) rfl (fun r_527 fr_527 H locs hp hMr_527 g => ?_)
                      have hG_528 := eOK.frame hMr_527 go_.2.2.2.1 mq2_ kq2_ (by decide) (by decide) hG_472
                      refine lv_istore (lv' := [(4, .int r_527), (3, .int 0), (2, .int y_469), (1, .int r_1), (0, .ref a0_)]) hx hb dX2_readArguments_169 hl (by decide) rfl (fun ls hl => ?_)
                      refine lv_aload_n hx hb dX2_readArguments_171 rfl (lv_at hl 4 rfl) ?_
                      refine g_getk (C := RX2) (T := TX2) (N := 16) hx hb hts (mc_ inX2) hown hK g rfl 0 (by decide) rfl (hts _ (List.mem_cons_of_mem _ t_416)) (fun _ h9 => h9) 4 rfl dX2_readArguments_172 ?_
                      refine lv_bipush (v := 41) hx hb dX2_readArguments_175 (by decide) ?_
                      have go_ := g
                      refine g_callv (va_runV (As := [.int 41]) (rest := []) ⟨hx, hb, hml, hown, hts⟩ (r_X8_take_2 l dC dI L kd tys fr_527 H.size g.2.2.2.1 q0_ mq0_ kq0_ 41 x_337 h_338 x_339 h_340 (g.fcts [0, 1] rfl)) (cwV 1 hts (gV_ t_1098 t_1099 t_1100 t_184 t_1101) rfl rfl rfl (by decide +kernel) ⟨(Nat.le_of_ble_eq_true rfl), (Nat.le_of_ble_eq_true rfl)⟩) (pre3V g hK mq0_ kq0_ (by decide) (q := (RX8, TX8, 10)) rfl) rfl rfl hl.1 rfl (lv_room (Nat.le_of_ble_eq_true rfl)) dX2_readArguments_177 ⟨(Nat.le_of_ble_eq_true rfl), (Nat.le_of_ble_eq_true rfl)⟩) g hK (by decide) (by decide) (fx' := [(8, 8, q0_, .int x_339), (0, 2, q2_, .ref q6_), (2, 14, a0_, .int x_13), (2, 0, a0_, .ref q0_), (2, 1, a0_, .ref q1_), (2, 2, a0_, .ref q2_), (2, 3, a0_, .ref q3_), (0, 0, q2_, .ref q0_), (0, 1, q2_, .ref q1_), (5, 0, q1_, .ref q6_), (5, 1, q1_, .ref q7_)]) rfl (fun fr_529 H locs hp hMr_529 g => ?_)
                      obtain ⟨x_530, h_531, hF_532⟩ := hp
                      have hG_533 := eOK.frame hMr_529 go_.2.2.2.1 mq2_ kq2_ (by decide) (by decide) hG_528
                      have g := g.more hF_532
                      refine lv_iload_n hx hb dX2_readArguments_180 rfl (lv_at hl 2 rfl) ?_
                      refine lv_aload_n hx hb dX2_readArguments_181 rfl (lv_at hl 4 rfl) ?_
                      refine g_getk (C := RX2) (T := TX2) (N := 16) hx hb hts (mc_ inX2) hown hK g rfl 14 (by decide) rfl (hts _ (List.mem_cons_of_mem _ t_430)) (fun _ h9 => h9) 3 rfl dX2_readArguments_182 ?_
                      refine lv_icmp_ge (tgt := 199) hx hb dX2_readArguments_185 (by decide) (fun c_534 => ?_) (fun c_534 => ?_)
                      · have fc_534 := le_f c_534
                        refine lv_aload_n hx hb dX2_readArguments_199 rfl (lv_at hl 4 rfl) ?_
                        refine g_getk (C := RX2) (T := TX2) (N := 16) hx hb hts (mc_ inX2) hown hK g rfl 3 (by decide) rfl (hts _ (List.mem_cons_of_mem _ t_419)) (fun _ h9 => h9) 7 rfl dX2_readArguments_200 ?_
                        refine lv_aload_n hx hb dX2_readArguments_203 rfl (lv_at hl 4 rfl) ?_
                        refine g_geti (C := RX2) (T := TX2) (N := 16) hx hb hts (mc_ inX2) hown hK g ma0_ ka0_ (by decide) rfl 12 (by decide) rfl (hts _ (List.mem_cons_of_mem _ t_428)) (fun _ h9 => h9) rfl dX2_readArguments_204 (fun x_535 bx_535 g => ?_)
                        refine lv_aload_n hx hb dX2_readArguments_207 rfl (lv_at hl 4 rfl) ?_
                        refine g_geti (C := RX2) (T := TX2) (N := 16) hx hb hts (mc_ inX2) hown hK g ma0_ ka0_ (by decide) rfl 13 (by decide) rfl (hts _ (List.mem_cons_of_mem _ t_429)) (fun _ h9 => h9) rfl dX2_readArguments_208 (fun x_536 bx_536 g => ?_)
                        have go_ := g
                        refine g_callv (va_runV (As := [.int x_535, .int x_536]) (rest := []) ⟨hx, hb, hml, hown, hts⟩ (r_X7_emit l dC dI L kd tys fr_529 H.size g.2.2.2.1 q3_ mq3_ kq3_ x_535 x_536) (cwV 2 hts (gV_ t_1301 t_1204 t_1205 t_191 t_1206) rfl rfl rfl (by decide +kernel) ⟨(Nat.le_of_ble_eq_true rfl), (Nat.le_of_ble_eq_true rfl)⟩) (pre3V g hK mq3_ kq3_ (by decide) (q := (RX7, TX7, 19)) rfl) rfl rfl hl.1 rfl (lv_room (Nat.le_of_ble_eq_true rfl)) dX2_readArguments_211 ⟨(Nat.le_of_ble_eq_true rfl), (Nat.le_of_ble_eq_true rfl)⟩) g hK (by decide) (by decide) (fx' := [(2, 13, a0_, .int x_536), (2, 12, a0_, .int x_535), (8, 6, q0_, .int x_530), (8, 8, q0_, .int x_339), (0, 2, q2_, .ref q6_), (2, 14, a0_, .int x_13), (2, 0, a0_, .ref q0_), (2, 1, a0_, .ref q1_), (2, 2, a0_, .ref q2_), (2, 3, a0_, .ref q3_), (0, 0, q2_, .ref q0_), (0, 1, q2_, .ref q1_), (5, 0, q1_, .ref q6_), (5, 1, q1_, .ref q7_)]) rfl (fun fr_537 H locs hp hMr_537 g => ?_)
                        obtain ⟨x_538, h_539, hF_540⟩ := hp
                        have hG_541 := eOK.frame hMr_537 go_.2.2.2.1 mq2_ kq2_ (by decide) (by decide) hG_533
                        have g := g.more hF_540
                        refine lv_aload_n hx hb dX2_readArguments_214 rfl (lv_at hl 4 rfl) ?_
                        refine g_getk (C := RX2) (T := TX2) (N := 16) hx hb hts (mc_ inX2) hown hK g rfl 3 (by decide) rfl (hts _ (List.mem_cons_of_mem _ t_419)) (fun _ h9 => h9) 10 rfl dX2_readArguments_215 ?_
                        refine lv_bipush (v := 22) hx hb dX2_readArguments_218 (by decide) ?_
                        refine lv_iconst (v := 0) hx hb dX2_readArguments_220 (by decide) ?_
                        have go_ := g
                        refine g_callv (va_runV (As := [.int 22, .int 0]) (rest := []) ⟨hx, hb, hml, hown, hts⟩ (r_X7_emit l dC dI L kd tys fr_537 H.size g.2.2.2.1 q3_ mq3_ kq3_ 22 0) (cwV 2 hts (gV_ t_1301 t_1204 t_1205 t_191 t_1206) rfl rfl rfl (by decide +kernel) ⟨(Nat.le_of_ble_eq_true rfl), (Nat.le_of_ble_eq_true rfl)⟩) (pre3V g hK mq3_ kq3_ (by decide) (q := (RX7, TX7, 19)) rfl) rfl rfl hl.1 rfl (lv_room (Nat.le_of_ble_eq_true rfl)) dX2_readArguments_221 ⟨(Nat.le_of_ble_eq_true rfl), (Nat.le_of_ble_eq_true rfl)⟩) g hK (by decide) (by decide) (fx' := [(2, 13, a0_, .int x_536), (2, 12, a0_, .int x_535), (8, 6, q0_, .int x_530), (8, 8, q0_, .int x_339), (0, 2, q2_, .ref q6_), (2, 14, a0_, .int x_13), (2, 0, a0_, .ref q0_), (2, 1, a0_, .ref q1_), (2, 2, a0_, .ref q2_), (2, 3, a0_, .ref q3_), (0, 0, q2_, .ref q0_), (0, 1, q2_, .ref q1_), (5, 0, q1_, .ref q6_), (5, 1, q1_, .ref q7_)]) rfl (fun fr_542 H locs hp hMr_542 g => ?_)
                        obtain ⟨x_543, h_544, hF_545⟩ := hp
                        have hG_546 := eOK.frame hMr_542 go_.2.2.2.1 mq2_ kq2_ (by decide) (by decide) hG_541
                        have g := g.more hF_545
                        refine lv_aload_n hx hb dX2_readArguments_224 rfl (lv_at hl 4 rfl) ?_
                        refine g_getk (C := RX2) (T := TX2) (N := 16) hx hb hts (mc_ inX2) hown hK g rfl 0 (by decide) rfl (hts _ (List.mem_cons_of_mem _ t_416)) (fun _ h9 => h9) 7 rfl dX2_readArguments_225 ?_
                        refine lv_bipush (v := 59) hx hb dX2_readArguments_228 (by decide) ?_
                        have go_ := g
                        refine g_callv (va_runV (As := [.int 59]) (rest := []) ⟨hx, hb, hml, hown, hts⟩ (r_X8_take_2 l dC dI L kd tys fr_542 H.size g.2.2.2.1 q0_ mq0_ kq0_ 59 x_530 h_531 x_339 h_340 (g.fcts [3, 4] rfl)) (cwV 1 hts (gV_ t_1098 t_1099 t_1100 t_184 t_1101) rfl rfl rfl (by decide +kernel) ⟨(Nat.le_of_ble_eq_true rfl), (Nat.le_of_ble_eq_true rfl)⟩) (pre3V g hK mq0_ kq0_ (by decide) (q := (RX8, TX8, 10)) rfl) rfl rfl hl.1 rfl (lv_room (Nat.le_of_ble_eq_true rfl)) dX2_readArguments_230 ⟨(Nat.le_of_ble_eq_true rfl), (Nat.le_of_ble_eq_true rfl)⟩) g hK (by decide) (by decide) (fx' := [(7, 6, q3_, .int x_543), (2, 13, a0_, .int x_536), (2, 12, a0_, .int x_535), (8, 8, q0_, .int x_339), (0, 2, q2_, .ref q6_), (2, 14, a0_, .int x_13), (2, 0, a0_, .ref q0_), (2, 1, a0_, .ref q1_), (2, 2, a0_, .ref q2_), (2, 3, a0_, .ref q3_), (0, 0, q2_, .ref q0_), (0, 1, q2_, .ref q1_), (5, 0, q1_, .ref q6_), (5, 1, q1_, .ref q7_)]) rfl (fun fr_547 H locs hp hMr_547 g => ?_)
                        obtain ⟨x_548, h_549, hF_550⟩ := hp
                        have hG_551 := eOK.frame hMr_547 go_.2.2.2.1 mq2_ kq2_ (by decide) (by decide) hG_546
                        have g := g.more hF_550
                        subst hQ
                        exact W.vret hx hb hr (fun t ht hW => ⟨⟨_, rfl, Or.inr (⟨hG_551, x_548, h_549, x_339, h_340, x_543, h_544, (g.fcts [0, 4, 1] rfl)⟩), q3_of g hK ht hW⟩, g.2.2.1.F ht⟩) g.2.2.1.2.2 dX2_readArguments_233
                      · have fc_534 := nle_f c_534
                        have b_552 : bd (-2147483648) 2147483646 y_469 := ltL fc_534 (bdT y_469) (bdT x_13) (by decide)
                        have b_553 : bd (-2147483647) 2147483647 x_13 := ltR fc_534 (bdT y_469) (bdT x_13) (by decide)
                        refine lv_aload_n hx hb dX2_readArguments_188 rfl (lv_at hl 4 rfl) ?_
                        refine g_getk (C := RX2) (T := TX2) (N := 16) hx hb hts (mc_ inX2) hown hK g rfl 0 (by decide) rfl (hts _ (List.mem_cons_of_mem _ t_416)) (fun _ h9 => h9) 4 rfl dX2_readArguments_189 ?_
                        refine lv_bipush (v := 6) hx hb dX2_readArguments_192 (by decide) ?_
                        refine lv_iload hx hb dX2_readArguments_194 (lv_at hl 0 rfl) ?_
                        have kb_6 : bd 6 6 (6 : Int32) := ⟨by decide, by decide⟩
                        have go_ := g
                        refine g_callv (va_runV (As := [.int 6, .int r_527]) (rest := []) ⟨hx, hb, hml, hown, hts⟩ (r_X8_fail_2 l dC dI L kd tys fr_529 H.size g.2.2.2.1 q0_ mq0_ kq0_ 6 (bd_sub kb_6 (by decide)) r_527 x_339 h_340 (g.fcts [1] rfl)) (cwV 2 hts (gV_ t_1122 t_1107 t_1108 t_184 t_1109) rfl rfl rfl (by decide +kernel) ⟨(Nat.le_of_ble_eq_true rfl), (Nat.le_of_ble_eq_true rfl)⟩) (pre3V g hK mq0_ kq0_ (by decide) (q := (RX8, TX8, 10)) rfl) rfl rfl hl.1 rfl (lv_room (Nat.le_of_ble_eq_true rfl)) dX2_readArguments_196 ⟨(Nat.le_of_ble_eq_true rfl), (Nat.le_of_ble_eq_true rfl)⟩) g hK (by decide) (by decide) (fx' := [(8, 8, q0_, .int x_339), (0, 2, q2_, .ref q6_), (2, 14, a0_, .int x_13), (2, 0, a0_, .ref q0_), (2, 1, a0_, .ref q1_), (2, 2, a0_, .ref q2_), (2, 3, a0_, .ref q3_), (0, 0, q2_, .ref q0_), (0, 1, q2_, .ref q1_), (5, 0, q1_, .ref q6_), (5, 1, q1_, .ref q7_)]) rfl (fun fr_554 H locs hp hMr_554 g => ?_)
                        have hF_555 := hp
                        have hG_556 := eOK.frame hMr_554 go_.2.2.2.1 mq2_ kq2_ (by decide) (by decide) hG_533
                        have g := g.more hF_555
                        refine lv_aload_n hx hb dX2_readArguments_199 rfl (lv_at hl 4 rfl) ?_
                        refine g_getk (C := RX2) (T := TX2) (N := 16) hx hb hts (mc_ inX2) hown hK g rfl 3 (by decide) rfl (hts _ (List.mem_cons_of_mem _ t_419)) (fun _ h9 => h9) 7 rfl dX2_readArguments_200 ?_
                        refine lv_aload_n hx hb dX2_readArguments_203 rfl (lv_at hl 4 rfl) ?_
                        refine g_geti (C := RX2) (T := TX2) (N := 16) hx hb hts (mc_ inX2) hown hK g ma0_ ka0_ (by decide) rfl 12 (by decide) rfl (hts _ (List.mem_cons_of_mem _ t_428)) (fun _ h9 => h9) rfl dX2_readArguments_204 (fun x_557 bx_557 g => ?_)
                        refine lv_aload_n hx hb dX2_readArguments_207 rfl (lv_at hl 4 rfl) ?_
                        refine g_geti (C := RX2) (T := TX2) (N := 16) hx hb hts (mc_ inX2) hown hK g ma0_ ka0_ (by decide) rfl 13 (by decide) rfl (hts _ (List.mem_cons_of_mem _ t_429)) (fun _ h9 => h9) rfl dX2_readArguments_208 (fun x_558 bx_558 g => ?_)
                        have go_ := g
                        refine g_callv (va_runV (As := [.int x_557, .int x_558]) (rest := []) ⟨hx, hb, hml, hown, hts⟩ (r_X7_emit l dC dI L kd tys fr_554 H.size g.2.2.2.1 q3_ mq3_ kq3_ x_557 x_558) (cwV 2 hts (gV_ t_1301 t_1204 t_1205 t_191 t_1206) rfl rfl rfl (by decide +kernel) ⟨(Nat.le_of_ble_eq_true rfl), (Nat.le_of_ble_eq_true rfl)⟩) (pre3V g hK mq3_ kq3_ (by decide) (q := (RX7, TX7, 19)) rfl) rfl rfl hl.1 rfl (lv_room (Nat.le_of_ble_eq_true rfl)) dX2_readArguments_211 ⟨(Nat.le_of_ble_eq_true rfl), (Nat.le_of_ble_eq_true rfl)⟩) g hK (by decide) (by decide) (fx' := [(2, 13, a0_, .int x_558), (2, 12, a0_, .int x_557), (8, 6, q0_, .int 1201), (8, 8, q0_, .int x_339), (0, 2, q2_, .ref q6_), (2, 14, a0_, .int x_13), (2, 0, a0_, .ref q0_), (2, 1, a0_, .ref q1_), (2, 2, a0_, .ref q2_), (2, 3, a0_, .ref q3_), (0, 0, q2_, .ref q0_), (0, 1, q2_, .ref q1_), (5, 0, q1_, .ref q6_), (5, 1, q1_, .ref q7_)]) rfl (fun fr_559 H locs hp hMr_559 g => ?_)
                        obtain ⟨x_560, h_561, hF_562⟩ := hp
                        have hG_563 := eOK.frame hMr_559 go_.2.2.2.1 mq2_ kq2_ (by decide) (by decide) hG_556
                        have g := g.more hF_562
                        refine lv_aload_n hx hb dX2_readArguments_214 rfl (lv_at hl 4 rfl) ?_
                        refine g_getk (C := RX2) (T := TX2) (N := 16) hx hb hts (mc_ inX2) hown hK g rfl 3 (by decide) rfl (hts _ (List.mem_cons_of_mem _ t_419)) (fun _ h9 => h9) 10 rfl dX2_readArguments_215 ?_
                        refine lv_bipush (v := 22) hx hb dX2_readArguments_218 (by decide) ?_
                        refine lv_iconst (v := 0) hx hb dX2_readArguments_220 (by decide) ?_
                        have go_ := g
                        refine g_callv (va_runV (As := [.int 22, .int 0]) (rest := []) ⟨hx, hb, hml, hown, hts⟩ (r_X7_emit l dC dI L kd tys fr_559 H.size g.2.2.2.1 q3_ mq3_ kq3_ 22 0) (cwV 2 hts (gV_ t_1301 t_1204 t_1205 t_191 t_1206) rfl rfl rfl (by decide +kernel) ⟨(Nat.le_of_ble_eq_true rfl), (Nat.le_of_ble_eq_true rfl)⟩) (pre3V g hK mq3_ kq3_ (by decide) (q := (RX7, TX7, 19)) rfl) rfl rfl hl.1 rfl (lv_room (Nat.le_of_ble_eq_true rfl)) dX2_readArguments_221 ⟨(Nat.le_of_ble_eq_true rfl), (Nat.le_of_ble_eq_true rfl)⟩) g hK (by decide) (by decide) (fx' := [(2, 13, a0_, .int x_558), (2, 12, a0_, .int x_557), (8, 6, q0_, .int 1201), (8, 8, q0_, .int x_339), (0, 2, q2_, .ref q6_), (2, 14, a0_, .int x_13), (2, 0, a0_, .ref q0_), (2, 1, a0_, .ref q1_), (2, 2, a0_, .ref q2_), (2, 3, a0_, .ref q3_), (0, 0, q2_, .ref q0_), (0, 1, q2_, .ref q1_), (5, 0, q1_, .ref q6_), (5, 1, q1_, .ref q7_)]) rfl (fun fr_564 H locs hp hMr_564 g => ?_)
                        obtain ⟨x_565, h_566, hF_567⟩ := hp
                        have hG_568 := eOK.frame hMr_564 go_.2.2.2.1 mq2_ kq2_ (by decide) (by decide) hG_563
                        have g := g.more hF_567
                        refine lv_aload_n hx hb dX2_readArguments_224 rfl (lv_at hl 4 rfl) ?_
                        refine g_getk (C := RX2) (T := TX2) (N := 16) hx hb hts (mc_ inX2) hown hK g rfl 0 (by decide) rfl (hts _ (List.mem_cons_of_mem _ t_416)) (fun _ h9 => h9) 7 rfl dX2_readArguments_225 ?_
                        refine lv_bipush (v := 59) hx hb dX2_readArguments_228 (by decide) ?_
                        have kb_1201 : bd 1201 1201 (1201 : Int32) := ⟨by decide, by decide⟩
                        have go_ := g
                        refine g_callv (va_runV (As := [.int 59]) (rest := []) ⟨hx, hb, hml, hown, hts⟩ (r_X8_take_2 l dC dI L kd tys fr_564 H.size g.2.2.2.1 q0_ mq0_ kq0_ 59 1201 kb_1201 x_339 h_340 (g.fcts [3, 4] rfl)) (cwV 1 hts (gV_ t_1098 t_1099 t_1100 t_184 t_1101) rfl rfl rfl (by decide +kernel) ⟨(Nat.le_of_ble_eq_true rfl), (Nat.le_of_ble_eq_true rfl)⟩) (pre3V g hK mq0_ kq0_ (by decide) (q := (RX8, TX8, 10)) rfl) rfl rfl hl.1 rfl (lv_room (Nat.le_of_ble_eq_true rfl)) dX2_readArguments_230 ⟨(Nat.le_of_ble_eq_true rfl), (Nat.le_of_ble_eq_true rfl)⟩) g hK (by decide) (by decide) (fx' := [(7, 6, q3_, .int x_565), (2, 13, a0_, .int x_558), (2, 12, a0_, .int x_557), (8, 8, q0_, .int x_339), (0, 2, q2_, .ref q6_), (2, 14, a0_, .int x_13), (2, 0, a0_, .ref q0_), (2, 1, a0_, .ref q1_), (2, 2, a0_, .ref q2_), (2, 3, a0_, .ref q3_), (0, 0, q2_, .ref q0_), (0, 1, q2_, .ref q1_), (5, 0, q1_, .ref q6_), (5, 1, q1_, .ref q7_)]) rfl (fun fr_569 H locs hp hMr_569 g => ?_)
                        obtain ⟨x_570, h_571, hF_572⟩ := hp
                        have hG_573 := eOK.frame hMr_569 go_.2.2.2.1 mq2_ kq2_ (by decide) (by decide) hG_568
                        have g := g.more hF_572
                        subst hQ
                        exact W.vret hx hb hr (fun t ht hW => ⟨⟨_, rfl, Or.inr (⟨hG_573, x_570, h_571, x_339, h_340, x_565, h_566, (g.fcts [0, 4, 1] rfl)⟩), q3_of g hK ht hW⟩, g.2.2.1.F ht⟩) g.2.2.1.2.2 dX2_readArguments_233
        have kb_1 : bd 1 1 (1 : Int32) := ⟨by decide, by decide⟩
        have hl9 := lv_sub hl [0, 1, 2, 3, 4] (by rfl : lv_pick [(4, .int 0), (3, .int 1), (2, .int 0), (1, .int r_1), (0, .ref a0_)] [0, 1, 2, 3, 4] = [(4, .int 0), (3, .int 1), (2, .int 0), (1, .int r_1), (0, .ref a0_)])
        have g9 := g.sub (fx' := [(2, 14, a0_, .int x_13), (8, 8, q0_, .int x_6), (2, 0, a0_, .ref q0_), (2, 1, a0_, .ref q1_), (2, 2, a0_, .ref q2_), (2, 3, a0_, .ref q3_), (0, 0, q2_, .ref q0_), (0, 1, q2_, .ref q1_), (5, 0, q1_, .ref q6_), (5, 1, q1_, .ref q7_)]) [0, 2, 3, 4, 5, 6, 7, 8, 9, 10] rfl
        exact loop_120 (11) 0 1 0 x_6 (bd_sub kb_0 (by decide)) (bd_sub kb_1 (by decide)) h_7 (by have h9_0 := h_5; unfold bd at h9_0; have h9_1 := h_7; unfold bd at h9_1; have h9_2 := kb_0; unfold bd at h9_2; have h9_3 := kb_1; unfold bd at h9_3; have h9_4 := kb_41; unfold bd at h9_4; omega) _ _ _ _ g9 hG_16 hl9
    · have fc_14 := eq_f c_14
      have b_574 : bd 0 0 x_13 := eqX fc_14 (bdT x_13) kb_0 (by decide)
      refine lv_aload_n hx hb dX2_readArguments_24 rfl (lv_at hl 1 rfl) ?_
      refine g_getk (C := RX2) (T := TX2) (N := 16) hx hb hts (mc_ inX2) hown hK g rfl 0 (by decide) rfl (hts _ (List.mem_cons_of_mem _ t_416)) (fun _ h9 => h9) 3 rfl dX2_readArguments_25 ?_
      have go_ := g
      refine g_calli (va_runV (As := []) (rest := []) ⟨hx, hb, hml, hown, hts⟩ (r_X8_kind l dC dI L kd tys fr_3 H.size g.2.2.2.1 q0_ mq0_ kq0_) (cwV 0 hts (gV_ t_1118 t_1119 t_1120 t_184 t_1121) rfl rfl rfl (by decide +kernel) ⟨(Nat.le_of_ble_eq_true rfl), (Nat.le_of_ble_eq_true rfl)⟩) (pre3V g hK mq0_ kq0_ (by decide) (q := (RX8, TX8, 10)) rfl) rfl rfl hl.1 rfl (lv_room (Nat.le_of_ble_eq_true rfl)) dX2_readArguments_28 ⟨(Nat.le_of_ble_eq_true rfl), (Nat.le_of_ble_eq_true rfl)⟩) g hK (by decide) (by decide) (fx' := [(2, 14, a0_, .int x_13), (8, 6, q0_, .int x_4), (8, 8, q0_, .int x_6), (2, 0, a0_, .ref q0_), (2, 1, a0_, .ref q1_), (2, 2, a0_, .ref q2_), (2, 3, a0_, .ref q3_), (0, 0, q2_, .ref q0_), (0, 1, q2_, .ref q1_), (5, 0, q1_, .ref q6_), (5, 1, q1_, .ref q7_)]) rfl (fun r_575 fr_575 H locs hp hMr_575 g => ?_)
      have hG_576 := eOK.frame hMr_575 go_.2.2.2.1 mq2_ kq2_ (by decide) (by decide) hG_12
      refine lv_bipush (v := 41) hx hb dX2_readArguments_31 (by decide) ?_
      have kb_41 : bd 41 41 (41 : Int32) := ⟨by decide, by decide⟩
      refine lv_icmp_eq (tgt := 46) hx hb dX2_readArguments_33 (by decide) (fun c_577 => ?_) (fun c_577 => ?_)
      · have fc_577 := eq_f c_577
        have b_578 : bd 41 41 r_575 := eqX fc_577 (bdT r_575) kb_41 (by decide)
        refine lv_iconst (v := 0) hx hb dX2_readArguments_46 (by decide) ?_
        refine lv_istore_n (lv' := [(2, .int 0), (1, .int r_1), (0, .ref a0_)]) hx hb dX2_readArguments_47 rfl hl (by decide) rfl (fun ls hl => ?_)
        refine lv_aload_n hx hb dX2_readArguments_48 rfl (lv_at hl 2 rfl) ?_
        refine g_getk (C := RX2) (T := TX2) (N := 16) hx hb hts (mc_ inX2) hown hK g rfl 0 (by decide) rfl (hts _ (List.mem_cons_of_mem _ t_416)) (fun _ h9 => h9) 3 rfl dX2_readArguments_49 ?_
        have go_ := g
        refine g_calli (va_runV (As := []) (rest := []) ⟨hx, hb, hml, hown, hts⟩ (r_X8_kind l dC dI L kd tys fr_575 H.size g.2.2.2.1 q0_ mq0_ kq0_) (cwV 0 hts (gV_ t_1118 t_1119 t_1120 t_184 t_1121) rfl rfl rfl (by decide +kernel) ⟨(Nat.le_of_ble_eq_true rfl), (Nat.le_of_ble_eq_true rfl)⟩) (pre3V g hK mq0_ kq0_ (by decide) (q := (RX8, TX8, 10)) rfl) rfl rfl hl.1 rfl (lv_room (Nat.le_of_ble_eq_true rfl)) dX2_readArguments_52 ⟨(Nat.le_of_ble_eq_true rfl), (Nat.le_of_ble_eq_true rfl)⟩) g hK (by decide) (by decide) (fx' := [(2, 14, a0_, .int x_13), (8, 6, q0_, .int x_4), (8, 8, q0_, .int x_6), (2, 0, a0_, .ref q0_), (2, 1, a0_, .ref q1_), (2, 2, a0_, .ref q2_), (2, 3, a0_, .ref q3_), (0, 0, q2_, .ref q0_), (0, 1, q2_, .ref q1_), (5, 0, q1_, .ref q6_), (5, 1, q1_, .ref q7_)]) rfl (fun r_579 fr_579 H locs hp hMr_579 g => ?_)
        have hG_580 := eOK.frame hMr_579 go_.2.2.2.1 mq2_ kq2_ (by decide) (by decide) hG_576
        refine lv_bipush (v := 41) hx hb dX2_readArguments_55 (by decide) ?_
        refine lv_icmp_eq (tgt := 64) hx hb dX2_readArguments_57 (by decide) (fun c_581 => ?_) (fun c_581 => ?_)
        · have fc_581 := eq_f c_581
          have b_582 : bd 41 41 r_579 := eqX fc_581 (bdT r_579) kb_41 (by decide)
          refine lv_iconst (v := 0) hx hb dX2_readArguments_64 (by decide) ?_
          refine lv_istore_n (lv' := [(3, .int 0), (2, .int 0), (1, .int r_1), (0, .ref a0_)]) hx hb dX2_readArguments_65 rfl hl (by decide) rfl (fun ls hl => ?_)
          refine lv_iconst (v := 0) hx hb dX2_readArguments_66 (by decide) ?_
          refine lv_istore (lv' := [(4, .int 0), (3, .int 0), (2, .int 0), (1, .int r_1), (0, .ref a0_)]) hx hb dX2_readArguments_67 hl (by decide) rfl (fun ls hl => ?_)
          refine lv_iload hx hb dX2_readArguments_69 (lv_at hl 0 rfl) ?_
          refine lv_iconst (v := 3) hx hb dX2_readArguments_71 (by decide) ?_
          refine lv_icmp_gt (tgt := 162) hx hb dX2_readArguments_72 (by decide) (fun c_ => absurd c_ (by decide)) (fun c_ => ?_)
          refine lv_iload_n hx hb dX2_readArguments_75 rfl (lv_at hl 1 rfl) ?_
          refine lv_if_eq (tgt := 162) hx hb dX2_readArguments_76 (by decide) (fun c_ => ?_) (fun c_ => absurd (by decide) c_)
          refine lv_aload_n hx hb dX2_readArguments_162 rfl (lv_at hl 4 rfl) ?_
          refine g_getk (C := RX2) (T := TX2) (N := 16) hx hb hts (mc_ inX2) hown hK g rfl 0 (by decide) rfl (hts _ (List.mem_cons_of_mem _ t_416)) (fun _ h9 => h9) 3 rfl dX2_readArguments_163 ?_
          have go_ := g
          refine g_calli (va_runV (As := []) (rest := []) ⟨hx, hb, hml, hown, hts⟩ (r_X8_place l dC dI L kd tys fr_579 H.size g.2.2.2.1 q0_ mq0_ kq0_) (cwV 0 hts (gV_ t_1110 t_1111 t_1112 t_184 t_1113) rfl rfl rfl (by decide +kernel) ⟨(Nat.le_of_ble_eq_true rfl), (Nat.le_of_ble_eq_true rfl)⟩) (pre3V g hK mq0_ kq0_ (by decide) (q := (RX8, TX8, 10)) rfl) rfl rfl hl.1 rfl (lv_room (Nat.le_of_ble_eq_true rfl)) dX2_readArguments_166 ⟨(Nat.le_of_ble_eq_true rfl), (Nat.le_of_ble_eq_true rfl)⟩) g hK (by decide) (by decide) (fx' := [(2, 14, a0_, .int x_13), (8, 6, q0_, .int x_4), (8, 8, q0_, .int x_6), (2, 0, a0_, .ref q0_), (2, 1, a0_, .ref q1_), (2, 2, a0_, .ref q2_), (2, 3, a0_, .ref q3_), (0, 0, q2_, .ref q0_), (0, 1, q2_, .ref q1_), (5, 0, q1_, .ref q6_), (5, 1, q1_, .ref q7_)]) rfl (fun r_583 fr_583 H locs hp hMr_583 g => ?_)
          have hG_584 := eOK.frame hMr_583 go_.2.2.2.1 mq2_ kq2_ (by decide) (by decide) hG_580
          refine lv_istore (lv' := [(4, .int r_583), (3, .int 0), (2, .int 0), (1, .int r_1), (0, .ref a0_)]) hx hb dX2_readArguments_169 hl (by decide) rfl (fun ls hl => ?_)
          refine lv_aload_n hx hb dX2_readArguments_171 rfl (lv_at hl 4 rfl) ?_
          refine g_getk (C := RX2) (T := TX2) (N := 16) hx hb hts (mc_ inX2) hown hK g rfl 0 (by decide) rfl (hts _ (List.mem_cons_of_mem _ t_416)) (fun _ h9 => h9) 3 rfl dX2_readArguments_172 ?_
          refine lv_bipush (v := 41) hx hb dX2_readArguments_175 (by decide) ?_
          have go_ := g
          refine g_callv (va_runV (As := [.int 41]) (rest := []) ⟨hx, hb, hml, hown, hts⟩ (r_X8_take l dC dI L kd tys fr_583 H.size g.2.2.2.1 q0_ mq0_ kq0_ 41 x_6 h_7 (g.fcts [2] rfl)) (cwV 1 hts (gV_ t_1098 t_1099 t_1100 t_184 t_1101) rfl rfl rfl (by decide +kernel) ⟨(Nat.le_of_ble_eq_true rfl), (Nat.le_of_ble_eq_true rfl)⟩) (pre3V g hK mq0_ kq0_ (by decide) (q := (RX8, TX8, 10)) rfl) rfl rfl hl.1 rfl (lv_room (Nat.le_of_ble_eq_true rfl)) dX2_readArguments_177 ⟨(Nat.le_of_ble_eq_true rfl), (Nat.le_of_ble_eq_true rfl)⟩) g hK (by decide) (by decide) (fx' := [(2, 14, a0_, .int x_13), (2, 0, a0_, .ref q0_), (2, 1, a0_, .ref q1_), (2, 2, a0_, .ref q2_), (2, 3, a0_, .ref q3_), (0, 0, q2_, .ref q0_), (0, 1, q2_, .ref q1_), (5, 0, q1_, .ref q6_), (5, 1, q1_, .ref q7_)]) rfl (fun fr_585 H locs hp hMr_585 g => ?_)
          rcases hp with ⟨x_586, h_587, x_588, h_589, hF_590⟩ | ⟨x_591, h_592, hF_593⟩
          · have hG_594 := eOK.frame hMr_585 go_.2.2.2.1 mq2_ kq2_ (by decide) (by decide) hG_584
            have g := g.more hF_590
            refine lv_iload_n hx hb dX2_readArguments_180 rfl (lv_at hl 2 rfl) ?_
            refine lv_aload_n hx hb dX2_readArguments_181 rfl (lv_at hl 4 rfl) ?_
            refine g_getk (C := RX2) (T := TX2) (N := 16) hx hb hts (mc_ inX2) hown hK g rfl 14 (by decide) rfl (hts _ (List.mem_cons_of_mem _ t_430)) (fun _ h9 => h9) 2 rfl dX2_readArguments_182 ?_
            refine lv_icmp_ge (tgt := 199) hx hb dX2_readArguments_185 (by decide) (fun c_595 => ?_) (fun c_595 => ?_)
            · have fc_595 := le_f c_595
              refine lv_aload_n hx hb dX2_readArguments_199 rfl (lv_at hl 4 rfl) ?_
              refine g_getk (C := RX2) (T := TX2) (N := 16) hx hb hts (mc_ inX2) hown hK g rfl 3 (by decide) rfl (hts _ (List.mem_cons_of_mem _ t_419)) (fun _ h9 => h9) 6 rfl dX2_readArguments_200 ?_
              refine lv_aload_n hx hb dX2_readArguments_203 rfl (lv_at hl 4 rfl) ?_
              refine g_geti (C := RX2) (T := TX2) (N := 16) hx hb hts (mc_ inX2) hown hK g ma0_ ka0_ (by decide) rfl 12 (by decide) rfl (hts _ (List.mem_cons_of_mem _ t_428)) (fun _ h9 => h9) rfl dX2_readArguments_204 (fun x_596 bx_596 g => ?_)
              refine lv_aload_n hx hb dX2_readArguments_207 rfl (lv_at hl 4 rfl) ?_
              refine g_geti (C := RX2) (T := TX2) (N := 16) hx hb hts (mc_ inX2) hown hK g ma0_ ka0_ (by decide) rfl 13 (by decide) rfl (hts _ (List.mem_cons_of_mem _ t_429)) (fun _ h9 => h9) rfl dX2_readArguments_208 (fun x_597 bx_597 g => ?_)
              have go_ := g
              refine g_callv (va_runV (As := [.int x_596, .int x_597]) (rest := []) ⟨hx, hb, hml, hown, hts⟩ (r_X7_emit l dC dI L kd tys fr_585 H.size g.2.2.2.1 q3_ mq3_ kq3_ x_596 x_597) (cwV 2 hts (gV_ t_1301 t_1204 t_1205 t_191 t_1206) rfl rfl rfl (by decide +kernel) ⟨(Nat.le_of_ble_eq_true rfl), (Nat.le_of_ble_eq_true rfl)⟩) (pre3V g hK mq3_ kq3_ (by decide) (q := (RX7, TX7, 19)) rfl) rfl rfl hl.1 rfl (lv_room (Nat.le_of_ble_eq_true rfl)) dX2_readArguments_211 ⟨(Nat.le_of_ble_eq_true rfl), (Nat.le_of_ble_eq_true rfl)⟩) g hK (by decide) (by decide) (fx' := [(2, 13, a0_, .int x_597), (2, 12, a0_, .int x_596), (8, 6, q0_, .int x_586), (8, 8, q0_, .int x_588), (2, 14, a0_, .int x_13), (2, 0, a0_, .ref q0_), (2, 1, a0_, .ref q1_), (2, 2, a0_, .ref q2_), (2, 3, a0_, .ref q3_), (0, 0, q2_, .ref q0_), (0, 1, q2_, .ref q1_), (5, 0, q1_, .ref q6_), (5, 1, q1_, .ref q7_)]) rfl (fun fr_598 H locs hp hMr_598 g => ?_)
              obtain ⟨x_599, h_600, hF_601⟩ := hp
              have hG_602 := eOK.frame hMr_598 go_.2.2.2.1 mq2_ kq2_ (by decide) (by decide) hG_594
              have g := g.more hF_601
              refine lv_aload_n hx hb dX2_readArguments_214 rfl (lv_at hl 4 rfl) ?_
              refine g_getk (C := RX2) (T := TX2) (N := 16) hx hb hts (mc_ inX2) hown hK g rfl 3 (by decide) rfl (hts _ (List.mem_cons_of_mem _ t_419)) (fun _ h9 => h9) 9 rfl dX2_readArguments_215 ?_
              refine lv_bipush (v := 22) hx hb dX2_readArguments_218 (by decide) ?_
              refine lv_iconst (v := 0) hx hb dX2_readArguments_220 (by decide) ?_
              have go_ := g
              refine g_callv (va_runV (As := [.int 22, .int 0]) (rest := []) ⟨hx, hb, hml, hown, hts⟩ (r_X7_emit l dC dI L kd tys fr_598 H.size g.2.2.2.1 q3_ mq3_ kq3_ 22 0) (cwV 2 hts (gV_ t_1301 t_1204 t_1205 t_191 t_1206) rfl rfl rfl (by decide +kernel) ⟨(Nat.le_of_ble_eq_true rfl), (Nat.le_of_ble_eq_true rfl)⟩) (pre3V g hK mq3_ kq3_ (by decide) (q := (RX7, TX7, 19)) rfl) rfl rfl hl.1 rfl (lv_room (Nat.le_of_ble_eq_true rfl)) dX2_readArguments_221 ⟨(Nat.le_of_ble_eq_true rfl), (Nat.le_of_ble_eq_true rfl)⟩) g hK (by decide) (by decide) (fx' := [(2, 13, a0_, .int x_597), (2, 12, a0_, .int x_596), (8, 6, q0_, .int x_586), (8, 8, q0_, .int x_588), (2, 14, a0_, .int x_13), (2, 0, a0_, .ref q0_), (2, 1, a0_, .ref q1_), (2, 2, a0_, .ref q2_), (2, 3, a0_, .ref q3_), (0, 0, q2_, .ref q0_), (0, 1, q2_, .ref q1_), (5, 0, q1_, .ref q6_), (5, 1, q1_, .ref q7_)]) rfl (fun fr_603 H locs hp hMr_603 g => ?_)
              obtain ⟨x_604, h_605, hF_606⟩ := hp
              have hG_607 := eOK.frame hMr_603 go_.2.2.2.1 mq2_ kq2_ (by decide) (by decide) hG_602
              have g := g.more hF_606
              refine lv_aload_n hx hb dX2_readArguments_224 rfl (lv_at hl 4 rfl) ?_
              refine g_getk (C := RX2) (T := TX2) (N := 16) hx hb hts (mc_ inX2) hown hK g rfl 0 (by decide) rfl (hts _ (List.mem_cons_of_mem _ t_416)) (fun _ h9 => h9) 6 rfl dX2_readArguments_225 ?_
              refine lv_bipush (v := 59) hx hb dX2_readArguments_228 (by decide) ?_
              have go_ := g
              refine g_callv (va_runV (As := [.int 59]) (rest := []) ⟨hx, hb, hml, hown, hts⟩ (r_X8_take l dC dI L kd tys fr_603 H.size g.2.2.2.1 q0_ mq0_ kq0_ 59 x_588 h_589 (g.fcts [4] rfl)) (cwV 1 hts (gV_ t_1098 t_1099 t_1100 t_184 t_1101) rfl rfl rfl (by decide +kernel) ⟨(Nat.le_of_ble_eq_true rfl), (Nat.le_of_ble_eq_true rfl)⟩) (pre3V g hK mq0_ kq0_ (by decide) (q := (RX8, TX8, 10)) rfl) rfl rfl hl.1 rfl (lv_room (Nat.le_of_ble_eq_true rfl)) dX2_readArguments_230 ⟨(Nat.le_of_ble_eq_true rfl), (Nat.le_of_ble_eq_true rfl)⟩) g hK (by decide) (by decide) (fx' := [(7, 6, q3_, .int x_604), (2, 13, a0_, .int x_597), (2, 12, a0_, .int x_596), (2, 14, a0_, .int x_13), (2, 0, a0_, .ref q0_), (2, 1, a0_, .ref q1_), (2, 2, a0_, .ref q2_), (2, 3, a0_, .ref q3_), (0, 0, q2_, .ref q0_), (0, 1, q2_, .ref q1_), (5, 0, q1_, .ref q6_), (5, 1, q1_, .ref q7_)]) rfl (fun fr_608 H locs hp hMr_608 g => ?_)
              rcases hp with ⟨x_609, h_610, x_611, h_612, hF_613⟩ | ⟨x_614, h_615, hF_616⟩
              · have hG_617 := eOK.frame hMr_608 go_.2.2.2.1 mq2_ kq2_ (by decide) (by decide) hG_607
                have g := g.more hF_613
                subst hQ
                exact W.vret hx hb hr (fun t ht hW => ⟨⟨_, rfl, Or.inl ⟨hG_617, x_609, h_610, x_611, h_612, x_604, h_605, (g.fcts [0, 1, 2] rfl)⟩, q3_of g hK ht hW⟩, g.2.2.1.F ht⟩) g.2.2.1.2.2 dX2_readArguments_233
              · have hG_618 := eOK.frame hMr_608 go_.2.2.2.1 mq2_ kq2_ (by decide) (by decide) hG_607
                have g := g.more hF_616
                have kb_1201 : bd 1201 1201 (1201 : Int32) := ⟨by decide, by decide⟩
                subst hQ
                exact W.vret hx hb hr (fun t ht hW => ⟨⟨_, rfl, Or.inr (⟨hG_618, 1201, kb_1201, x_614, h_615, x_604, h_605, (g.fcts [0, 1, 2] rfl)⟩), q3_of g hK ht hW⟩, g.2.2.1.F ht⟩) g.2.2.1.2.2 dX2_readArguments_233
            · have fc_595 := nle_f c_595
              have b_619 : bd 0 (-1) (0 : Int32) := ltL fc_595 kb_0 b_574 (by decide)
              exact bd_no (eqX rfl b_619 kb_0 (lo := 0) (hi := (-1)) (by decide)) (by decide)
          · have hG_620 := eOK.frame hMr_585 go_.2.2.2.1 mq2_ kq2_ (by decide) (by decide) hG_584
            have g := g.more hF_593
            refine lv_iload_n hx hb dX2_readArguments_180 rfl (lv_at hl 2 rfl) ?_
            refine lv_aload_n hx hb dX2_readArguments_181 rfl (lv_at hl 4 rfl) ?_
            refine g_getk (C := RX2) (T := TX2) (N := 16) hx hb hts (mc_ inX2) hown hK g rfl 14 (by decide) rfl (hts _ (List.mem_cons_of_mem _ t_430)) (fun _ h9 => h9) 2 rfl dX2_readArguments_182 ?_
            refine lv_icmp_ge (tgt := 199) hx hb dX2_readArguments_185 (by decide) (fun c_621 => ?_) (fun c_621 => ?_)
            · have fc_621 := le_f c_621
              refine lv_aload_n hx hb dX2_readArguments_199 rfl (lv_at hl 4 rfl) ?_
              refine g_getk (C := RX2) (T := TX2) (N := 16) hx hb hts (mc_ inX2) hown hK g rfl 3 (by decide) rfl (hts _ (List.mem_cons_of_mem _ t_419)) (fun _ h9 => h9) 6 rfl dX2_readArguments_200 ?_
              refine lv_aload_n hx hb dX2_readArguments_203 rfl (lv_at hl 4 rfl) ?_
              refine g_geti (C := RX2) (T := TX2) (N := 16) hx hb hts (mc_ inX2) hown hK g ma0_ ka0_ (by decide) rfl 12 (by decide) rfl (hts _ (List.mem_cons_of_mem _ t_428)) (fun _ h9 => h9) rfl dX2_readArguments_204 (fun x_622 bx_622 g => ?_)
              refine lv_aload_n hx hb dX2_readArguments_207 rfl (lv_at hl 4 rfl) ?_
              refine g_geti (C := RX2) (T := TX2) (N := 16) hx hb hts (mc_ inX2) hown hK g ma0_ ka0_ (by decide) rfl 13 (by decide) rfl (hts _ (List.mem_cons_of_mem _ t_429)) (fun _ h9 => h9) rfl dX2_readArguments_208 (fun x_623 bx_623 g => ?_)
              have go_ := g
              refine g_callv (va_runV (As := [.int x_622, .int x_623]) (rest := []) ⟨hx, hb, hml, hown, hts⟩ (r_X7_emit l dC dI L kd tys fr_585 H.size g.2.2.2.1 q3_ mq3_ kq3_ x_622 x_623) (cwV 2 hts (gV_ t_1301 t_1204 t_1205 t_191 t_1206) rfl rfl rfl (by decide +kernel) ⟨(Nat.le_of_ble_eq_true rfl), (Nat.le_of_ble_eq_true rfl)⟩) (pre3V g hK mq3_ kq3_ (by decide) (q := (RX7, TX7, 19)) rfl) rfl rfl hl.1 rfl (lv_room (Nat.le_of_ble_eq_true rfl)) dX2_readArguments_211 ⟨(Nat.le_of_ble_eq_true rfl), (Nat.le_of_ble_eq_true rfl)⟩) g hK (by decide) (by decide) (fx' := [(2, 13, a0_, .int x_623), (2, 12, a0_, .int x_622), (8, 6, q0_, .int 1201), (8, 8, q0_, .int x_591), (2, 14, a0_, .int x_13), (2, 0, a0_, .ref q0_), (2, 1, a0_, .ref q1_), (2, 2, a0_, .ref q2_), (2, 3, a0_, .ref q3_), (0, 0, q2_, .ref q0_), (0, 1, q2_, .ref q1_), (5, 0, q1_, .ref q6_), (5, 1, q1_, .ref q7_)]) rfl (fun fr_624 H locs hp hMr_624 g => ?_)
              obtain ⟨x_625, h_626, hF_627⟩ := hp
              have hG_628 := eOK.frame hMr_624 go_.2.2.2.1 mq2_ kq2_ (by decide) (by decide) hG_620
              have g := g.more hF_627
              refine lv_aload_n hx hb dX2_readArguments_214 rfl (lv_at hl 4 rfl) ?_
              refine g_getk (C := RX2) (T := TX2) (N := 16) hx hb hts (mc_ inX2) hown hK g rfl 3 (by decide) rfl (hts _ (List.mem_cons_of_mem _ t_419)) (fun _ h9 => h9) 9 rfl dX2_readArguments_215 ?_
              refine lv_bipush (v := 22) hx hb dX2_readArguments_218 (by decide) ?_
              refine lv_iconst (v := 0) hx hb dX2_readArguments_220 (by decide) ?_
              have go_ := g
              refine g_callv (va_runV (As := [.int 22, .int 0]) (rest := []) ⟨hx, hb, hml, hown, hts⟩ (r_X7_emit l dC dI L kd tys fr_624 H.size g.2.2.2.1 q3_ mq3_ kq3_ 22 0) (cwV 2 hts (gV_ t_1301 t_1204 t_1205 t_191 t_1206) rfl rfl rfl (by decide +kernel) ⟨(Nat.le_of_ble_eq_true rfl), (Nat.le_of_ble_eq_true rfl)⟩) (pre3V g hK mq3_ kq3_ (by decide) (q := (RX7, TX7, 19)) rfl) rfl rfl hl.1 rfl (lv_room (Nat.le_of_ble_eq_true rfl)) dX2_readArguments_221 ⟨(Nat.le_of_ble_eq_true rfl), (Nat.le_of_ble_eq_true rfl)⟩) g hK (by decide) (by decide) (fx' := [(2, 13, a0_, .int x_623), (2, 12, a0_, .int x_622), (8, 6, q0_, .int 1201), (8, 8, q0_, .int x_591), (2, 14, a0_, .int x_13), (2, 0, a0_, .ref q0_), (2, 1, a0_, .ref q1_), (2, 2, a0_, .ref q2_), (2, 3, a0_, .ref q3_), (0, 0, q2_, .ref q0_), (0, 1, q2_, .ref q1_), (5, 0, q1_, .ref q6_), (5, 1, q1_, .ref q7_)]) rfl (fun fr_629 H locs hp hMr_629 g => ?_)
              obtain ⟨x_630, h_631, hF_632⟩ := hp
              have hG_633 := eOK.frame hMr_629 go_.2.2.2.1 mq2_ kq2_ (by decide) (by decide) hG_628
              have g := g.more hF_632
              refine lv_aload_n hx hb dX2_readArguments_224 rfl (lv_at hl 4 rfl) ?_
              refine g_getk (C := RX2) (T := TX2) (N := 16) hx hb hts (mc_ inX2) hown hK g rfl 0 (by decide) rfl (hts _ (List.mem_cons_of_mem _ t_416)) (fun _ h9 => h9) 6 rfl dX2_readArguments_225 ?_
              refine lv_bipush (v := 59) hx hb dX2_readArguments_228 (by decide) ?_
              have kb_1201 : bd 1201 1201 (1201 : Int32) := ⟨by decide, by decide⟩
              have go_ := g
              refine g_callv (va_runV (As := [.int 59]) (rest := []) ⟨hx, hb, hml, hown, hts⟩ (r_X8_take_2 l dC dI L kd tys fr_629 H.size g.2.2.2.1 q0_ mq0_ kq0_ 59 1201 kb_1201 x_591 h_592 (g.fcts [3, 4] rfl)) (cwV 1 hts (gV_ t_1098 t_1099 t_1100 t_184 t_1101) rfl rfl rfl (by decide +kernel) ⟨(Nat.le_of_ble_eq_true rfl), (Nat.le_of_ble_eq_true rfl)⟩) (pre3V g hK mq0_ kq0_ (by decide) (q := (RX8, TX8, 10)) rfl) rfl rfl hl.1 rfl (lv_room (Nat.le_of_ble_eq_true rfl)) dX2_readArguments_230 ⟨(Nat.le_of_ble_eq_true rfl), (Nat.le_of_ble_eq_true rfl)⟩) g hK (by decide) (by decide) (fx' := [(7, 6, q3_, .int x_630), (2, 13, a0_, .int x_623), (2, 12, a0_, .int x_622), (8, 8, q0_, .int x_591), (2, 14, a0_, .int x_13), (2, 0, a0_, .ref q0_), (2, 1, a0_, .ref q1_), (2, 2, a0_, .ref q2_), (2, 3, a0_, .ref q3_), (0, 0, q2_, .ref q0_), (0, 1, q2_, .ref q1_), (5, 0, q1_, .ref q6_), (5, 1, q1_, .ref q7_)]) rfl (fun fr_634 H locs hp hMr_634 g => ?_)
              obtain ⟨x_635, h_636, hF_637⟩ := hp
              have hG_638 := eOK.frame hMr_634 go_.2.2.2.1 mq2_ kq2_ (by decide) (by decide) hG_633
              have g := g.more hF_637
              subst hQ
              exact W.vret hx hb hr (fun t ht hW => ⟨⟨_, rfl, Or.inr (⟨hG_638, x_635, h_636, x_591, h_592, x_630, h_631, (g.fcts [0, 4, 1] rfl)⟩), q3_of g hK ht hW⟩, g.2.2.1.F ht⟩) g.2.2.1.2.2 dX2_readArguments_233
            · have fc_621 := nle_f c_621
              have b_639 : bd 0 (-1) (0 : Int32) := ltL fc_621 kb_0 b_574 (by decide)
              exact bd_no (eqX rfl b_639 kb_0 (lo := 0) (hi := (-1)) (by decide)) (by decide)
        · have fc_581 := neq_f c_581
          refine lv_iconst (v := 1) hx hb dX2_readArguments_60 (by decide) ?_
          refine lv_goto (tgt := 65) hx hb dX2_readArguments_61 (by decide) ?_
          refine lv_istore_n (lv' := [(3, .int 1), (2, .int 0), (1, .int r_1), (0, .ref a0_)]) hx hb dX2_readArguments_65 rfl hl (by decide) rfl (fun ls hl => ?_)
          refine lv_iconst (v := 0) hx hb dX2_readArguments_66 (by decide) ?_
          refine lv_istore (lv' := [(4, .int 0), (3, .int 1), (2, .int 0), (1, .int r_1), (0, .ref a0_)]) hx hb dX2_readArguments_67 hl (by decide) rfl (fun ls hl => ?_)
          have loop_640 : ∀ (n : Nat) (v69_4 : Int32) (v69_3 : Int32) (v69_2 : Int32) (w69_8_8_q0_ : Int32), bd 0 4 v69_4 → bd 0 1 v69_3 → bd 0 0 w69_8_8_q0_ → (4 - v69_4.toInt < (n : Int)) → ∀ (f : Nat → va_E) (H : Heap) (locs : List Loc) (ls : Array Slot), G3 (dC, dI) L kd tys s f0 [(0, 2), (0, 8), (0, 10), (0, 11), (0, 12), (0, 13), (7, 6), (7, 18), (8, 6), (8, 8), (8, 9)] [110, 111, 112, 113, 114, 115, 138, 139] f H locs [(2, 14, a0_, .int x_13), (8, 8, q0_, .int w69_8_8_q0_), (2, 0, a0_, .ref q0_), (2, 1, a0_, .ref q1_), (2, 2, a0_, .ref q2_), (2, 3, a0_, .ref q3_), (0, 0, q2_, .ref q0_), (0, 1, q2_, .ref q1_), (5, 0, q1_, .ref q6_), (5, 1, q1_, .ref q7_)] → eOK f q2_ → lv_has ls 6 [(4, .int v69_4), (3, .int v69_3), (2, .int v69_2), (1, .int r_1), (0, .ref a0_)] → W p l e ({ frames := 4, cells := 0, slots := 0, locals := 97 } : Room) s m [.ref a0_].toArray below meth c H locs 0 0 Q (F0 m 69 ls []) := by
            intro n69
            induction n69 with
            | zero =>
              intro v69_4 v69_3 v69_2 w69_8_8_q0_ bv69_4 bv69_3  bw69_8_8_q0_ hm69 f H locs ls g hG69_e_q2_ hl
              exact absurd hm69 (by have h9_v69_4 := bv69_4; unfold bd at h9_v69_4; have h9_v69_3 := bv69_3; unfold bd at h9_v69_3; have h9_v69_2 := bdT v69_2; unfold bd at h9_v69_2; have h9_w69_8_8_q0_ := bw69_8_8_q0_; unfold bd at h9_w69_8_8_q0_; omega)
            | succ n69 ih69 =>
              intro v69_4 v69_3 v69_2 w69_8_8_q0_ bv69_4 bv69_3  bw69_8_8_q0_ hm69 f H locs ls g hG69_e_q2_ hl
              refine lv_iload hx hb dX2_readArguments_69 (lv_at hl 0 rfl) ?_
              refine lv_iconst (v := 3) hx hb dX2_readArguments_71 (by decide) ?_
              have kb_3 : bd 3 3 (3 : Int32) := ⟨by decide, by decide⟩
              refine lv_icmp_gt (tgt := 162) hx hb dX2_readArguments_72 (by decide) (fun c_641 => ?_) (fun c_641 => ?_)
              · have fc_641 := lt_f c_641
                have b_642 : bd 4 4 v69_4 := ltR fc_641 kb_3 bv69_4 (by decide)
                refine lv_aload_n hx hb dX2_readArguments_162 rfl (lv_at hl 4 rfl) ?_
                refine g_getk (C := RX2) (T := TX2) (N := 16) hx hb hts (mc_ inX2) hown hK g rfl 0 (by decide) rfl (hts _ (List.mem_cons_of_mem _ t_416)) (fun _ h9 => h9) 2 rfl dX2_readArguments_163 ?_
                have go_ := g
                refine g_calli (va_runV (As := []) (rest := []) ⟨hx, hb, hml, hown, hts⟩ (r_X8_place l dC dI L kd tys f H.size g.2.2.2.1 q0_ mq0_ kq0_) (cwV 0 hts (gV_ t_1110 t_1111 t_1112 t_184 t_1113) rfl rfl rfl (by decide +kernel) ⟨(Nat.le_of_ble_eq_true rfl), (Nat.le_of_ble_eq_true rfl)⟩) (pre3V g hK mq0_ kq0_ (by decide) (q := (RX8, TX8, 10)) rfl) rfl rfl hl.1 rfl (lv_room (Nat.le_of_ble_eq_true rfl)) dX2_readArguments_166 ⟨(Nat.le_of_ble_eq_true rfl), (Nat.le_of_ble_eq_true rfl)⟩) g hK (by decide) (by decide) (fx' := [(2, 14, a0_, .int x_13), (8, 8, q0_, .int w69_8_8_q0_), (2, 0, a0_, .ref q0_), (2, 1, a0_, .ref q1_), (2, 2, a0_, .ref q2_), (2, 3, a0_, .ref q3_), (0, 0, q2_, .ref q0_), (0, 1, q2_, .ref q1_), (5, 0, q1_, .ref q6_), (5, 1, q1_, .ref q7_)]) rfl (fun r_643 fr_643 H locs hp hMr_643 g => ?_)
                have hG_644 := eOK.frame hMr_643 go_.2.2.2.1 mq2_ kq2_ (by decide) (by decide) hG69_e_q2_
                refine lv_istore (lv' := [(4, .int r_643), (3, .int v69_3), (2, .int v69_2), (1, .int r_1), (0, .ref a0_)]) hx hb dX2_readArguments_169 hl (by decide) rfl (fun ls hl => ?_)
                refine lv_aload_n hx hb dX2_readArguments_171 rfl (lv_at hl 4 rfl) ?_
                refine g_getk (C := RX2) (T := TX2) (N := 16) hx hb hts (mc_ inX2) hown hK g rfl 0 (by decide) rfl (hts _ (List.mem_cons_of_mem _ t_416)) (fun _ h9 => h9) 2 rfl dX2_readArguments_172 ?_
                refine lv_bipush (v := 41) hx hb dX2_readArguments_175 (by decide) ?_
                have go_ := g
                refine g_callv (va_runV (As := [.int 41]) (rest := []) ⟨hx, hb, hml, hown, hts⟩ (r_X8_take l dC dI L kd tys fr_643 H.size g.2.2.2.1 q0_ mq0_ kq0_ 41 w69_8_8_q0_ bw69_8_8_q0_ (g.fcts [1] rfl)) (cwV 1 hts (gV_ t_1098 t_1099 t_1100 t_184 t_1101) rfl rfl rfl (by decide +kernel) ⟨(Nat.le_of_ble_eq_true rfl), (Nat.le_of_ble_eq_true rfl)⟩) (pre3V g hK mq0_ kq0_ (by decide) (q := (RX8, TX8, 10)) rfl) rfl rfl hl.1 rfl (lv_room (Nat.le_of_ble_eq_true rfl)) dX2_readArguments_177 ⟨(Nat.le_of_ble_eq_true rfl), (Nat.le_of_ble_eq_true rfl)⟩) g hK (by decide) (by decide) (fx' := [(2, 14, a0_, .int x_13), (2, 0, a0_, .ref q0_), (2, 1, a0_, .ref q1_), (2, 2, a0_, .ref q2_), (2, 3, a0_, .ref q3_), (0, 0, q2_, .ref q0_), (0, 1, q2_, .ref q1_), (5, 0, q1_, .ref q6_), (5, 1, q1_, .ref q7_)]) rfl (fun fr_645 H locs hp hMr_645 g => ?_)
                rcases hp with ⟨x_646, h_647, x_648, h_649, hF_650⟩ | ⟨x_651, h_652, hF_653⟩
                · have hG_654 := eOK.frame hMr_645 go_.2.2.2.1 mq2_ kq2_ (by decide) (by decide) hG_644
                  have g := g.more hF_650
                  refine lv_iload_n hx hb dX2_readArguments_180 rfl (lv_at hl 2 rfl) ?_
                  refine lv_aload_n hx hb dX2_readArguments_181 rfl (lv_at hl 4 rfl) ?_
                  refine g_getk (C := RX2) (T := TX2) (N := 16) hx hb hts (mc_ inX2) hown hK g rfl 14 (by decide) rfl (hts _ (List.mem_cons_of_mem _ t_430)) (fun _ h9 => h9) 2 rfl dX2_readArguments_182 ?_
                  refine lv_icmp_ge (tgt := 199) hx hb dX2_readArguments_185 (by decide) (fun c_655 => ?_) (fun c_655 => ?_)
                  · have fc_655 := le_f c_655
                    have b_656 : bd 0 2147483647 v69_2 := leR fc_655 b_574 (bdT v69_2) (by decide)
                    refine lv_aload_n hx hb dX2_readArguments_199 rfl (lv_at hl 4 rfl) ?_
                    refine g_getk (C := RX2) (T := TX2) (N := 16) hx hb hts (mc_ inX2) hown hK g rfl 3 (by decide) rfl (hts _ (List.mem_cons_of_mem _ t_419)) (fun _ h9 => h9) 6 rfl dX2_readArguments_200 ?_
                    refine lv_aload_n hx hb dX2_readArguments_203 rfl (lv_at hl 4 rfl) ?_
                    refine g_geti (C := RX2) (T := TX2) (N := 16) hx hb hts (mc_ inX2) hown hK g ma0_ ka0_ (by decide) rfl 12 (by decide) rfl (hts _ (List.mem_cons_of_mem _ t_428)) (fun _ h9 => h9) rfl dX2_readArguments_204 (fun x_657 bx_657 g => ?_)
                    refine lv_aload_n hx hb dX2_readArguments_207 rfl (lv_at hl 4 rfl) ?_
                    refine g_geti (C := RX2) (T := TX2) (N := 16) hx hb hts (mc_ inX2) hown hK g ma0_ ka0_ (by decide) rfl 13 (by decide) rfl (hts _ (List.mem_cons_of_mem _ t_429)) (fun _ h9 => h9) rfl dX2_readArguments_208 (fun x_658 bx_658 g => ?_)
                    have go_ := g
                    refine g_callv (va_runV (As := [.int x_657, .int x_658]) (rest := []) ⟨hx, hb, hml, hown, hts⟩ (r_X7_emit l dC dI L kd tys fr_645 H.size g.2.2.2.1 q3_ mq3_ kq3_ x_657 x_658) (cwV 2 hts (gV_ t_1301 t_1204 t_1205 t_191 t_1206) rfl rfl rfl (by decide +kernel) ⟨(Nat.le_of_ble_eq_true rfl), (Nat.le_of_ble_eq_true rfl)⟩) (pre3V g hK mq3_ kq3_ (by decide) (q := (RX7, TX7, 19)) rfl) rfl rfl hl.1 rfl (lv_room (Nat.le_of_ble_eq_true rfl)) dX2_readArguments_211 ⟨(Nat.le_of_ble_eq_true rfl), (Nat.le_of_ble_eq_true rfl)⟩) g hK (by decide) (by decide) (fx' := [(2, 13, a0_, .int x_658), (2, 12, a0_, .int x_657), (8, 6, q0_, .int x_646), (8, 8, q0_, .int x_648), (2, 14, a0_, .int x_13), (2, 0, a0_, .ref q0_), (2, 1, a0_, .ref q1_), (2, 2, a0_, .ref q2_), (2, 3, a0_, .ref q3_), (0, 0, q2_, .ref q0_), (0, 1, q2_, .ref q1_), (5, 0, q1_, .ref q6_), (5, 1, q1_, .ref q7_)]) rfl (fun fr_659 H locs hp hMr_659 g => ?_)
                    obtain ⟨x_660, h_661, hF_662⟩ := hp
                    have hG_663 := eOK.frame hMr_659 go_.2.2.2.1 mq2_ kq2_ (by decide) (by decide) hG_654
                    have g := g.more hF_662
                    refine lv_aload_n hx hb dX2_readArguments_214 rfl (lv_at hl 4 rfl) ?_
                    refine g_getk (C := RX2) (T := TX2) (N := 16) hx hb hts (mc_ inX2) hown hK g rfl 3 (by decide) rfl (hts _ (List.mem_cons_of_mem _ t_419)) (fun _ h9 => h9) 9 rfl dX2_readArguments_215 ?_
                    refine lv_bipush (v := 22) hx hb dX2_readArguments_218 (by decide) ?_
                    refine lv_iconst (v := 0) hx hb dX2_readArguments_220 (by decide) ?_
                    have go_ := g
                    refine g_callv (va_runV (As := [.int 22, .int 0]) (rest := []) ⟨hx, hb, hml, hown, hts⟩ (r_X7_emit l dC dI L kd tys fr_659 H.size g.2.2.2.1 q3_ mq3_ kq3_ 22 0) (cwV 2 hts (gV_ t_1301 t_1204 t_1205 t_191 t_1206) rfl rfl rfl (by decide +kernel) ⟨(Nat.le_of_ble_eq_true rfl), (Nat.le_of_ble_eq_true rfl)⟩) (pre3V g hK mq3_ kq3_ (by decide) (q := (RX7, TX7, 19)) rfl) rfl rfl hl.1 rfl (lv_room (Nat.le_of_ble_eq_true rfl)) dX2_readArguments_221 ⟨(Nat.le_of_ble_eq_true rfl), (Nat.le_of_ble_eq_true rfl)⟩) g hK (by decide) (by decide) (fx' := [(2, 13, a0_, .int x_658), (2, 12, a0_, .int x_657), (8, 6, q0_, .int x_646), (8, 8, q0_, .int x_648), (2, 14, a0_, .int x_13), (2, 0, a0_, .ref q0_), (2, 1, a0_, .ref q1_), (2, 2, a0_, .ref q2_), (2, 3, a0_, .ref q3_), (0, 0, q2_, .ref q0_), (0, 1, q2_, .ref q1_), (5, 0, q1_, .ref q6_), (5, 1, q1_, .ref q7_)]) rfl (fun fr_664 H locs hp hMr_664 g => ?_)
                    obtain ⟨x_665, h_666, hF_667⟩ := hp
                    have hG_668 := eOK.frame hMr_664 go_.2.2.2.1 mq2_ kq2_ (by decide) (by decide) hG_663
                    have g := g.more hF_667
                    refine lv_aload_n hx hb dX2_readArguments_224 rfl (lv_at hl 4 rfl) ?_
                    refine g_getk (C := RX2) (T := TX2) (N := 16) hx hb hts (mc_ inX2) hown hK g rfl 0 (by decide) rfl (hts _ (List.mem_cons_of_mem _ t_416)) (fun _ h9 => h9) 6 rfl dX2_readArguments_225 ?_
                    refine lv_bipush (v := 59) hx hb dX2_readArguments_228 (by decide) ?_
                    have go_ := g
                    refine g_callv (va_runV (As := [.int 59]) (rest := []) ⟨hx, hb, hml, hown, hts⟩ (r_X8_take l dC dI L kd tys fr_664 H.size g.2.2.2.1 q0_ mq0_ kq0_ 59 x_648 h_649 (g.fcts [4] rfl)) (cwV 1 hts (gV_ t_1098 t_1099 t_1100 t_184 t_1101) rfl rfl rfl (by decide +kernel) ⟨(Nat.le_of_ble_eq_true rfl), (Nat.le_of_ble_eq_true rfl)⟩) (pre3V g hK mq0_ kq0_ (by decide) (q := (RX8, TX8, 10)) rfl) rfl rfl hl.1 rfl (lv_room (Nat.le_of_ble_eq_true rfl)) dX2_readArguments_230 ⟨(Nat.le_of_ble_eq_true rfl), (Nat.le_of_ble_eq_true rfl)⟩) g hK (by decide) (by decide) (fx' := [(7, 6, q3_, .int x_665), (2, 13, a0_, .int x_658), (2, 12, a0_, .int x_657), (2, 14, a0_, .int x_13), (2, 0, a0_, .ref q0_), (2, 1, a0_, .ref q1_), (2, 2, a0_, .ref q2_), (2, 3, a0_, .ref q3_), (0, 0, q2_, .ref q0_), (0, 1, q2_, .ref q1_), (5, 0, q1_, .ref q6_), (5, 1, q1_, .ref q7_)]) rfl (fun fr_669 H locs hp hMr_669 g => ?_)
                    rcases hp with ⟨x_670, h_671, x_672, h_673, hF_674⟩ | ⟨x_675, h_676, hF_677⟩
                    · have hG_678 := eOK.frame hMr_669 go_.2.2.2.1 mq2_ kq2_ (by decide) (by decide) hG_668
                      have g := g.more hF_674
                      subst hQ
                      exact W.vret hx hb hr (fun t ht hW => ⟨⟨_, rfl, Or.inl ⟨hG_678, x_670, h_671, x_672, h_673, x_665, h_666, (g.fcts [0, 1, 2] rfl)⟩, q3_of g hK ht hW⟩, g.2.2.1.F ht⟩) g.2.2.1.2.2 dX2_readArguments_233
                    · have hG_679 := eOK.frame hMr_669 go_.2.2.2.1 mq2_ kq2_ (by decide) (by decide) hG_668
                      have g := g.more hF_677
                      have kb_1201 : bd 1201 1201 (1201 : Int32) := ⟨by decide, by decide⟩
                      subst hQ
                      exact W.vret hx hb hr (fun t ht hW => ⟨⟨_, rfl, Or.inr (⟨hG_679, 1201, kb_1201, x_675, h_676, x_665, h_666, (g.fcts [0, 1, 2] rfl)⟩), q3_of g hK ht hW⟩, g.2.2.1.F ht⟩) g.2.2.1.2.2 dX2_readArguments_233
                  · have fc_655 := nle_f c_655
                    have b_680 : bd (-2147483648) (-1) v69_2 := ltL fc_655 (bdT v69_2) b_574 (by decide)
                    refine lv_aload_n hx hb dX2_readArguments_188 rfl (lv_at hl 4 rfl) ?_
                    refine g_getk (C := RX2) (T := TX2) (N := 16) hx hb hts (mc_ inX2) hown hK g rfl 0 (by decide) rfl (hts _ (List.mem_cons_of_mem _ t_416)) (fun _ h9 => h9) 3 rfl dX2_readArguments_189 ?_
                    refine lv_bipush (v := 6) hx hb dX2_readArguments_192 (by decide) ?_
                    refine lv_iload hx hb dX2_readArguments_194 (lv_at hl 0 rfl) ?_
                    have kb_6 : bd 6 6 (6 : Int32) := ⟨by decide, by decide⟩
                    have go_ := g
                    refine g_callv (va_runV (As := [.int 6, .int r_643]) (rest := []) ⟨hx, hb, hml, hown, hts⟩ (r_X8_fail l dC dI L kd tys fr_645 H.size g.2.2.2.1 q0_ mq0_ kq0_ 6 (bd_sub kb_6 (by decide)) r_643 x_648 h_649 (g.fcts [1] rfl)) (cwV 2 hts (gV_ t_1122 t_1107 t_1108 t_184 t_1109) rfl rfl rfl (by decide +kernel) ⟨(Nat.le_of_ble_eq_true rfl), (Nat.le_of_ble_eq_true rfl)⟩) (pre3V g hK mq0_ kq0_ (by decide) (q := (RX8, TX8, 10)) rfl) rfl rfl hl.1 rfl (lv_room (Nat.le_of_ble_eq_true rfl)) dX2_readArguments_196 ⟨(Nat.le_of_ble_eq_true rfl), (Nat.le_of_ble_eq_true rfl)⟩) g hK (by decide) (by decide) (fx' := [(2, 14, a0_, .int x_13), (2, 0, a0_, .ref q0_), (2, 1, a0_, .ref q1_), (2, 2, a0_, .ref q2_), (2, 3, a0_, .ref q3_), (0, 0, q2_, .ref q0_), (0, 1, q2_, .ref q1_), (5, 0, q1_, .ref q6_), (5, 1, q1_, .ref q7_)]) rfl (fun fr_681 H locs hp hMr_681 g => ?_)
                    obtain ⟨x_682, h_683, hF_684⟩ := hp
                    have hG_685 := eOK.frame hMr_681 go_.2.2.2.1 mq2_ kq2_ (by decide) (by decide) hG_654
                    have g := g.more hF_684
                    refine lv_aload_n hx hb dX2_readArguments_199 rfl (lv_at hl 4 rfl) ?_
                    refine g_getk (C := RX2) (T := TX2) (N := 16) hx hb hts (mc_ inX2) hown hK g rfl 3 (by decide) rfl (hts _ (List.mem_cons_of_mem _ t_419)) (fun _ h9 => h9) 6 rfl dX2_readArguments_200 ?_
                    refine lv_aload_n hx hb dX2_readArguments_203 rfl (lv_at hl 4 rfl) ?_
                    refine g_geti (C := RX2) (T := TX2) (N := 16) hx hb hts (mc_ inX2) hown hK g ma0_ ka0_ (by decide) rfl 12 (by decide) rfl (hts _ (List.mem_cons_of_mem _ t_428)) (fun _ h9 => h9) rfl dX2_readArguments_204 (fun x_686 bx_686 g => ?_)
                    refine lv_aload_n hx hb dX2_readArguments_207 rfl (lv_at hl 4 rfl) ?_
                    refine g_geti (C := RX2) (T := TX2) (N := 16) hx hb hts (mc_ inX2) hown hK g ma0_ ka0_ (by decide) rfl 13 (by decide) rfl (hts _ (List.mem_cons_of_mem _ t_429)) (fun _ h9 => h9) rfl dX2_readArguments_208 (fun x_687 bx_687 g => ?_)
                    have go_ := g
                    refine g_callv (va_runV (As := [.int x_686, .int x_687]) (rest := []) ⟨hx, hb, hml, hown, hts⟩ (r_X7_emit l dC dI L kd tys fr_681 H.size g.2.2.2.1 q3_ mq3_ kq3_ x_686 x_687) (cwV 2 hts (gV_ t_1301 t_1204 t_1205 t_191 t_1206) rfl rfl rfl (by decide +kernel) ⟨(Nat.le_of_ble_eq_true rfl), (Nat.le_of_ble_eq_true rfl)⟩) (pre3V g hK mq3_ kq3_ (by decide) (q := (RX7, TX7, 19)) rfl) rfl rfl hl.1 rfl (lv_room (Nat.le_of_ble_eq_true rfl)) dX2_readArguments_211 ⟨(Nat.le_of_ble_eq_true rfl), (Nat.le_of_ble_eq_true rfl)⟩) g hK (by decide) (by decide) (fx' := [(2, 13, a0_, .int x_687), (2, 12, a0_, .int x_686), (8, 6, q0_, .int 1201), (8, 8, q0_, .int x_682), (2, 14, a0_, .int x_13), (2, 0, a0_, .ref q0_), (2, 1, a0_, .ref q1_), (2, 2, a0_, .ref q2_), (2, 3, a0_, .ref q3_), (0, 0, q2_, .ref q0_), (0, 1, q2_, .ref q1_), (5, 0, q1_, .ref q6_), (5, 1, q1_, .ref q7_)]) rfl (fun fr_688 H locs hp hMr_688 g => ?_)
                    obtain ⟨x_689, h_690, hF_691⟩ := hp
                    have hG_692 := eOK.frame hMr_688 go_.2.2.2.1 mq2_ kq2_ (by decide) (by decide) hG_685
                    have g := g.more hF_691
                    refine lv_aload_n hx hb dX2_readArguments_214 rfl (lv_at hl 4 rfl) ?_
                    refine g_getk (C := RX2) (T := TX2) (N := 16) hx hb hts (mc_ inX2) hown hK g rfl 3 (by decide) rfl (hts _ (List.mem_cons_of_mem _ t_419)) (fun _ h9 => h9) 9 rfl dX2_readArguments_215 ?_
                    refine lv_bipush (v := 22) hx hb dX2_readArguments_218 (by decide) ?_
                    refine lv_iconst (v := 0) hx hb dX2_readArguments_220 (by decide) ?_
                    have go_ := g
                    refine g_callv (va_runV (As := [.int 22, .int 0]) (rest := []) ⟨hx, hb, hml, hown, hts⟩ (r_X7_emit l dC dI L kd tys fr_688 H.size g.2.2.2.1 q3_ mq3_ kq3_ 22 0) (cwV 2 hts (gV_ t_1301 t_1204 t_1205 t_191 t_1206) rfl rfl rfl (by decide +kernel) ⟨(Nat.le_of_ble_eq_true rfl), (Nat.le_of_ble_eq_true rfl)⟩) (pre3V g hK mq3_ kq3_ (by decide) (q := (RX7, TX7, 19)) rfl) rfl rfl hl.1 rfl (lv_room (Nat.le_of_ble_eq_true rfl)) dX2_readArguments_221 ⟨(Nat.le_of_ble_eq_true rfl), (Nat.le_of_ble_eq_true rfl)⟩) g hK (by decide) (by decide) (fx' := [(2, 13, a0_, .int x_687), (2, 12, a0_, .int x_686), (8, 6, q0_, .int 1201), (8, 8, q0_, .int x_682), (2, 14, a0_, .int x_13), (2, 0, a0_, .ref q0_), (2, 1, a0_, .ref q1_), (2, 2, a0_, .ref q2_), (2, 3, a0_, .ref q3_), (0, 0, q2_, .ref q0_), (0, 1, q2_, .ref q1_), (5, 0, q1_, .ref q6_), (5, 1, q1_, .ref q7_)]) rfl (fun fr_693 H locs hp hMr_693 g => ?_)
                    obtain ⟨x_694, h_695, hF_696⟩ := hp
                    have hG_697 := eOK.frame hMr_693 go_.2.2.2.1 mq2_ kq2_ (by decide) (by decide) hG_692
                    have g := g.more hF_696
                    refine lv_aload_n hx hb dX2_readArguments_224 rfl (lv_at hl 4 rfl) ?_
                    refine g_getk (C := RX2) (T := TX2) (N := 16) hx hb hts (mc_ inX2) hown hK g rfl 0 (by decide) rfl (hts _ (List.mem_cons_of_mem _ t_416)) (fun _ h9 => h9) 6 rfl dX2_readArguments_225 ?_
                    refine lv_bipush (v := 59) hx hb dX2_readArguments_228 (by decide) ?_
                    have kb_1201 : bd 1201 1201 (1201 : Int32) := ⟨by decide, by decide⟩
                    have go_ := g
                    refine g_callv (va_runV (As := [.int 59]) (rest := []) ⟨hx, hb, hml, hown, hts⟩ (r_X8_take_2 l dC dI L kd tys fr_693 H.size g.2.2.2.1 q0_ mq0_ kq0_ 59 1201 kb_1201 x_682 h_683 (g.fcts [3, 4] rfl)) (cwV 1 hts (gV_ t_1098 t_1099 t_1100 t_184 t_1101) rfl rfl rfl (by decide +kernel) ⟨(Nat.le_of_ble_eq_true rfl), (Nat.le_of_ble_eq_true rfl)⟩) (pre3V g hK mq0_ kq0_ (by decide) (q := (RX8, TX8, 10)) rfl) rfl rfl hl.1 rfl (lv_room (Nat.le_of_ble_eq_true rfl)) dX2_readArguments_230 ⟨(Nat.le_of_ble_eq_true rfl), (Nat.le_of_ble_eq_true rfl)⟩) g hK (by decide) (by decide) (fx' := [(7, 6, q3_, .int x_694), (2, 13, a0_, .int x_687), (2, 12, a0_, .int x_686), (8, 8, q0_, .int x_682), (2, 14, a0_, .int x_13), (2, 0, a0_, .ref q0_), (2, 1, a0_, .ref q1_), (2, 2, a0_, .ref q2_), (2, 3, a0_, .ref q3_), (0, 0, q2_, .ref q0_), (0, 1, q2_, .ref q1_), (5, 0, q1_, .ref q6_), (5, 1, q1_, .ref q7_)]) rfl (fun fr_698 H locs hp hMr_698 g => ?_)
                    obtain ⟨x_699, h_700, hF_701⟩ := hp
                    have hG_702 := eOK.frame hMr_698 go_.2.2.2.1 mq2_ kq2_ (by decide) (by decide) hG_697
                    have g := g.more hF_701
                    subst hQ
                    exact W.vret hx hb hr (fun t ht hW => ⟨⟨_, rfl, Or.inr (⟨hG_702, x_699, h_700, x_682, h_683, x_694, h_695, (g.fcts [0, 4, 1] rfl)⟩), q3_of g hK ht hW⟩, g.2.2.1.F ht⟩) g.2.2.1.2.2 dX2_readArguments_233
                · have hG_703 := eOK.frame hMr_645 go_.2.2.2.1 mq2_ kq2_ (by decide) (by decide) hG_644
                  have g := g.more hF_653
                  refine lv_iload_n hx hb dX2_readArguments_180 rfl (lv_at hl 2 rfl) ?_
                  refine lv_aload_n hx hb dX2_readArguments_181 rfl (lv_at hl 4 rfl) ?_
                  refine g_getk (C := RX2) (T := TX2) (N := 16) hx hb hts (mc_ inX2) hown hK g rfl 14 (by decide) rfl (hts _ (List.mem_cons_of_mem _ t_430)) (fun _ h9 => h9) 2 rfl dX2_readArguments_182 ?_
                  refine lv_icmp_ge (tgt := 199) hx hb dX2_readArguments_185 (by decide) (fun c_704 => ?_) (fun c_704 => ?_)
                  · have fc_704 := le_f c_704
                    have b_705 : bd 0 2147483647 v69_2 := leR fc_704 b_574 (bdT v69_2) (by decide)
                    refine lv_aload_n hx hb dX2_readArguments_199 rfl (lv_at hl 4 rfl) ?_
                    refine g_getk (C := RX2) (T := TX2) (N := 16) hx hb hts (mc_ inX2) hown hK g rfl 3 (by decide) rfl (hts _ (List.mem_cons_of_mem _ t_419)) (fun _ h9 => h9) 6 rfl dX2_readArguments_200 ?_
                    refine lv_aload_n hx hb dX2_readArguments_203 rfl (lv_at hl 4 rfl) ?_
                    refine g_geti (C := RX2) (T := TX2) (N := 16) hx hb hts (mc_ inX2) hown hK g ma0_ ka0_ (by decide) rfl 12 (by decide) rfl (hts _ (List.mem_cons_of_mem _ t_428)) (fun _ h9 => h9) rfl dX2_readArguments_204 (fun x_706 bx_706 g => ?_)
                    refine lv_aload_n hx hb dX2_readArguments_207 rfl (lv_at hl 4 rfl) ?_
                    refine g_geti (C := RX2) (T := TX2) (N := 16) hx hb hts (mc_ inX2) hown hK g ma0_ ka0_ (by decide) rfl 13 (by decide) rfl (hts _ (List.mem_cons_of_mem _ t_429)) (fun _ h9 => h9) rfl dX2_readArguments_208 (fun x_707 bx_707 g => ?_)
                    have go_ := g
                    refine g_callv (va_runV (As := [.int x_706, .int x_707]) (rest := []) ⟨hx, hb, hml, hown, hts⟩ (r_X7_emit l dC dI L kd tys fr_645 H.size g.2.2.2.1 q3_ mq3_ kq3_ x_706 x_707) (cwV 2 hts (gV_ t_1301 t_1204 t_1205 t_191 t_1206) rfl rfl rfl (by decide +kernel) ⟨(Nat.le_of_ble_eq_true rfl), (Nat.le_of_ble_eq_true rfl)⟩) (pre3V g hK mq3_ kq3_ (by decide) (q := (RX7, TX7, 19)) rfl) rfl rfl hl.1 rfl (lv_room (Nat.le_of_ble_eq_true rfl)) dX2_readArguments_211 ⟨(Nat.le_of_ble_eq_true rfl), (Nat.le_of_ble_eq_true rfl)⟩) g hK (by decide) (by decide) (fx' := [(2, 13, a0_, .int x_707), (2, 12, a0_, .int x_706), (8, 6, q0_, .int 1201), (8, 8, q0_, .int x_651), (2, 14, a0_, .int x_13), (2, 0, a0_, .ref q0_), (2, 1, a0_, .ref q1_), (2, 2, a0_, .ref q2_), (2, 3, a0_, .ref q3_), (0, 0, q2_, .ref q0_), (0, 1, q2_, .ref q1_), (5, 0, q1_, .ref q6_), (5, 1, q1_, .ref q7_)]) rfl (fun fr_708 H locs hp hMr_708 g => ?_)
                    obtain ⟨x_709, h_710, hF_711⟩ := hp
                    have hG_712 := eOK.frame hMr_708 go_.2.2.2.1 mq2_ kq2_ (by decide) (by decide) hG_703
                    have g := g.more hF_711
                    refine lv_aload_n hx hb dX2_readArguments_214 rfl (lv_at hl 4 rfl) ?_
                    refine g_getk (C := RX2) (T := TX2) (N := 16) hx hb hts (mc_ inX2) hown hK g rfl 3 (by decide) rfl (hts _ (List.mem_cons_of_mem _ t_419)) (fun _ h9 => h9) 9 rfl dX2_readArguments_215 ?_
                    refine lv_bipush (v := 22) hx hb dX2_readArguments_218 (by decide) ?_
                    refine lv_iconst (v := 0) hx hb dX2_readArguments_220 (by decide) ?_
                    have go_ := g
                    refine g_callv (va_runV (As := [.int 22, .int 0]) (rest := []) ⟨hx, hb, hml, hown, hts⟩ (r_X7_emit l dC dI L kd tys fr_708 H.size g.2.2.2.1 q3_ mq3_ kq3_ 22 0) (cwV 2 hts (gV_ t_1301 t_1204 t_1205 t_191 t_1206) rfl rfl rfl (by decide +kernel) ⟨(Nat.le_of_ble_eq_true rfl), (Nat.le_of_ble_eq_true rfl)⟩) (pre3V g hK mq3_ kq3_ (by decide) (q := (RX7, TX7, 19)) rfl) rfl rfl hl.1 rfl (lv_room (Nat.le_of_ble_eq_true rfl)) dX2_readArguments_221 ⟨(Nat.le_of_ble_eq_true rfl), (Nat.le_of_ble_eq_true rfl)⟩) g hK (by decide) (by decide) (fx' := [(2, 13, a0_, .int x_707), (2, 12, a0_, .int x_706), (8, 6, q0_, .int 1201), (8, 8, q0_, .int x_651), (2, 14, a0_, .int x_13), (2, 0, a0_, .ref q0_), (2, 1, a0_, .ref q1_), (2, 2, a0_, .ref q2_), (2, 3, a0_, .ref q3_), (0, 0, q2_, .ref q0_), (0, 1, q2_, .ref q1_), (5, 0, q1_, .ref q6_), (5, 1, q1_, .ref q7_)]) rfl (fun fr_713 H locs hp hMr_713 g => ?_)
                    obtain ⟨x_714, h_715, hF_716⟩ := hp
                    have hG_717 := eOK.frame hMr_713 go_.2.2.2.1 mq2_ kq2_ (by decide) (by decide) hG_712
                    have g := g.more hF_716
                    refine lv_aload_n hx hb dX2_readArguments_224 rfl (lv_at hl 4 rfl) ?_
                    refine g_getk (C := RX2) (T := TX2) (N := 16) hx hb hts (mc_ inX2) hown hK g rfl 0 (by decide) rfl (hts _ (List.mem_cons_of_mem _ t_416)) (fun _ h9 => h9) 6 rfl dX2_readArguments_225 ?_
                    refine lv_bipush (v := 59) hx hb dX2_readArguments_228 (by decide) ?_
                    have kb_1201 : bd 1201 1201 (1201 : Int32) := ⟨by decide, by decide⟩
                    have go_ := g
                    refine g_callv (va_runV (As := [.int 59]) (rest := []) ⟨hx, hb, hml, hown, hts⟩ (r_X8_take_2 l dC dI L kd tys fr_713 H.size g.2.2.2.1 q0_ mq0_ kq0_ 59 1201 kb_1201 x_651 h_652 (g.fcts [3, 4] rfl)) (cwV 1 hts (gV_ t_1098 t_1099 t_1100 t_184 t_1101) rfl rfl rfl (by decide +kernel) ⟨(Nat.le_of_ble_eq_true rfl), (Nat.le_of_ble_eq_true rfl)⟩) (pre3V g hK mq0_ kq0_ (by decide) (q := (RX8, TX8, 10)) rfl) rfl rfl hl.1 rfl (lv_room (Nat.le_of_ble_eq_true rfl)) dX2_readArguments_230 ⟨(Nat.le_of_ble_eq_true rfl), (Nat.le_of_ble_eq_true rfl)⟩) g hK (by decide) (by decide) (fx' := [(7, 6, q3_, .int x_714), (2, 13, a0_, .int x_707), (2, 12, a0_, .int x_706), (8, 8, q0_, .int x_651), (2, 14, a0_, .int x_13), (2, 0, a0_, .ref q0_), (2, 1, a0_, .ref q1_), (2, 2, a0_, .ref q2_), (2, 3, a0_, .ref q3_), (0, 0, q2_, .ref q0_), (0, 1, q2_, .ref q1_), (5, 0, q1_, .ref q6_), (5, 1, q1_, .ref q7_)]) rfl (fun fr_718 H locs hp hMr_718 g => ?_)
                    obtain ⟨x_719, h_720, hF_721⟩ := hp
                    have hG_722 := eOK.frame hMr_718 go_.2.2.2.1 mq2_ kq2_ (by decide) (by decide) hG_717
                    have g := g.more hF_721
                    subst hQ
                    exact W.vret hx hb hr (fun t ht hW => ⟨⟨_, rfl, Or.inr (⟨hG_722, x_719, h_720, x_651, h_652, x_714, h_715, (g.fcts [0, 4, 1] rfl)⟩), q3_of g hK ht hW⟩, g.2.2.1.F ht⟩) g.2.2.1.2.2 dX2_readArguments_233
                  · have fc_704 := nle_f c_704
                    have b_723 : bd (-2147483648) (-1) v69_2 := ltL fc_704 (bdT v69_2) b_574 (by decide)
                    refine lv_aload_n hx hb dX2_readArguments_188 rfl (lv_at hl 4 rfl) ?_
                    refine g_getk (C := RX2) (T := TX2) (N := 16) hx hb hts (mc_ inX2) hown hK g rfl 0 (by decide) rfl (hts _ (List.mem_cons_of_mem _ t_416)) (fun _ h9 => h9) 3 rfl dX2_readArguments_189 ?_
                    refine lv_bipush (v := 6) hx hb dX2_readArguments_192 (by decide) ?_
                    refine lv_iload hx hb dX2_readArguments_194 (lv_at hl 0 rfl) ?_
                    have kb_6 : bd 6 6 (6 : Int32) := ⟨by decide, by decide⟩
                    have go_ := g
                    refine g_callv (va_runV (As := [.int 6, .int r_643]) (rest := []) ⟨hx, hb, hml, hown, hts⟩ (r_X8_fail_2 l dC dI L kd tys fr_645 H.size g.2.2.2.1 q0_ mq0_ kq0_ 6 (bd_sub kb_6 (by decide)) r_643 x_651 h_652 (g.fcts [1] rfl)) (cwV 2 hts (gV_ t_1122 t_1107 t_1108 t_184 t_1109) rfl rfl rfl (by decide +kernel) ⟨(Nat.le_of_ble_eq_true rfl), (Nat.le_of_ble_eq_true rfl)⟩) (pre3V g hK mq0_ kq0_ (by decide) (q := (RX8, TX8, 10)) rfl) rfl rfl hl.1 rfl (lv_room (Nat.le_of_ble_eq_true rfl)) dX2_readArguments_196 ⟨(Nat.le_of_ble_eq_true rfl), (Nat.le_of_ble_eq_true rfl)⟩) g hK (by decide) (by decide) (fx' := [(8, 8, q0_, .int x_651), (2, 14, a0_, .int x_13), (2, 0, a0_, .ref q0_), (2, 1, a0_, .ref q1_), (2, 2, a0_, .ref q2_), (2, 3, a0_, .ref q3_), (0, 0, q2_, .ref q0_), (0, 1, q2_, .ref q1_), (5, 0, q1_, .ref q6_), (5, 1, q1_, .ref q7_)]) rfl (fun fr_724 H locs hp hMr_724 g => ?_)
                    have hF_725 := hp
                    have hG_726 := eOK.frame hMr_724 go_.2.2.2.1 mq2_ kq2_ (by decide) (by decide) hG_703
                    have g := g.more hF_725
                    refine lv_aload_n hx hb dX2_readArguments_199 rfl (lv_at hl 4 rfl) ?_
                    refine g_getk (C := RX2) (T := TX2) (N := 16) hx hb hts (mc_ inX2) hown hK g rfl 3 (by decide) rfl (hts _ (List.mem_cons_of_mem _ t_419)) (fun _ h9 => h9) 6 rfl dX2_readArguments_200 ?_
                    refine lv_aload_n hx hb dX2_readArguments_203 rfl (lv_at hl 4 rfl) ?_
                    refine g_geti (C := RX2) (T := TX2) (N := 16) hx hb hts (mc_ inX2) hown hK g ma0_ ka0_ (by decide) rfl 12 (by decide) rfl (hts _ (List.mem_cons_of_mem _ t_428)) (fun _ h9 => h9) rfl dX2_readArguments_204 (fun x_727 bx_727 g => ?_)
                    refine lv_aload_n hx hb dX2_readArguments_207 rfl (lv_at hl 4 rfl) ?_
                    refine g_geti (C := RX2) (T := TX2) (N := 16) hx hb hts (mc_ inX2) hown hK g ma0_ ka0_ (by decide) rfl 13 (by decide) rfl (hts _ (List.mem_cons_of_mem _ t_429)) (fun _ h9 => h9) rfl dX2_readArguments_208 (fun x_728 bx_728 g => ?_)
                    have go_ := g
                    refine g_callv (va_runV (As := [.int x_727, .int x_728]) (rest := []) ⟨hx, hb, hml, hown, hts⟩ (r_X7_emit l dC dI L kd tys fr_724 H.size g.2.2.2.1 q3_ mq3_ kq3_ x_727 x_728) (cwV 2 hts (gV_ t_1301 t_1204 t_1205 t_191 t_1206) rfl rfl rfl (by decide +kernel) ⟨(Nat.le_of_ble_eq_true rfl), (Nat.le_of_ble_eq_true rfl)⟩) (pre3V g hK mq3_ kq3_ (by decide) (q := (RX7, TX7, 19)) rfl) rfl rfl hl.1 rfl (lv_room (Nat.le_of_ble_eq_true rfl)) dX2_readArguments_211 ⟨(Nat.le_of_ble_eq_true rfl), (Nat.le_of_ble_eq_true rfl)⟩) g hK (by decide) (by decide) (fx' := [(2, 13, a0_, .int x_728), (2, 12, a0_, .int x_727), (8, 6, q0_, .int 1201), (8, 8, q0_, .int x_651), (2, 14, a0_, .int x_13), (2, 0, a0_, .ref q0_), (2, 1, a0_, .ref q1_), (2, 2, a0_, .ref q2_), (2, 3, a0_, .ref q3_), (0, 0, q2_, .ref q0_), (0, 1, q2_, .ref q1_), (5, 0, q1_, .ref q6_), (5, 1, q1_, .ref q7_)]) rfl (fun fr_729 H locs hp hMr_729 g => ?_)
                    obtain ⟨x_730, h_731, hF_732⟩ := hp
                    have hG_733 := eOK.frame hMr_729 go_.2.2.2.1 mq2_ kq2_ (by decide) (by decide) hG_726
                    have g := g.more hF_732
                    refine lv_aload_n hx hb dX2_readArguments_214 rfl (lv_at hl 4 rfl) ?_
                    refine g_getk (C := RX2) (T := TX2) (N := 16) hx hb hts (mc_ inX2) hown hK g rfl 3 (by decide) rfl (hts _ (List.mem_cons_of_mem _ t_419)) (fun _ h9 => h9) 9 rfl dX2_readArguments_215 ?_
                    refine lv_bipush (v := 22) hx hb dX2_readArguments_218 (by decide) ?_
                    refine lv_iconst (v := 0) hx hb dX2_readArguments_220 (by decide) ?_
                    have go_ := g
                    refine g_callv (va_runV (As := [.int 22, .int 0]) (rest := []) ⟨hx, hb, hml, hown, hts⟩ (r_X7_emit l dC dI L kd tys fr_729 H.size g.2.2.2.1 q3_ mq3_ kq3_ 22 0) (cwV 2 hts (gV_ t_1301 t_1204 t_1205 t_191 t_1206) rfl rfl rfl (by decide +kernel) ⟨(Nat.le_of_ble_eq_true rfl), (Nat.le_of_ble_eq_true rfl)⟩) (pre3V g hK mq3_ kq3_ (by decide) (q := (RX7, TX7, 19)) rfl) rfl rfl hl.1 rfl (lv_room (Nat.le_of_ble_eq_true rfl)) dX2_readArguments_221 ⟨(Nat.le_of_ble_eq_true rfl), (Nat.le_of_ble_eq_true rfl)⟩) g hK (by decide) (by decide) (fx' := [(2, 13, a0_, .int x_728), (2, 12, a0_, .int x_727), (8, 6, q0_, .int 1201), (8, 8, q0_, .int x_651), (2, 14, a0_, .int x_13), (2, 0, a0_, .ref q0_), (2, 1, a0_, .ref q1_), (2, 2, a0_, .ref q2_), (2, 3, a0_, .ref q3_), (0, 0, q2_, .ref q0_), (0, 1, q2_, .ref q1_), (5, 0, q1_, .ref q6_), (5, 1, q1_, .ref q7_)]) rfl (fun fr_734 H locs hp hMr_734 g => ?_)
                    obtain ⟨x_735, h_736, hF_737⟩ := hp
                    have hG_738 := eOK.frame hMr_734 go_.2.2.2.1 mq2_ kq2_ (by decide) (by decide) hG_733
                    have g := g.more hF_737
                    refine lv_aload_n hx hb dX2_readArguments_224 rfl (lv_at hl 4 rfl) ?_
                    refine g_getk (C := RX2) (T := TX2) (N := 16) hx hb hts (mc_ inX2) hown hK g rfl 0 (by decide) rfl (hts _ (List.mem_cons_of_mem _ t_416)) (fun _ h9 => h9) 6 rfl dX2_readArguments_225 ?_
                    refine lv_bipush (v := 59) hx hb dX2_readArguments_228 (by decide) ?_
                    have kb_1201 : bd 1201 1201 (1201 : Int32) := ⟨by decide, by decide⟩
                    have go_ := g
                    refine g_callv (va_runV (As := [.int 59]) (rest := []) ⟨hx, hb, hml, hown, hts⟩ (r_X8_take_2 l dC dI L kd tys fr_734 H.size g.2.2.2.1 q0_ mq0_ kq0_ 59 1201 kb_1201 x_651 h_652 (g.fcts [3, 4] rfl)) (cwV 1 hts (gV_ t_1098 t_1099 t_1100 t_184 t_1101) rfl rfl rfl (by decide +kernel) ⟨(Nat.le_of_ble_eq_true rfl), (Nat.le_of_ble_eq_true rfl)⟩) (pre3V g hK mq0_ kq0_ (by decide) (q := (RX8, TX8, 10)) rfl) rfl rfl hl.1 rfl (lv_room (Nat.le_of_ble_eq_true rfl)) dX2_readArguments_230 ⟨(Nat.le_of_ble_eq_true rfl), (Nat.le_of_ble_eq_true rfl)⟩) g hK (by decide) (by decide) (fx' := [(7, 6, q3_, .int x_735), (2, 13, a0_, .int x_728), (2, 12, a0_, .int x_727), (8, 8, q0_, .int x_651), (2, 14, a0_, .int x_13), (2, 0, a0_, .ref q0_), (2, 1, a0_, .ref q1_), (2, 2, a0_, .ref q2_), (2, 3, a0_, .ref q3_), (0, 0, q2_, .ref q0_), (0, 1, q2_, .ref q1_), (5, 0, q1_, .ref q6_), (5, 1, q1_, .ref q7_)]) rfl (fun fr_739 H locs hp hMr_739 g => ?_)
                    obtain ⟨x_740, h_741, hF_742⟩ := hp
                    have hG_743 := eOK.frame hMr_739 go_.2.2.2.1 mq2_ kq2_ (by decide) (by decide) hG_738
                    have g := g.more hF_742
                    subst hQ
                    exact W.vret hx hb hr (fun t ht hW => ⟨⟨_, rfl, Or.inr (⟨hG_743, x_740, h_741, x_651, h_652, x_735, h_736, (g.fcts [0, 4, 1] rfl)⟩), q3_of g hK ht hW⟩, g.2.2.1.F ht⟩) g.2.2.1.2.2 dX2_readArguments_233
              · have fc_641 := nlt_f c_641
                have b_744 : bd 0 3 v69_4 := leL fc_641 bv69_4 kb_3 (by decide)
                refine lv_iload_n hx hb dX2_readArguments_75 rfl (lv_at hl 1 rfl) ?_
                refine lv_if_eq (tgt := 162) hx hb dX2_readArguments_76 (by decide) (fun c_745 => ?_) (fun c_745 => ?_)
                · have fc_745 := eq_f c_745
                  have b_746 : bd 0 0 v69_3 := eqX fc_745 bv69_3 kb_0 (by decide)
                  refine lv_aload_n hx hb dX2_readArguments_162 rfl (lv_at hl 4 rfl) ?_
                  refine g_getk (C := RX2) (T := TX2) (N := 16) hx hb hts (mc_ inX2) hown hK g rfl 0 (by decide) rfl (hts _ (List.mem_cons_of_mem _ t_416)) (fun _ h9 => h9) 2 rfl dX2_readArguments_163 ?_
                  have go_ := g
                  refine g_calli (va_runV (As := []) (rest := []) ⟨hx, hb, hml, hown, hts⟩ (r_X8_place l dC dI L kd tys f H.size g.2.2.2.1 q0_ mq0_ kq0_) (cwV 0 hts (gV_ t_1110 t_1111 t_1112 t_184 t_1113) rfl rfl rfl (by decide +kernel) ⟨(Nat.le_of_ble_eq_true rfl), (Nat.le_of_ble_eq_true rfl)⟩) (pre3V g hK mq0_ kq0_ (by decide) (q := (RX8, TX8, 10)) rfl) rfl rfl hl.1 rfl (lv_room (Nat.le_of_ble_eq_true rfl)) dX2_readArguments_166 ⟨(Nat.le_of_ble_eq_true rfl), (Nat.le_of_ble_eq_true rfl)⟩) g hK (by decide) (by decide) (fx' := [(2, 14, a0_, .int x_13), (8, 8, q0_, .int w69_8_8_q0_), (2, 0, a0_, .ref q0_), (2, 1, a0_, .ref q1_), (2, 2, a0_, .ref q2_), (2, 3, a0_, .ref q3_), (0, 0, q2_, .ref q0_), (0, 1, q2_, .ref q1_), (5, 0, q1_, .ref q6_), (5, 1, q1_, .ref q7_)]) rfl (fun r_747 fr_747 H locs hp hMr_747 g => ?_)
                  have hG_748 := eOK.frame hMr_747 go_.2.2.2.1 mq2_ kq2_ (by decide) (by decide) hG69_e_q2_
                  refine lv_istore (lv' := [(4, .int r_747), (3, .int v69_3), (2, .int v69_2), (1, .int r_1), (0, .ref a0_)]) hx hb dX2_readArguments_169 hl (by decide) rfl (fun ls hl => ?_)
                  refine lv_aload_n hx hb dX2_readArguments_171 rfl (lv_at hl 4 rfl) ?_
                  refine g_getk (C := RX2) (T := TX2) (N := 16) hx hb hts (mc_ inX2) hown hK g rfl 0 (by decide) rfl (hts _ (List.mem_cons_of_mem _ t_416)) (fun _ h9 => h9) 2 rfl dX2_readArguments_172 ?_
                  refine lv_bipush (v := 41) hx hb dX2_readArguments_175 (by decide) ?_
                  have go_ := g
                  refine g_callv (va_runV (As := [.int 41]) (rest := []) ⟨hx, hb, hml, hown, hts⟩ (r_X8_take l dC dI L kd tys fr_747 H.size g.2.2.2.1 q0_ mq0_ kq0_ 41 w69_8_8_q0_ bw69_8_8_q0_ (g.fcts [1] rfl)) (cwV 1 hts (gV_ t_1098 t_1099 t_1100 t_184 t_1101) rfl rfl rfl (by decide +kernel) ⟨(Nat.le_of_ble_eq_true rfl), (Nat.le_of_ble_eq_true rfl)⟩) (pre3V g hK mq0_ kq0_ (by decide) (q := (RX8, TX8, 10)) rfl) rfl rfl hl.1 rfl (lv_room (Nat.le_of_ble_eq_true rfl)) dX2_readArguments_177 ⟨(Nat.le_of_ble_eq_true rfl), (Nat.le_of_ble_eq_true rfl)⟩) g hK (by decide) (by decide) (fx' := [(2, 14, a0_, .int x_13), (2, 0, a0_, .ref q0_), (2, 1, a0_, .ref q1_), (2, 2, a0_, .ref q2_), (2, 3, a0_, .ref q3_), (0, 0, q2_, .ref q0_), (0, 1, q2_, .ref q1_), (5, 0, q1_, .ref q6_), (5, 1, q1_, .ref q7_)]) rfl (fun fr_749 H locs hp hMr_749 g => ?_)
                  rcases hp with ⟨x_750, h_751, x_752, h_753, hF_754⟩ | ⟨x_755, h_756, hF_757⟩
                  · have hG_758 := eOK.frame hMr_749 go_.2.2.2.1 mq2_ kq2_ (by decide) (by decide) hG_748
                    have g := g.more hF_754
                    refine lv_iload_n hx hb dX2_readArguments_180 rfl (lv_at hl 2 rfl) ?_
                    refine lv_aload_n hx hb dX2_readArguments_181 rfl (lv_at hl 4 rfl) ?_
                    refine g_getk (C := RX2) (T := TX2) (N := 16) hx hb hts (mc_ inX2) hown hK g rfl 14 (by decide) rfl (hts _ (List.mem_cons_of_mem _ t_430)) (fun _ h9 => h9) 2 rfl dX2_readArguments_182 ?_
                    refine lv_icmp_ge (tgt := 199) hx hb dX2_readArguments_185 (by decide) (fun c_759 => ?_) (fun c_759 => ?_)
                    · have fc_759 := le_f c_759
                      have b_760 : bd 0 2147483647 v69_2 := leR fc_759 b_574 (bdT v69_2) (by decide)
                      refine lv_aload_n hx hb dX2_readArguments_199 rfl (lv_at hl 4 rfl) ?_
                      refine g_getk (C := RX2) (T := TX2) (N := 16) hx hb hts (mc_ inX2) hown hK g rfl 3 (by decide) rfl (hts _ (List.mem_cons_of_mem _ t_419)) (fun _ h9 => h9) 6 rfl dX2_readArguments_200 ?_
                      refine lv_aload_n hx hb dX2_readArguments_203 rfl (lv_at hl 4 rfl) ?_
                      refine g_geti (C := RX2) (T := TX2) (N := 16) hx hb hts (mc_ inX2) hown hK g ma0_ ka0_ (by decide) rfl 12 (by decide) rfl (hts _ (List.mem_cons_of_mem _ t_428)) (fun _ h9 => h9) rfl dX2_readArguments_204 (fun x_761 bx_761 g => ?_)
                      refine lv_aload_n hx hb dX2_readArguments_207 rfl (lv_at hl 4 rfl) ?_
                      refine g_geti (C := RX2) (T := TX2) (N := 16) hx hb hts (mc_ inX2) hown hK g ma0_ ka0_ (by decide) rfl 13 (by decide) rfl (hts _ (List.mem_cons_of_mem _ t_429)) (fun _ h9 => h9) rfl dX2_readArguments_208 (fun x_762 bx_762 g => ?_)
                      have go_ := g
                      refine g_callv (va_runV (As := [.int x_761, .int x_762]) (rest := []) ⟨hx, hb, hml, hown, hts⟩ (r_X7_emit l dC dI L kd tys fr_749 H.size g.2.2.2.1 q3_ mq3_ kq3_ x_761 x_762) (cwV 2 hts (gV_ t_1301 t_1204 t_1205 t_191 t_1206) rfl rfl rfl (by decide +kernel) ⟨(Nat.le_of_ble_eq_true rfl), (Nat.le_of_ble_eq_true rfl)⟩) (pre3V g hK mq3_ kq3_ (by decide) (q := (RX7, TX7, 19)) rfl) rfl rfl hl.1 rfl (lv_room (Nat.le_of_ble_eq_true rfl)) dX2_readArguments_211 ⟨(Nat.le_of_ble_eq_true rfl), (Nat.le_of_ble_eq_true rfl)⟩) g hK (by decide) (by decide) (fx' := [(2, 13, a0_, .int x_762), (2, 12, a0_, .int x_761), (8, 6, q0_, .int x_750), (8, 8, q0_, .int x_752), (2, 14, a0_, .int x_13), (2, 0, a0_, .ref q0_), (2, 1, a0_, .ref q1_), (2, 2, a0_, .ref q2_), (2, 3, a0_, .ref q3_), (0, 0, q2_, .ref q0_), (0, 1, q2_, .ref q1_), (5, 0, q1_, .ref q6_), (5, 1, q1_, .ref q7_)]) rfl (fun fr_763 H locs hp hMr_763 g => ?_)
                      obtain ⟨x_764, h_765, hF_766⟩ := hp
                      have hG_767 := eOK.frame hMr_763 go_.2.2.2.1 mq2_ kq2_ (by decide) (by decide) hG_758
                      have g := g.more hF_766
                      refine lv_aload_n hx hb dX2_readArguments_214 rfl (lv_at hl 4 rfl) ?_
                      refine g_getk (C := RX2) (T := TX2) (N := 16) hx hb hts (mc_ inX2) hown hK g rfl 3 (by decide) rfl (hts _ (List.mem_cons_of_mem _ t_419)) (fun _ h9 => h9) 9 rfl dX2_readArguments_215 ?_
                      refine lv_bipush (v := 22) hx hb dX2_readArguments_218 (by decide) ?_
                      refine lv_iconst (v := 0) hx hb dX2_readArguments_220 (by decide) ?_
                      have go_ := g
                      refine g_callv (va_runV (As := [.int 22, .int 0]) (rest := []) ⟨hx, hb, hml, hown, hts⟩ (r_X7_emit l dC dI L kd tys fr_763 H.size g.2.2.2.1 q3_ mq3_ kq3_ 22 0) (cwV 2 hts (gV_ t_1301 t_1204 t_1205 t_191 t_1206) rfl rfl rfl (by decide +kernel) ⟨(Nat.le_of_ble_eq_true rfl), (Nat.le_of_ble_eq_true rfl)⟩) (pre3V g hK mq3_ kq3_ (by decide) (q := (RX7, TX7, 19)) rfl) rfl rfl hl.1 rfl (lv_room (Nat.le_of_ble_eq_true rfl)) dX2_readArguments_221 ⟨(Nat.le_of_ble_eq_true rfl), (Nat.le_of_ble_eq_true rfl)⟩) g hK (by decide) (by decide) (fx' := [(2, 13, a0_, .int x_762), (2, 12, a0_, .int x_761), (8, 6, q0_, .int x_750), (8, 8, q0_, .int x_752), (2, 14, a0_, .int x_13), (2, 0, a0_, .ref q0_), (2, 1, a0_, .ref q1_), (2, 2, a0_, .ref q2_), (2, 3, a0_, .ref q3_), (0, 0, q2_, .ref q0_), (0, 1, q2_, .ref q1_), (5, 0, q1_, .ref q6_), (5, 1, q1_, .ref q7_)]) rfl (fun fr_768 H locs hp hMr_768 g => ?_)
                      obtain ⟨x_769, h_770, hF_771⟩ := hp
                      have hG_772 := eOK.frame hMr_768 go_.2.2.2.1 mq2_ kq2_ (by decide) (by decide) hG_767
                      have g := g.more hF_771
                      refine lv_aload_n hx hb dX2_readArguments_224 rfl (lv_at hl 4 rfl) ?_
                      refine g_getk (C := RX2) (T := TX2) (N := 16) hx hb hts (mc_ inX2) hown hK g rfl 0 (by decide) rfl (hts _ (List.mem_cons_of_mem _ t_416)) (fun _ h9 => h9) 6 rfl dX2_readArguments_225 ?_
                      refine lv_bipush (v := 59) hx hb dX2_readArguments_228 (by decide) ?_
                      have go_ := g
                      refine g_callv (va_runV (As := [.int 59]) (rest := []) ⟨hx, hb, hml, hown, hts⟩ (r_X8_take l dC dI L kd tys fr_768 H.size g.2.2.2.1 q0_ mq0_ kq0_ 59 x_752 h_753 (g.fcts [4] rfl)) (cwV 1 hts (gV_ t_1098 t_1099 t_1100 t_184 t_1101) rfl rfl rfl (by decide +kernel) ⟨(Nat.le_of_ble_eq_true rfl), (Nat.le_of_ble_eq_true rfl)⟩) (pre3V g hK mq0_ kq0_ (by decide) (q := (RX8, TX8, 10)) rfl) rfl rfl hl.1 rfl (lv_room (Nat.le_of_ble_eq_true rfl)) dX2_readArguments_230 ⟨(Nat.le_of_ble_eq_true rfl), (Nat.le_of_ble_eq_true rfl)⟩) g hK (by decide) (by decide) (fx' := [(7, 6, q3_, .int x_769), (2, 13, a0_, .int x_762), (2, 12, a0_, .int x_761), (2, 14, a0_, .int x_13), (2, 0, a0_, .ref q0_), (2, 1, a0_, .ref q1_), (2, 2, a0_, .ref q2_), (2, 3, a0_, .ref q3_), (0, 0, q2_, .ref q0_), (0, 1, q2_, .ref q1_), (5, 0, q1_, .ref q6_), (5, 1, q1_, .ref q7_)]) rfl (fun fr_773 H locs hp hMr_773 g => ?_)
                      rcases hp with ⟨x_774, h_775, x_776, h_777, hF_778⟩ | ⟨x_779, h_780, hF_781⟩
                      · have hG_782 := eOK.frame hMr_773 go_.2.2.2.1 mq2_ kq2_ (by decide) (by decide) hG_772
                        have g := g.more hF_778
                        subst hQ
                        exact W.vret hx hb hr (fun t ht hW => ⟨⟨_, rfl, Or.inl ⟨hG_782, x_774, h_775, x_776, h_777, x_769, h_770, (g.fcts [0, 1, 2] rfl)⟩, q3_of g hK ht hW⟩, g.2.2.1.F ht⟩) g.2.2.1.2.2 dX2_readArguments_233
                      · have hG_783 := eOK.frame hMr_773 go_.2.2.2.1 mq2_ kq2_ (by decide) (by decide) hG_772
                        have g := g.more hF_781
                        have kb_1201 : bd 1201 1201 (1201 : Int32) := ⟨by decide, by decide⟩
                        subst hQ
                        exact W.vret hx hb hr (fun t ht hW => ⟨⟨_, rfl, Or.inr (⟨hG_783, 1201, kb_1201, x_779, h_780, x_769, h_770, (g.fcts [0, 1, 2] rfl)⟩), q3_of g hK ht hW⟩, g.2.2.1.F ht⟩) g.2.2.1.2.2 dX2_readArguments_233
                    · have fc_759 := nle_f c_759
                      have b_784 : bd (-2147483648) (-1) v69_2 := ltL fc_759 (bdT v69_2) b_574 (by decide)
                      refine lv_aload_n hx hb dX2_readArguments_188 rfl (lv_at hl 4 rfl) ?_
                      refine g_getk (C := RX2) (T := TX2) (N := 16) hx hb hts (mc_ inX2) hown hK g rfl 0 (by decide) rfl (hts _ (List.mem_cons_of_mem _ t_416)) (fun _ h9 => h9) 3 rfl dX2_readArguments_189 ?_
                      refine lv_bipush (v := 6) hx hb dX2_readArguments_192 (by decide) ?_
                      refine lv_iload hx hb dX2_readArguments_194 (lv_at hl 0 rfl) ?_
                      have kb_6 : bd 6 6 (6 : Int32) := ⟨by decide, by decide⟩
                      have go_ := g
                      refine g_callv (va_runV (As := [.int 6, .int r_747]) (rest := []) ⟨hx, hb, hml, hown, hts⟩ (r_X8_fail l dC dI L kd tys fr_749 H.size g.2.2.2.1 q0_ mq0_ kq0_ 6 (bd_sub kb_6 (by decide)) r_747 x_752 h_753 (g.fcts [1] rfl)) (cwV 2 hts (gV_ t_1122 t_1107 t_1108 t_184 t_1109) rfl rfl rfl (by decide +kernel) ⟨(Nat.le_of_ble_eq_true rfl), (Nat.le_of_ble_eq_true rfl)⟩) (pre3V g hK mq0_ kq0_ (by decide) (q := (RX8, TX8, 10)) rfl) rfl rfl hl.1 rfl (lv_room (Nat.le_of_ble_eq_true rfl)) dX2_readArguments_196 ⟨(Nat.le_of_ble_eq_true rfl), (Nat.le_of_ble_eq_true rfl)⟩) g hK (by decide) (by decide) (fx' := [(2, 14, a0_, .int x_13), (2, 0, a0_, .ref q0_), (2, 1, a0_, .ref q1_), (2, 2, a0_, .ref q2_), (2, 3, a0_, .ref q3_), (0, 0, q2_, .ref q0_), (0, 1, q2_, .ref q1_), (5, 0, q1_, .ref q6_), (5, 1, q1_, .ref q7_)]) rfl (fun fr_785 H locs hp hMr_785 g => ?_)
                      obtain ⟨x_786, h_787, hF_788⟩ := hp
                      have hG_789 := eOK.frame hMr_785 go_.2.2.2.1 mq2_ kq2_ (by decide) (by decide) hG_758
                      have g := g.more hF_788
                      refine lv_aload_n hx hb dX2_readArguments_199 rfl (lv_at hl 4 rfl) ?_
                      refine g_getk (C := RX2) (T := TX2) (N := 16) hx hb hts (mc_ inX2) hown hK g rfl 3 (by decide) rfl (hts _ (List.mem_cons_of_mem _ t_419)) (fun _ h9 => h9) 6 rfl dX2_readArguments_200 ?_
                      refine lv_aload_n hx hb dX2_readArguments_203 rfl (lv_at hl 4 rfl) ?_
                      refine g_geti (C := RX2) (T := TX2) (N := 16) hx hb hts (mc_ inX2) hown hK g ma0_ ka0_ (by decide) rfl 12 (by decide) rfl (hts _ (List.mem_cons_of_mem _ t_428)) (fun _ h9 => h9) rfl dX2_readArguments_204 (fun x_790 bx_790 g => ?_)
                      refine lv_aload_n hx hb dX2_readArguments_207 rfl (lv_at hl 4 rfl) ?_
                      refine g_geti (C := RX2) (T := TX2) (N := 16) hx hb hts (mc_ inX2) hown hK g ma0_ ka0_ (by decide) rfl 13 (by decide) rfl (hts _ (List.mem_cons_of_mem _ t_429)) (fun _ h9 => h9) rfl dX2_readArguments_208 (fun x_791 bx_791 g => ?_)
                      have go_ := g
                      refine g_callv (va_runV (As := [.int x_790, .int x_791]) (rest := []) ⟨hx, hb, hml, hown, hts⟩ (r_X7_emit l dC dI L kd tys fr_785 H.size g.2.2.2.1 q3_ mq3_ kq3_ x_790 x_791) (cwV 2 hts (gV_ t_1301 t_1204 t_1205 t_191 t_1206) rfl rfl rfl (by decide +kernel) ⟨(Nat.le_of_ble_eq_true rfl), (Nat.le_of_ble_eq_true rfl)⟩) (pre3V g hK mq3_ kq3_ (by decide) (q := (RX7, TX7, 19)) rfl) rfl rfl hl.1 rfl (lv_room (Nat.le_of_ble_eq_true rfl)) dX2_readArguments_211 ⟨(Nat.le_of_ble_eq_true rfl), (Nat.le_of_ble_eq_true rfl)⟩) g hK (by decide) (by decide) (fx' := [(2, 13, a0_, .int x_791), (2, 12, a0_, .int x_790), (8, 6, q0_, .int 1201), (8, 8, q0_, .int x_786), (2, 14, a0_, .int x_13), (2, 0, a0_, .ref q0_), (2, 1, a0_, .ref q1_), (2, 2, a0_, .ref q2_), (2, 3, a0_, .ref q3_), (0, 0, q2_, .ref q0_), (0, 1, q2_, .ref q1_), (5, 0, q1_, .ref q6_), (5, 1, q1_, .ref q7_)]) rfl (fun fr_792 H locs hp hMr_792 g => ?_)
                      obtain ⟨x_793, h_794, hF_795⟩ := hp
                      have hG_796 := eOK.frame hMr_792 go_.2.2.2.1 mq2_ kq2_ (by decide) (by decide) hG_789
                      have g := g.more hF_795
                      refine lv_aload_n hx hb dX2_readArguments_214 rfl (lv_at hl 4 rfl) ?_
                      refine g_getk (C := RX2) (T := TX2) (N := 16) hx hb hts (mc_ inX2) hown hK g rfl 3 (by decide) rfl (hts _ (List.mem_cons_of_mem _ t_419)) (fun _ h9 => h9) 9 rfl dX2_readArguments_215 ?_
                      refine lv_bipush (v := 22) hx hb dX2_readArguments_218 (by decide) ?_
                      refine lv_iconst (v := 0) hx hb dX2_readArguments_220 (by decide) ?_
                      have go_ := g
                      refine g_callv (va_runV (As := [.int 22, .int 0]) (rest := []) ⟨hx, hb, hml, hown, hts⟩ (r_X7_emit l dC dI L kd tys fr_792 H.size g.2.2.2.1 q3_ mq3_ kq3_ 22 0) (cwV 2 hts (gV_ t_1301 t_1204 t_1205 t_191 t_1206) rfl rfl rfl (by decide +kernel) ⟨(Nat.le_of_ble_eq_true rfl), (Nat.le_of_ble_eq_true rfl)⟩) (pre3V g hK mq3_ kq3_ (by decide) (q := (RX7, TX7, 19)) rfl) rfl rfl hl.1 rfl (lv_room (Nat.le_of_ble_eq_true rfl)) dX2_readArguments_221 ⟨(Nat.le_of_ble_eq_true rfl), (Nat.le_of_ble_eq_true rfl)⟩) g hK (by decide) (by decide) (fx' := [(2, 13, a0_, .int x_791), (2, 12, a0_, .int x_790), (8, 6, q0_, .int 1201), (8, 8, q0_, .int x_786), (2, 14, a0_, .int x_13), (2, 0, a0_, .ref q0_), (2, 1, a0_, .ref q1_), (2, 2, a0_, .ref q2_), (2, 3, a0_, .ref q3_), (0, 0, q2_, .ref q0_), (0, 1, q2_, .ref q1_), (5, 0, q1_, .ref q6_), (5, 1, q1_, .ref q7_)]) rfl (fun fr_797 H locs hp hMr_797 g => ?_)
                      obtain ⟨x_798, h_799, hF_800⟩ := hp
                      have hG_801 := eOK.frame hMr_797 go_.2.2.2.1 mq2_ kq2_ (by decide) (by decide) hG_796
                      have g := g.more hF_800
                      refine lv_aload_n hx hb dX2_readArguments_224 rfl (lv_at hl 4 rfl) ?_
                      refine g_getk (C := RX2) (T := TX2) (N := 16) hx hb hts (mc_ inX2) hown hK g rfl 0 (by decide) rfl (hts _ (List.mem_cons_of_mem _ t_416)) (fun _ h9 => h9) 6 rfl dX2_readArguments_225 ?_
                      refine lv_bipush (v := 59) hx hb dX2_readArguments_228 (by decide) ?_
                      have kb_1201 : bd 1201 1201 (1201 : Int32) := ⟨by decide, by decide⟩
                      have go_ := g
                      refine g_callv (va_runV (As := [.int 59]) (rest := []) ⟨hx, hb, hml, hown, hts⟩ (r_X8_take_2 l dC dI L kd tys fr_797 H.size g.2.2.2.1 q0_ mq0_ kq0_ 59 1201 kb_1201 x_786 h_787 (g.fcts [3, 4] rfl)) (cwV 1 hts (gV_ t_1098 t_1099 t_1100 t_184 t_1101) rfl rfl rfl (by decide +kernel) ⟨(Nat.le_of_ble_eq_true rfl), (Nat.le_of_ble_eq_true rfl)⟩) (pre3V g hK mq0_ kq0_ (by decide) (q := (RX8, TX8, 10)) rfl) rfl rfl hl.1 rfl (lv_room (Nat.le_of_ble_eq_true rfl)) dX2_readArguments_230 ⟨(Nat.le_of_ble_eq_true rfl), (Nat.le_of_ble_eq_true rfl)⟩) g hK (by decide) (by decide) (fx' := [(7, 6, q3_, .int x_798), (2, 13, a0_, .int x_791), (2, 12, a0_, .int x_790), (8, 8, q0_, .int x_786), (2, 14, a0_, .int x_13), (2, 0, a0_, .ref q0_), (2, 1, a0_, .ref q1_), (2, 2, a0_, .ref q2_), (2, 3, a0_, .ref q3_), (0, 0, q2_, .ref q0_), (0, 1, q2_, .ref q1_), (5, 0, q1_, .ref q6_), (5, 1, q1_, .ref q7_)]) rfl (fun fr_802 H locs hp hMr_802 g => ?_)
                      obtain ⟨x_803, h_804, hF_805⟩ := hp
                      have hG_806 := eOK.frame hMr_802 go_.2.2.2.1 mq2_ kq2_ (by decide) (by decide) hG_801
                      have g := g.more hF_805
                      subst hQ
                      exact W.vret hx hb hr (fun t ht hW => ⟨⟨_, rfl, Or.inr (⟨hG_806, x_803, h_804, x_786, h_787, x_798, h_799, (g.fcts [0, 4, 1] rfl)⟩), q3_of g hK ht hW⟩, g.2.2.1.F ht⟩) g.2.2.1.2.2 dX2_readArguments_233
                  · have hG_807 := eOK.frame hMr_749 go_.2.2.2.1 mq2_ kq2_ (by decide) (by decide) hG_748
                    have g := g.more hF_757
                    refine lv_iload_n hx hb dX2_readArguments_180 rfl (lv_at hl 2 rfl) ?_
                    refine lv_aload_n hx hb dX2_readArguments_181 rfl (lv_at hl 4 rfl) ?_
                    refine g_getk (C := RX2) (T := TX2) (N := 16) hx hb hts (mc_ inX2) hown hK g rfl 14 (by decide) rfl (hts _ (List.mem_cons_of_mem _ t_430)) (fun _ h9 => h9) 2 rfl dX2_readArguments_182 ?_
                    refine lv_icmp_ge (tgt := 199) hx hb dX2_readArguments_185 (by decide) (fun c_808 => ?_) (fun c_808 => ?_)
                    · have fc_808 := le_f c_808
                      have b_809 : bd 0 2147483647 v69_2 := leR fc_808 b_574 (bdT v69_2) (by decide)
                      refine lv_aload_n hx hb dX2_readArguments_199 rfl (lv_at hl 4 rfl) ?_
                      refine g_getk (C := RX2) (T := TX2) (N := 16) hx hb hts (mc_ inX2) hown hK g rfl 3 (by decide) rfl (hts _ (List.mem_cons_of_mem _ t_419)) (fun _ h9 => h9) 6 rfl dX2_readArguments_200 ?_
                      refine lv_aload_n hx hb dX2_readArguments_203 rfl (lv_at hl 4 rfl) ?_
                      refine g_geti (C := RX2) (T := TX2) (N := 16) hx hb hts (mc_ inX2) hown hK g ma0_ ka0_ (by decide) rfl 12 (by decide) rfl (hts _ (List.mem_cons_of_mem _ t_428)) (fun _ h9 => h9) rfl dX2_readArguments_204 (fun x_810 bx_810 g => ?_)
                      refine lv_aload_n hx hb dX2_readArguments_207 rfl (lv_at hl 4 rfl) ?_
                      refine g_geti (C := RX2) (T := TX2) (N := 16) hx hb hts (mc_ inX2) hown hK g ma0_ ka0_ (by decide) rfl 13 (by decide) rfl (hts _ (List.mem_cons_of_mem _ t_429)) (fun _ h9 => h9) rfl dX2_readArguments_208 (fun x_811 bx_811 g => ?_)
                      have go_ := g
                      refine g_callv (va_runV (As := [.int x_810, .int x_811]) (rest := []) ⟨hx, hb, hml, hown, hts⟩ (r_X7_emit l dC dI L kd tys fr_749 H.size g.2.2.2.1 q3_ mq3_ kq3_ x_810 x_811) (cwV 2 hts (gV_ t_1301 t_1204 t_1205 t_191 t_1206) rfl rfl rfl (by decide +kernel) ⟨(Nat.le_of_ble_eq_true rfl), (Nat.le_of_ble_eq_true rfl)⟩) (pre3V g hK mq3_ kq3_ (by decide) (q := (RX7, TX7, 19)) rfl) rfl rfl hl.1 rfl (lv_room (Nat.le_of_ble_eq_true rfl)) dX2_readArguments_211 ⟨(Nat.le_of_ble_eq_true rfl), (Nat.le_of_ble_eq_true rfl)⟩) g hK (by decide) (by decide) (fx' := [(2, 13, a0_, .int x_811), (2, 12, a0_, .int x_810), (8, 6, q0_, .int 1201), (8, 8, q0_, .int x_755), (2, 14, a0_, .int x_13), (2, 0, a0_, .ref q0_), (2, 1, a0_, .ref q1_), (2, 2, a0_, .ref q2_), (2, 3, a0_, .ref q3_), (0, 0, q2_, .ref q0_), (0, 1, q2_, .ref q1_), (5, 0, q1_, .ref q6_), (5, 1, q1_, .ref q7_)]) rfl (fun fr_812 H locs hp hMr_812 g => ?_)
                      obtain ⟨x_813, h_814, hF_815⟩ := hp
                      have hG_816 := eOK.frame hMr_812 go_.2.2.2.1 mq2_ kq2_ (by decide) (by decide) hG_807
                      have g := g.more hF_815
                      refine lv_aload_n hx hb dX2_readArguments_214 rfl (lv_at hl 4 rfl) ?_
                      refine g_getk (C := RX2) (T := TX2) (N := 16) hx hb hts (mc_ inX2) hown hK g rfl 3 (by decide) rfl (hts _ (List.mem_cons_of_mem _ t_419)) (fun _ h9 => h9) 9 rfl dX2_readArguments_215 ?_
                      refine lv_bipush (v := 22) hx hb dX2_readArguments_218 (by decide) ?_
                      refine lv_iconst (v := 0) hx hb dX2_readArguments_220 (by decide) ?_
                      have go_ := g
                      refine g_callv (va_runV (As := [.int 22, .int 0]) (rest := []) ⟨hx, hb, hml, hown, hts⟩ (r_X7_emit l dC dI L kd tys fr_812 H.size g.2.2.2.1 q3_ mq3_ kq3_ 22 0) (cwV 2 hts (gV_ t_1301 t_1204 t_1205 t_191 t_1206) rfl rfl rfl (by decide +kernel) ⟨(Nat.le_of_ble_eq_true rfl), (Nat.le_of_ble_eq_true rfl)⟩) (pre3V g hK mq3_ kq3_ (by decide) (q := (RX7, TX7, 19)) rfl) rfl rfl hl.1 rfl (lv_room (Nat.le_of_ble_eq_true rfl)) dX2_readArguments_221 ⟨(Nat.le_of_ble_eq_true rfl), (Nat.le_of_ble_eq_true rfl)⟩) g hK (by decide) (by decide) (fx' := [(2, 13, a0_, .int x_811), (2, 12, a0_, .int x_810), (8, 6, q0_, .int 1201), (8, 8, q0_, .int x_755), (2, 14, a0_, .int x_13), (2, 0, a0_, .ref q0_), (2, 1, a0_, .ref q1_), (2, 2, a0_, .ref q2_), (2, 3, a0_, .ref q3_), (0, 0, q2_, .ref q0_), (0, 1, q2_, .ref q1_), (5, 0, q1_, .ref q6_), (5, 1, q1_, .ref q7_)]) rfl (fun fr_817 H locs hp hMr_817 g => ?_)
                      obtain ⟨x_818, h_819, hF_820⟩ := hp
                      have hG_821 := eOK.frame hMr_817 go_.2.2.2.1 mq2_ kq2_ (by decide) (by decide) hG_816
                      have g := g.more hF_820
                      refine lv_aload_n hx hb dX2_readArguments_224 rfl (lv_at hl 4 rfl) ?_
                      refine g_getk (C := RX2) (T := TX2) (N := 16) hx hb hts (mc_ inX2) hown hK g rfl 0 (by decide) rfl (hts _ (List.mem_cons_of_mem _ t_416)) (fun _ h9 => h9) 6 rfl dX2_readArguments_225 ?_
                      refine lv_bipush (v := 59) hx hb dX2_readArguments_228 (by decide) ?_
                      have kb_1201 : bd 1201 1201 (1201 : Int32) := ⟨by decide, by decide⟩
                      have go_ := g
                      refine g_callv (va_runV (As := [.int 59]) (rest := []) ⟨hx, hb, hml, hown, hts⟩ (r_X8_take_2 l dC dI L kd tys fr_817 H.size g.2.2.2.1 q0_ mq0_ kq0_ 59 1201 kb_1201 x_755 h_756 (g.fcts [3, 4] rfl)) (cwV 1 hts (gV_ t_1098 t_1099 t_1100 t_184 t_1101) rfl rfl rfl (by decide +kernel) ⟨(Nat.le_of_ble_eq_true rfl), (Nat.le_of_ble_eq_true rfl)⟩) (pre3V g hK mq0_ kq0_ (by decide) (q := (RX8, TX8, 10)) rfl) rfl rfl hl.1 rfl (lv_room (Nat.le_of_ble_eq_true rfl)) dX2_readArguments_230 ⟨(Nat.le_of_ble_eq_true rfl), (Nat.le_of_ble_eq_true rfl)⟩) g hK (by decide) (by decide) (fx' := [(7, 6, q3_, .int x_818), (2, 13, a0_, .int x_811), (2, 12, a0_, .int x_810), (8, 8, q0_, .int x_755), (2, 14, a0_, .int x_13), (2, 0, a0_, .ref q0_), (2, 1, a0_, .ref q1_), (2, 2, a0_, .ref q2_), (2, 3, a0_, .ref q3_), (0, 0, q2_, .ref q0_), (0, 1, q2_, .ref q1_), (5, 0, q1_, .ref q6_), (5, 1, q1_, .ref q7_)]) rfl (fun fr_822 H locs hp hMr_822 g => ?_)
                      obtain ⟨x_823, h_824, hF_825⟩ := hp
                      have hG_826 := eOK.frame hMr_822 go_.2.2.2.1 mq2_ kq2_ (by decide) (by decide) hG_821
                      have g := g.more hF_825
                      subst hQ
                      exact W.vret hx hb hr (fun t ht hW => ⟨⟨_, rfl, Or.inr (⟨hG_826, x_823, h_824, x_755, h_756, x_818, h_819, (g.fcts [0, 4, 1] rfl)⟩), q3_of g hK ht hW⟩, g.2.2.1.F ht⟩) g.2.2.1.2.2 dX2_readArguments_233
                    · have fc_808 := nle_f c_808
                      have b_827 : bd (-2147483648) (-1) v69_2 := ltL fc_808 (bdT v69_2) b_574 (by decide)
                      refine lv_aload_n hx hb dX2_readArguments_188 rfl (lv_at hl 4 rfl) ?_
                      refine g_getk (C := RX2) (T := TX2) (N := 16) hx hb hts (mc_ inX2) hown hK g rfl 0 (by decide) rfl (hts _ (List.mem_cons_of_mem _ t_416)) (fun _ h9 => h9) 3 rfl dX2_readArguments_189 ?_
                      refine lv_bipush (v := 6) hx hb dX2_readArguments_192 (by decide) ?_
                      refine lv_iload hx hb dX2_readArguments_194 (lv_at hl 0 rfl) ?_
                      have kb_6 : bd 6 6 (6 : Int32) := ⟨by decide, by decide⟩
                      have go_ := g
                      refine g_callv (va_runV (As := [.int 6, .int r_747]) (rest := []) ⟨hx, hb, hml, hown, hts⟩ (r_X8_fail_2 l dC dI L kd tys fr_749 H.size g.2.2.2.1 q0_ mq0_ kq0_ 6 (bd_sub kb_6 (by decide)) r_747 x_755 h_756 (g.fcts [1] rfl)) (cwV 2 hts (gV_ t_1122 t_1107 t_1108 t_184 t_1109) rfl rfl rfl (by decide +kernel) ⟨(Nat.le_of_ble_eq_true rfl), (Nat.le_of_ble_eq_true rfl)⟩) (pre3V g hK mq0_ kq0_ (by decide) (q := (RX8, TX8, 10)) rfl) rfl rfl hl.1 rfl (lv_room (Nat.le_of_ble_eq_true rfl)) dX2_readArguments_196 ⟨(Nat.le_of_ble_eq_true rfl), (Nat.le_of_ble_eq_true rfl)⟩) g hK (by decide) (by decide) (fx' := [(8, 8, q0_, .int x_755), (2, 14, a0_, .int x_13), (2, 0, a0_, .ref q0_), (2, 1, a0_, .ref q1_), (2, 2, a0_, .ref q2_), (2, 3, a0_, .ref q3_), (0, 0, q2_, .ref q0_), (0, 1, q2_, .ref q1_), (5, 0, q1_, .ref q6_), (5, 1, q1_, .ref q7_)]) rfl (fun fr_828 H locs hp hMr_828 g => ?_)
                      have hF_829 := hp
                      have hG_830 := eOK.frame hMr_828 go_.2.2.2.1 mq2_ kq2_ (by decide) (by decide) hG_807
                      have g := g.more hF_829
                      refine lv_aload_n hx hb dX2_readArguments_199 rfl (lv_at hl 4 rfl) ?_
                      refine g_getk (C := RX2) (T := TX2) (N := 16) hx hb hts (mc_ inX2) hown hK g rfl 3 (by decide) rfl (hts _ (List.mem_cons_of_mem _ t_419)) (fun _ h9 => h9) 6 rfl dX2_readArguments_200 ?_
                      refine lv_aload_n hx hb dX2_readArguments_203 rfl (lv_at hl 4 rfl) ?_
                      refine g_geti (C := RX2) (T := TX2) (N := 16) hx hb hts (mc_ inX2) hown hK g ma0_ ka0_ (by decide) rfl 12 (by decide) rfl (hts _ (List.mem_cons_of_mem _ t_428)) (fun _ h9 => h9) rfl dX2_readArguments_204 (fun x_831 bx_831 g => ?_)
                      refine lv_aload_n hx hb dX2_readArguments_207 rfl (lv_at hl 4 rfl) ?_
                      refine g_geti (C := RX2) (T := TX2) (N := 16) hx hb hts (mc_ inX2) hown hK g ma0_ ka0_ (by decide) rfl 13 (by decide) rfl (hts _ (List.mem_cons_of_mem _ t_429)) (fun _ h9 => h9) rfl dX2_readArguments_208 (fun x_832 bx_832 g => ?_)
                      have go_ := g
                      refine g_callv (va_runV (As := [.int x_831, .int x_832]) (rest := []) ⟨hx, hb, hml, hown, hts⟩ (r_X7_emit l dC dI L kd tys fr_828 H.size g.2.2.2.1 q3_ mq3_ kq3_ x_831 x_832) (cwV 2 hts (gV_ t_1301 t_1204 t_1205 t_191 t_1206) rfl rfl rfl (by decide +kernel) ⟨(Nat.le_of_ble_eq_true rfl), (Nat.le_of_ble_eq_true rfl)⟩) (pre3V g hK mq3_ kq3_ (by decide) (q := (RX7, TX7, 19)) rfl) rfl rfl hl.1 rfl (lv_room (Nat.le_of_ble_eq_true rfl)) dX2_readArguments_211 ⟨(Nat.le_of_ble_eq_true rfl), (Nat.le_of_ble_eq_true rfl)⟩) g hK (by decide) (by decide) (fx' := [(2, 13, a0_, .int x_832), (2, 12, a0_, .int x_831), (8, 6, q0_, .int 1201), (8, 8, q0_, .int x_755), (2, 14, a0_, .int x_13), (2, 0, a0_, .ref q0_), (2, 1, a0_, .ref q1_), (2, 2, a0_, .ref q2_), (2, 3, a0_, .ref q3_), (0, 0, q2_, .ref q0_), (0, 1, q2_, .ref q1_), (5, 0, q1_, .ref q6_), (5, 1, q1_, .ref q7_)]) rfl (fun fr_833 H locs hp hMr_833 g => ?_)
                      obtain ⟨x_834, h_835, hF_836⟩ := hp
                      have hG_837 := eOK.frame hMr_833 go_.2.2.2.1 mq2_ kq2_ (by decide) (by decide) hG_830
                      have g := g.more hF_836
                      refine lv_aload_n hx hb dX2_readArguments_214 rfl (lv_at hl 4 rfl) ?_
                      refine g_getk (C := RX2) (T := TX2) (N := 16) hx hb hts (mc_ inX2) hown hK g rfl 3 (by decide) rfl (hts _ (List.mem_cons_of_mem _ t_419)) (fun _ h9 => h9) 9 rfl dX2_readArguments_215 ?_
                      refine lv_bipush (v := 22) hx hb dX2_readArguments_218 (by decide) ?_
                      refine lv_iconst (v := 0) hx hb dX2_readArguments_220 (by decide) ?_
                      have go_ := g
                      refine g_callv (va_runV (As := [.int 22, .int 0]) (rest := []) ⟨hx, hb, hml, hown, hts⟩ (r_X7_emit l dC dI L kd tys fr_833 H.size g.2.2.2.1 q3_ mq3_ kq3_ 22 0) (cwV 2 hts (gV_ t_1301 t_1204 t_1205 t_191 t_1206) rfl rfl rfl (by decide +kernel) ⟨(Nat.le_of_ble_eq_true rfl), (Nat.le_of_ble_eq_true rfl)⟩) (pre3V g hK mq3_ kq3_ (by decide) (q := (RX7, TX7, 19)) rfl) rfl rfl hl.1 rfl (lv_room (Nat.le_of_ble_eq_true rfl)) dX2_readArguments_221 ⟨(Nat.le_of_ble_eq_true rfl), (Nat.le_of_ble_eq_true rfl)⟩) g hK (by decide) (by decide) (fx' := [(2, 13, a0_, .int x_832), (2, 12, a0_, .int x_831), (8, 6, q0_, .int 1201), (8, 8, q0_, .int x_755), (2, 14, a0_, .int x_13), (2, 0, a0_, .ref q0_), (2, 1, a0_, .ref q1_), (2, 2, a0_, .ref q2_), (2, 3, a0_, .ref q3_), (0, 0, q2_, .ref q0_), (0, 1, q2_, .ref q1_), (5, 0, q1_, .ref q6_), (5, 1, q1_, .ref q7_)]) rfl (fun fr_838 H locs hp hMr_838 g => ?_)
                      obtain ⟨x_839, h_840, hF_841⟩ := hp
                      have hG_842 := eOK.frame hMr_838 go_.2.2.2.1 mq2_ kq2_ (by decide) (by decide) hG_837
                      have g := g.more hF_841
                      refine lv_aload_n hx hb dX2_readArguments_224 rfl (lv_at hl 4 rfl) ?_
                      refine g_getk (C := RX2) (T := TX2) (N := 16) hx hb hts (mc_ inX2) hown hK g rfl 0 (by decide) rfl (hts _ (List.mem_cons_of_mem _ t_416)) (fun _ h9 => h9) 6 rfl dX2_readArguments_225 ?_
                      refine lv_bipush (v := 59) hx hb dX2_readArguments_228 (by decide) ?_
                      have kb_1201 : bd 1201 1201 (1201 : Int32) := ⟨by decide, by decide⟩
                      have go_ := g
                      refine g_callv (va_runV (As := [.int 59]) (rest := []) ⟨hx, hb, hml, hown, hts⟩ (r_X8_take_2 l dC dI L kd tys fr_838 H.size g.2.2.2.1 q0_ mq0_ kq0_ 59 1201 kb_1201 x_755 h_756 (g.fcts [3, 4] rfl)) (cwV 1 hts (gV_ t_1098 t_1099 t_1100 t_184 t_1101) rfl rfl rfl (by decide +kernel) ⟨(Nat.le_of_ble_eq_true rfl), (Nat.le_of_ble_eq_true rfl)⟩) (pre3V g hK mq0_ kq0_ (by decide) (q := (RX8, TX8, 10)) rfl) rfl rfl hl.1 rfl (lv_room (Nat.le_of_ble_eq_true rfl)) dX2_readArguments_230 ⟨(Nat.le_of_ble_eq_true rfl), (Nat.le_of_ble_eq_true rfl)⟩) g hK (by decide) (by decide) (fx' := [(7, 6, q3_, .int x_839), (2, 13, a0_, .int x_832), (2, 12, a0_, .int x_831), (8, 8, q0_, .int x_755), (2, 14, a0_, .int x_13), (2, 0, a0_, .ref q0_), (2, 1, a0_, .ref q1_), (2, 2, a0_, .ref q2_), (2, 3, a0_, .ref q3_), (0, 0, q2_, .ref q0_), (0, 1, q2_, .ref q1_), (5, 0, q1_, .ref q6_), (5, 1, q1_, .ref q7_)]) rfl (fun fr_843 H locs hp hMr_843 g => ?_)
                      obtain ⟨x_844, h_845, hF_846⟩ := hp
                      have hG_847 := eOK.frame hMr_843 go_.2.2.2.1 mq2_ kq2_ (by decide) (by decide) hG_842
                      have g := g.more hF_846
                      subst hQ
                      exact W.vret hx hb hr (fun t ht hW => ⟨⟨_, rfl, Or.inr (⟨hG_847, x_844, h_845, x_755, h_756, x_839, h_840, (g.fcts [0, 4, 1] rfl)⟩), q3_of g hK ht hW⟩, g.2.2.1.F ht⟩) g.2.2.1.2.2 dX2_readArguments_233
                · have fc_745 := neq_f c_745
                  have b_848 : bd 1 1 v69_3 := neX fc_745 bv69_3 kb_0 (by decide)
                  refine lv_aload_n hx hb dX2_readArguments_79 rfl (lv_at hl 4 rfl) ?_
                  refine g_getk (C := RX2) (T := TX2) (N := 16) hx hb hts (mc_ inX2) hown hK g rfl 0 (by decide) rfl (hts _ (List.mem_cons_of_mem _ t_416)) (fun _ h9 => h9) 2 rfl dX2_readArguments_80 ?_
                  refine g_getk (C := RX8) (T := TX8) (N := 10) hx hb hts (mc_ inX8) hown hK g rfl 8 (by decide) rfl (hts _ (List.mem_cons_of_mem _ t_294)) (fun _ h9 => h9) 1 rfl dX2_readArguments_83 ?_
                  refine lv_if_ne (tgt := 162) hx hb dX2_readArguments_86 (by decide) (fun c_849 => ?_) (fun c_849 => ?_)
                  · have fc_849 := neq_f c_849
                    have b_850 : bd 1 (-1) w69_8_8_q0_ := neX fc_849 bw69_8_8_q0_ kb_0 (by decide)
                    exact bd_no b_850 (by decide)
                  · have fc_849 := eq_f c_849
                    refine lv_aload_n hx hb dX2_readArguments_89 rfl (lv_at hl 4 rfl) ?_
                    refine g_getk (C := RX2) (T := TX2) (N := 16) hx hb hts (mc_ inX2) hown hK g rfl 2 (by decide) rfl (hts _ (List.mem_cons_of_mem _ t_418)) (fun _ h9 => h9) 4 rfl dX2_readArguments_90 ?_
                    have go_ := g
                    refine g_callv (va_runV (As := []) (rest := []) ⟨hx, hb, hml, hown, hts⟩ (r_X0_read l dC dI L kd tys f H.size g.2.2.2.1 q2_ mq2_ kq2_ q0_ mq0_ kq0_ q1_ mq1_ kq1_ q6_ mq6_ kq6_ q7_ mq7_ kq7_ w69_8_8_q0_ bw69_8_8_q0_ hG69_e_q2_ (g.fcts [6, 7, 8, 9, 1] rfl)) (cwV 0 hts (gV_ t_1182 t_1183 t_1184 t_190 t_1185) rfl rfl rfl (by decide +kernel) ⟨(Nat.le_of_ble_eq_true rfl), (Nat.le_of_ble_eq_true rfl)⟩) (pre3V g hK mq2_ kq2_ (by decide) (q := (RX0, TX0, 14)) rfl) rfl rfl hl.1 rfl (lv_room (Nat.le_of_ble_eq_true rfl)) dX2_readArguments_93 ⟨(Nat.le_of_ble_eq_true rfl), (Nat.le_of_ble_eq_true rfl)⟩) g hK (by decide) (by decide) (fx' := [(2, 14, a0_, .int x_13), (2, 0, a0_, .ref q0_), (2, 1, a0_, .ref q1_), (2, 2, a0_, .ref q2_), (2, 3, a0_, .ref q3_), (0, 0, q2_, .ref q0_), (0, 1, q2_, .ref q1_), (5, 0, q1_, .ref q6_), (5, 1, q1_, .ref q7_)]) rfl (fun fr_851 H locs hp hMr_851 g => ?_)
                    rcases hp with ⟨hG_852, x_853, h_854, hF_855⟩ | ⟨hG_856, x_857, h_858, x_859, h_860, hF_861⟩
                    · have g := g.more hF_855
                      have kb_1 : bd 1 1 (1 : Int32) := ⟨by decide, by decide⟩
                      obtain ⟨y_862, ey_862⟩ : ∃ z : Int32, z = v69_2 + 1 := ⟨_, rfl⟩
                      refine lv_iinc (v := y_862) (lv' := [(2, .int y_862), (4, .int v69_4), (3, .int v69_3), (1, .int r_1), (0, .ref a0_)]) hx hb dX2_readArguments_96 hl (k := 2) rfl (by rw [ey_862]; rfl) (by decide) rfl (fun ls hl => ?_)
                      refine lv_aload_n hx hb dX2_readArguments_99 rfl (lv_at hl 4 rfl) ?_
                      refine g_getk (C := RX2) (T := TX2) (N := 16) hx hb hts (mc_ inX2) hown hK g rfl 0 (by decide) rfl (hts _ (List.mem_cons_of_mem _ t_416)) (fun _ h9 => h9) 3 rfl dX2_readArguments_100 ?_
                      have go_ := g
                      refine g_calli (va_runV (As := []) (rest := []) ⟨hx, hb, hml, hown, hts⟩ (r_X8_kind l dC dI L kd tys fr_851 H.size g.2.2.2.1 q0_ mq0_ kq0_) (cwV 0 hts (gV_ t_1118 t_1119 t_1120 t_184 t_1121) rfl rfl rfl (by decide +kernel) ⟨(Nat.le_of_ble_eq_true rfl), (Nat.le_of_ble_eq_true rfl)⟩) (pre3V g hK mq0_ kq0_ (by decide) (q := (RX8, TX8, 10)) rfl) rfl rfl hl.1 rfl (lv_room (Nat.le_of_ble_eq_true rfl)) dX2_readArguments_103 ⟨(Nat.le_of_ble_eq_true rfl), (Nat.le_of_ble_eq_true rfl)⟩) g hK (by decide) (by decide) (fx' := [(0, 2, q2_, .ref q6_), (8, 8, q0_, .int x_853), (2, 14, a0_, .int x_13), (2, 0, a0_, .ref q0_), (2, 1, a0_, .ref q1_), (2, 2, a0_, .ref q2_), (2, 3, a0_, .ref q3_), (0, 0, q2_, .ref q0_), (0, 1, q2_, .ref q1_), (5, 0, q1_, .ref q6_), (5, 1, q1_, .ref q7_)]) rfl (fun r_863 fr_863 H locs hp hMr_863 g => ?_)
                      have hG_864 := eOK.frame hMr_863 go_.2.2.2.1 mq2_ kq2_ (by decide) (by decide) hG_852
                      refine lv_bipush (v := 44) hx hb dX2_readArguments_106 (by decide) ?_
                      have kb_44 : bd 44 44 (44 : Int32) := ⟨by decide, by decide⟩
                      refine lv_icmp_ne (tgt := 115) hx hb dX2_readArguments_108 (by decide) (fun c_865 => ?_) (fun c_865 => ?_)
                      · have fc_865 := neq_f c_865
                        refine lv_iconst (v := 0) hx hb dX2_readArguments_115 (by decide) ?_
                        refine lv_istore_n (lv' := [(3, .int 0), (2, .int y_862), (4, .int v69_4), (1, .int r_1), (0, .ref a0_)]) hx hb dX2_readArguments_116 rfl hl (by decide) rfl (fun ls hl => ?_)
                        refine lv_iload_n hx hb dX2_readArguments_117 rfl (lv_at hl 0 rfl) ?_
                        refine lv_if_eq (tgt := 156) hx hb dX2_readArguments_118 (by decide) (fun c_ => ?_) (fun c_ => absurd (by decide) c_)
                        obtain ⟨y_866, ey_866⟩ : ∃ z : Int32, z = v69_4 + 1 := ⟨_, rfl⟩
                        refine lv_iinc (v := y_866) (lv' := [(4, .int y_866), (3, .int 0), (2, .int y_862), (1, .int r_1), (0, .ref a0_)]) hx hb dX2_readArguments_156 hl (k := 2) rfl (by rw [ey_866]; rfl) (by decide) rfl (fun ls hl => ?_)
                        have ty_866 := add_bd ey_866 b_744 kb_1 (by decide)
                        have b_867 : bd 1 4 y_866 := add_rg ty_866 b_744 kb_1 (by decide)
                        refine lv_goto (tgt := 69) hx hb dX2_readArguments_159 (by decide) ?_
                        have hl9 := lv_sub hl [0, 1, 2, 3, 4] (by rfl : lv_pick [(4, .int y_866), (3, .int 0), (2, .int y_862), (1, .int r_1), (0, .ref a0_)] [0, 1, 2, 3, 4] = [(4, .int y_866), (3, .int 0), (2, .int y_862), (1, .int r_1), (0, .ref a0_)])
                        have g9 := g.sub (fx' := [(2, 14, a0_, .int x_13), (8, 8, q0_, .int x_853), (2, 0, a0_, .ref q0_), (2, 1, a0_, .ref q1_), (2, 2, a0_, .ref q2_), (2, 3, a0_, .ref q3_), (0, 0, q2_, .ref q0_), (0, 1, q2_, .ref q1_), (5, 0, q1_, .ref q6_), (5, 1, q1_, .ref q7_)]) [2, 1, 3, 4, 5, 6, 7, 8, 9, 10] rfl
                        exact ih69  y_866 0 y_862 x_853 (bd_sub b_867 (by decide)) (bd_sub kb_0 (by decide)) h_854 (by have h9_0 := b_867; unfold bd at h9_0; have h9_1 := bdT v69_2; unfold bd at h9_1; have h9_2 := bdT y_862; unfold bd at h9_2; have h9_3 := bv69_3; unfold bd at h9_3; have h9_4 := bv69_4; unfold bd at h9_4; have h9_5 := bw69_8_8_q0_; unfold bd at h9_5; have h9_6 := h_854; unfold bd at h9_6; have h9_7 := kb_0; unfold bd at h9_7; have h9_8 := kb_1; unfold bd at h9_8; have h9_9 := kb_3; unfold bd at h9_9; have h9_10 := kb_41; unfold bd at h9_10; have h9_11 := kb_44; unfold bd at h9_11; omega) _ _ _ _ g9 hG_864 hl9
                      · have fc_865 := eq_f c_865
                        have b_868 : bd 44 44 r_863 := eqX fc_865 (bdT r_863) kb_44 (by decide)
                        refine lv_iconst (v := 1) hx hb dX2_readArguments_111 (by decide) ?_
                        refine lv_goto (tgt := 116) hx hb dX2_readArguments_112 (by decide) ?_
                        refine lv_istore_n (lv' := [(3, .int 1), (2, .int y_862), (4, .int v69_4), (1, .int r_1), (0, .ref a0_)]) hx hb dX2_readArguments_116 rfl hl (by decide) rfl (fun ls hl => ?_)
                        refine lv_iload_n hx hb dX2_readArguments_117 rfl (lv_at hl 0 rfl) ?_
                        refine lv_if_eq (tgt := 156) hx hb dX2_readArguments_118 (by decide) (fun c_ => absurd c_ (by decide)) (fun c_ => ?_)
                        refine lv_aload_n hx hb dX2_readArguments_121 rfl (lv_at hl 4 rfl) ?_
                        refine g_getk (C := RX2) (T := TX2) (N := 16) hx hb hts (mc_ inX2) hown hK g rfl 0 (by decide) rfl (hts _ (List.mem_cons_of_mem _ t_416)) (fun _ h9 => h9) 3 rfl dX2_readArguments_122 ?_
                        have go_ := g
                        refine g_calli (va_runV (As := []) (rest := []) ⟨hx, hb, hml, hown, hts⟩ (r_X8_place l dC dI L kd tys fr_863 H.size g.2.2.2.1 q0_ mq0_ kq0_) (cwV 0 hts (gV_ t_1110 t_1111 t_1112 t_184 t_1113) rfl rfl rfl (by decide +kernel) ⟨(Nat.le_of_ble_eq_true rfl), (Nat.le_of_ble_eq_true rfl)⟩) (pre3V g hK mq0_ kq0_ (by decide) (q := (RX8, TX8, 10)) rfl) rfl rfl hl.1 rfl (lv_room (Nat.le_of_ble_eq_true rfl)) dX2_readArguments_125 ⟨(Nat.le_of_ble_eq_true rfl), (Nat.le_of_ble_eq_true rfl)⟩) g hK (by decide) (by decide) (fx' := [(0, 2, q2_, .ref q6_), (8, 8, q0_, .int x_853), (2, 14, a0_, .int x_13), (2, 0, a0_, .ref q0_), (2, 1, a0_, .ref q1_), (2, 2, a0_, .ref q2_), (2, 3, a0_, .ref q3_), (0, 0, q2_, .ref q0_), (0, 1, q2_, .ref q1_), (5, 0, q1_, .ref q6_), (5, 1, q1_, .ref q7_)]) rfl (fun r_869 fr_869 H locs hp hMr_869 g => ?_)
                        have hG_870 := eOK.frame hMr_869 go_.2.2.2.1 mq2_ kq2_ (by decide) (by decide) hG_864
                        refine lv_istore (lv' := [(5, .int r_869), (3, .int 1), (2, .int y_862), (4, .int v69_4), (1, .int r_1), (0, .ref a0_)]) hx hb dX2_readArguments_128 hl (by decide) rfl (fun ls hl => ?_)
                        refine lv_aload_n hx hb dX2_readArguments_130 rfl (lv_at hl 5 rfl) ?_
                        refine g_getk (C := RX2) (T := TX2) (N := 16) hx hb hts (mc_ inX2) hown hK g rfl 0 (by decide) rfl (hts _ (List.mem_cons_of_mem _ t_416)) (fun _ h9 => h9) 3 rfl dX2_readArguments_131 ?_
                        have go_ := g
                        refine g_callv (va_runV (As := []) (rest := []) ⟨hx, hb, hml, hown, hts⟩ (r_X8_next l dC dI L kd tys fr_869 H.size g.2.2.2.1 q0_ mq0_ kq0_) (cwV 0 hts (gV_ t_1131 t_1103 t_1104 t_184 t_1105) rfl rfl rfl (by decide +kernel) ⟨(Nat.le_of_ble_eq_true rfl), (Nat.le_of_ble_eq_true rfl)⟩) (pre3V g hK mq0_ kq0_ (by decide) (q := (RX8, TX8, 10)) rfl) rfl rfl hl.1 rfl (lv_room (Nat.le_of_ble_eq_true rfl)) dX2_readArguments_134 ⟨(Nat.le_of_ble_eq_true rfl), (Nat.le_of_ble_eq_true rfl)⟩) g hK (by decide) (by decide) (fx' := [(0, 2, q2_, .ref q6_), (8, 8, q0_, .int x_853), (2, 14, a0_, .int x_13), (2, 0, a0_, .ref q0_), (2, 1, a0_, .ref q1_), (2, 2, a0_, .ref q2_), (2, 3, a0_, .ref q3_), (0, 0, q2_, .ref q0_), (0, 1, q2_, .ref q1_), (5, 0, q1_, .ref q6_), (5, 1, q1_, .ref q7_)]) rfl (fun fr_871 H locs hp hMr_871 g => ?_)
                        obtain ⟨x_872, h_873, hF_874⟩ := hp
                        have hG_875 := eOK.frame hMr_871 go_.2.2.2.1 mq2_ kq2_ (by decide) (by decide) hG_870
                        have g := g.more hF_874
                        refine lv_iload_n hx hb dX2_readArguments_137 rfl (lv_at hl 2 rfl) ?_
                        refine lv_aload_n hx hb dX2_readArguments_138 rfl (lv_at hl 5 rfl) ?_
                        refine g_getk (C := RX2) (T := TX2) (N := 16) hx hb hts (mc_ inX2) hown hK g rfl 14 (by decide) rfl (hts _ (List.mem_cons_of_mem _ t_430)) (fun _ h9 => h9) 3 rfl dX2_readArguments_139 ?_
                        refine lv_icmp_lt (tgt := 156) hx hb dX2_readArguments_142 (by decide) (fun c_876 => ?_) (fun c_876 => ?_)
                        · have fc_876 := lt_f c_876
                          have b_877 : bd (-2147483648) (-1) y_862 := ltL fc_876 (bdT y_862) b_574 (by decide)
                          obtain ⟨y_878, ey_878⟩ : ∃ z : Int32, z = v69_4 + 1 := ⟨_, rfl⟩
                          refine lv_iinc (v := y_878) (lv' := [(4, .int y_878), (5, .int r_869), (3, .int 1), (2, .int y_862), (1, .int r_1), (0, .ref a0_)]) hx hb dX2_readArguments_156 hl (k := 3) rfl (by rw [ey_878]; rfl) (by decide) rfl (fun ls hl => ?_)
                          have ty_878 := add_bd ey_878 b_744 kb_1 (by decide)
                          have b_879 : bd 1 4 y_878 := add_rg ty_878 b_744 kb_1 (by decide)
                          refine lv_goto (tgt := 69) hx hb dX2_readArguments_159 (by decide) ?_
                          have hl9 := lv_sub hl [0, 2, 3, 4, 5] (by rfl : lv_pick [(4, .int y_878), (5, .int r_869), (3, .int 1), (2, .int y_862), (1, .int r_1), (0, .ref a0_)] [0, 2, 3, 4, 5] = [(4, .int y_878), (3, .int 1), (2, .int y_862), (1, .int r_1), (0, .ref a0_)])
                          have g9 := g.sub (fx' := [(2, 14, a0_, .int x_13), (8, 8, q0_, .int x_853), (2, 0, a0_, .ref q0_), (2, 1, a0_, .ref q1_), (2, 2, a0_, .ref q2_), (2, 3, a0_, .ref q3_), (0, 0, q2_, .ref q0_), (0, 1, q2_, .ref q1_), (5, 0, q1_, .ref q6_), (5, 1, q1_, .ref q7_)]) [3, 2, 4, 5, 6, 7, 8, 9, 10, 11] rfl
                          exact ih69  y_878 1 y_862 x_853 (bd_sub b_879 (by decide)) (bd_sub kb_1 (by decide)) h_854 (by have h9_0 := b_877; unfold bd at h9_0; have h9_1 := b_879; unfold bd at h9_1; have h9_2 := bdT v69_2; unfold bd at h9_2; have h9_3 := bv69_3; unfold bd at h9_3; have h9_4 := bv69_4; unfold bd at h9_4; have h9_5 := bw69_8_8_q0_; unfold bd at h9_5; have h9_6 := h_854; unfold bd at h9_6; have h9_7 := kb_0; unfold bd at h9_7; have h9_8 := kb_1; unfold bd at h9_8; have h9_9 := kb_3; unfold bd at h9_9; have h9_10 := kb_41; unfold bd at h9_10; have h9_11 := kb_44; unfold bd at h9_11; omega) _ _ _ _ g9 hG_875 hl9
                        · have fc_876 := nlt_f c_876
                          have b_880 : bd 0 2147483647 y_862 := leR fc_876 b_574 (bdT y_862) (by decide)
                          refine lv_aload_n hx hb dX2_readArguments_145 rfl (lv_at hl 5 rfl) ?_
                          refine g_getk (C := RX2) (T := TX2) (N := 16) hx hb hts (mc_ inX2) hown hK g rfl 0 (by decide) rfl (hts _ (List.mem_cons_of_mem _ t_416)) (fun _ h9 => h9) 4 rfl dX2_readArguments_146 ?_
                          refine lv_bipush (v := 6) hx hb dX2_readArguments_149 (by decide) ?_
                          refine lv_iload hx hb dX2_readArguments_151 (lv_at hl 0 rfl) ?_
                          have kb_6 : bd 6 6 (6 : Int32) := ⟨by decide, by decide⟩
                          have go_ := g
                          refine g_callv (va_runV (As := [.int 6, .int r_869]) (rest := []) ⟨hx, hb, hml, hown, hts⟩ (r_X8_fail l dC dI L kd tys fr_871 H.size g.2.2.2.1 q0_ mq0_ kq0_ 6 (bd_sub kb_6 (by decide)) r_869 x_853 h_854 (g.fcts [2] rfl)) (cwV 2 hts (gV_ t_1122 t_1107 t_1108 t_184 t_1109) rfl rfl rfl (by decide +kernel) ⟨(Nat.le_of_ble_eq_true rfl), (Nat.le_of_ble_eq_true rfl)⟩) (pre3V g hK mq0_ kq0_ (by decide) (q := (RX8, TX8, 10)) rfl) rfl rfl hl.1 rfl (lv_room (Nat.le_of_ble_eq_true rfl)) dX2_readArguments_153 ⟨(Nat.le_of_ble_eq_true rfl), (Nat.le_of_ble_eq_true rfl)⟩) g hK (by decide) (by decide) (fx' := [(0, 2, q2_, .ref q6_), (2, 14, a0_, .int x_13), (2, 0, a0_, .ref q0_), (2, 1, a0_, .ref q1_), (2, 2, a0_, .ref q2_), (2, 3, a0_, .ref q3_), (0, 0, q2_, .ref q0_), (0, 1, q2_, .ref q1_), (5, 0, q1_, .ref q6_), (5, 1, q1_, .ref q7_)]) rfl (fun fr_881 H locs hp hMr_881 g => ?_)
                          obtain ⟨x_882, h_883, hF_884⟩ := hp
                          have hG_885 := eOK.frame hMr_881 go_.2.2.2.1 mq2_ kq2_ (by decide) (by decide) hG_875
                          have g := g.more hF_884
                          obtain ⟨y_886, ey_886⟩ : ∃ z : Int32, z = v69_4 + 1 := ⟨_, rfl⟩
                          refine lv_iinc (v := y_886) (lv' := [(4, .int y_886), (5, .int r_869), (3, .int 1), (2, .int y_862), (1, .int r_1), (0, .ref a0_)]) hx hb dX2_readArguments_156 hl (k := 3) rfl (by rw [ey_886]; rfl) (by decide) rfl (fun ls hl => ?_)
                          have ty_886 := add_bd ey_886 b_744 kb_1 (by decide)
                          have b_887 : bd 1 4 y_886 := add_rg ty_886 b_744 kb_1 (by decide)
                          refine lv_goto (tgt := 69) hx hb dX2_readArguments_159 (by decide) ?_
                          refine lv_iload hx hb dX2_readArguments_69 (lv_at hl 0 rfl) ?_
                          refine lv_iconst (v := 3) hx hb dX2_readArguments_71 (by decide) ?_
                          refine lv_icmp_gt (tgt := 162) hx hb dX2_readArguments_72 (by decide) (fun c_888 => ?_) (fun c_888 => ?_)
                          · have fc_888 := lt_f c_888
                            have b_889 : bd 4 4 y_886 := ltR fc_888 kb_3 b_887 (by decide)
                            have b_890 : bd 3 3 v69_4 := add_inv ty_886 b_889 b_744 kb_1 (by decide)
                            refine lv_aload_n hx hb dX2_readArguments_162 rfl (lv_at hl 5 rfl) ?_
                            refine g_getk (C := RX2) (T := TX2) (N := 16) hx hb hts (mc_ inX2) hown hK g rfl 0 (by decide) rfl (hts _ (List.mem_cons_of_mem _ t_416)) (fun _ h9 => h9) 4 rfl dX2_readArguments_163 ?_
                            have go_ := g
                            refine g_calli (va_runV (As := []) (rest := []) ⟨hx, hb, hml, hown, hts⟩ (r_X8_place l dC dI L kd tys fr_881 H.size g.2.2.2.1 q0_ mq0_ kq0_) (cwV 0 hts (gV_ t_1110 t_1111 t_1112 t_184 t_1113) rfl rfl rfl (by decide +kernel) ⟨(Nat.le_of_ble_eq_true rfl), (Nat.le_of_ble_eq_true rfl)⟩) (pre3V g hK mq0_ kq0_ (by decide) (q := (RX8, TX8, 10)) rfl) rfl rfl hl.1 rfl (lv_room (Nat.le_of_ble_eq_true rfl)) dX2_readArguments_166 ⟨(Nat.le_of_ble_eq_true rfl), (Nat.le_of_ble_eq_true rfl)⟩) g hK (by decide) (by decide) (fx' := [(8, 6, q0_, .int 1201), (8, 8, q0_, .int x_882), (0, 2, q2_, .ref q6_), (2, 14, a0_, .int x_13), (2, 0, a0_, .ref q0_), (2, 1, a0_, .ref q1_), (2, 2, a0_, .ref q2_), (2, 3, a0_, .ref q3_), (0, 0, q2_, .ref q0_), (0, 1, q2_, .ref q1_), (5, 0, q1_, .ref q6_), (5, 1, q1_, .ref q7_)]) rfl (fun r_891 fr_891 H locs hp hMr_891 g => ?_)
                            have hG_892 := eOK.frame hMr_891 go_.2.2.2.1 mq2_ kq2_ (by decide) (by decide) hG_885
                            refine lv_istore (lv' := [(4, .int r_891), (5, .int r_869), (3, .int 1), (2, .int y_862), (1, .int r_1), (0, .ref a0_)]) hx hb dX2_readArguments_169 hl (by decide) rfl (fun ls hl => ?_)
                            refine lv_aload_n hx hb dX2_readArguments_171 rfl (lv_at hl 5 rfl) ?_
                            refine g_getk (C := RX2) (T := TX2) (N := 16) hx hb hts (mc_ inX2) hown hK g rfl 0 (by decide) rfl (hts _ (List.mem_cons_of_mem _ t_416)) (fun _ h9 => h9) 4 rfl dX2_readArguments_172 ?_
                            refine lv_bipush (v := 41) hx hb dX2_readArguments_175 (by decide) ?_
                            have kb_1201 : bd 1201 1201 (1201 : Int32) := ⟨by decide, by decide⟩
                            have go_ := g
                            refine g_callv (va_runV (As := [.int 41]) (rest := []) ⟨hx, hb, hml, hown, hts⟩ (r_X8_take_2 l dC dI L kd tys fr_891 H.size g.2.2.2.1 q0_ mq0_ kq0_ 41 1201 kb_1201 x_882 h_883 (g.fcts [0, 1] rfl)) (cwV 1 hts (gV_ t_1098 t_1099 t_1100 t_184 t_1101) rfl rfl rfl (by decide +kernel) ⟨(Nat.le_of_ble_eq_true rfl), (Nat.le_of_ble_eq_true rfl)⟩) (pre3V g hK mq0_ kq0_ (by decide) (q := (RX8, TX8, 10)) rfl) rfl rfl hl.1 rfl (lv_room (Nat.le_of_ble_eq_true rfl)) dX2_readArguments_177 ⟨(Nat.le_of_ble_eq_true rfl), (Nat.le_of_ble_eq_true rfl)⟩) g hK (by decide) (by decide) (fx' := [(8, 8, q0_, .int x_882), (0, 2, q2_, .ref q6_), (2, 14, a0_, .int x_13), (2, 0, a0_, .ref q0_), (2, 1, a0_, .ref q1_), (2, 2, a0_, .ref q2_), (2, 3, a0_, .ref q3_), (0, 0, q2_, .ref q0_), (0, 1, q2_, .ref q1_), (5, 0, q1_, .ref q6_), (5, 1, q1_, .ref q7_)]) rfl (fun fr_893 H locs hp hMr_893 g => ?_)
                            obtain ⟨x_894, h_895, hF_896⟩ := hp
                            have hG_897 := eOK.frame hMr_893 go_.2.2.2.1 mq2_ kq2_ (by decide) (by decide) hG_892
                            have g := g.more hF_896
                            refine lv_iload_n hx hb dX2_readArguments_180 rfl (lv_at hl 3 rfl) ?_
                            refine lv_aload_n hx hb dX2_readArguments_181 rfl (lv_at hl 5 rfl) ?_
                            refine g_getk (C := RX2) (T := TX2) (N := 16) hx hb hts (mc_ inX2) hown hK g rfl 14 (by decide) rfl (hts _ (List.mem_cons_of_mem _ t_430)) (fun _ h9 => h9) 3 rfl dX2_readArguments_182 ?_
                            refine lv_icmp_ge (tgt := 199) hx hb dX2_readArguments_185 (by decide) (fun c_898 => ?_) (fun c_898 => ?_)
                            · have fc_898 := le_f c_898
                              refine lv_aload_n hx hb dX2_readArguments_199 rfl (lv_at hl 5 rfl) ?_
                              refine g_getk (C := RX2) (T := TX2) (N := 16) hx hb hts (mc_ inX2) hown hK g rfl 3 (by decide) rfl (hts _ (List.mem_cons_of_mem _ t_419)) (fun _ h9 => h9) 7 rfl dX2_readArguments_200 ?_
                              refine lv_aload_n hx hb dX2_readArguments_203 rfl (lv_at hl 5 rfl) ?_
                              refine g_geti (C := RX2) (T := TX2) (N := 16) hx hb hts (mc_ inX2) hown hK g ma0_ ka0_ (by decide) rfl 12 (by decide) rfl (hts _ (List.mem_cons_of_mem _ t_428)) (fun _ h9 => h9) rfl dX2_readArguments_204 (fun x_899 bx_899 g => ?_)
                              refine lv_aload_n hx hb dX2_readArguments_207 rfl (lv_at hl 5 rfl) ?_
                              refine g_geti (C := RX2) (T := TX2) (N := 16) hx hb hts (mc_ inX2) hown hK g ma0_ ka0_ (by decide) rfl 13 (by decide) rfl (hts _ (List.mem_cons_of_mem _ t_429)) (fun _ h9 => h9) rfl dX2_readArguments_208 (fun x_900 bx_900 g => ?_)
                              have go_ := g
                              refine g_callv (va_runV (As := [.int x_899, .int x_900]) (rest := []) ⟨hx, hb, hml, hown, hts⟩ (r_X7_emit l dC dI L kd tys fr_893 H.size g.2.2.2.1 q3_ mq3_ kq3_ x_899 x_900) (cwV 2 hts (gV_ t_1301 t_1204 t_1205 t_191 t_1206) rfl rfl rfl (by decide +kernel) ⟨(Nat.le_of_ble_eq_true rfl), (Nat.le_of_ble_eq_true rfl)⟩) (pre3V g hK mq3_ kq3_ (by decide) (q := (RX7, TX7, 19)) rfl) rfl rfl hl.1 rfl (lv_room (Nat.le_of_ble_eq_true rfl)) dX2_readArguments_211 ⟨(Nat.le_of_ble_eq_true rfl), (Nat.le_of_ble_eq_true rfl)⟩) g hK (by decide) (by decide) (fx' := [(2, 13, a0_, .int x_900), (2, 12, a0_, .int x_899), (8, 6, q0_, .int x_894), (8, 8, q0_, .int x_882), (0, 2, q2_, .ref q6_), (2, 14, a0_, .int x_13), (2, 0, a0_, .ref q0_), (2, 1, a0_, .ref q1_), (2, 2, a0_, .ref q2_), (2, 3, a0_, .ref q3_), (0, 0, q2_, .ref q0_), (0, 1, q2_, .ref q1_), (5, 0, q1_, .ref q6_), (5, 1, q1_, .ref q7_)]) rfl (fun fr_901 H locs hp hMr_901 g => ?_)
                              obtain ⟨x_902, h_903, hF_904⟩ := hp
                              have hG_905 := eOK.frame hMr_901 go_.2.2.2.1 mq2_ kq2_ (by decide) (by decide) hG_897
                              have g := g.more hF_904
                              refine lv_aload_n hx hb dX2_readArguments_214 rfl (lv_at hl 5 rfl) ?_
                              refine g_getk (C := RX2) (T := TX2) (N := 16) hx hb hts (mc_ inX2) hown hK g rfl 3 (by decide) rfl (hts _ (List.mem_cons_of_mem _ t_419)) (fun _ h9 => h9) 10 rfl dX2_readArguments_215 ?_
                              refine lv_bipush (v := 22) hx hb dX2_readArguments_218 (by decide) ?_
                              refine lv_iconst (v := 0) hx hb dX2_readArguments_220 (by decide) ?_
                              have go_ := g
                              refine g_callv (va_runV (As := [.int 22, .int 0]) (rest := []) ⟨hx, hb, hml, hown, hts⟩ (r_X7_emit l dC dI L kd tys fr_901 H.size g.2.2.2.1 q3_ mq3_ kq3_ 22 0) (cwV 2 hts (gV_ t_1301 t_1204 t_1205 t_191 t_1206) rfl rfl rfl (by decide +kernel) ⟨(Nat.le_of_ble_eq_true rfl), (Nat.le_of_ble_eq_true rfl)⟩) (pre3V g hK mq3_ kq3_ (by decide) (q := (RX7, TX7, 19)) rfl) rfl rfl hl.1 rfl (lv_room (Nat.le_of_ble_eq_true rfl)) dX2_readArguments_221 ⟨(Nat.le_of_ble_eq_true rfl), (Nat.le_of_ble_eq_true rfl)⟩) g hK (by decide) (by decide) (fx' := [(2, 13, a0_, .int x_900), (2, 12, a0_, .int x_899), (8, 6, q0_, .int x_894), (8, 8, q0_, .int x_882), (0, 2, q2_, .ref q6_), (2, 14, a0_, .int x_13), (2, 0, a0_, .ref q0_), (2, 1, a0_, .ref q1_), (2, 2, a0_, .ref q2_), (2, 3, a0_, .ref q3_), (0, 0, q2_, .ref q0_), (0, 1, q2_, .ref q1_), (5, 0, q1_, .ref q6_), (5, 1, q1_, .ref q7_)]) rfl (fun fr_906 H locs hp hMr_906 g => ?_)
                              obtain ⟨x_907, h_908, hF_909⟩ := hp
                              have hG_910 := eOK.frame hMr_906 go_.2.2.2.1 mq2_ kq2_ (by decide) (by decide) hG_905
                              have g := g.more hF_909
                              refine lv_aload_n hx hb dX2_readArguments_224 rfl (lv_at hl 5 rfl) ?_
                              refine g_getk (C := RX2) (T := TX2) (N := 16) hx hb hts (mc_ inX2) hown hK g rfl 0 (by decide) rfl (hts _ (List.mem_cons_of_mem _ t_416)) (fun _ h9 => h9) 7 rfl dX2_readArguments_225 ?_
                              refine lv_bipush (v := 59) hx hb dX2_readArguments_228 (by decide) ?_
                              have go_ := g
                              refine g_callv (va_runV (As := [.int 59]) (rest := []) ⟨hx, hb, hml, hown, hts⟩ (r_X8_take_2 l dC dI L kd tys fr_906 H.size g.2.2.2.1 q0_ mq0_ kq0_ 59 x_894 h_895 x_882 h_883 (g.fcts [3, 4] rfl)) (cwV 1 hts (gV_ t_1098 t_1099 t_1100 t_184 t_1101) rfl rfl rfl (by decide +kernel) ⟨(Nat.le_of_ble_eq_true rfl), (Nat.le_of_ble_eq_true rfl)⟩) (pre3V g hK mq0_ kq0_ (by decide) (q := (RX8, TX8, 10)) rfl) rfl rfl hl.1 rfl (lv_room (Nat.le_of_ble_eq_true rfl)) dX2_readArguments_230 ⟨(Nat.le_of_ble_eq_true rfl), (Nat.le_of_ble_eq_true rfl)⟩) g hK (by decide) (by decide) (fx' := [(7, 6, q3_, .int x_907), (2, 13, a0_, .int x_900), (2, 12, a0_, .int x_899), (8, 8, q0_, .int x_882), (0, 2, q2_, .ref q6_), (2, 14, a0_, .int x_13), (2, 0, a0_, .ref q0_), (2, 1, a0_, .ref q1_), (2, 2, a0_, .ref q2_), (2, 3, a0_, .ref q3_), (0, 0, q2_, .ref q0_), (0, 1, q2_, .ref q1_), (5, 0, q1_, .ref q6_), (5, 1, q1_, .ref q7_)]) rfl (fun fr_911 H locs hp hMr_911 g => ?_)
                              obtain ⟨x_912, h_913, hF_914⟩ := hp
                              have hG_915 := eOK.frame hMr_911 go_.2.2.2.1 mq2_ kq2_ (by decide) (by decide) hG_910
                              have g := g.more hF_914
                              subst hQ
                              exact W.vret hx hb hr (fun t ht hW => ⟨⟨_, rfl, Or.inr (⟨hG_915, x_912, h_913, x_882, h_883, x_907, h_908, (g.fcts [0, 4, 1] rfl)⟩), q3_of g hK ht hW⟩, g.2.2.1.F ht⟩) g.2.2.1.2.2 dX2_readArguments_233
                            · have fc_898 := nle_f c_898
                              have b_916 : bd 0 (-1) y_862 := ltL fc_898 b_880 b_574 (by decide)
                              exact bd_no b_916 (by decide)
                          · have fc_888 := nlt_f c_888
                            have b_917 : bd 1 3 y_886 := leL fc_888 b_887 kb_3 (by decide)
                            have b_918 : bd 0 2 v69_4 := add_inv ty_886 b_917 b_744 kb_1 (by decide)
                            refine lv_iload_n hx hb dX2_readArguments_75 rfl (lv_at hl 2 rfl) ?_
                            refine lv_if_eq (tgt := 162) hx hb dX2_readArguments_76 (by decide) (fun c_ => absurd c_ (by decide)) (fun c_ => ?_)
                            refine lv_aload_n hx hb dX2_readArguments_79 rfl (lv_at hl 5 rfl) ?_
                            refine g_getk (C := RX2) (T := TX2) (N := 16) hx hb hts (mc_ inX2) hown hK g rfl 0 (by decide) rfl (hts _ (List.mem_cons_of_mem _ t_416)) (fun _ h9 => h9) 4 rfl dX2_readArguments_80 ?_
                            refine g_getk (C := RX8) (T := TX8) (N := 10) hx hb hts (mc_ inX8) hown hK g rfl 8 (by decide) rfl (hts _ (List.mem_cons_of_mem _ t_294)) (fun _ h9 => h9) 1 rfl dX2_readArguments_83 ?_
                            refine lv_if_ne (tgt := 162) hx hb dX2_readArguments_86 (by decide) (fun c_919 => ?_) (fun c_919 => ?_)
                            · have fc_919 := neq_f c_919
                              refine lv_aload_n hx hb dX2_readArguments_162 rfl (lv_at hl 5 rfl) ?_
                              refine g_getk (C := RX2) (T := TX2) (N := 16) hx hb hts (mc_ inX2) hown hK g rfl 0 (by decide) rfl (hts _ (List.mem_cons_of_mem _ t_416)) (fun _ h9 => h9) 4 rfl dX2_readArguments_163 ?_
                              have go_ := g
                              refine g_calli (va_runV (As := []) (rest := []) ⟨hx, hb, hml, hown, hts⟩ (r_X8_place l dC dI L kd tys fr_881 H.size g.2.2.2.1 q0_ mq0_ kq0_) (cwV 0 hts (gV_ t_1110 t_1111 t_1112 t_184 t_1113) rfl rfl rfl (by decide +kernel) ⟨(Nat.le_of_ble_eq_true rfl), (Nat.le_of_ble_eq_true rfl)⟩) (pre3V g hK mq0_ kq0_ (by decide) (q := (RX8, TX8, 10)) rfl) rfl rfl hl.1 rfl (lv_room (Nat.le_of_ble_eq_true rfl)) dX2_readArguments_166 ⟨(Nat.le_of_ble_eq_true rfl), (Nat.le_of_ble_eq_true rfl)⟩) g hK (by decide) (by decide) (fx' := [(8, 6, q0_, .int 1201), (8, 8, q0_, .int x_882), (0, 2, q2_, .ref q6_), (2, 14, a0_, .int x_13), (2, 0, a0_, .ref q0_), (2, 1, a0_, .ref q1_), (2, 2, a0_, .ref q2_), (2, 3, a0_, .ref q3_), (0, 0, q2_, .ref q0_), (0, 1, q2_, .ref q1_), (5, 0, q1_, .ref q6_), (5, 1, q1_, .ref q7_)]) rfl (fun r_920 fr_920 H locs hp hMr_920 g => ?_)
                              have hG_921 := eOK.frame hMr_920 go_.2.2.2.1 mq2_ kq2_ (by decide) (by decide) hG_885
                              refine lv_istore (lv' := [(4, .int r_920), (5, .int r_869), (3, .int 1), (2, .int y_862), (1, .int r_1), (0, .ref a0_)]) hx hb dX2_readArguments_169 hl (by decide) rfl (fun ls hl => ?_)
                              refine lv_aload_n hx hb dX2_readArguments_171 rfl (lv_at hl 5 rfl) ?_
                              refine g_getk (C := RX2) (T := TX2) (N := 16) hx hb hts (mc_ inX2) hown hK g rfl 0 (by decide) rfl (hts _ (List.mem_cons_of_mem _ t_416)) (fun _ h9 => h9) 4 rfl dX2_readArguments_172 ?_
                              refine lv_bipush (v := 41) hx hb dX2_readArguments_175 (by decide) ?_
                              have kb_1201 : bd 1201 1201 (1201 : Int32) := ⟨by decide, by decide⟩
                              have go_ := g
                              refine g_callv (va_runV (As := [.int 41]) (rest := []) ⟨hx, hb, hml, hown, hts⟩ (r_X8_take_2 l dC dI L kd tys fr_920 H.size g.2.2.2.1 q0_ mq0_ kq0_ 41 1201 kb_1201 x_882 h_883 (g.fcts [0, 1] rfl)) (cwV 1 hts (gV_ t_1098 t_1099 t_1100 t_184 t_1101) rfl rfl rfl (by decide +kernel) ⟨(Nat.le_of_ble_eq_true rfl), (Nat.le_of_ble_eq_true rfl)⟩) (pre3V g hK mq0_ kq0_ (by decide) (q := (RX8, TX8, 10)) rfl) rfl rfl hl.1 rfl (lv_room (Nat.le_of_ble_eq_true rfl)) dX2_readArguments_177 ⟨(Nat.le_of_ble_eq_true rfl), (Nat.le_of_ble_eq_true rfl)⟩) g hK (by decide) (by decide) (fx' := [(8, 8, q0_, .int x_882), (0, 2, q2_, .ref q6_), (2, 14, a0_, .int x_13), (2, 0, a0_, .ref q0_), (2, 1, a0_, .ref q1_), (2, 2, a0_, .ref q2_), (2, 3, a0_, .ref q3_), (0, 0, q2_, .ref q0_), (0, 1, q2_, .ref q1_), (5, 0, q1_, .ref q6_), (5, 1, q1_, .ref q7_)]) rfl (fun fr_922 H locs hp hMr_922 g => ?_)
                              obtain ⟨x_923, h_924, hF_925⟩ := hp
                              have hG_926 := eOK.frame hMr_922 go_.2.2.2.1 mq2_ kq2_ (by decide) (by decide) hG_921
                              have g := g.more hF_925
                              refine lv_iload_n hx hb dX2_readArguments_180 rfl (lv_at hl 3 rfl) ?_
                              refine lv_aload_n hx hb dX2_readArguments_181 rfl (lv_at hl 5 rfl) ?_
                              refine g_getk (C := RX2) (T := TX2) (N := 16) hx hb hts (mc_ inX2) hown hK g rfl 14 (by decide) rfl (hts _ (List.mem_cons_of_mem _ t_430)) (fun _ h9 => h9) 3 rfl dX2_readArguments_182 ?_
                              refine lv_icmp_ge (tgt := 199) hx hb dX2_readArguments_185 (by decide) (fun c_927 => ?_) (fun c_927 => ?_)
                              · have fc_927 := le_f c_927
                                refine lv_aload_n hx hb dX2_readArguments_199 rfl (lv_at hl 5 rfl) ?_
                                refine g_getk (C := RX2) (T := TX2) (N := 16) hx hb hts (mc_ inX2) hown hK g rfl 3 (by decide) rfl (hts _ (List.mem_cons_of_mem _ t_419)) (fun _ h9 => h9) 7 rfl dX2_readArguments_200 ?_
                                refine lv_aload_n hx hb dX2_readArguments_203 rfl (lv_at hl 5 rfl) ?_
                                refine g_geti (C := RX2) (T := TX2) (N := 16) hx hb hts (mc_ inX2) hown hK g ma0_ ka0_ (by decide) rfl 12 (by decide) rfl (hts _ (List.mem_cons_of_mem _ t_428)) (fun _ h9 => h9) rfl dX2_readArguments_204 (fun x_928 bx_928 g => ?_)
                                refine lv_aload_n hx hb dX2_readArguments_207 rfl (lv_at hl 5 rfl) ?_
                                refine g_geti (C := RX2) (T := TX2) (N := 16) hx hb hts (mc_ inX2) hown hK g ma0_ ka0_ (by decide) rfl 13 (by decide) rfl (hts _ (List.mem_cons_of_mem _ t_429)) (fun _ h9 => h9) rfl dX2_readArguments_208 (fun x_929 bx_929 g => ?_)
                                have go_ := g
                                refine g_callv (va_runV (As := [.int x_928, .int x_929]) (rest := []) ⟨hx, hb, hml, hown, hts⟩ (r_X7_emit l dC dI L kd tys fr_922 H.size g.2.2.2.1 q3_ mq3_ kq3_ x_928 x_929) (cwV 2 hts (gV_ t_1301 t_1204 t_1205 t_191 t_1206) rfl rfl rfl (by decide +kernel) ⟨(Nat.le_of_ble_eq_true rfl), (Nat.le_of_ble_eq_true rfl)⟩) (pre3V g hK mq3_ kq3_ (by decide) (q := (RX7, TX7, 19)) rfl) rfl rfl hl.1 rfl (lv_room (Nat.le_of_ble_eq_true rfl)) dX2_readArguments_211 ⟨(Nat.le_of_ble_eq_true rfl), (Nat.le_of_ble_eq_true rfl)⟩) g hK (by decide) (by decide) (fx' := [(2, 13, a0_, .int x_929), (2, 12, a0_, .int x_928), (8, 6, q0_, .int x_923), (8, 8, q0_, .int x_882), (0, 2, q2_, .ref q6_), (2, 14, a0_, .int x_13), (2, 0, a0_, .ref q0_), (2, 1, a0_, .ref q1_), (2, 2, a0_, .ref q2_), (2, 3, a0_, .ref q3_), (0, 0, q2_, .ref q0_), (0, 1, q2_, .ref q1_), (5, 0, q1_, .ref q6_), (5, 1, q1_, .ref q7_)]) rfl (fun fr_930 H locs hp hMr_930 g => ?_)
                                obtain ⟨x_931, h_932, hF_933⟩ := hp
                                have hG_934 := eOK.frame hMr_930 go_.2.2.2.1 mq2_ kq2_ (by decide) (by decide) hG_926
                                have g := g.more hF_933
                                refine lv_aload_n hx hb dX2_readArguments_214 rfl (lv_at hl 5 rfl) ?_
                                refine g_getk (C := RX2) (T := TX2) (N := 16) hx hb hts (mc_ inX2) hown hK g rfl 3 (by decide) rfl (hts _ (List.mem_cons_of_mem _ t_419)) (fun _ h9 => h9) 10 rfl dX2_readArguments_215 ?_
                                refine lv_bipush (v := 22) hx hb dX2_readArguments_218 (by decide) ?_
                                refine lv_iconst (v := 0) hx hb dX2_readArguments_220 (by decide) ?_
                                have go_ := g
                                refine g_callv (va_runV (As := [.int 22, .int 0]) (rest := []) ⟨hx, hb, hml, hown, hts⟩ (r_X7_emit l dC dI L kd tys fr_930 H.size g.2.2.2.1 q3_ mq3_ kq3_ 22 0) (cwV 2 hts (gV_ t_1301 t_1204 t_1205 t_191 t_1206) rfl rfl rfl (by decide +kernel) ⟨(Nat.le_of_ble_eq_true rfl), (Nat.le_of_ble_eq_true rfl)⟩) (pre3V g hK mq3_ kq3_ (by decide) (q := (RX7, TX7, 19)) rfl) rfl rfl hl.1 rfl (lv_room (Nat.le_of_ble_eq_true rfl)) dX2_readArguments_221 ⟨(Nat.le_of_ble_eq_true rfl), (Nat.le_of_ble_eq_true rfl)⟩) g hK (by decide) (by decide) (fx' := [(2, 13, a0_, .int x_929), (2, 12, a0_, .int x_928), (8, 6, q0_, .int x_923), (8, 8, q0_, .int x_882), (0, 2, q2_, .ref q6_), (2, 14, a0_, .int x_13), (2, 0, a0_, .ref q0_), (2, 1, a0_, .ref q1_), (2, 2, a0_, .ref q2_), (2, 3, a0_, .ref q3_), (0, 0, q2_, .ref q0_), (0, 1, q2_, .ref q1_), (5, 0, q1_, .ref q6_), (5, 1, q1_, .ref q7_)]) rfl (fun fr_935 H locs hp hMr_935 g => ?_)
                                obtain ⟨x_936, h_937, hF_938⟩ := hp
                                have hG_939 := eOK.frame hMr_935 go_.2.2.2.1 mq2_ kq2_ (by decide) (by decide) hG_934
                                have g := g.more hF_938
                                refine lv_aload_n hx hb dX2_readArguments_224 rfl (lv_at hl 5 rfl) ?_
                                refine g_getk (C := RX2) (T := TX2) (N := 16) hx hb hts (mc_ inX2) hown hK g rfl 0 (by decide) rfl (hts _ (List.mem_cons_of_mem _ t_416)) (fun _ h9 => h9) 7 rfl dX2_readArguments_225 ?_
                                refine lv_bipush (v := 59) hx hb dX2_readArguments_228 (by decide) ?_
                                have go_ := g
                                refine g_callv (va_runV (As := [.int 59]) (rest := []) ⟨hx, hb, hml, hown, hts⟩ (r_X8_take_2 l dC dI L kd tys fr_935 H.size g.2.2.2.1 q0_ mq0_ kq0_ 59 x_923 h_924 x_882 h_883 (g.fcts [3, 4] rfl)) (cwV 1 hts (gV_ t_1098 t_1099 t_1100 t_184 t_1101) rfl rfl rfl (by decide +kernel) ⟨(Nat.le_of_ble_eq_true rfl), (Nat.le_of_ble_eq_true rfl)⟩) (pre3V g hK mq0_ kq0_ (by decide) (q := (RX8, TX8, 10)) rfl) rfl rfl hl.1 rfl (lv_room (Nat.le_of_ble_eq_true rfl)) dX2_readArguments_230 ⟨(Nat.le_of_ble_eq_true rfl), (Nat.le_of_ble_eq_true rfl)⟩) g hK (by decide) (by decide) (fx' := [(7, 6, q3_, .int x_936), (2, 13, a0_, .int x_929), (2, 12, a0_, .int x_928), (8, 8, q0_, .int x_882), (0, 2, q2_, .ref q6_), (2, 14, a0_, .int x_13), (2, 0, a0_, .ref q0_), (2, 1, a0_, .ref q1_), (2, 2, a0_, .ref q2_), (2, 3, a0_, .ref q3_), (0, 0, q2_, .ref q0_), (0, 1, q2_, .ref q1_), (5, 0, q1_, .ref q6_), (5, 1, q1_, .ref q7_)]) rfl (fun fr_940 H locs hp hMr_940 g => ?_)
                                obtain ⟨x_941, h_942, hF_943⟩ := hp
                                have hG_944 := eOK.frame hMr_940 go_.2.2.2.1 mq2_ kq2_ (by decide) (by decide) hG_939
                                have g := g.more hF_943
                                subst hQ
                                exact W.vret hx hb hr (fun t ht hW => ⟨⟨_, rfl, Or.inr (⟨hG_944, x_941, h_942, x_882, h_883, x_936, h_937, (g.fcts [0, 4, 1] rfl)⟩), q3_of g hK ht hW⟩, g.2.2.1.F ht⟩) g.2.2.1.2.2 dX2_readArguments_233
                              · have fc_927 := nle_f c_927
                                have b_945 : bd 0 (-1) y_862 := ltL fc_927 b_880 b_574 (by decide)
                                exact bd_no b_945 (by decide)
                            · have fc_919 := eq_f c_919
                              have b_946 : bd 1 0 x_882 := eqX fc_919 h_883 kb_0 (by decide)
                              exact bd_no b_946 (by decide)
                    · have g := g.more hF_861
                      have kb_1 : bd 1 1 (1 : Int32) := ⟨by decide, by decide⟩
                      obtain ⟨y_947, ey_947⟩ : ∃ z : Int32, z = v69_2 + 1 := ⟨_, rfl⟩
                      refine lv_iinc (v := y_947) (lv' := [(2, .int y_947), (4, .int v69_4), (3, .int v69_3), (1, .int r_1), (0, .ref a0_)]) hx hb dX2_readArguments_96 hl (k := 2) rfl (by rw [ey_947]; rfl) (by decide) rfl (fun ls hl => ?_)
                      refine lv_aload_n hx hb dX2_readArguments_99 rfl (lv_at hl 4 rfl) ?_
                      refine g_getk (C := RX2) (T := TX2) (N := 16) hx hb hts (mc_ inX2) hown hK g rfl 0 (by decide) rfl (hts _ (List.mem_cons_of_mem _ t_416)) (fun _ h9 => h9) 4 rfl dX2_readArguments_100 ?_
                      have go_ := g
                      refine g_calli (va_runV (As := []) (rest := []) ⟨hx, hb, hml, hown, hts⟩ (r_X8_kind_2 l dC dI L kd tys fr_851 H.size g.2.2.2.1 q0_ mq0_ kq0_ x_857 h_858 (g.fcts [0] rfl)) (cwV 0 hts (gV_ t_1118 t_1119 t_1120 t_184 t_1121) rfl rfl rfl (by decide +kernel) ⟨(Nat.le_of_ble_eq_true rfl), (Nat.le_of_ble_eq_true rfl)⟩) (pre3V g hK mq0_ kq0_ (by decide) (q := (RX8, TX8, 10)) rfl) rfl rfl hl.1 rfl (lv_room (Nat.le_of_ble_eq_true rfl)) dX2_readArguments_103 ⟨(Nat.le_of_ble_eq_true rfl), (Nat.le_of_ble_eq_true rfl)⟩) g hK (by decide) (by decide) (fx' := [(8, 6, q0_, .int x_857), (8, 8, q0_, .int x_859), (0, 2, q2_, .ref q6_), (2, 14, a0_, .int x_13), (2, 0, a0_, .ref q0_), (2, 1, a0_, .ref q1_), (2, 2, a0_, .ref q2_), (2, 3, a0_, .ref q3_), (0, 0, q2_, .ref q0_), (0, 1, q2_, .ref q1_), (5, 0, q1_, .ref q6_), (5, 1, q1_, .ref q7_)]) rfl (fun r_948 fr_948 H locs hp hMr_948 g => ?_)
                      obtain ⟨h_949, -⟩ := hp
                      have hG_950 := eOK.frame hMr_948 go_.2.2.2.1 mq2_ kq2_ (by decide) (by decide) hG_856
                      obtain rfl : r_948 = 0 := h_949
                      refine lv_bipush (v := 44) hx hb dX2_readArguments_106 (by decide) ?_
                      refine lv_icmp_ne (tgt := 115) hx hb dX2_readArguments_108 (by decide) (fun c_ => ?_) (fun c_ => absurd c_ (by decide))
                      refine lv_iconst (v := 0) hx hb dX2_readArguments_115 (by decide) ?_
                      refine lv_istore_n (lv' := [(3, .int 0), (2, .int y_947), (4, .int v69_4), (1, .int r_1), (0, .ref a0_)]) hx hb dX2_readArguments_116 rfl hl (by decide) rfl (fun ls hl => ?_)
                      refine lv_iload_n hx hb dX2_readArguments_117 rfl (lv_at hl 0 rfl) ?_
                      refine lv_if_eq (tgt := 156) hx hb dX2_readArguments_118 (by decide) (fun c_ => ?_) (fun c_ => absurd (by decide) c_)
                      obtain ⟨y_951, ey_951⟩ : ∃ z : Int32, z = v69_4 + 1 := ⟨_, rfl⟩
                      refine lv_iinc (v := y_951) (lv' := [(4, .int y_951), (3, .int 0), (2, .int y_947), (1, .int r_1), (0, .ref a0_)]) hx hb dX2_readArguments_156 hl (k := 2) rfl (by rw [ey_951]; rfl) (by decide) rfl (fun ls hl => ?_)
                      have ty_951 := add_bd ey_951 b_744 kb_1 (by decide)
                      have b_952 : bd 1 4 y_951 := add_rg ty_951 b_744 kb_1 (by decide)
                      refine lv_goto (tgt := 69) hx hb dX2_readArguments_159 (by decide) ?_
                      refine lv_iload hx hb dX2_readArguments_69 (lv_at hl 0 rfl) ?_
                      refine lv_iconst (v := 3) hx hb dX2_readArguments_71 (by decide) ?_
                      refine lv_icmp_gt (tgt := 162) hx hb dX2_readArguments_72 (by decide) (fun c_953 => ?_) (fun c_953 => ?_)
                      · have fc_953 := lt_f c_953
                        have b_954 : bd 4 4 y_951 := ltR fc_953 kb_3 b_952 (by decide)
                        have b_955 : bd 3 3 v69_4 := add_inv ty_951 b_954 b_744 kb_1 (by decide)
                        refine lv_aload_n hx hb dX2_readArguments_162 rfl (lv_at hl 4 rfl) ?_
                        refine g_getk (C := RX2) (T := TX2) (N := 16) hx hb hts (mc_ inX2) hown hK g rfl 0 (by decide) rfl (hts _ (List.mem_cons_of_mem _ t_416)) (fun _ h9 => h9) 4 rfl dX2_readArguments_163 ?_
                        have go_ := g
                        refine g_calli (va_runV (As := []) (rest := []) ⟨hx, hb, hml, hown, hts⟩ (r_X8_place l dC dI L kd tys fr_948 H.size g.2.2.2.1 q0_ mq0_ kq0_) (cwV 0 hts (gV_ t_1110 t_1111 t_1112 t_184 t_1113) rfl rfl rfl (by decide +kernel) ⟨(Nat.le_of_ble_eq_true rfl), (Nat.le_of_ble_eq_true rfl)⟩) (pre3V g hK mq0_ kq0_ (by decide) (q := (RX8, TX8, 10)) rfl) rfl rfl hl.1 rfl (lv_room (Nat.le_of_ble_eq_true rfl)) dX2_readArguments_166 ⟨(Nat.le_of_ble_eq_true rfl), (Nat.le_of_ble_eq_true rfl)⟩) g hK (by decide) (by decide) (fx' := [(8, 6, q0_, .int x_857), (8, 8, q0_, .int x_859), (0, 2, q2_, .ref q6_), (2, 14, a0_, .int x_13), (2, 0, a0_, .ref q0_), (2, 1, a0_, .ref q1_), (2, 2, a0_, .ref q2_), (2, 3, a0_, .ref q3_), (0, 0, q2_, .ref q0_), (0, 1, q2_, .ref q1_), (5, 0, q1_, .ref q6_), (5, 1, q1_, .ref q7_)]) rfl (fun r_956 fr_956 H locs hp hMr_956 g => ?_)
                        have hG_957 := eOK.frame hMr_956 go_.2.2.2.1 mq2_ kq2_ (by decide) (by decide) hG_950
                        refine lv_istore (lv' := [(4, .int r_956), (3, .int 0), (2, .int y_947), (1, .int r_1), (0, .ref a0_)]) hx hb dX2_readArguments_169 hl (by decide) rfl (fun ls hl => ?_)
                        refine lv_aload_n hx hb dX2_readArguments_171 rfl (lv_at hl 4 rfl) ?_
                        refine g_getk (C := RX2) (T := TX2) (N := 16) hx hb hts (mc_ inX2) hown hK g rfl 0 (by decide) rfl (hts _ (List.mem_cons_of_mem _ t_416)) (fun _ h9 => h9) 4 rfl dX2_readArguments_172 ?_
                        refine lv_bipush (v := 41) hx hb dX2_readArguments_175 (by decide) ?_
                        have go_ := g
                        refine g_callv (va_runV (As := [.int 41]) (rest := []) ⟨hx, hb, hml, hown, hts⟩ (r_X8_take_2 l dC dI L kd tys fr_956 H.size g.2.2.2.1 q0_ mq0_ kq0_ 41 x_857 h_858 x_859 h_860 (g.fcts [0, 1] rfl)) (cwV 1 hts (gV_ t_1098 t_1099 t_1100 t_184 t_1101) rfl rfl rfl (by decide +kernel) ⟨(Nat.le_of_ble_eq_true rfl), (Nat.le_of_ble_eq_true rfl)⟩) (pre3V g hK mq0_ kq0_ (by decide) (q := (RX8, TX8, 10)) rfl) rfl rfl hl.1 rfl (lv_room (Nat.le_of_ble_eq_true rfl)) dX2_readArguments_177 ⟨(Nat.le_of_ble_eq_true rfl), (Nat.le_of_ble_eq_true rfl)⟩) g hK (by decide) (by decide) (fx' := [(8, 8, q0_, .int x_859), (0, 2, q2_, .ref q6_), (2, 14, a0_, .int x_13), (2, 0, a0_, .ref q0_), (2, 1, a0_, .ref q1_), (2, 2, a0_, .ref q2_), (2, 3, a0_, .ref q3_), (0, 0, q2_, .ref q0_), (0, 1, q2_, .ref q1_), (5, 0, q1_, .ref q6_), (5, 1, q1_, .ref q7_)]) rfl (fun fr_958 H locs hp hMr_958 g => ?_)
                        obtain ⟨x_959, h_960, hF_961⟩ := hp
                        have hG_962 := eOK.frame hMr_958 go_.2.2.2.1 mq2_ kq2_ (by decide) (by decide) hG_957
                        have g := g.more hF_961
                        refine lv_iload_n hx hb dX2_readArguments_180 rfl (lv_at hl 2 rfl) ?_
                        refine lv_aload_n hx hb dX2_readArguments_181 rfl (lv_at hl 4 rfl) ?_
                        refine g_getk (C := RX2) (T := TX2) (N := 16) hx hb hts (mc_ inX2) hown hK g rfl 14 (by decide) rfl (hts _ (List.mem_cons_of_mem _ t_430)) (fun _ h9 => h9) 3 rfl dX2_readArguments_182 ?_
                        refine lv_icmp_ge (tgt := 199) hx hb dX2_readArguments_185 (by decide) (fun c_963 => ?_) (fun c_963 => ?_)
                        · have fc_963 := le_f c_963
                          have b_964 : bd 0 2147483647 y_947 := leR fc_963 b_574 (bdT y_947) (by decide)
                          refine lv_aload_n hx hb dX2_readArguments_199 rfl (lv_at hl 4 rfl) ?_
                          refine g_getk (C := RX2) (T := TX2) (N := 16) hx hb hts (mc_ inX2) hown hK g rfl 3 (by decide) rfl (hts _ (List.mem_cons_of_mem _ t_419)) (fun _ h9 => h9) 7 rfl dX2_readArguments_200 ?_
                          refine lv_aload_n hx hb dX2_readArguments_203 rfl (lv_at hl 4 rfl) ?_
                          refine g_geti (C := RX2) (T := TX2) (N := 16) hx hb hts (mc_ inX2) hown hK g ma0_ ka0_ (by decide) rfl 12 (by decide) rfl (hts _ (List.mem_cons_of_mem _ t_428)) (fun _ h9 => h9) rfl dX2_readArguments_204 (fun x_965 bx_965 g => ?_)
                          refine lv_aload_n hx hb dX2_readArguments_207 rfl (lv_at hl 4 rfl) ?_
                          refine g_geti (C := RX2) (T := TX2) (N := 16) hx hb hts (mc_ inX2) hown hK g ma0_ ka0_ (by decide) rfl 13 (by decide) rfl (hts _ (List.mem_cons_of_mem _ t_429)) (fun _ h9 => h9) rfl dX2_readArguments_208 (fun x_966 bx_966 g => ?_)
                          have go_ := g
                          refine g_callv (va_runV (As := [.int x_965, .int x_966]) (rest := []) ⟨hx, hb, hml, hown, hts⟩ (r_X7_emit l dC dI L kd tys fr_958 H.size g.2.2.2.1 q3_ mq3_ kq3_ x_965 x_966) (cwV 2 hts (gV_ t_1301 t_1204 t_1205 t_191 t_1206) rfl rfl rfl (by decide +kernel) ⟨(Nat.le_of_ble_eq_true rfl), (Nat.le_of_ble_eq_true rfl)⟩) (pre3V g hK mq3_ kq3_ (by decide) (q := (RX7, TX7, 19)) rfl) rfl rfl hl.1 rfl (lv_room (Nat.le_of_ble_eq_true rfl)) dX2_readArguments_211 ⟨(Nat.le_of_ble_eq_true rfl), (Nat.le_of_ble_eq_true rfl)⟩) g hK (by decide) (by decide) (fx' := [(2, 13, a0_, .int x_966), (2, 12, a0_, .int x_965), (8, 6, q0_, .int x_959), (8, 8, q0_, .int x_859), (0, 2, q2_, .ref q6_), (2, 14, a0_, .int x_13), (2, 0, a0_, .ref q0_), (2, 1, a0_, .ref q1_), (2, 2, a0_, .ref q2_), (2, 3, a0_, .ref q3_), (0, 0, q2_, .ref q0_), (0, 1, q2_, .ref q1_), (5, 0, q1_, .ref q6_), (5, 1, q1_, .ref q7_)]) rfl (fun fr_967 H locs hp hMr_967 g => ?_)
                          obtain ⟨x_968, h_969, hF_970⟩ := hp
                          have hG_971 := eOK.frame hMr_967 go_.2.2.2.1 mq2_ kq2_ (by decide) (by decide) hG_962
                          have g := g.more hF_970
                          refine lv_aload_n hx hb dX2_readArguments_214 rfl (lv_at hl 4 rfl) ?_
                          refine g_getk (C := RX2) (T := TX2) (N := 16) hx hb hts (mc_ inX2) hown hK g rfl 3 (by decide) rfl (hts _ (List.mem_cons_of_mem _ t_419)) (fun _ h9 => h9) 10 rfl dX2_readArguments_215 ?_
                          refine lv_bipush (v := 22) hx hb dX2_readArguments_218 (by decide) ?_
                          refine lv_iconst (v := 0) hx hb dX2_readArguments_220 (by decide) ?_
                          have go_ := g
                          refine g_callv (va_runV (As := [.int 22, .int 0]) (rest := []) ⟨hx, hb, hml, hown, hts⟩ (r_X7_emit l dC dI L kd tys fr_967 H.size g.2.2.2.1 q3_ mq3_ kq3_ 22 0) (cwV 2 hts (gV_ t_1301 t_1204 t_1205 t_191 t_1206) rfl rfl rfl (by decide +kernel) ⟨(Nat.le_of_ble_eq_true rfl), (Nat.le_of_ble_eq_true rfl)⟩) (pre3V g hK mq3_ kq3_ (by decide) (q := (RX7, TX7, 19)) rfl) rfl rfl hl.1 rfl (lv_room (Nat.le_of_ble_eq_true rfl)) dX2_readArguments_221 ⟨(Nat.le_of_ble_eq_true rfl), (Nat.le_of_ble_eq_true rfl)⟩) g hK (by decide) (by decide) (fx' := [(2, 13, a0_, .int x_966), (2, 12, a0_, .int x_965), (8, 6, q0_, .int x_959), (8, 8, q0_, .int x_859), (0, 2, q2_, .ref q6_), (2, 14, a0_, .int x_13), (2, 0, a0_, .ref q0_), (2, 1, a0_, .ref q1_), (2, 2, a0_, .ref q2_), (2, 3, a0_, .ref q3_), (0, 0, q2_, .ref q0_), (0, 1, q2_, .ref q1_), (5, 0, q1_, .ref q6_), (5, 1, q1_, .ref q7_)]) rfl (fun fr_972 H locs hp hMr_972 g => ?_)
                          obtain ⟨x_973, h_974, hF_975⟩ := hp
                          have hG_976 := eOK.frame hMr_972 go_.2.2.2.1 mq2_ kq2_ (by decide) (by decide) hG_971
                          have g := g.more hF_975
                          refine lv_aload_n hx hb dX2_readArguments_224 rfl (lv_at hl 4 rfl) ?_
                          refine g_getk (C := RX2) (T := TX2) (N := 16) hx hb hts (mc_ inX2) hown hK g rfl 0 (by decide) rfl (hts _ (List.mem_cons_of_mem _ t_416)) (fun _ h9 => h9) 7 rfl dX2_readArguments_225 ?_
                          refine lv_bipush (v := 59) hx hb dX2_readArguments_228 (by decide) ?_
                          have go_ := g
                          refine g_callv (va_runV (As := [.int 59]) (rest := []) ⟨hx, hb, hml, hown, hts⟩ (r_X8_take_2 l dC dI L kd tys fr_972 H.size g.2.2.2.1 q0_ mq0_ kq0_ 59 x_959 h_960 x_859 h_860 (g.fcts [3, 4] rfl)) (cwV 1 hts (gV_ t_1098 t_1099 t_1100 t_184 t_1101) rfl rfl rfl (by decide +kernel) ⟨(Nat.le_of_ble_eq_true rfl), (Nat.le_of_ble_eq_true rfl)⟩) (pre3V g hK mq0_ kq0_ (by decide) (q := (RX8, TX8, 10)) rfl) rfl rfl hl.1 rfl (lv_room (Nat.le_of_ble_eq_true rfl)) dX2_readArguments_230 ⟨(Nat.le_of_ble_eq_true rfl), (Nat.le_of_ble_eq_true rfl)⟩) g hK (by decide) (by decide) (fx' := [(7, 6, q3_, .int x_973), (2, 13, a0_, .int x_966), (2, 12, a0_, .int x_965), (8, 8, q0_, .int x_859), (0, 2, q2_, .ref q6_), (2, 14, a0_, .int x_13), (2, 0, a0_, .ref q0_), (2, 1, a0_, .ref q1_), (2, 2, a0_, .ref q2_), (2, 3, a0_, .ref q3_), (0, 0, q2_, .ref q0_), (0, 1, q2_, .ref q1_), (5, 0, q1_, .ref q6_), (5, 1, q1_, .ref q7_)]) rfl (fun fr_977 H locs hp hMr_977 g => ?_)
                          obtain ⟨x_978, h_979, hF_980⟩ := hp
                          have hG_981 := eOK.frame hMr_977 go_.2.2.2.1 mq2_ kq2_ (by decide) (by decide) hG_976
                          have g := g.more hF_980
                          subst hQ
                          exact W.vret hx hb hr (fun t ht hW => ⟨⟨_, rfl, Or.inr (⟨hG_981, x_978, h_979, x_859, h_860, x_973, h_974, (g.fcts [0, 4, 1] rfl)⟩), q3_of g hK ht hW⟩, g.2.2.1.F ht⟩) g.2.2.1.2.2 dX2_readArguments_233
                        · have fc_963 := nle_f c_963
                          have b_982 : bd (-2147483648) (-1) y_947 := ltL fc_963 (bdT y_947) b_574 (by decide)
                          refine lv_aload_n hx hb dX2_readArguments_188 rfl (lv_at hl 4 rfl) ?_
                          refine g_getk (C := RX2) (T := TX2) (N := 16) hx hb hts (mc_ inX2) hown hK g rfl 0 (by decide) rfl (hts _ (List.mem_cons_of_mem _ t_416)) (fun _ h9 => h9) 4 rfl dX2_readArguments_189 ?_
                          refine lv_bipush (v := 6) hx hb dX2_readArguments_192 (by decide) ?_
                          refine lv_iload hx hb dX2_readArguments_194 (lv_at hl 0 rfl) ?_
                          have kb_6 : bd 6 6 (6 : Int32) := ⟨by decide, by decide⟩
                          have go_ := g
                          refine g_callv (va_runV (As := [.int 6, .int r_956]) (rest := []) ⟨hx, hb, hml, hown, hts⟩ (r_X8_fail_2 l dC dI L kd tys fr_958 H.size g.2.2.2.1 q0_ mq0_ kq0_ 6 (bd_sub kb_6 (by decide)) r_956 x_859 h_860 (g.fcts [1] rfl)) (cwV 2 hts (gV_ t_1122 t_1107 t_1108 t_184 t_1109) rfl rfl rfl (by decide +kernel) ⟨(Nat.le_of_ble_eq_true rfl), (Nat.le_of_ble_eq_true rfl)⟩) (pre3V g hK mq0_ kq0_ (by decide) (q := (RX8, TX8, 10)) rfl) rfl rfl hl.1 rfl (lv_room (Nat.le_of_ble_eq_true rfl)) dX2_readArguments_196 ⟨(Nat.le_of_ble_eq_true rfl), (Nat.le_of_ble_eq_true rfl)⟩) g hK (by decide) (by decide) (fx' := [(8, 8, q0_, .int x_859), (0, 2, q2_, .ref q6_), (2, 14, a0_, .int x_13), (2, 0, a0_, .ref q0_), (2, 1, a0_, .ref q1_), (2, 2, a0_, .ref q2_), (2, 3, a0_, .ref q3_), (0, 0, q2_, .ref q0_), (0, 1, q2_, .ref q1_), (5, 0, q1_, .ref q6_), (5, 1, q1_, .ref q7_)]) rfl (fun fr_983 H locs hp hMr_983 g => ?_)
                          have hF_984 := hp
                          have hG_985 := eOK.frame hMr_983 go_.2.2.2.1 mq2_ kq2_ (by decide) (by decide) hG_962
                          have g := g.more hF_984
                          refine lv_aload_n hx hb dX2_readArguments_199 rfl (lv_at hl 4 rfl) ?_
                          refine g_getk (C := RX2) (T := TX2) (N := 16) hx hb hts (mc_ inX2) hown hK g rfl 3 (by decide) rfl (hts _ (List.mem_cons_of_mem _ t_419)) (fun _ h9 => h9) 7 rfl dX2_readArguments_200 ?_
                          refine lv_aload_n hx hb dX2_readArguments_203 rfl (lv_at hl 4 rfl) ?_
                          refine g_geti (C := RX2) (T := TX2) (N := 16) hx hb hts (mc_ inX2) hown hK g ma0_ ka0_ (by decide) rfl 12 (by decide) rfl (hts _ (List.mem_cons_of_mem _ t_428)) (fun _ h9 => h9) rfl dX2_readArguments_204 (fun x_986 bx_986 g => ?_)
                          refine lv_aload_n hx hb dX2_readArguments_207 rfl (lv_at hl 4 rfl) ?_
                          refine g_geti (C := RX2) (T := TX2) (N := 16) hx hb hts (mc_ inX2) hown hK g ma0_ ka0_ (by decide) rfl 13 (by decide) rfl (hts _ (List.mem_cons_of_mem _ t_429)) (fun _ h9 => h9) rfl dX2_readArguments_208 (fun x_987 bx_987 g => ?_)
                          have go_ := g
                          refine g_callv (va_runV (As := [.int x_986, .int x_987]) (rest := []) ⟨hx, hb, hml, hown, hts⟩ (r_X7_emit l dC dI L kd tys fr_983 H.size g.2.2.2.1 q3_ mq3_ kq3_ x_986 x_987) (cwV 2 hts (gV_ t_1301 t_1204 t_1205 t_191 t_1206) rfl rfl rfl (by decide +kernel) ⟨(Nat.le_of_ble_eq_true rfl), (Nat.le_of_ble_eq_true rfl)⟩) (pre3V g hK mq3_ kq3_ (by decide) (q := (RX7, TX7, 19)) rfl) rfl rfl hl.1 rfl (lv_room (Nat.le_of_ble_eq_true rfl)) dX2_readArguments_211 ⟨(Nat.le_of_ble_eq_true rfl), (Nat.le_of_ble_eq_true rfl)⟩) g hK (by decide) (by decide) (fx' := [(2, 13, a0_, .int x_987), (2, 12, a0_, .int x_986), (8, 6, q0_, .int 1201), (8, 8, q0_, .int x_859), (0, 2, q2_, .ref q6_), (2, 14, a0_, .int x_13), (2, 0, a0_, .ref q0_), (2, 1, a0_, .ref q1_), (2, 2, a0_, .ref q2_), (2, 3, a0_, .ref q3_), (0, 0, q2_, .ref q0_), (0, 1, q2_, .ref q1_), (5, 0, q1_, .ref q6_), (5, 1, q1_, .ref q7_)]) rfl (fun fr_988 H locs hp hMr_988 g => ?_)
                          obtain ⟨x_989, h_990, hF_991⟩ := hp
                          have hG_992 := eOK.frame hMr_988 go_.2.2.2.1 mq2_ kq2_ (by decide) (by decide) hG_985
                          have g := g.more hF_991
                          refine lv_aload_n hx hb dX2_readArguments_214 rfl (lv_at hl 4 rfl) ?_
                          refine g_getk (C := RX2) (T := TX2) (N := 16) hx hb hts (mc_ inX2) hown hK g rfl 3 (by decide) rfl (hts _ (List.mem_cons_of_mem _ t_419)) (fun _ h9 => h9) 10 rfl dX2_readArguments_215 ?_
                          refine lv_bipush (v := 22) hx hb dX2_readArguments_218 (by decide) ?_
                          refine lv_iconst (v := 0) hx hb dX2_readArguments_220 (by decide) ?_
                          have go_ := g
                          refine g_callv (va_runV (As := [.int 22, .int 0]) (rest := []) ⟨hx, hb, hml, hown, hts⟩ (r_X7_emit l dC dI L kd tys fr_988 H.size g.2.2.2.1 q3_ mq3_ kq3_ 22 0) (cwV 2 hts (gV_ t_1301 t_1204 t_1205 t_191 t_1206) rfl rfl rfl (by decide +kernel) ⟨(Nat.le_of_ble_eq_true rfl), (Nat.le_of_ble_eq_true rfl)⟩) (pre3V g hK mq3_ kq3_ (by decide) (q := (RX7, TX7, 19)) rfl) rfl rfl hl.1 rfl (lv_room (Nat.le_of_ble_eq_true rfl)) dX2_readArguments_221 ⟨(Nat.le_of_ble_eq_true rfl), (Nat.le_of_ble_eq_true rfl)⟩) g hK (by decide) (by decide) (fx' := [(2, 13, a0_, .int x_987), (2, 12, a0_, .int x_986), (8, 6, q0_, .int 1201), (8, 8, q0_, .int x_859), (0, 2, q2_, .ref q6_), (2, 14, a0_, .int x_13), (2, 0, a0_, .ref q0_), (2, 1, a0_, .ref q1_), (2, 2, a0_, .ref q2_), (2, 3, a0_, .ref q3_), (0, 0, q2_, .ref q0_), (0, 1, q2_, .ref q1_), (5, 0, q1_, .ref q6_), (5, 1, q1_, .ref q7_)]) rfl (fun fr_993 H locs hp hMr_993 g => ?_)
                          obtain ⟨x_994, h_995, hF_996⟩ := hp
                          have hG_997 := eOK.frame hMr_993 go_.2.2.2.1 mq2_ kq2_ (by decide) (by decide) hG_992
                          have g := g.more hF_996
                          refine lv_aload_n hx hb dX2_readArguments_224 rfl (lv_at hl 4 rfl) ?_
                          refine g_getk (C := RX2) (T := TX2) (N := 16) hx hb hts (mc_ inX2) hown hK g rfl 0 (by decide) rfl (hts _ (List.mem_cons_of_mem _ t_416)) (fun _ h9 => h9) 7 rfl dX2_readArguments_225 ?_
                          refine lv_bipush (v := 59) hx hb dX2_readArguments_228 (by decide) ?_
                          have kb_1201 : bd 1201 1201 (1201 : Int32) := ⟨by decide, by decide⟩
                          have go_ := g
                          refine g_callv (va_runV (As := [.int 59]) (rest := []) ⟨hx, hb, hml, hown, hts⟩ (r_X8_take_2 l dC dI L kd tys fr_993 H.size g.2.2.2.1 q0_ mq0_ kq0_ 59 1201 kb_1201 x_859 h_860 (g.fcts [3, 4] rfl)) (cwV 1 hts (gV_ t_1098 t_1099 t_1100 t_184 t_1101) rfl rfl rfl (by decide +kernel) ⟨(Nat.le_of_ble_eq_true rfl), (Nat.le_of_ble_eq_true rfl)⟩) (pre3V g hK mq0_ kq0_ (by decide) (q := (RX8, TX8, 10)) rfl) rfl rfl hl.1 rfl (lv_room (Nat.le_of_ble_eq_true rfl)) dX2_readArguments_230 ⟨(Nat.le_of_ble_eq_true rfl), (Nat.le_of_ble_eq_true rfl)⟩) g hK (by decide) (by decide) (fx' := [(7, 6, q3_, .int x_994), (2, 13, a0_, .int x_987), (2, 12, a0_, .int x_986), (8, 8, q0_, .int x_859), (0, 2, q2_, .ref q6_), (2, 14, a0_, .int x_13), (2, 0, a0_, .ref q0_), (2, 1, a0_, .ref q1_), (2, 2, a0_, .ref q2_), (2, 3, a0_, .ref q3_), (0, 0, q2_, .ref q0_), (0, 1, q2_, .ref q1_), (5, 0, q1_, .ref q6_), (5, 1, q1_, .ref q7_)]) rfl (fun fr_998 H locs hp hMr_998 g => ?_)
                          obtain ⟨x_999, h_1000, hF_1001⟩ := hp
                          have hG_1002 := eOK.frame hMr_998 go_.2.2.2.1 mq2_ kq2_ (by decide) (by decide) hG_997
                          have g := g.more hF_1001
                          subst hQ
                          exact W.vret hx hb hr (fun t ht hW => ⟨⟨_, rfl, Or.inr (⟨hG_1002, x_999, h_1000, x_859, h_860, x_994, h_995, (g.fcts [0, 4, 1] rfl)⟩), q3_of g hK ht hW⟩, g.2.2.1.F ht⟩) g.2.2.1.2.2 dX2_readArguments_233
                      · have fc_953 := nlt_f c_953
                        have b_1003 : bd 1 3 y_951 := leL fc_953 b_952 kb_3 (by decide)
                        have b_1004 : bd 0 2 v69_4 := add_inv ty_951 b_1003 b_744 kb_1 (by decide)
                        refine lv_iload_n hx hb dX2_readArguments_75 rfl (lv_at hl 1 rfl) ?_
                        refine lv_if_eq (tgt := 162) hx hb dX2_readArguments_76 (by decide) (fun c_ => ?_) (fun c_ => absurd (by decide) c_)
                        refine lv_aload_n hx hb dX2_readArguments_162 rfl (lv_at hl 4 rfl) ?_
                        refine g_getk (C := RX2) (T := TX2) (N := 16) hx hb hts (mc_ inX2) hown hK g rfl 0 (by decide) rfl (hts _ (List.mem_cons_of_mem _ t_416)) (fun _ h9 => h9) 4 rfl dX2_readArguments_163 ?_
                        have go_ := g
                        refine g_calli (va_runV (As := []) (rest := []) ⟨hx, hb, hml, hown, hts⟩ (r_X8_place l dC dI L kd tys fr_948 H.size g.2.2.2.1 q0_ mq0_ kq0_) (cwV 0 hts (gV_ t_1110 t_1111 t_1112 t_184 t_1113) rfl rfl rfl (by decide +kernel) ⟨(Nat.le_of_ble_eq_true rfl), (Nat.le_of_ble_eq_true rfl)⟩) (pre3V g hK mq0_ kq0_ (by decide) (q := (RX8, TX8, 10)) rfl) rfl rfl hl.1 rfl (lv_room (Nat.le_of_ble_eq_true rfl)) dX2_readArguments_166 ⟨(Nat.le_of_ble_eq_true rfl), (Nat.le_of_ble_eq_true rfl)⟩) g hK (by decide) (by decide) (fx' := [(8, 6, q0_, .int x_857), (8, 8, q0_, .int x_859), (0, 2, q2_, .ref q6_), (2, 14, a0_, .int x_13), (2, 0, a0_, .ref q0_), (2, 1, a0_, .ref q1_), (2, 2, a0_, .ref q2_), (2, 3, a0_, .ref q3_), (0, 0, q2_, .ref q0_), (0, 1, q2_, .ref q1_), (5, 0, q1_, .ref q6_), (5, 1, q1_, .ref q7_)]) rfl (fun r_1005 fr_1005 H locs hp hMr_1005 g => ?_)
                        have hG_1006 := eOK.frame hMr_1005 go_.2.2.2.1 mq2_ kq2_ (by decide) (by decide) hG_950
                        refine lv_istore (lv' := [(4, .int r_1005), (3, .int 0), (2, .int y_947), (1, .int r_1), (0, .ref a0_)]) hx hb dX2_readArguments_169 hl (by decide) rfl (fun ls hl => ?_)
                        refine lv_aload_n hx hb dX2_readArguments_171 rfl (lv_at hl 4 rfl) ?_
                        refine g_getk (C := RX2) (T := TX2) (N := 16) hx hb hts (mc_ inX2) hown hK g rfl 0 (by decide) rfl (hts _ (List.mem_cons_of_mem _ t_416)) (fun _ h9 => h9) 4 rfl dX2_readArguments_172 ?_
                        refine lv_bipush (v := 41) hx hb dX2_readArguments_175 (by decide) ?_
                        have go_ := g
                        refine g_callv (va_runV (As := [.int 41]) (rest := []) ⟨hx, hb, hml, hown, hts⟩ (r_X8_take_2 l dC dI L kd tys fr_1005 H.size g.2.2.2.1 q0_ mq0_ kq0_ 41 x_857 h_858 x_859 h_860 (g.fcts [0, 1] rfl)) (cwV 1 hts (gV_ t_1098 t_1099 t_1100 t_184 t_1101) rfl rfl rfl (by decide +kernel) ⟨(Nat.le_of_ble_eq_true rfl), (Nat.le_of_ble_eq_true rfl)⟩) (pre3V g hK mq0_ kq0_ (by decide) (q := (RX8, TX8, 10)) rfl) rfl rfl hl.1 rfl (lv_room (Nat.le_of_ble_eq_true rfl)) dX2_readArguments_177 ⟨(Nat.le_of_ble_eq_true rfl), (Nat.le_of_ble_eq_true rfl)⟩) g hK (by decide) (by decide) (fx' := [(8, 8, q0_, .int x_859), (0, 2, q2_, .ref q6_), (2, 14, a0_, .int x_13), (2, 0, a0_, .ref q0_), (2, 1, a0_, .ref q1_), (2, 2, a0_, .ref q2_), (2, 3, a0_, .ref q3_), (0, 0, q2_, .ref q0_), (0, 1, q2_, .ref q1_), (5, 0, q1_, .ref q6_), (5, 1, q1_, .ref q7_)]) rfl (fun fr_1007 H locs hp hMr_1007 g => ?_)
                        obtain ⟨x_1008, h_1009, hF_1010⟩ := hp
                        have hG_1011 := eOK.frame hMr_1007 go_.2.2.2.1 mq2_ kq2_ (by decide) (by decide) hG_1006
                        have g := g.more hF_1010
                        refine lv_iload_n hx hb dX2_readArguments_180 rfl (lv_at hl 2 rfl) ?_
                        refine lv_aload_n hx hb dX2_readArguments_181 rfl (lv_at hl 4 rfl) ?_
                        refine g_getk (C := RX2) (T := TX2) (N := 16) hx hb hts (mc_ inX2) hown hK g rfl 14 (by decide) rfl (hts _ (List.mem_cons_of_mem _ t_430)) (fun _ h9 => h9) 3 rfl dX2_readArguments_182 ?_
                        refine lv_icmp_ge (tgt := 199) hx hb dX2_readArguments_185 (by decide) (fun c_1012 => ?_) (fun c_1012 => ?_)
                        · have fc_1012 := le_f c_1012
                          have b_1013 : bd 0 2147483647 y_947 := leR fc_1012 b_574 (bdT y_947) (by decide)
                          refine lv_aload_n hx hb dX2_readArguments_199 rfl (lv_at hl 4 rfl) ?_
                          refine g_getk (C := RX2) (T := TX2) (N := 16) hx hb hts (mc_ inX2) hown hK g rfl 3 (by decide) rfl (hts _ (List.mem_cons_of_mem _ t_419)) (fun _ h9 => h9) 7 rfl dX2_readArguments_200 ?_
                          refine lv_aload_n hx hb dX2_readArguments_203 rfl (lv_at hl 4 rfl) ?_
                          refine g_geti (C := RX2) (T := TX2) (N := 16) hx hb hts (mc_ inX2) hown hK g ma0_ ka0_ (by decide) rfl 12 (by decide) rfl (hts _ (List.mem_cons_of_mem _ t_428)) (fun _ h9 => h9) rfl dX2_readArguments_204 (fun x_1014 bx_1014 g => ?_)
                          refine lv_aload_n hx hb dX2_readArguments_207 rfl (lv_at hl 4 rfl) ?_
                          refine g_geti (C := RX2) (T := TX2) (N := 16) hx hb hts (mc_ inX2) hown hK g ma0_ ka0_ (by decide) rfl 13 (by decide) rfl (hts _ (List.mem_cons_of_mem _ t_429)) (fun _ h9 => h9) rfl dX2_readArguments_208 (fun x_1015 bx_1015 g => ?_)
                          have go_ := g
                          refine g_callv (va_runV (As := [.int x_1014, .int x_1015]) (rest := []) ⟨hx, hb, hml, hown, hts⟩ (r_X7_emit l dC dI L kd tys fr_1007 H.size g.2.2.2.1 q3_ mq3_ kq3_ x_1014 x_1015) (cwV 2 hts (gV_ t_1301 t_1204 t_1205 t_191 t_1206) rfl rfl rfl (by decide +kernel) ⟨(Nat.le_of_ble_eq_true rfl), (Nat.le_of_ble_eq_true rfl)⟩) (pre3V g hK mq3_ kq3_ (by decide) (q := (RX7, TX7, 19)) rfl) rfl rfl hl.1 rfl (lv_room (Nat.le_of_ble_eq_true rfl)) dX2_readArguments_211 ⟨(Nat.le_of_ble_eq_true rfl), (Nat.le_of_ble_eq_true rfl)⟩) g hK (by decide) (by decide) (fx' := [(2, 13, a0_, .int x_1015), (2, 12, a0_, .int x_1014), (8, 6, q0_, .int x_1008), (8, 8, q0_, .int x_859), (0, 2, q2_, .ref q6_), (2, 14, a0_, .int x_13), (2, 0, a0_, .ref q0_), (2, 1, a0_, .ref q1_), (2, 2, a0_, .ref q2_), (2, 3, a0_, .ref q3_), (0, 0, q2_, .ref q0_), (0, 1, q2_, .ref q1_), (5, 0, q1_, .ref q6_), (5, 1, q1_, .ref q7_)]) rfl (fun fr_1016 H locs hp hMr_1016 g => ?_)
                          obtain ⟨x_1017, h_1018, hF_1019⟩ := hp
                          have hG_1020 := eOK.frame hMr_1016 go_.2.2.2.1 mq2_ kq2_ (by decide) (by decide) hG_1011
                          have g := g.more hF_1019
                          refine lv_aload_n hx hb dX2_readArguments_214 rfl (lv_at hl 4 rfl) ?_
                          refine g_getk (C := RX2) (T := TX2) (N := 16) hx hb hts (mc_ inX2) hown hK g rfl 3 (by decide) rfl (hts _ (List.mem_cons_of_mem _ t_419)) (fun _ h9 => h9) 10 rfl dX2_readArguments_215 ?_
                          refine lv_bipush (v := 22) hx hb dX2_readArguments_218 (by decide) ?_
                          refine lv_iconst (v := 0) hx hb dX2_readArguments_220 (by decide) ?_
                          have go_ := g
                          refine g_callv (va_runV (As := [.int 22, .int 0]) (rest := []) ⟨hx, hb, hml, hown, hts⟩ (r_X7_emit l dC dI L kd tys fr_1016 H.size g.2.2.2.1 q3_ mq3_ kq3_ 22 0) (cwV 2 hts (gV_ t_1301 t_1204 t_1205 t_191 t_1206) rfl rfl rfl (by decide +kernel) ⟨(Nat.le_of_ble_eq_true rfl), (Nat.le_of_ble_eq_true rfl)⟩) (pre3V g hK mq3_ kq3_ (by decide) (q := (RX7, TX7, 19)) rfl) rfl rfl hl.1 rfl (lv_room (Nat.le_of_ble_eq_true rfl)) dX2_readArguments_221 ⟨(Nat.le_of_ble_eq_true rfl), (Nat.le_of_ble_eq_true rfl)⟩) g hK (by decide) (by decide) (fx' := [(2, 13, a0_, .int x_1015), (2, 12, a0_, .int x_1014), (8, 6, q0_, .int x_1008), (8, 8, q0_, .int x_859), (0, 2, q2_, .ref q6_), (2, 14, a0_, .int x_13), (2, 0, a0_, .ref q0_), (2, 1, a0_, .ref q1_), (2, 2, a0_, .ref q2_), (2, 3, a0_, .ref q3_), (0, 0, q2_, .ref q0_), (0, 1, q2_, .ref q1_), (5, 0, q1_, .ref q6_), (5, 1, q1_, .ref q7_)]) rfl (fun fr_1021 H locs hp hMr_1021 g => ?_)
                          obtain ⟨x_1022, h_1023, hF_1024⟩ := hp
                          have hG_1025 := eOK.frame hMr_1021 go_.2.2.2.1 mq2_ kq2_ (by decide) (by decide) hG_1020
                          have g := g.more hF_1024
                          refine lv_aload_n hx hb dX2_readArguments_224 rfl (lv_at hl 4 rfl) ?_
                          refine g_getk (C := RX2) (T := TX2) (N := 16) hx hb hts (mc_ inX2) hown hK g rfl 0 (by decide) rfl (hts _ (List.mem_cons_of_mem _ t_416)) (fun _ h9 => h9) 7 rfl dX2_readArguments_225 ?_
                          refine lv_bipush (v := 59) hx hb dX2_readArguments_228 (by decide) ?_
                          have go_ := g
                          refine g_callv (va_runV (As := [.int 59]) (rest := []) ⟨hx, hb, hml, hown, hts⟩ (r_X8_take_2 l dC dI L kd tys fr_1021 H.size g.2.2.2.1 q0_ mq0_ kq0_ 59 x_1008 h_1009 x_859 h_860 (g.fcts [3, 4] rfl)) (cwV 1 hts (gV_ t_1098 t_1099 t_1100 t_184 t_1101) rfl rfl rfl (by decide +kernel) ⟨(Nat.le_of_ble_eq_true rfl), (Nat.le_of_ble_eq_true rfl)⟩) (pre3V g hK mq0_ kq0_ (by decide) (q := (RX8, TX8, 10)) rfl) rfl rfl hl.1 rfl (lv_room (Nat.le_of_ble_eq_true rfl)) dX2_readArguments_230 ⟨(Nat.le_of_ble_eq_true rfl), (Nat.le_of_ble_eq_true rfl)⟩) g hK (by decide) (by decide) (fx' := [(7, 6, q3_, .int x_1022), (2, 13, a0_, .int x_1015), (2, 12, a0_, .int x_1014), (8, 8, q0_, .int x_859), (0, 2, q2_, .ref q6_), (2, 14, a0_, .int x_13), (2, 0, a0_, .ref q0_), (2, 1, a0_, .ref q1_), (2, 2, a0_, .ref q2_), (2, 3, a0_, .ref q3_), (0, 0, q2_, .ref q0_), (0, 1, q2_, .ref q1_), (5, 0, q1_, .ref q6_), (5, 1, q1_, .ref q7_)]) rfl (fun fr_1026 H locs hp hMr_1026 g => ?_)
                          obtain ⟨x_1027, h_1028, hF_1029⟩ := hp
                          have hG_1030 := eOK.frame hMr_1026 go_.2.2.2.1 mq2_ kq2_ (by decide) (by decide) hG_1025
                          have g := g.more hF_1029
                          subst hQ
                          exact W.vret hx hb hr (fun t ht hW => ⟨⟨_, rfl, Or.inr (⟨hG_1030, x_1027, h_1028, x_859, h_860, x_1022, h_1023, (g.fcts [0, 4, 1] rfl)⟩), q3_of g hK ht hW⟩, g.2.2.1.F ht⟩) g.2.2.1.2.2 dX2_readArguments_233
                        · have fc_1012 := nle_f c_1012
                          have b_1031 : bd (-2147483648) (-1) y_947 := ltL fc_1012 (bdT y_947) b_574 (by decide)
                          refine lv_aload_n hx hb dX2_readArguments_188 rfl (lv_at hl 4 rfl) ?_
                          refine g_getk (C := RX2) (T := TX2) (N := 16) hx hb hts (mc_ inX2) hown hK g rfl 0 (by decide) rfl (hts _ (List.mem_cons_of_mem _ t_416)) (fun _ h9 => h9) 4 rfl dX2_readArguments_189 ?_
                          refine lv_bipush (v := 6) hx hb dX2_readArguments_192 (by decide) ?_
                          refine lv_iload hx hb dX2_readArguments_194 (lv_at hl 0 rfl) ?_
                          have kb_6 : bd 6 6 (6 : Int32) := ⟨by decide, by decide⟩
                          have go_ := g
                          refine g_callv (va_runV (As := [.int 6, .int r_1005]) (rest := []) ⟨hx, hb, hml, hown, hts⟩ (r_X8_fail_2 l dC dI L kd tys fr_1007 H.size g.2.2.2.1 q0_ mq0_ kq0_ 6 (bd_sub kb_6 (by decide)) r_1005 x_859 h_860 (g.fcts [1] rfl)) (cwV 2 hts (gV_ t_1122 t_1107 t_1108 t_184 t_1109) rfl rfl rfl (by decide +kernel) ⟨(Nat.le_of_ble_eq_true rfl), (Nat.le_of_ble_eq_true rfl)⟩) (pre3V g hK mq0_ kq0_ (by decide) (q := (RX8, TX8, 10)) rfl) rfl rfl hl.1 rfl (lv_room (Nat.le_of_ble_eq_true rfl)) dX2_readArguments_196 ⟨(Nat.le_of_ble_eq_true rfl), (Nat.le_of_ble_eq_true rfl)⟩) g hK (by decide) (by decide) (fx' := [(8, 8, q0_, .int x_859), (0, 2, q2_, .ref q6_), (2, 14, a0_, .int x_13), (2, 0, a0_, .ref q0_), (2, 1, a0_, .ref q1_), (2, 2, a0_, .ref q2_), (2, 3, a0_, .ref q3_), (0, 0, q2_, .ref q0_), (0, 1, q2_, .ref q1_), (5, 0, q1_, .ref q6_), (5, 1, q1_, .ref q7_)]) rfl (fun fr_1032 H locs hp hMr_1032 g => ?_)
                          have hF_1033 := hp
                          have hG_1034 := eOK.frame hMr_1032 go_.2.2.2.1 mq2_ kq2_ (by decide) (by decide) hG_1011
                          have g := g.more hF_1033
                          refine lv_aload_n hx hb dX2_readArguments_199 rfl (lv_at hl 4 rfl) ?_
                          refine g_getk (C := RX2) (T := TX2) (N := 16) hx hb hts (mc_ inX2) hown hK g rfl 3 (by decide) rfl (hts _ (List.mem_cons_of_mem _ t_419)) (fun _ h9 => h9) 7 rfl dX2_readArguments_200 ?_
                          refine lv_aload_n hx hb dX2_readArguments_203 rfl (lv_at hl 4 rfl) ?_
                          refine g_geti (C := RX2) (T := TX2) (N := 16) hx hb hts (mc_ inX2) hown hK g ma0_ ka0_ (by decide) rfl 12 (by decide) rfl (hts _ (List.mem_cons_of_mem _ t_428)) (fun _ h9 => h9) rfl dX2_readArguments_204 (fun x_1035 bx_1035 g => ?_)
                          refine lv_aload_n hx hb dX2_readArguments_207 rfl (lv_at hl 4 rfl) ?_
                          refine g_geti (C := RX2) (T := TX2) (N := 16) hx hb hts (mc_ inX2) hown hK g ma0_ ka0_ (by decide) rfl 13 (by decide) rfl (hts _ (List.mem_cons_of_mem _ t_429)) (fun _ h9 => h9) rfl dX2_readArguments_208 (fun x_1036 bx_1036 g => ?_)
                          have go_ := g
                          refine g_callv (va_runV (As := [.int x_1035, .int x_1036]) (rest := []) ⟨hx, hb, hml, hown, hts⟩ (r_X7_emit l dC dI L kd tys fr_1032 H.size g.2.2.2.1 q3_ mq3_ kq3_ x_1035 x_1036) (cwV 2 hts (gV_ t_1301 t_1204 t_1205 t_191 t_1206) rfl rfl rfl (by decide +kernel) ⟨(Nat.le_of_ble_eq_true rfl), (Nat.le_of_ble_eq_true rfl)⟩) (pre3V g hK mq3_ kq3_ (by decide) (q := (RX7, TX7, 19)) rfl) rfl rfl hl.1 rfl (lv_room (Nat.le_of_ble_eq_true rfl)) dX2_readArguments_211 ⟨(Nat.le_of_ble_eq_true rfl), (Nat.le_of_ble_eq_true rfl)⟩) g hK (by decide) (by decide) (fx' := [(2, 13, a0_, .int x_1036), (2, 12, a0_, .int x_1035), (8, 6, q0_, .int 1201), (8, 8, q0_, .int x_859), (0, 2, q2_, .ref q6_), (2, 14, a0_, .int x_13), (2, 0, a0_, .ref q0_), (2, 1, a0_, .ref q1_), (2, 2, a0_, .ref q2_), (2, 3, a0_, .ref q3_), (0, 0, q2_, .ref q0_), (0, 1, q2_, .ref q1_), (5, 0, q1_, .ref q6_), (5, 1, q1_, .ref q7_)]) rfl (fun fr_1037 H locs hp hMr_1037 g => ?_)
                          obtain ⟨x_1038, h_1039, hF_1040⟩ := hp
                          have hG_1041 := eOK.frame hMr_1037 go_.2.2.2.1 mq2_ kq2_ (by decide) (by decide) hG_1034
                          have g := g.more hF_1040
                          refine lv_aload_n hx hb dX2_readArguments_214 rfl (lv_at hl 4 rfl) ?_
                          refine g_getk (C := RX2) (T := TX2) (N := 16) hx hb hts (mc_ inX2) hown hK g rfl 3 (by decide) rfl (hts _ (List.mem_cons_of_mem _ t_419)) (fun _ h9 => h9) 10 rfl dX2_readArguments_215 ?_
                          refine lv_bipush (v := 22) hx hb dX2_readArguments_218 (by decide) ?_
                          refine lv_iconst (v := 0) hx hb dX2_readArguments_220 (by decide) ?_
                          have go_ := g
                          refine g_callv (va_runV (As := [.int 22, .int 0]) (rest := []) ⟨hx, hb, hml, hown, hts⟩ (r_X7_emit l dC dI L kd tys fr_1037 H.size g.2.2.2.1 q3_ mq3_ kq3_ 22 0) (cwV 2 hts (gV_ t_1301 t_1204 t_1205 t_191 t_1206) rfl rfl rfl (by decide +kernel) ⟨(Nat.le_of_ble_eq_true rfl), (Nat.le_of_ble_eq_true rfl)⟩) (pre3V g hK mq3_ kq3_ (by decide) (q := (RX7, TX7, 19)) rfl) rfl rfl hl.1 rfl (lv_room (Nat.le_of_ble_eq_true rfl)) dX2_readArguments_221 ⟨(Nat.le_of_ble_eq_true rfl), (Nat.le_of_ble_eq_true rfl)⟩) g hK (by decide) (by decide) (fx' := [(2, 13, a0_, .int x_1036), (2, 12, a0_, .int x_1035), (8, 6, q0_, .int 1201), (8, 8, q0_, .int x_859), (0, 2, q2_, .ref q6_), (2, 14, a0_, .int x_13), (2, 0, a0_, .ref q0_), (2, 1, a0_, .ref q1_), (2, 2, a0_, .ref q2_), (2, 3, a0_, .ref q3_), (0, 0, q2_, .ref q0_), (0, 1, q2_, .ref q1_), (5, 0, q1_, .ref q6_), (5, 1, q1_, .ref q7_)]) rfl (fun fr_1042 H locs hp hMr_1042 g => ?_)
                          obtain ⟨x_1043, h_1044, hF_1045⟩ := hp
                          have hG_1046 := eOK.frame hMr_1042 go_.2.2.2.1 mq2_ kq2_ (by decide) (by decide) hG_1041
                          have g := g.more hF_1045
                          refine lv_aload_n hx hb dX2_readArguments_224 rfl (lv_at hl 4 rfl) ?_
                          refine g_getk (C := RX2) (T := TX2) (N := 16) hx hb hts (mc_ inX2) hown hK g rfl 0 (by decide) rfl (hts _ (List.mem_cons_of_mem _ t_416)) (fun _ h9 => h9) 7 rfl dX2_readArguments_225 ?_
                          refine lv_bipush (v := 59) hx hb dX2_readArguments_228 (by decide) ?_
                          have kb_1201 : bd 1201 1201 (1201 : Int32) := ⟨by decide, by decide⟩
                          have go_ := g
                          refine g_callv (va_runV (As := [.int 59]) (rest := []) ⟨hx, hb, hml, hown, hts⟩ (r_X8_take_2 l dC dI L kd tys fr_1042 H.size g.2.2.2.1 q0_ mq0_ kq0_ 59 1201 kb_1201 x_859 h_860 (g.fcts [3, 4] rfl)) (cwV 1 hts (gV_ t_1098 t_1099 t_1100 t_184 t_1101) rfl rfl rfl (by decide +kernel) ⟨(Nat.le_of_ble_eq_true rfl), (Nat.le_of_ble_eq_true rfl)⟩) (pre3V g hK mq0_ kq0_ (by decide) (q := (RX8, TX8, 10)) rfl) rfl rfl hl.1 rfl (lv_room (Nat.le_of_ble_eq_true rfl)) dX2_readArguments_230 ⟨(Nat.le_of_ble_eq_true rfl), (Nat.le_of_ble_eq_true rfl)⟩) g hK (by decide) (by decide) (fx' := [(7, 6, q3_, .int x_1043), (2, 13, a0_, .int x_1036), (2, 12, a0_, .int x_1035), (8, 8, q0_, .int x_859), (0, 2, q2_, .ref q6_), (2, 14, a0_, .int x_13), (2, 0, a0_, .ref q0_), (2, 1, a0_, .ref q1_), (2, 2, a0_, .ref q2_), (2, 3, a0_, .ref q3_), (0, 0, q2_, .ref q0_), (0, 1, q2_, .ref q1_), (5, 0, q1_, .ref q6_), (5, 1, q1_, .ref q7_)]) rfl (fun fr_1047 H locs hp hMr_1047 g => ?_)
                          obtain ⟨x_1048, h_1049, hF_1050⟩ := hp
                          have hG_1051 := eOK.frame hMr_1047 go_.2.2.2.1 mq2_ kq2_ (by decide) (by decide) hG_1046
                          have g := g.more hF_1050
                          subst hQ
                          exact W.vret hx hb hr (fun t ht hW => ⟨⟨_, rfl, Or.inr (⟨hG_1051, x_1048, h_1049, x_859, h_860, x_1043, h_1044, (g.fcts [0, 4, 1] rfl)⟩), q3_of g hK ht hW⟩, g.2.2.1.F ht⟩) g.2.2.1.2.2 dX2_readArguments_233
          have kb_1 : bd 1 1 (1 : Int32) := ⟨by decide, by decide⟩
          have hl9 := lv_sub hl [0, 1, 2, 3, 4] (by rfl : lv_pick [(4, .int 0), (3, .int 1), (2, .int 0), (1, .int r_1), (0, .ref a0_)] [0, 1, 2, 3, 4] = [(4, .int 0), (3, .int 1), (2, .int 0), (1, .int r_1), (0, .ref a0_)])
          have g9 := g.sub (fx' := [(2, 14, a0_, .int x_13), (8, 8, q0_, .int x_6), (2, 0, a0_, .ref q0_), (2, 1, a0_, .ref q1_), (2, 2, a0_, .ref q2_), (2, 3, a0_, .ref q3_), (0, 0, q2_, .ref q0_), (0, 1, q2_, .ref q1_), (5, 0, q1_, .ref q6_), (5, 1, q1_, .ref q7_)]) [0, 2, 3, 4, 5, 6, 7, 8, 9, 10] rfl
          exact loop_640 (11) 0 1 0 x_6 (bd_sub kb_0 (by decide)) (bd_sub kb_1 (by decide)) h_7 (by have h9_0 := h_7; unfold bd at h9_0; have h9_1 := kb_0; unfold bd at h9_1; have h9_2 := kb_1; unfold bd at h9_2; have h9_3 := kb_41; unfold bd at h9_3; omega) _ _ _ _ g9 hG_580 hl9
      · have fc_577 := neq_f c_577
        refine lv_aload_n hx hb dX2_readArguments_36 rfl (lv_at hl 1 rfl) ?_
        refine g_getk (C := RX2) (T := TX2) (N := 16) hx hb hts (mc_ inX2) hown hK g rfl 0 (by decide) rfl (hts _ (List.mem_cons_of_mem _ t_416)) (fun _ h9 => h9) 3 rfl dX2_readArguments_37 ?_
        refine lv_bipush (v := 6) hx hb dX2_readArguments_40 (by decide) ?_
        refine lv_iload_n hx hb dX2_readArguments_42 rfl (lv_at hl 0 rfl) ?_
        have kb_6 : bd 6 6 (6 : Int32) := ⟨by decide, by decide⟩
        have go_ := g
        refine g_callv (va_runV (As := [.int 6, .int r_1]) (rest := []) ⟨hx, hb, hml, hown, hts⟩ (r_X8_fail l dC dI L kd tys fr_575 H.size g.2.2.2.1 q0_ mq0_ kq0_ 6 (bd_sub kb_6 (by decide)) r_1 x_6 h_7 (g.fcts [2] rfl)) (cwV 2 hts (gV_ t_1122 t_1107 t_1108 t_184 t_1109) rfl rfl rfl (by decide +kernel) ⟨(Nat.le_of_ble_eq_true rfl), (Nat.le_of_ble_eq_true rfl)⟩) (pre3V g hK mq0_ kq0_ (by decide) (q := (RX8, TX8, 10)) rfl) rfl rfl hl.1 rfl (lv_room (Nat.le_of_ble_eq_true rfl)) dX2_readArguments_43 ⟨(Nat.le_of_ble_eq_true rfl), (Nat.le_of_ble_eq_true rfl)⟩) g hK (by decide) (by decide) (fx' := [(2, 14, a0_, .int x_13), (2, 0, a0_, .ref q0_), (2, 1, a0_, .ref q1_), (2, 2, a0_, .ref q2_), (2, 3, a0_, .ref q3_), (0, 0, q2_, .ref q0_), (0, 1, q2_, .ref q1_), (5, 0, q1_, .ref q6_), (5, 1, q1_, .ref q7_)]) rfl (fun fr_1052 H locs hp hMr_1052 g => ?_)
        obtain ⟨x_1053, h_1054, hF_1055⟩ := hp
        have hG_1056 := eOK.frame hMr_1052 go_.2.2.2.1 mq2_ kq2_ (by decide) (by decide) hG_576
        have g := g.more hF_1055
        refine lv_iconst (v := 0) hx hb dX2_readArguments_46 (by decide) ?_
        refine lv_istore_n (lv' := [(2, .int 0), (1, .int r_1), (0, .ref a0_)]) hx hb dX2_readArguments_47 rfl hl (by decide) rfl (fun ls hl => ?_)
        refine lv_aload_n hx hb dX2_readArguments_48 rfl (lv_at hl 2 rfl) ?_
        refine g_getk (C := RX2) (T := TX2) (N := 16) hx hb hts (mc_ inX2) hown hK g rfl 0 (by decide) rfl (hts _ (List.mem_cons_of_mem _ t_416)) (fun _ h9 => h9) 3 rfl dX2_readArguments_49 ?_
        have kb_1201 : bd 1201 1201 (1201 : Int32) := ⟨by decide, by decide⟩
        have go_ := g
        refine g_calli (va_runV (As := []) (rest := []) ⟨hx, hb, hml, hown, hts⟩ (r_X8_kind_2 l dC dI L kd tys fr_1052 H.size g.2.2.2.1 q0_ mq0_ kq0_ 1201 kb_1201 (g.fcts [0] rfl)) (cwV 0 hts (gV_ t_1118 t_1119 t_1120 t_184 t_1121) rfl rfl rfl (by decide +kernel) ⟨(Nat.le_of_ble_eq_true rfl), (Nat.le_of_ble_eq_true rfl)⟩) (pre3V g hK mq0_ kq0_ (by decide) (q := (RX8, TX8, 10)) rfl) rfl rfl hl.1 rfl (lv_room (Nat.le_of_ble_eq_true rfl)) dX2_readArguments_52 ⟨(Nat.le_of_ble_eq_true rfl), (Nat.le_of_ble_eq_true rfl)⟩) g hK (by decide) (by decide) (fx' := [(8, 6, q0_, .int 1201), (8, 8, q0_, .int x_1053), (2, 14, a0_, .int x_13), (2, 0, a0_, .ref q0_), (2, 1, a0_, .ref q1_), (2, 2, a0_, .ref q2_), (2, 3, a0_, .ref q3_), (0, 0, q2_, .ref q0_), (0, 1, q2_, .ref q1_), (5, 0, q1_, .ref q6_), (5, 1, q1_, .ref q7_)]) rfl (fun r_1057 fr_1057 H locs hp hMr_1057 g => ?_)
        obtain ⟨h_1058, -⟩ := hp
        have hG_1059 := eOK.frame hMr_1057 go_.2.2.2.1 mq2_ kq2_ (by decide) (by decide) hG_1056
        obtain rfl : r_1057 = 0 := h_1058
        refine lv_bipush (v := 41) hx hb dX2_readArguments_55 (by decide) ?_
        refine lv_icmp_eq (tgt := 64) hx hb dX2_readArguments_57 (by decide) (fun c_ => absurd c_ (by decide)) (fun c_ => ?_)
        refine lv_iconst (v := 1) hx hb dX2_readArguments_60 (by decide) ?_
        refine lv_goto (tgt := 65) hx hb dX2_readArguments_61 (by decide) ?_
        refine lv_istore_n (lv' := [(3, .int 1), (2, .int 0), (1, .int r_1), (0, .ref a0_)]) hx hb dX2_readArguments_65 rfl hl (by decide) rfl (fun ls hl => ?_)
        refine lv_iconst (v := 0) hx hb dX2_readArguments_66 (by decide) ?_
        refine lv_istore (lv' := [(4, .int 0), (3, .int 1), (2, .int 0), (1, .int r_1), (0, .ref a0_)]) hx hb dX2_readArguments_67 hl (by decide) rfl (fun ls hl => ?_)
        refine lv_iload hx hb dX2_readArguments_69 (lv_at hl 0 rfl) ?_
        refine lv_iconst (v := 3) hx hb dX2_readArguments_71 (by decide) ?_
        refine lv_icmp_gt (tgt := 162) hx hb dX2_readArguments_72 (by decide) (fun c_ => absurd c_ (by decide)) (fun c_ => ?_)
        refine lv_iload_n hx hb dX2_readArguments_75 rfl (lv_at hl 1 rfl) ?_
        refine lv_if_eq (tgt := 162) hx hb dX2_readArguments_76 (by decide) (fun c_ => absurd c_ (by decide)) (fun c_ => ?_)
        refine lv_aload_n hx hb dX2_readArguments_79 rfl (lv_at hl 4 rfl) ?_
        refine g_getk (C := RX2) (T := TX2) (N := 16) hx hb hts (mc_ inX2) hown hK g rfl 0 (by decide) rfl (hts _ (List.mem_cons_of_mem _ t_416)) (fun _ h9 => h9) 3 rfl dX2_readArguments_80 ?_
        refine g_getk (C := RX8) (T := TX8) (N := 10) hx hb hts (mc_ inX8) hown hK g rfl 8 (by decide) rfl (hts _ (List.mem_cons_of_mem _ t_294)) (fun _ h9 => h9) 1 rfl dX2_readArguments_83 ?_
        refine lv_if_ne (tgt := 162) hx hb dX2_readArguments_86 (by decide) (fun c_1060 => ?_) (fun c_1060 => ?_)
        · have fc_1060 := neq_f c_1060
          refine lv_aload_n hx hb dX2_readArguments_162 rfl (lv_at hl 4 rfl) ?_
          refine g_getk (C := RX2) (T := TX2) (N := 16) hx hb hts (mc_ inX2) hown hK g rfl 0 (by decide) rfl (hts _ (List.mem_cons_of_mem _ t_416)) (fun _ h9 => h9) 3 rfl dX2_readArguments_163 ?_
          have go_ := g
          refine g_calli (va_runV (As := []) (rest := []) ⟨hx, hb, hml, hown, hts⟩ (r_X8_place l dC dI L kd tys fr_1057 H.size g.2.2.2.1 q0_ mq0_ kq0_) (cwV 0 hts (gV_ t_1110 t_1111 t_1112 t_184 t_1113) rfl rfl rfl (by decide +kernel) ⟨(Nat.le_of_ble_eq_true rfl), (Nat.le_of_ble_eq_true rfl)⟩) (pre3V g hK mq0_ kq0_ (by decide) (q := (RX8, TX8, 10)) rfl) rfl rfl hl.1 rfl (lv_room (Nat.le_of_ble_eq_true rfl)) dX2_readArguments_166 ⟨(Nat.le_of_ble_eq_true rfl), (Nat.le_of_ble_eq_true rfl)⟩) g hK (by decide) (by decide) (fx' := [(8, 6, q0_, .int 1201), (8, 8, q0_, .int x_1053), (2, 14, a0_, .int x_13), (2, 0, a0_, .ref q0_), (2, 1, a0_, .ref q1_), (2, 2, a0_, .ref q2_), (2, 3, a0_, .ref q3_), (0, 0, q2_, .ref q0_), (0, 1, q2_, .ref q1_), (5, 0, q1_, .ref q6_), (5, 1, q1_, .ref q7_)]) rfl (fun r_1061 fr_1061 H locs hp hMr_1061 g => ?_)
          have hG_1062 := eOK.frame hMr_1061 go_.2.2.2.1 mq2_ kq2_ (by decide) (by decide) hG_1059
          refine lv_istore (lv' := [(4, .int r_1061), (3, .int 1), (2, .int 0), (1, .int r_1), (0, .ref a0_)]) hx hb dX2_readArguments_169 hl (by decide) rfl (fun ls hl => ?_)
          refine lv_aload_n hx hb dX2_readArguments_171 rfl (lv_at hl 4 rfl) ?_
          refine g_getk (C := RX2) (T := TX2) (N := 16) hx hb hts (mc_ inX2) hown hK g rfl 0 (by decide) rfl (hts _ (List.mem_cons_of_mem _ t_416)) (fun _ h9 => h9) 3 rfl dX2_readArguments_172 ?_
          refine lv_bipush (v := 41) hx hb dX2_readArguments_175 (by decide) ?_
          have go_ := g
          refine g_callv (va_runV (As := [.int 41]) (rest := []) ⟨hx, hb, hml, hown, hts⟩ (r_X8_take_2 l dC dI L kd tys fr_1061 H.size g.2.2.2.1 q0_ mq0_ kq0_ 41 1201 kb_1201 x_1053 h_1054 (g.fcts [0, 1] rfl)) (cwV 1 hts (gV_ t_1098 t_1099 t_1100 t_184 t_1101) rfl rfl rfl (by decide +kernel) ⟨(Nat.le_of_ble_eq_true rfl), (Nat.le_of_ble_eq_true rfl)⟩) (pre3V g hK mq0_ kq0_ (by decide) (q := (RX8, TX8, 10)) rfl) rfl rfl hl.1 rfl (lv_room (Nat.le_of_ble_eq_true rfl)) dX2_readArguments_177 ⟨(Nat.le_of_ble_eq_true rfl), (Nat.le_of_ble_eq_true rfl)⟩) g hK (by decide) (by decide) (fx' := [(8, 8, q0_, .int x_1053), (2, 14, a0_, .int x_13), (2, 0, a0_, .ref q0_), (2, 1, a0_, .ref q1_), (2, 2, a0_, .ref q2_), (2, 3, a0_, .ref q3_), (0, 0, q2_, .ref q0_), (0, 1, q2_, .ref q1_), (5, 0, q1_, .ref q6_), (5, 1, q1_, .ref q7_)]) rfl (fun fr_1063 H locs hp hMr_1063 g => ?_)
          obtain ⟨x_1064, h_1065, hF_1066⟩ := hp
          have hG_1067 := eOK.frame hMr_1063 go_.2.2.2.1 mq2_ kq2_ (by decide) (by decide) hG_1062
          have g := g.more hF_1066
          refine lv_iload_n hx hb dX2_readArguments_180 rfl (lv_at hl 2 rfl) ?_
          refine lv_aload_n hx hb dX2_readArguments_181 rfl (lv_at hl 4 rfl) ?_
          refine g_getk (C := RX2) (T := TX2) (N := 16) hx hb hts (mc_ inX2) hown hK g rfl 14 (by decide) rfl (hts _ (List.mem_cons_of_mem _ t_430)) (fun _ h9 => h9) 2 rfl dX2_readArguments_182 ?_
          refine lv_icmp_ge (tgt := 199) hx hb dX2_readArguments_185 (by decide) (fun c_1068 => ?_) (fun c_1068 => ?_)
          · have fc_1068 := le_f c_1068
            refine lv_aload_n hx hb dX2_readArguments_199 rfl (lv_at hl 4 rfl) ?_
            refine g_getk (C := RX2) (T := TX2) (N := 16) hx hb hts (mc_ inX2) hown hK g rfl 3 (by decide) rfl (hts _ (List.mem_cons_of_mem _ t_419)) (fun _ h9 => h9) 6 rfl dX2_readArguments_200 ?_
            refine lv_aload_n hx hb dX2_readArguments_203 rfl (lv_at hl 4 rfl) ?_
            refine g_geti (C := RX2) (T := TX2) (N := 16) hx hb hts (mc_ inX2) hown hK g ma0_ ka0_ (by decide) rfl 12 (by decide) rfl (hts _ (List.mem_cons_of_mem _ t_428)) (fun _ h9 => h9) rfl dX2_readArguments_204 (fun x_1069 bx_1069 g => ?_)
            refine lv_aload_n hx hb dX2_readArguments_207 rfl (lv_at hl 4 rfl) ?_
            refine g_geti (C := RX2) (T := TX2) (N := 16) hx hb hts (mc_ inX2) hown hK g ma0_ ka0_ (by decide) rfl 13 (by decide) rfl (hts _ (List.mem_cons_of_mem _ t_429)) (fun _ h9 => h9) rfl dX2_readArguments_208 (fun x_1070 bx_1070 g => ?_)
            have go_ := g
            refine g_callv (va_runV (As := [.int x_1069, .int x_1070]) (rest := []) ⟨hx, hb, hml, hown, hts⟩ (r_X7_emit l dC dI L kd tys fr_1063 H.size g.2.2.2.1 q3_ mq3_ kq3_ x_1069 x_1070) (cwV 2 hts (gV_ t_1301 t_1204 t_1205 t_191 t_1206) rfl rfl rfl (by decide +kernel) ⟨(Nat.le_of_ble_eq_true rfl), (Nat.le_of_ble_eq_true rfl)⟩) (pre3V g hK mq3_ kq3_ (by decide) (q := (RX7, TX7, 19)) rfl) rfl rfl hl.1 rfl (lv_room (Nat.le_of_ble_eq_true rfl)) dX2_readArguments_211 ⟨(Nat.le_of_ble_eq_true rfl), (Nat.le_of_ble_eq_true rfl)⟩) g hK (by decide) (by decide) (fx' := [(2, 13, a0_, .int x_1070), (2, 12, a0_, .int x_1069), (8, 6, q0_, .int x_1064), (8, 8, q0_, .int x_1053), (2, 14, a0_, .int x_13), (2, 0, a0_, .ref q0_), (2, 1, a0_, .ref q1_), (2, 2, a0_, .ref q2_), (2, 3, a0_, .ref q3_), (0, 0, q2_, .ref q0_), (0, 1, q2_, .ref q1_), (5, 0, q1_, .ref q6_), (5, 1, q1_, .ref q7_)]) rfl (fun fr_1071 H locs hp hMr_1071 g => ?_)
            obtain ⟨x_1072, h_1073, hF_1074⟩ := hp
            have hG_1075 := eOK.frame hMr_1071 go_.2.2.2.1 mq2_ kq2_ (by decide) (by decide) hG_1067
            have g := g.more hF_1074
            refine lv_aload_n hx hb dX2_readArguments_214 rfl (lv_at hl 4 rfl) ?_
            refine g_getk (C := RX2) (T := TX2) (N := 16) hx hb hts (mc_ inX2) hown hK g rfl 3 (by decide) rfl (hts _ (List.mem_cons_of_mem _ t_419)) (fun _ h9 => h9) 9 rfl dX2_readArguments_215 ?_
            refine lv_bipush (v := 22) hx hb dX2_readArguments_218 (by decide) ?_
            refine lv_iconst (v := 0) hx hb dX2_readArguments_220 (by decide) ?_
            have go_ := g
            refine g_callv (va_runV (As := [.int 22, .int 0]) (rest := []) ⟨hx, hb, hml, hown, hts⟩ (r_X7_emit l dC dI L kd tys fr_1071 H.size g.2.2.2.1 q3_ mq3_ kq3_ 22 0) (cwV 2 hts (gV_ t_1301 t_1204 t_1205 t_191 t_1206) rfl rfl rfl (by decide +kernel) ⟨(Nat.le_of_ble_eq_true rfl), (Nat.le_of_ble_eq_true rfl)⟩) (pre3V g hK mq3_ kq3_ (by decide) (q := (RX7, TX7, 19)) rfl) rfl rfl hl.1 rfl (lv_room (Nat.le_of_ble_eq_true rfl)) dX2_readArguments_221 ⟨(Nat.le_of_ble_eq_true rfl), (Nat.le_of_ble_eq_true rfl)⟩) g hK (by decide) (by decide) (fx' := [(2, 13, a0_, .int x_1070), (2, 12, a0_, .int x_1069), (8, 6, q0_, .int x_1064), (8, 8, q0_, .int x_1053), (2, 14, a0_, .int x_13), (2, 0, a0_, .ref q0_), (2, 1, a0_, .ref q1_), (2, 2, a0_, .ref q2_), (2, 3, a0_, .ref q3_), (0, 0, q2_, .ref q0_), (0, 1, q2_, .ref q1_), (5, 0, q1_, .ref q6_), (5, 1, q1_, .ref q7_)]) rfl (fun fr_1076 H locs hp hMr_1076 g => ?_)
            obtain ⟨x_1077, h_1078, hF_1079⟩ := hp
            have hG_1080 := eOK.frame hMr_1076 go_.2.2.2.1 mq2_ kq2_ (by decide) (by decide) hG_1075
            have g := g.more hF_1079
            refine lv_aload_n hx hb dX2_readArguments_224 rfl (lv_at hl 4 rfl) ?_
            refine g_getk (C := RX2) (T := TX2) (N := 16) hx hb hts (mc_ inX2) hown hK g rfl 0 (by decide) rfl (hts _ (List.mem_cons_of_mem _ t_416)) (fun _ h9 => h9) 6 rfl dX2_readArguments_225 ?_
            refine lv_bipush (v := 59) hx hb dX2_readArguments_228 (by decide) ?_
            have go_ := g
            refine g_callv (va_runV (As := [.int 59]) (rest := []) ⟨hx, hb, hml, hown, hts⟩ (r_X8_take_2 l dC dI L kd tys fr_1076 H.size g.2.2.2.1 q0_ mq0_ kq0_ 59 x_1064 h_1065 x_1053 h_1054 (g.fcts [3, 4] rfl)) (cwV 1 hts (gV_ t_1098 t_1099 t_1100 t_184 t_1101) rfl rfl rfl (by decide +kernel) ⟨(Nat.le_of_ble_eq_true rfl), (Nat.le_of_ble_eq_true rfl)⟩) (pre3V g hK mq0_ kq0_ (by decide) (q := (RX8, TX8, 10)) rfl) rfl rfl hl.1 rfl (lv_room (Nat.le_of_ble_eq_true rfl)) dX2_readArguments_230 ⟨(Nat.le_of_ble_eq_true rfl), (Nat.le_of_ble_eq_true rfl)⟩) g hK (by decide) (by decide) (fx' := [(7, 6, q3_, .int x_1077), (2, 13, a0_, .int x_1070), (2, 12, a0_, .int x_1069), (8, 8, q0_, .int x_1053), (2, 14, a0_, .int x_13), (2, 0, a0_, .ref q0_), (2, 1, a0_, .ref q1_), (2, 2, a0_, .ref q2_), (2, 3, a0_, .ref q3_), (0, 0, q2_, .ref q0_), (0, 1, q2_, .ref q1_), (5, 0, q1_, .ref q6_), (5, 1, q1_, .ref q7_)]) rfl (fun fr_1081 H locs hp hMr_1081 g => ?_)
            obtain ⟨x_1082, h_1083, hF_1084⟩ := hp
            have hG_1085 := eOK.frame hMr_1081 go_.2.2.2.1 mq2_ kq2_ (by decide) (by decide) hG_1080
            have g := g.more hF_1084
            subst hQ
            exact W.vret hx hb hr (fun t ht hW => ⟨⟨_, rfl, Or.inr (⟨hG_1085, x_1082, h_1083, x_1053, h_1054, x_1077, h_1078, (g.fcts [0, 4, 1] rfl)⟩), q3_of g hK ht hW⟩, g.2.2.1.F ht⟩) g.2.2.1.2.2 dX2_readArguments_233
          · have fc_1068 := nle_f c_1068
            have b_1086 : bd 0 (-1) (0 : Int32) := ltL fc_1068 kb_0 b_574 (by decide)
            exact bd_no (eqX rfl b_1086 kb_0 (lo := 0) (hi := (-1)) (by decide)) (by decide)
        · have fc_1060 := eq_f c_1060
          have b_1087 : bd 1 0 x_1053 := eqX fc_1060 h_1054 kb_0 (by decide)
          exact bd_no b_1087 (by decide)
  · have hG_1088 := eOK.frame hMr_3 go_.2.2.2.1 mq2_ kq2_ (by decide) (by decide) hG_2
    have g := g.more hF_11
    refine lv_aload_n hx hb dX2_readArguments_17 rfl (lv_at hl 1 rfl) ?_
    refine g_geti (C := RX2) (T := TX2) (N := 16) hx hb hts (mc_ inX2) hown hK g ma0_ ka0_ (by decide) rfl 14 (by decide) rfl (hts _ (List.mem_cons_of_mem _ t_430)) (fun _ h9 => h9) rfl dX2_readArguments_18 (fun x_1089 bx_1089 g => ?_)
    have kb_0 : bd 0 0 (0 : Int32) := ⟨by decide, by decide⟩
    refine lv_if_ne (tgt := 46) hx hb dX2_readArguments_21 (by decide) (fun c_1090 => ?_) (fun c_1090 => ?_)
    · have fc_1090 := neq_f c_1090
      refine lv_iconst (v := 0) hx hb dX2_readArguments_46 (by decide) ?_
      refine lv_istore_n (lv' := [(2, .int 0), (1, .int r_1), (0, .ref a0_)]) hx hb dX2_readArguments_47 rfl hl (by decide) rfl (fun ls hl => ?_)
      refine lv_aload_n hx hb dX2_readArguments_48 rfl (lv_at hl 2 rfl) ?_
      refine g_getk (C := RX2) (T := TX2) (N := 16) hx hb hts (mc_ inX2) hown hK g rfl 0 (by decide) rfl (hts _ (List.mem_cons_of_mem _ t_416)) (fun _ h9 => h9) 3 rfl dX2_readArguments_49 ?_
      have kb_1201 : bd 1201 1201 (1201 : Int32) := ⟨by decide, by decide⟩
      have go_ := g
      refine g_calli (va_runV (As := []) (rest := []) ⟨hx, hb, hml, hown, hts⟩ (r_X8_kind_2 l dC dI L kd tys fr_3 H.size g.2.2.2.1 q0_ mq0_ kq0_ 1201 kb_1201 (g.fcts [1] rfl)) (cwV 0 hts (gV_ t_1118 t_1119 t_1120 t_184 t_1121) rfl rfl rfl (by decide +kernel) ⟨(Nat.le_of_ble_eq_true rfl), (Nat.le_of_ble_eq_true rfl)⟩) (pre3V g hK mq0_ kq0_ (by decide) (q := (RX8, TX8, 10)) rfl) rfl rfl hl.1 rfl (lv_room (Nat.le_of_ble_eq_true rfl)) dX2_readArguments_52 ⟨(Nat.le_of_ble_eq_true rfl), (Nat.le_of_ble_eq_true rfl)⟩) g hK (by decide) (by decide) (fx' := [(2, 14, a0_, .int x_1089), (8, 6, q0_, .int 1201), (8, 8, q0_, .int x_9), (2, 0, a0_, .ref q0_), (2, 1, a0_, .ref q1_), (2, 2, a0_, .ref q2_), (2, 3, a0_, .ref q3_), (0, 0, q2_, .ref q0_), (0, 1, q2_, .ref q1_), (5, 0, q1_, .ref q6_), (5, 1, q1_, .ref q7_)]) rfl (fun r_1091 fr_1091 H locs hp hMr_1091 g => ?_)
      obtain ⟨h_1092, -⟩ := hp
      have hG_1093 := eOK.frame hMr_1091 go_.2.2.2.1 mq2_ kq2_ (by decide) (by decide) hG_1088
      obtain rfl : r_1091 = 0 := h_1092
      refine lv_bipush (v := 41) hx hb dX2_readArguments_55 (by decide) ?_
      refine lv_icmp_eq (tgt := 64) hx hb dX2_readArguments_57 (by decide) (fun c_ => absurd c_ (by decide)) (fun c_ => ?_)
      refine lv_iconst (v := 1) hx hb dX2_readArguments_60 (by decide) ?_
      refine lv_goto (tgt := 65) hx hb dX2_readArguments_61 (by decide) ?_
      refine lv_istore_n (lv' := [(3, .int 1), (2, .int 0), (1, .int r_1), (0, .ref a0_)]) hx hb dX2_readArguments_65 rfl hl (by decide) rfl (fun ls hl => ?_)
      refine lv_iconst (v := 0) hx hb dX2_readArguments_66 (by decide) ?_
      refine lv_istore (lv' := [(4, .int 0), (3, .int 1), (2, .int 0), (1, .int r_1), (0, .ref a0_)]) hx hb dX2_readArguments_67 hl (by decide) rfl (fun ls hl => ?_)
      refine lv_iload hx hb dX2_readArguments_69 (lv_at hl 0 rfl) ?_
      refine lv_iconst (v := 3) hx hb dX2_readArguments_71 (by decide) ?_
      refine lv_icmp_gt (tgt := 162) hx hb dX2_readArguments_72 (by decide) (fun c_ => absurd c_ (by decide)) (fun c_ => ?_)
      refine lv_iload_n hx hb dX2_readArguments_75 rfl (lv_at hl 1 rfl) ?_
      refine lv_if_eq (tgt := 162) hx hb dX2_readArguments_76 (by decide) (fun c_ => absurd c_ (by decide)) (fun c_ => ?_)
      refine lv_aload_n hx hb dX2_readArguments_79 rfl (lv_at hl 4 rfl) ?_
      refine g_getk (C := RX2) (T := TX2) (N := 16) hx hb hts (mc_ inX2) hown hK g rfl 0 (by decide) rfl (hts _ (List.mem_cons_of_mem _ t_416)) (fun _ h9 => h9) 3 rfl dX2_readArguments_80 ?_
      refine g_getk (C := RX8) (T := TX8) (N := 10) hx hb hts (mc_ inX8) hown hK g rfl 8 (by decide) rfl (hts _ (List.mem_cons_of_mem _ t_294)) (fun _ h9 => h9) 2 rfl dX2_readArguments_83 ?_
      refine lv_if_ne (tgt := 162) hx hb dX2_readArguments_86 (by decide) (fun c_1094 => ?_) (fun c_1094 => ?_)
      · have fc_1094 := neq_f c_1094
        refine lv_aload_n hx hb dX2_readArguments_162 rfl (lv_at hl 4 rfl) ?_
        refine g_getk (C := RX2) (T := TX2) (N := 16) hx hb hts (mc_ inX2) hown hK g rfl 0 (by decide) rfl (hts _ (List.mem_cons_of_mem _ t_416)) (fun _ h9 => h9) 3 rfl dX2_readArguments_163 ?_
        have go_ := g
        refine g_calli (va_runV (As := []) (rest := []) ⟨hx, hb, hml, hown, hts⟩ (r_X8_place l dC dI L kd tys fr_1091 H.size g.2.2.2.1 q0_ mq0_ kq0_) (cwV 0 hts (gV_ t_1110 t_1111 t_1112 t_184 t_1113) rfl rfl rfl (by decide +kernel) ⟨(Nat.le_of_ble_eq_true rfl), (Nat.le_of_ble_eq_true rfl)⟩) (pre3V g hK mq0_ kq0_ (by decide) (q := (RX8, TX8, 10)) rfl) rfl rfl hl.1 rfl (lv_room (Nat.le_of_ble_eq_true rfl)) dX2_readArguments_166 ⟨(Nat.le_of_ble_eq_true rfl), (Nat.le_of_ble_eq_true rfl)⟩) g hK (by decide) (by decide) (fx' := [(2, 14, a0_, .int x_1089), (8, 6, q0_, .int 1201), (8, 8, q0_, .int x_9), (2, 0, a0_, .ref q0_), (2, 1, a0_, .ref q1_), (2, 2, a0_, .ref q2_), (2, 3, a0_, .ref q3_), (0, 0, q2_, .ref q0_), (0, 1, q2_, .ref q1_), (5, 0, q1_, .ref q6_), (5, 1, q1_, .ref q7_)]) rfl (fun r_1095 fr_1095 H locs hp hMr_1095 g => ?_)
        have hG_1096 := eOK.frame hMr_1095 go_.2.2.2.1 mq2_ kq2_ (by decide) (by decide) hG_1093
        refine lv_istore (lv' := [(4, .int r_1095), (3, .int 1), (2, .int 0), (1, .int r_1), (0, .ref a0_)]) hx hb dX2_readArguments_169 hl (by decide) rfl (fun ls hl => ?_)
        refine lv_aload_n hx hb dX2_readArguments_171 rfl (lv_at hl 4 rfl) ?_
        refine g_getk (C := RX2) (T := TX2) (N := 16) hx hb hts (mc_ inX2) hown hK g rfl 0 (by decide) rfl (hts _ (List.mem_cons_of_mem _ t_416)) (fun _ h9 => h9) 3 rfl dX2_readArguments_172 ?_
        refine lv_bipush (v := 41) hx hb dX2_readArguments_175 (by decide) ?_
        have go_ := g
        refine g_callv (va_runV (As := [.int 41]) (rest := []) ⟨hx, hb, hml, hown, hts⟩ (r_X8_take_2 l dC dI L kd tys fr_1095 H.size g.2.2.2.1 q0_ mq0_ kq0_ 41 1201 kb_1201 x_9 h_10 (g.fcts [1, 2] rfl)) (cwV 1 hts (gV_ t_1098 t_1099 t_1100 t_184 t_1101) rfl rfl rfl (by decide +kernel) ⟨(Nat.le_of_ble_eq_true rfl), (Nat.le_of_ble_eq_true rfl)⟩) (pre3V g hK mq0_ kq0_ (by decide) (q := (RX8, TX8, 10)) rfl) rfl rfl hl.1 rfl (lv_room (Nat.le_of_ble_eq_true rfl)) dX2_readArguments_177 ⟨(Nat.le_of_ble_eq_true rfl), (Nat.le_of_ble_eq_true rfl)⟩) g hK (by decide) (by decide) (fx' := [(2, 14, a0_, .int x_1089), (8, 8, q0_, .int x_9), (2, 0, a0_, .ref q0_), (2, 1, a0_, .ref q1_), (2, 2, a0_, .ref q2_), (2, 3, a0_, .ref q3_), (0, 0, q2_, .ref q0_), (0, 1, q2_, .ref q1_), (5, 0, q1_, .ref q6_), (5, 1, q1_, .ref q7_)]) rfl (fun fr_1097 H locs hp hMr_1097 g => ?_)
        obtain ⟨x_1098, h_1099, hF_1100⟩ := hp
        have hG_1101 := eOK.frame hMr_1097 go_.2.2.2.1 mq2_ kq2_ (by decide) (by decide) hG_1096
        have g := g.more hF_1100
        refine lv_iload_n hx hb dX2_readArguments_180 rfl (lv_at hl 2 rfl) ?_
        refine lv_aload_n hx hb dX2_readArguments_181 rfl (lv_at hl 4 rfl) ?_
        refine g_getk (C := RX2) (T := TX2) (N := 16) hx hb hts (mc_ inX2) hown hK g rfl 14 (by decide) rfl (hts _ (List.mem_cons_of_mem _ t_430)) (fun _ h9 => h9) 1 rfl dX2_readArguments_182 ?_
        refine lv_icmp_ge (tgt := 199) hx hb dX2_readArguments_185 (by decide) (fun c_1102 => ?_) (fun c_1102 => ?_)
        · have fc_1102 := le_f c_1102
          have b_1103 : bd (-2147483648) 0 x_1089 := leL fc_1102 (bdT x_1089) kb_0 (by decide)
          refine lv_aload_n hx hb dX2_readArguments_199 rfl (lv_at hl 4 rfl) ?_
          refine g_getk (C := RX2) (T := TX2) (N := 16) hx hb hts (mc_ inX2) hown hK g rfl 3 (by decide) rfl (hts _ (List.mem_cons_of_mem _ t_419)) (fun _ h9 => h9) 6 rfl dX2_readArguments_200 ?_
          refine lv_aload_n hx hb dX2_readArguments_203 rfl (lv_at hl 4 rfl) ?_
          refine g_geti (C := RX2) (T := TX2) (N := 16) hx hb hts (mc_ inX2) hown hK g ma0_ ka0_ (by decide) rfl 12 (by decide) rfl (hts _ (List.mem_cons_of_mem _ t_428)) (fun _ h9 => h9) rfl dX2_readArguments_204 (fun x_1104 bx_1104 g => ?_)
          refine lv_aload_n hx hb dX2_readArguments_207 rfl (lv_at hl 4 rfl) ?_
          refine g_geti (C := RX2) (T := TX2) (N := 16) hx hb hts (mc_ inX2) hown hK g ma0_ ka0_ (by decide) rfl 13 (by decide) rfl (hts _ (List.mem_cons_of_mem _ t_429)) (fun _ h9 => h9) rfl dX2_readArguments_208 (fun x_1105 bx_1105 g => ?_)
          have go_ := g
          refine g_callv (va_runV (As := [.int x_1104, .int x_1105]) (rest := []) ⟨hx, hb, hml, hown, hts⟩ (r_X7_emit l dC dI L kd tys fr_1097 H.size g.2.2.2.1 q3_ mq3_ kq3_ x_1104 x_1105) (cwV 2 hts (gV_ t_1301 t_1204 t_1205 t_191 t_1206) rfl rfl rfl (by decide +kernel) ⟨(Nat.le_of_ble_eq_true rfl), (Nat.le_of_ble_eq_true rfl)⟩) (pre3V g hK mq3_ kq3_ (by decide) (q := (RX7, TX7, 19)) rfl) rfl rfl hl.1 rfl (lv_room (Nat.le_of_ble_eq_true rfl)) dX2_readArguments_211 ⟨(Nat.le_of_ble_eq_true rfl), (Nat.le_of_ble_eq_true rfl)⟩) g hK (by decide) (by decide) (fx' := [(2, 13, a0_, .int x_1105), (2, 12, a0_, .int x_1104), (8, 6, q0_, .int x_1098), (2, 14, a0_, .int x_1089), (8, 8, q0_, .int x_9), (2, 0, a0_, .ref q0_), (2, 1, a0_, .ref q1_), (2, 2, a0_, .ref q2_), (2, 3, a0_, .ref q3_), (0, 0, q2_, .ref q0_), (0, 1, q2_, .ref q1_), (5, 0, q1_, .ref q6_), (5, 1, q1_, .ref q7_)]) rfl (fun fr_1106 H locs hp hMr_1106 g => ?_)
          obtain ⟨x_1107, h_1108, hF_1109⟩ := hp
          have hG_1110 := eOK.frame hMr_1106 go_.2.2.2.1 mq2_ kq2_ (by decide) (by decide) hG_1101
          have g := g.more hF_1109
          refine lv_aload_n hx hb dX2_readArguments_214 rfl (lv_at hl 4 rfl) ?_
          refine g_getk (C := RX2) (T := TX2) (N := 16) hx hb hts (mc_ inX2) hown hK g rfl 3 (by decide) rfl (hts _ (List.mem_cons_of_mem _ t_419)) (fun _ h9 => h9) 9 rfl dX2_readArguments_215 ?_
          refine lv_bipush (v := 22) hx hb dX2_readArguments_218 (by decide) ?_
          refine lv_iconst (v := 0) hx hb dX2_readArguments_220 (by decide) ?_
          have go_ := g
          refine g_callv (va_runV (As := [.int 22, .int 0]) (rest := []) ⟨hx, hb, hml, hown, hts⟩ (r_X7_emit l dC dI L kd tys fr_1106 H.size g.2.2.2.1 q3_ mq3_ kq3_ 22 0) (cwV 2 hts (gV_ t_1301 t_1204 t_1205 t_191 t_1206) rfl rfl rfl (by decide +kernel) ⟨(Nat.le_of_ble_eq_true rfl), (Nat.le_of_ble_eq_true rfl)⟩) (pre3V g hK mq3_ kq3_ (by decide) (q := (RX7, TX7, 19)) rfl) rfl rfl hl.1 rfl (lv_room (Nat.le_of_ble_eq_true rfl)) dX2_readArguments_221 ⟨(Nat.le_of_ble_eq_true rfl), (Nat.le_of_ble_eq_true rfl)⟩) g hK (by decide) (by decide) (fx' := [(2, 13, a0_, .int x_1105), (2, 12, a0_, .int x_1104), (8, 6, q0_, .int x_1098), (2, 14, a0_, .int x_1089), (8, 8, q0_, .int x_9), (2, 0, a0_, .ref q0_), (2, 1, a0_, .ref q1_), (2, 2, a0_, .ref q2_), (2, 3, a0_, .ref q3_), (0, 0, q2_, .ref q0_), (0, 1, q2_, .ref q1_), (5, 0, q1_, .ref q6_), (5, 1, q1_, .ref q7_)]) rfl (fun fr_1111 H locs hp hMr_1111 g => ?_)
          obtain ⟨x_1112, h_1113, hF_1114⟩ := hp
          have hG_1115 := eOK.frame hMr_1111 go_.2.2.2.1 mq2_ kq2_ (by decide) (by decide) hG_1110
          have g := g.more hF_1114
          refine lv_aload_n hx hb dX2_readArguments_224 rfl (lv_at hl 4 rfl) ?_
          refine g_getk (C := RX2) (T := TX2) (N := 16) hx hb hts (mc_ inX2) hown hK g rfl 0 (by decide) rfl (hts _ (List.mem_cons_of_mem _ t_416)) (fun _ h9 => h9) 6 rfl dX2_readArguments_225 ?_
          refine lv_bipush (v := 59) hx hb dX2_readArguments_228 (by decide) ?_
          have go_ := g
          refine g_callv (va_runV (As := [.int 59]) (rest := []) ⟨hx, hb, hml, hown, hts⟩ (r_X8_take_2 l dC dI L kd tys fr_1111 H.size g.2.2.2.1 q0_ mq0_ kq0_ 59 x_1098 h_1099 x_9 h_10 (g.fcts [3, 5] rfl)) (cwV 1 hts (gV_ t_1098 t_1099 t_1100 t_184 t_1101) rfl rfl rfl (by decide +kernel) ⟨(Nat.le_of_ble_eq_true rfl), (Nat.le_of_ble_eq_true rfl)⟩) (pre3V g hK mq0_ kq0_ (by decide) (q := (RX8, TX8, 10)) rfl) rfl rfl hl.1 rfl (lv_room (Nat.le_of_ble_eq_true rfl)) dX2_readArguments_230 ⟨(Nat.le_of_ble_eq_true rfl), (Nat.le_of_ble_eq_true rfl)⟩) g hK (by decide) (by decide) (fx' := [(7, 6, q3_, .int x_1112), (2, 13, a0_, .int x_1105), (2, 12, a0_, .int x_1104), (2, 14, a0_, .int x_1089), (8, 8, q0_, .int x_9), (2, 0, a0_, .ref q0_), (2, 1, a0_, .ref q1_), (2, 2, a0_, .ref q2_), (2, 3, a0_, .ref q3_), (0, 0, q2_, .ref q0_), (0, 1, q2_, .ref q1_), (5, 0, q1_, .ref q6_), (5, 1, q1_, .ref q7_)]) rfl (fun fr_1116 H locs hp hMr_1116 g => ?_)
          obtain ⟨x_1117, h_1118, hF_1119⟩ := hp
          have hG_1120 := eOK.frame hMr_1116 go_.2.2.2.1 mq2_ kq2_ (by decide) (by decide) hG_1115
          have g := g.more hF_1119
          subst hQ
          exact W.vret hx hb hr (fun t ht hW => ⟨⟨_, rfl, Or.inr (⟨hG_1120, x_1117, h_1118, x_9, h_10, x_1112, h_1113, (g.fcts [0, 5, 1] rfl)⟩), q3_of g hK ht hW⟩, g.2.2.1.F ht⟩) g.2.2.1.2.2 dX2_readArguments_233
        · have fc_1102 := nle_f c_1102
          have b_1121 : bd 1 2147483647 x_1089 := ltR fc_1102 kb_0 (bdT x_1089) (by decide)
          refine lv_aload_n hx hb dX2_readArguments_188 rfl (lv_at hl 4 rfl) ?_
          refine g_getk (C := RX2) (T := TX2) (N := 16) hx hb hts (mc_ inX2) hown hK g rfl 0 (by decide) rfl (hts _ (List.mem_cons_of_mem _ t_416)) (fun _ h9 => h9) 3 rfl dX2_readArguments_189 ?_
          refine lv_bipush (v := 6) hx hb dX2_readArguments_192 (by decide) ?_
          refine lv_iload hx hb dX2_readArguments_194 (lv_at hl 0 rfl) ?_
          have kb_6 : bd 6 6 (6 : Int32) := ⟨by decide, by decide⟩
          have go_ := g
          refine g_callv (va_runV (As := [.int 6, .int r_1095]) (rest := []) ⟨hx, hb, hml, hown, hts⟩ (r_X8_fail_2 l dC dI L kd tys fr_1097 H.size g.2.2.2.1 q0_ mq0_ kq0_ 6 (bd_sub kb_6 (by decide)) r_1095 x_9 h_10 (g.fcts [2] rfl)) (cwV 2 hts (gV_ t_1122 t_1107 t_1108 t_184 t_1109) rfl rfl rfl (by decide +kernel) ⟨(Nat.le_of_ble_eq_true rfl), (Nat.le_of_ble_eq_true rfl)⟩) (pre3V g hK mq0_ kq0_ (by decide) (q := (RX8, TX8, 10)) rfl) rfl rfl hl.1 rfl (lv_room (Nat.le_of_ble_eq_true rfl)) dX2_readArguments_196 ⟨(Nat.le_of_ble_eq_true rfl), (Nat.le_of_ble_eq_true rfl)⟩) g hK (by decide) (by decide) (fx' := [(2, 14, a0_, .int x_1089), (8, 8, q0_, .int x_9), (2, 0, a0_, .ref q0_), (2, 1, a0_, .ref q1_), (2, 2, a0_, .ref q2_), (2, 3, a0_, .ref q3_), (0, 0, q2_, .ref q0_), (0, 1, q2_, .ref q1_), (5, 0, q1_, .ref q6_), (5, 1, q1_, .ref q7_)]) rfl (fun fr_1122 H locs hp hMr_1122 g => ?_)
          have hF_1123 := hp
          have hG_1124 := eOK.frame hMr_1122 go_.2.2.2.1 mq2_ kq2_ (by decide) (by decide) hG_1101
          have g := g.more hF_1123
          refine lv_aload_n hx hb dX2_readArguments_199 rfl (lv_at hl 4 rfl) ?_
          refine g_getk (C := RX2) (T := TX2) (N := 16) hx hb hts (mc_ inX2) hown hK g rfl 3 (by decide) rfl (hts _ (List.mem_cons_of_mem _ t_419)) (fun _ h9 => h9) 6 rfl dX2_readArguments_200 ?_
          refine lv_aload_n hx hb dX2_readArguments_203 rfl (lv_at hl 4 rfl) ?_
          refine g_geti (C := RX2) (T := TX2) (N := 16) hx hb hts (mc_ inX2) hown hK g ma0_ ka0_ (by decide) rfl 12 (by decide) rfl (hts _ (List.mem_cons_of_mem _ t_428)) (fun _ h9 => h9) rfl dX2_readArguments_204 (fun x_1125 bx_1125 g => ?_)
          refine lv_aload_n hx hb dX2_readArguments_207 rfl (lv_at hl 4 rfl) ?_
          refine g_geti (C := RX2) (T := TX2) (N := 16) hx hb hts (mc_ inX2) hown hK g ma0_ ka0_ (by decide) rfl 13 (by decide) rfl (hts _ (List.mem_cons_of_mem _ t_429)) (fun _ h9 => h9) rfl dX2_readArguments_208 (fun x_1126 bx_1126 g => ?_)
          have go_ := g
          refine g_callv (va_runV (As := [.int x_1125, .int x_1126]) (rest := []) ⟨hx, hb, hml, hown, hts⟩ (r_X7_emit l dC dI L kd tys fr_1122 H.size g.2.2.2.1 q3_ mq3_ kq3_ x_1125 x_1126) (cwV 2 hts (gV_ t_1301 t_1204 t_1205 t_191 t_1206) rfl rfl rfl (by decide +kernel) ⟨(Nat.le_of_ble_eq_true rfl), (Nat.le_of_ble_eq_true rfl)⟩) (pre3V g hK mq3_ kq3_ (by decide) (q := (RX7, TX7, 19)) rfl) rfl rfl hl.1 rfl (lv_room (Nat.le_of_ble_eq_true rfl)) dX2_readArguments_211 ⟨(Nat.le_of_ble_eq_true rfl), (Nat.le_of_ble_eq_true rfl)⟩) g hK (by decide) (by decide) (fx' := [(2, 13, a0_, .int x_1126), (2, 12, a0_, .int x_1125), (8, 6, q0_, .int 1201), (2, 14, a0_, .int x_1089), (8, 8, q0_, .int x_9), (2, 0, a0_, .ref q0_), (2, 1, a0_, .ref q1_), (2, 2, a0_, .ref q2_), (2, 3, a0_, .ref q3_), (0, 0, q2_, .ref q0_), (0, 1, q2_, .ref q1_), (5, 0, q1_, .ref q6_), (5, 1, q1_, .ref q7_)]) rfl (fun fr_1127 H locs hp hMr_1127 g => ?_)
          obtain ⟨x_1128, h_1129, hF_1130⟩ := hp
          have hG_1131 := eOK.frame hMr_1127 go_.2.2.2.1 mq2_ kq2_ (by decide) (by decide) hG_1124
          have g := g.more hF_1130
          refine lv_aload_n hx hb dX2_readArguments_214 rfl (lv_at hl 4 rfl) ?_
          refine g_getk (C := RX2) (T := TX2) (N := 16) hx hb hts (mc_ inX2) hown hK g rfl 3 (by decide) rfl (hts _ (List.mem_cons_of_mem _ t_419)) (fun _ h9 => h9) 9 rfl dX2_readArguments_215 ?_
          refine lv_bipush (v := 22) hx hb dX2_readArguments_218 (by decide) ?_
          refine lv_iconst (v := 0) hx hb dX2_readArguments_220 (by decide) ?_
          have go_ := g
          refine g_callv (va_runV (As := [.int 22, .int 0]) (rest := []) ⟨hx, hb, hml, hown, hts⟩ (r_X7_emit l dC dI L kd tys fr_1127 H.size g.2.2.2.1 q3_ mq3_ kq3_ 22 0) (cwV 2 hts (gV_ t_1301 t_1204 t_1205 t_191 t_1206) rfl rfl rfl (by decide +kernel) ⟨(Nat.le_of_ble_eq_true rfl), (Nat.le_of_ble_eq_true rfl)⟩) (pre3V g hK mq3_ kq3_ (by decide) (q := (RX7, TX7, 19)) rfl) rfl rfl hl.1 rfl (lv_room (Nat.le_of_ble_eq_true rfl)) dX2_readArguments_221 ⟨(Nat.le_of_ble_eq_true rfl), (Nat.le_of_ble_eq_true rfl)⟩) g hK (by decide) (by decide) (fx' := [(2, 13, a0_, .int x_1126), (2, 12, a0_, .int x_1125), (8, 6, q0_, .int 1201), (2, 14, a0_, .int x_1089), (8, 8, q0_, .int x_9), (2, 0, a0_, .ref q0_), (2, 1, a0_, .ref q1_), (2, 2, a0_, .ref q2_), (2, 3, a0_, .ref q3_), (0, 0, q2_, .ref q0_), (0, 1, q2_, .ref q1_), (5, 0, q1_, .ref q6_), (5, 1, q1_, .ref q7_)]) rfl (fun fr_1132 H locs hp hMr_1132 g => ?_)
          obtain ⟨x_1133, h_1134, hF_1135⟩ := hp
          have hG_1136 := eOK.frame hMr_1132 go_.2.2.2.1 mq2_ kq2_ (by decide) (by decide) hG_1131
          have g := g.more hF_1135
          refine lv_aload_n hx hb dX2_readArguments_224 rfl (lv_at hl 4 rfl) ?_
          refine g_getk (C := RX2) (T := TX2) (N := 16) hx hb hts (mc_ inX2) hown hK g rfl 0 (by decide) rfl (hts _ (List.mem_cons_of_mem _ t_416)) (fun _ h9 => h9) 6 rfl dX2_readArguments_225 ?_
          refine lv_bipush (v := 59) hx hb dX2_readArguments_228 (by decide) ?_
          have go_ := g
          refine g_callv (va_runV (As := [.int 59]) (rest := []) ⟨hx, hb, hml, hown, hts⟩ (r_X8_take_2 l dC dI L kd tys fr_1132 H.size g.2.2.2.1 q0_ mq0_ kq0_ 59 1201 kb_1201 x_9 h_10 (g.fcts [3, 5] rfl)) (cwV 1 hts (gV_ t_1098 t_1099 t_1100 t_184 t_1101) rfl rfl rfl (by decide +kernel) ⟨(Nat.le_of_ble_eq_true rfl), (Nat.le_of_ble_eq_true rfl)⟩) (pre3V g hK mq0_ kq0_ (by decide) (q := (RX8, TX8, 10)) rfl) rfl rfl hl.1 rfl (lv_room (Nat.le_of_ble_eq_true rfl)) dX2_readArguments_230 ⟨(Nat.le_of_ble_eq_true rfl), (Nat.le_of_ble_eq_true rfl)⟩) g hK (by decide) (by decide) (fx' := [(7, 6, q3_, .int x_1133), (2, 13, a0_, .int x_1126), (2, 12, a0_, .int x_1125), (2, 14, a0_, .int x_1089), (8, 8, q0_, .int x_9), (2, 0, a0_, .ref q0_), (2, 1, a0_, .ref q1_), (2, 2, a0_, .ref q2_), (2, 3, a0_, .ref q3_), (0, 0, q2_, .ref q0_), (0, 1, q2_, .ref q1_), (5, 0, q1_, .ref q6_), (5, 1, q1_, .ref q7_)]) rfl (fun fr_1137 H locs hp hMr_1137 g => ?_)
          obtain ⟨x_1138, h_1139, hF_1140⟩ := hp
          have hG_1141 := eOK.frame hMr_1137 go_.2.2.2.1 mq2_ kq2_ (by decide) (by decide) hG_1136
          have g := g.more hF_1140
          subst hQ
          exact W.vret hx hb hr (fun t ht hW => ⟨⟨_, rfl, Or.inr (⟨hG_1141, x_1138, h_1139, x_9, h_10, x_1133, h_1134, (g.fcts [0, 5, 1] rfl)⟩), q3_of g hK ht hW⟩, g.2.2.1.F ht⟩) g.2.2.1.2.2 dX2_readArguments_233
      · have fc_1094 := eq_f c_1094
        have b_1142 : bd 1 0 x_9 := eqX fc_1094 h_10 kb_0 (by decide)
        exact bd_no b_1142 (by decide)
    · have fc_1090 := eq_f c_1090
      have b_1143 : bd 0 0 x_1089 := eqX fc_1090 (bdT x_1089) kb_0 (by decide)
      refine lv_aload_n hx hb dX2_readArguments_24 rfl (lv_at hl 1 rfl) ?_
      refine g_getk (C := RX2) (T := TX2) (N := 16) hx hb hts (mc_ inX2) hown hK g rfl 0 (by decide) rfl (hts _ (List.mem_cons_of_mem _ t_416)) (fun _ h9 => h9) 3 rfl dX2_readArguments_25 ?_
      have kb_1201 : bd 1201 1201 (1201 : Int32) := ⟨by decide, by decide⟩
      have go_ := g
      refine g_calli (va_runV (As := []) (rest := []) ⟨hx, hb, hml, hown, hts⟩ (r_X8_kind_2 l dC dI L kd tys fr_3 H.size g.2.2.2.1 q0_ mq0_ kq0_ 1201 kb_1201 (g.fcts [1] rfl)) (cwV 0 hts (gV_ t_1118 t_1119 t_1120 t_184 t_1121) rfl rfl rfl (by decide +kernel) ⟨(Nat.le_of_ble_eq_true rfl), (Nat.le_of_ble_eq_true rfl)⟩) (pre3V g hK mq0_ kq0_ (by decide) (q := (RX8, TX8, 10)) rfl) rfl rfl hl.1 rfl (lv_room (Nat.le_of_ble_eq_true rfl)) dX2_readArguments_28 ⟨(Nat.le_of_ble_eq_true rfl), (Nat.le_of_ble_eq_true rfl)⟩) g hK (by decide) (by decide) (fx' := [(2, 14, a0_, .int x_1089), (8, 6, q0_, .int 1201), (8, 8, q0_, .int x_9), (2, 0, a0_, .ref q0_), (2, 1, a0_, .ref q1_), (2, 2, a0_, .ref q2_), (2, 3, a0_, .ref q3_), (0, 0, q2_, .ref q0_), (0, 1, q2_, .ref q1_), (5, 0, q1_, .ref q6_), (5, 1, q1_, .ref q7_)]) rfl (fun r_1144 fr_1144 H locs hp hMr_1144 g => ?_)
      obtain ⟨h_1145, -⟩ := hp
      have hG_1146 := eOK.frame hMr_1144 go_.2.2.2.1 mq2_ kq2_ (by decide) (by decide) hG_1088
      obtain rfl : r_1144 = 0 := h_1145
      refine lv_bipush (v := 41) hx hb dX2_readArguments_31 (by decide) ?_
      refine lv_icmp_eq (tgt := 46) hx hb dX2_readArguments_33 (by decide) (fun c_ => absurd c_ (by decide)) (fun c_ => ?_)
      refine lv_aload_n hx hb dX2_readArguments_36 rfl (lv_at hl 1 rfl) ?_
      refine g_getk (C := RX2) (T := TX2) (N := 16) hx hb hts (mc_ inX2) hown hK g rfl 0 (by decide) rfl (hts _ (List.mem_cons_of_mem _ t_416)) (fun _ h9 => h9) 3 rfl dX2_readArguments_37 ?_
      refine lv_bipush (v := 6) hx hb dX2_readArguments_40 (by decide) ?_
      refine lv_iload_n hx hb dX2_readArguments_42 rfl (lv_at hl 0 rfl) ?_
      have kb_6 : bd 6 6 (6 : Int32) := ⟨by decide, by decide⟩
      have go_ := g
      refine g_callv (va_runV (As := [.int 6, .int r_1]) (rest := []) ⟨hx, hb, hml, hown, hts⟩ (r_X8_fail_2 l dC dI L kd tys fr_1144 H.size g.2.2.2.1 q0_ mq0_ kq0_ 6 (bd_sub kb_6 (by decide)) r_1 x_9 h_10 (g.fcts [2] rfl)) (cwV 2 hts (gV_ t_1122 t_1107 t_1108 t_184 t_1109) rfl rfl rfl (by decide +kernel) ⟨(Nat.le_of_ble_eq_true rfl), (Nat.le_of_ble_eq_true rfl)⟩) (pre3V g hK mq0_ kq0_ (by decide) (q := (RX8, TX8, 10)) rfl) rfl rfl hl.1 rfl (lv_room (Nat.le_of_ble_eq_true rfl)) dX2_readArguments_43 ⟨(Nat.le_of_ble_eq_true rfl), (Nat.le_of_ble_eq_true rfl)⟩) g hK (by decide) (by decide) (fx' := [(2, 14, a0_, .int x_1089), (8, 8, q0_, .int x_9), (2, 0, a0_, .ref q0_), (2, 1, a0_, .ref q1_), (2, 2, a0_, .ref q2_), (2, 3, a0_, .ref q3_), (0, 0, q2_, .ref q0_), (0, 1, q2_, .ref q1_), (5, 0, q1_, .ref q6_), (5, 1, q1_, .ref q7_)]) rfl (fun fr_1147 H locs hp hMr_1147 g => ?_)
      have hF_1148 := hp
      have hG_1149 := eOK.frame hMr_1147 go_.2.2.2.1 mq2_ kq2_ (by decide) (by decide) hG_1146
      have g := g.more hF_1148
      refine lv_iconst (v := 0) hx hb dX2_readArguments_46 (by decide) ?_
      refine lv_istore_n (lv' := [(2, .int 0), (1, .int r_1), (0, .ref a0_)]) hx hb dX2_readArguments_47 rfl hl (by decide) rfl (fun ls hl => ?_)
      refine lv_aload_n hx hb dX2_readArguments_48 rfl (lv_at hl 2 rfl) ?_
      refine g_getk (C := RX2) (T := TX2) (N := 16) hx hb hts (mc_ inX2) hown hK g rfl 0 (by decide) rfl (hts _ (List.mem_cons_of_mem _ t_416)) (fun _ h9 => h9) 3 rfl dX2_readArguments_49 ?_
      have go_ := g
      refine g_calli (va_runV (As := []) (rest := []) ⟨hx, hb, hml, hown, hts⟩ (r_X8_kind_2 l dC dI L kd tys fr_1147 H.size g.2.2.2.1 q0_ mq0_ kq0_ 1201 kb_1201 (g.fcts [0] rfl)) (cwV 0 hts (gV_ t_1118 t_1119 t_1120 t_184 t_1121) rfl rfl rfl (by decide +kernel) ⟨(Nat.le_of_ble_eq_true rfl), (Nat.le_of_ble_eq_true rfl)⟩) (pre3V g hK mq0_ kq0_ (by decide) (q := (RX8, TX8, 10)) rfl) rfl rfl hl.1 rfl (lv_room (Nat.le_of_ble_eq_true rfl)) dX2_readArguments_52 ⟨(Nat.le_of_ble_eq_true rfl), (Nat.le_of_ble_eq_true rfl)⟩) g hK (by decide) (by decide) (fx' := [(8, 6, q0_, .int 1201), (2, 14, a0_, .int x_1089), (8, 8, q0_, .int x_9), (2, 0, a0_, .ref q0_), (2, 1, a0_, .ref q1_), (2, 2, a0_, .ref q2_), (2, 3, a0_, .ref q3_), (0, 0, q2_, .ref q0_), (0, 1, q2_, .ref q1_), (5, 0, q1_, .ref q6_), (5, 1, q1_, .ref q7_)]) rfl (fun r_1150 fr_1150 H locs hp hMr_1150 g => ?_)
      obtain ⟨h_1151, -⟩ := hp
      have hG_1152 := eOK.frame hMr_1150 go_.2.2.2.1 mq2_ kq2_ (by decide) (by decide) hG_1149
      obtain rfl : r_1150 = 0 := h_1151
      refine lv_bipush (v := 41) hx hb dX2_readArguments_55 (by decide) ?_
      refine lv_icmp_eq (tgt := 64) hx hb dX2_readArguments_57 (by decide) (fun c_ => absurd c_ (by decide)) (fun c_ => ?_)
      refine lv_iconst (v := 1) hx hb dX2_readArguments_60 (by decide) ?_
      refine lv_goto (tgt := 65) hx hb dX2_readArguments_61 (by decide) ?_
      refine lv_istore_n (lv' := [(3, .int 1), (2, .int 0), (1, .int r_1), (0, .ref a0_)]) hx hb dX2_readArguments_65 rfl hl (by decide) rfl (fun ls hl => ?_)
      refine lv_iconst (v := 0) hx hb dX2_readArguments_66 (by decide) ?_
      refine lv_istore (lv' := [(4, .int 0), (3, .int 1), (2, .int 0), (1, .int r_1), (0, .ref a0_)]) hx hb dX2_readArguments_67 hl (by decide) rfl (fun ls hl => ?_)
      refine lv_iload hx hb dX2_readArguments_69 (lv_at hl 0 rfl) ?_
      refine lv_iconst (v := 3) hx hb dX2_readArguments_71 (by decide) ?_
      refine lv_icmp_gt (tgt := 162) hx hb dX2_readArguments_72 (by decide) (fun c_ => absurd c_ (by decide)) (fun c_ => ?_)
      refine lv_iload_n hx hb dX2_readArguments_75 rfl (lv_at hl 1 rfl) ?_
      refine lv_if_eq (tgt := 162) hx hb dX2_readArguments_76 (by decide) (fun c_ => absurd c_ (by decide)) (fun c_ => ?_)
      refine lv_aload_n hx hb dX2_readArguments_79 rfl (lv_at hl 4 rfl) ?_
      refine g_getk (C := RX2) (T := TX2) (N := 16) hx hb hts (mc_ inX2) hown hK g rfl 0 (by decide) rfl (hts _ (List.mem_cons_of_mem _ t_416)) (fun _ h9 => h9) 3 rfl dX2_readArguments_80 ?_
      refine g_getk (C := RX8) (T := TX8) (N := 10) hx hb hts (mc_ inX8) hown hK g rfl 8 (by decide) rfl (hts _ (List.mem_cons_of_mem _ t_294)) (fun _ h9 => h9) 2 rfl dX2_readArguments_83 ?_
      refine lv_if_ne (tgt := 162) hx hb dX2_readArguments_86 (by decide) (fun c_1153 => ?_) (fun c_1153 => ?_)
      · have fc_1153 := neq_f c_1153
        refine lv_aload_n hx hb dX2_readArguments_162 rfl (lv_at hl 4 rfl) ?_
        refine g_getk (C := RX2) (T := TX2) (N := 16) hx hb hts (mc_ inX2) hown hK g rfl 0 (by decide) rfl (hts _ (List.mem_cons_of_mem _ t_416)) (fun _ h9 => h9) 3 rfl dX2_readArguments_163 ?_
        have go_ := g
        refine g_calli (va_runV (As := []) (rest := []) ⟨hx, hb, hml, hown, hts⟩ (r_X8_place l dC dI L kd tys fr_1150 H.size g.2.2.2.1 q0_ mq0_ kq0_) (cwV 0 hts (gV_ t_1110 t_1111 t_1112 t_184 t_1113) rfl rfl rfl (by decide +kernel) ⟨(Nat.le_of_ble_eq_true rfl), (Nat.le_of_ble_eq_true rfl)⟩) (pre3V g hK mq0_ kq0_ (by decide) (q := (RX8, TX8, 10)) rfl) rfl rfl hl.1 rfl (lv_room (Nat.le_of_ble_eq_true rfl)) dX2_readArguments_166 ⟨(Nat.le_of_ble_eq_true rfl), (Nat.le_of_ble_eq_true rfl)⟩) g hK (by decide) (by decide) (fx' := [(8, 6, q0_, .int 1201), (2, 14, a0_, .int x_1089), (8, 8, q0_, .int x_9), (2, 0, a0_, .ref q0_), (2, 1, a0_, .ref q1_), (2, 2, a0_, .ref q2_), (2, 3, a0_, .ref q3_), (0, 0, q2_, .ref q0_), (0, 1, q2_, .ref q1_), (5, 0, q1_, .ref q6_), (5, 1, q1_, .ref q7_)]) rfl (fun r_1154 fr_1154 H locs hp hMr_1154 g => ?_)
        have hG_1155 := eOK.frame hMr_1154 go_.2.2.2.1 mq2_ kq2_ (by decide) (by decide) hG_1152
        refine lv_istore (lv' := [(4, .int r_1154), (3, .int 1), (2, .int 0), (1, .int r_1), (0, .ref a0_)]) hx hb dX2_readArguments_169 hl (by decide) rfl (fun ls hl => ?_)
        refine lv_aload_n hx hb dX2_readArguments_171 rfl (lv_at hl 4 rfl) ?_
        refine g_getk (C := RX2) (T := TX2) (N := 16) hx hb hts (mc_ inX2) hown hK g rfl 0 (by decide) rfl (hts _ (List.mem_cons_of_mem _ t_416)) (fun _ h9 => h9) 3 rfl dX2_readArguments_172 ?_
        refine lv_bipush (v := 41) hx hb dX2_readArguments_175 (by decide) ?_
        have go_ := g
        refine g_callv (va_runV (As := [.int 41]) (rest := []) ⟨hx, hb, hml, hown, hts⟩ (r_X8_take_2 l dC dI L kd tys fr_1154 H.size g.2.2.2.1 q0_ mq0_ kq0_ 41 1201 kb_1201 x_9 h_10 (g.fcts [0, 2] rfl)) (cwV 1 hts (gV_ t_1098 t_1099 t_1100 t_184 t_1101) rfl rfl rfl (by decide +kernel) ⟨(Nat.le_of_ble_eq_true rfl), (Nat.le_of_ble_eq_true rfl)⟩) (pre3V g hK mq0_ kq0_ (by decide) (q := (RX8, TX8, 10)) rfl) rfl rfl hl.1 rfl (lv_room (Nat.le_of_ble_eq_true rfl)) dX2_readArguments_177 ⟨(Nat.le_of_ble_eq_true rfl), (Nat.le_of_ble_eq_true rfl)⟩) g hK (by decide) (by decide) (fx' := [(2, 14, a0_, .int x_1089), (8, 8, q0_, .int x_9), (2, 0, a0_, .ref q0_), (2, 1, a0_, .ref q1_), (2, 2, a0_, .ref q2_), (2, 3, a0_, .ref q3_), (0, 0, q2_, .ref q0_), (0, 1, q2_, .ref q1_), (5, 0, q1_, .ref q6_), (5, 1, q1_, .ref q7_)]) rfl (fun fr_1156 H locs hp hMr_1156 g => ?_)
        obtain ⟨x_1157, h_1158, hF_1159⟩ := hp
        have hG_1160 := eOK.frame hMr_1156 go_.2.2.2.1 mq2_ kq2_ (by decide) (by decide) hG_1155
        have g := g.more hF_1159
        refine lv_iload_n hx hb dX2_readArguments_180 rfl (lv_at hl 2 rfl) ?_
        refine lv_aload_n hx hb dX2_readArguments_181 rfl (lv_at hl 4 rfl) ?_
        refine g_getk (C := RX2) (T := TX2) (N := 16) hx hb hts (mc_ inX2) hown hK g rfl 14 (by decide) rfl (hts _ (List.mem_cons_of_mem _ t_430)) (fun _ h9 => h9) 1 rfl dX2_readArguments_182 ?_
        refine lv_icmp_ge (tgt := 199) hx hb dX2_readArguments_185 (by decide) (fun c_1161 => ?_) (fun c_1161 => ?_)
        · have fc_1161 := le_f c_1161
          refine lv_aload_n hx hb dX2_readArguments_199 rfl (lv_at hl 4 rfl) ?_
          refine g_getk (C := RX2) (T := TX2) (N := 16) hx hb hts (mc_ inX2) hown hK g rfl 3 (by decide) rfl (hts _ (List.mem_cons_of_mem _ t_419)) (fun _ h9 => h9) 6 rfl dX2_readArguments_200 ?_
          refine lv_aload_n hx hb dX2_readArguments_203 rfl (lv_at hl 4 rfl) ?_
          refine g_geti (C := RX2) (T := TX2) (N := 16) hx hb hts (mc_ inX2) hown hK g ma0_ ka0_ (by decide) rfl 12 (by decide) rfl (hts _ (List.mem_cons_of_mem _ t_428)) (fun _ h9 => h9) rfl dX2_readArguments_204 (fun x_1162 bx_1162 g => ?_)
          refine lv_aload_n hx hb dX2_readArguments_207 rfl (lv_at hl 4 rfl) ?_
          refine g_geti (C := RX2) (T := TX2) (N := 16) hx hb hts (mc_ inX2) hown hK g ma0_ ka0_ (by decide) rfl 13 (by decide) rfl (hts _ (List.mem_cons_of_mem _ t_429)) (fun _ h9 => h9) rfl dX2_readArguments_208 (fun x_1163 bx_1163 g => ?_)
          have go_ := g
          refine g_callv (va_runV (As := [.int x_1162, .int x_1163]) (rest := []) ⟨hx, hb, hml, hown, hts⟩ (r_X7_emit l dC dI L kd tys fr_1156 H.size g.2.2.2.1 q3_ mq3_ kq3_ x_1162 x_1163) (cwV 2 hts (gV_ t_1301 t_1204 t_1205 t_191 t_1206) rfl rfl rfl (by decide +kernel) ⟨(Nat.le_of_ble_eq_true rfl), (Nat.le_of_ble_eq_true rfl)⟩) (pre3V g hK mq3_ kq3_ (by decide) (q := (RX7, TX7, 19)) rfl) rfl rfl hl.1 rfl (lv_room (Nat.le_of_ble_eq_true rfl)) dX2_readArguments_211 ⟨(Nat.le_of_ble_eq_true rfl), (Nat.le_of_ble_eq_true rfl)⟩) g hK (by decide) (by decide) (fx' := [(2, 13, a0_, .int x_1163), (2, 12, a0_, .int x_1162), (8, 6, q0_, .int x_1157), (2, 14, a0_, .int x_1089), (8, 8, q0_, .int x_9), (2, 0, a0_, .ref q0_), (2, 1, a0_, .ref q1_), (2, 2, a0_, .ref q2_), (2, 3, a0_, .ref q3_), (0, 0, q2_, .ref q0_), (0, 1, q2_, .ref q1_), (5, 0, q1_, .ref q6_), (5, 1, q1_, .ref q7_)]) rfl (fun fr_1164 H locs hp hMr_1164 g => ?_)
          obtain ⟨x_1165, h_1166, hF_1167⟩ := hp
          have hG_1168 := eOK.frame hMr_1164 go_.2.2.2.1 mq2_ kq2_ (by decide) (by decide) hG_1160
          have g := g.more hF_1167
          refine lv_aload_n hx hb dX2_readArguments_214 rfl (lv_at hl 4 rfl) ?_
          refine g_getk (C := RX2) (T := TX2) (N := 16) hx hb hts (mc_ inX2) hown hK g rfl 3 (by decide) rfl (hts _ (List.mem_cons_of_mem _ t_419)) (fun _ h9 => h9) 9 rfl dX2_readArguments_215 ?_
          refine lv_bipush (v := 22) hx hb dX2_readArguments_218 (by decide) ?_
          refine lv_iconst (v := 0) hx hb dX2_readArguments_220 (by decide) ?_
          have go_ := g
          refine g_callv (va_runV (As := [.int 22, .int 0]) (rest := []) ⟨hx, hb, hml, hown, hts⟩ (r_X7_emit l dC dI L kd tys fr_1164 H.size g.2.2.2.1 q3_ mq3_ kq3_ 22 0) (cwV 2 hts (gV_ t_1301 t_1204 t_1205 t_191 t_1206) rfl rfl rfl (by decide +kernel) ⟨(Nat.le_of_ble_eq_true rfl), (Nat.le_of_ble_eq_true rfl)⟩) (pre3V g hK mq3_ kq3_ (by decide) (q := (RX7, TX7, 19)) rfl) rfl rfl hl.1 rfl (lv_room (Nat.le_of_ble_eq_true rfl)) dX2_readArguments_221 ⟨(Nat.le_of_ble_eq_true rfl), (Nat.le_of_ble_eq_true rfl)⟩) g hK (by decide) (by decide) (fx' := [(2, 13, a0_, .int x_1163), (2, 12, a0_, .int x_1162), (8, 6, q0_, .int x_1157), (2, 14, a0_, .int x_1089), (8, 8, q0_, .int x_9), (2, 0, a0_, .ref q0_), (2, 1, a0_, .ref q1_), (2, 2, a0_, .ref q2_), (2, 3, a0_, .ref q3_), (0, 0, q2_, .ref q0_), (0, 1, q2_, .ref q1_), (5, 0, q1_, .ref q6_), (5, 1, q1_, .ref q7_)]) rfl (fun fr_1169 H locs hp hMr_1169 g => ?_)
          obtain ⟨x_1170, h_1171, hF_1172⟩ := hp
          have hG_1173 := eOK.frame hMr_1169 go_.2.2.2.1 mq2_ kq2_ (by decide) (by decide) hG_1168
          have g := g.more hF_1172
          refine lv_aload_n hx hb dX2_readArguments_224 rfl (lv_at hl 4 rfl) ?_
          refine g_getk (C := RX2) (T := TX2) (N := 16) hx hb hts (mc_ inX2) hown hK g rfl 0 (by decide) rfl (hts _ (List.mem_cons_of_mem _ t_416)) (fun _ h9 => h9) 6 rfl dX2_readArguments_225 ?_
          refine lv_bipush (v := 59) hx hb dX2_readArguments_228 (by decide) ?_
          have go_ := g
          refine g_callv (va_runV (As := [.int 59]) (rest := []) ⟨hx, hb, hml, hown, hts⟩ (r_X8_take_2 l dC dI L kd tys fr_1169 H.size g.2.2.2.1 q0_ mq0_ kq0_ 59 x_1157 h_1158 x_9 h_10 (g.fcts [3, 5] rfl)) (cwV 1 hts (gV_ t_1098 t_1099 t_1100 t_184 t_1101) rfl rfl rfl (by decide +kernel) ⟨(Nat.le_of_ble_eq_true rfl), (Nat.le_of_ble_eq_true rfl)⟩) (pre3V g hK mq0_ kq0_ (by decide) (q := (RX8, TX8, 10)) rfl) rfl rfl hl.1 rfl (lv_room (Nat.le_of_ble_eq_true rfl)) dX2_readArguments_230 ⟨(Nat.le_of_ble_eq_true rfl), (Nat.le_of_ble_eq_true rfl)⟩) g hK (by decide) (by decide) (fx' := [(7, 6, q3_, .int x_1170), (2, 13, a0_, .int x_1163), (2, 12, a0_, .int x_1162), (2, 14, a0_, .int x_1089), (8, 8, q0_, .int x_9), (2, 0, a0_, .ref q0_), (2, 1, a0_, .ref q1_), (2, 2, a0_, .ref q2_), (2, 3, a0_, .ref q3_), (0, 0, q2_, .ref q0_), (0, 1, q2_, .ref q1_), (5, 0, q1_, .ref q6_), (5, 1, q1_, .ref q7_)]) rfl (fun fr_1174 H locs hp hMr_1174 g => ?_)
          obtain ⟨x_1175, h_1176, hF_1177⟩ := hp
          have hG_1178 := eOK.frame hMr_1174 go_.2.2.2.1 mq2_ kq2_ (by decide) (by decide) hG_1173
          have g := g.more hF_1177
          subst hQ
          exact W.vret hx hb hr (fun t ht hW => ⟨⟨_, rfl, Or.inr (⟨hG_1178, x_1175, h_1176, x_9, h_10, x_1170, h_1171, (g.fcts [0, 5, 1] rfl)⟩), q3_of g hK ht hW⟩, g.2.2.1.F ht⟩) g.2.2.1.2.2 dX2_readArguments_233
        · have fc_1161 := nle_f c_1161
          have b_1179 : bd 0 (-1) (0 : Int32) := ltL fc_1161 kb_0 b_1143 (by decide)
          exact bd_no (eqX rfl b_1179 kb_0 (lo := 0) (hi := (-1)) (by decide)) (by decide)
      · have fc_1153 := eq_f c_1153
        have b_1180 : bd 1 0 x_9 := eqX fc_1153 h_10 kb_0 (by decide)
        exact bd_no b_1180 (by decide)
