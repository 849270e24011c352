set_option maxHeartbeats 4000000 in
set_option maxRecDepth 100000 in
theorem r_X2_readArguments_2 (l : Launch) (dC : Nat → ClassId) (dI : Nat → Nat → Nat) (L : List Nat) (kd : Nat → Nat) (tys : List (ClassId × FieldType)) (f0 : Nat → va_E) (sz : Nat) (hWT : WT L kd tys f0) (a0_ : Nat) (ma0_ : a0_ ∈ L) (ka0_ : kd a0_ = 2) (q0_ : Nat) (mq0_ : q0_ ∈ L) (kq0_ : kd q0_ = 8) (q1_ : Nat) (mq1_ : q1_ ∈ L) (kq1_ : kd q1_ = 5) (q2_ : Nat) (mq2_ : q2_ ∈ L) (kq2_ : kd q2_ = 0) (q3_ : Nat) (mq3_ : q3_ ∈ L) (kq3_ : kd q3_ = 7) (q6_ : Nat) (mq6_ : q6_ ∈ L) (kq6_ : kd q6_ = 7) (q7_ : Nat) (mq7_ : q7_ ∈ L) (kq7_ : kd q7_ = 9) (y0_ : Int32) (by0_ : bd 0 0 y0_) (hGeq2_ : eOK f0 q2_) (hfx : Fs L kd f0 [(2, 0, a0_, .ref q0_), (2, 1, a0_, .ref q1_), (2, 2, a0_, .ref q2_), (2, 3, a0_, .ref q3_), (0, 0, q2_, .ref q0_), (0, 1, q2_, .ref q1_), (5, 0, q1_, .ref q6_), (5, 1, q1_, .ref q7_), (8, 8, q0_, .int y0_)]) : Met l yX2_readArguments (.code yX2_readArguments cX2_readArguments 6 none :: lw_g) ({ frames := 4, cells := 0, slots := 0, locals := 97 }) (va_Pc [.ref a0_] (P3 (dC, dI) L tys f0 sz)) (va_Qv (fun (f : Nat → va_E) => (eOK f q2_ ∧ ∃ z0_ : Int32, bd 1 1201 z0_ ∧ ∃ z2_ : Int32, bd 1 2000 z2_ ∧ Fs L kd f [(8, 6, q0_, .int z0_), (8, 8, q0_, .int y0_), (7, 6, q3_, .int z2_)]) ∨ (eOK f q2_ ∧ ∃ z0_ : Int32, bd 1201 1201 z0_ ∧ ∃ z1_ : Int32, bd 1 7 z1_ ∧ ∃ z2_ : Int32, bd 1 2000 z2_ ∧ Fs L kd f [(8, 6, q0_, .int z0_), (8, 8, q0_, .int z1_), (7, 6, q3_, .int z2_)])) (Q3 (dC, dI) L kd tys [(0, 2), (0, 8), (0, 10), (0, 11), (0, 12), (0, 13), (7, 6), (7, 18), (8, 6), (8, 8), (8, 9)] [110, 111, 112, 113, 114, 115, 138, 139] f0 sz) (pA L sz)) 0 0 (pA L sz) := by
  refine Met.ofW (cc := cX2_readArguments) (maxL := 6) (ret := none) (by decide) rfl ?_
  intro p e s m args below meth c s₁ B hml hv
  obtain ⟨rfl, hsz, hP, hK, hD0⟩ := hv
  have hx := B.exec
  have hb := B.bytes
  have hr := B.returns
  have hts := atoms_spec (ws := (.code yX2_readArguments cX2_readArguments 6 none :: lw_g)) B.pre
  have hown : s.vm.findClass RX2 = some m.cls := findClass_of_methodNamed B.named
  have hlocks := B.notSynchronized
  subst hsz
  have g : G3 (dC, dI) L kd tys s f0 [(0, 2), (0, 8), (0, 10), (0, 11), (0, 12), (0, 13), (7, 6), (7, 18), (8, 6), (8, 8), (8, 9)] [110, 111, 112, 113, 114, 115, 138, 139] f0 s.heap [] [(2, 0, a0_, .ref q0_), (2, 1, a0_, .ref q1_), (2, 2, a0_, .ref q2_), (2, 3, a0_, .ref q3_), (0, 0, q2_, .ref q0_), (0, 1, q2_, .ref q1_), (5, 0, q1_, .ref q6_), (5, 1, q1_, .ref q7_), (8, 8, q0_, .int y0_)] := G3.start hP hD0 hWT hfx
  have hl := lv_entry ([.ref a0_]) (n := 6) (Nat.le_of_ble_eq_true rfl)
  rw [lg_entry_eq]
  generalize (lg_sl ([.ref a0_]) ++ List.replicate (6 - (lg_sl ([.ref a0_])).length) Slot.unset).toArray = ls at hl ⊢
  have hl : lv_has ls 6 [(0, .ref a0_)] := hl
  refine W_q (fun Q hQ => ?_)
  refine lv_aload_n hx hb dX2_readArguments_0 rfl (lv_at hl 0 rfl) ?_
  refine g_getk (C := RX2) (T := TX2) (N := 16) hx hb hts (mc_ inX2) hown hK g rfl 0 (by decide) rfl (hts _ (List.mem_cons_of_mem _ t_416)) (fun _ h9 => h9) 0 rfl dX2_readArguments_1 ?_
  have go_ := g
  refine g_calli (va_runV (As := []) (rest := []) ⟨hx, hb, hml, hown, hts⟩ (r_X8_place l dC dI L kd tys f0 s.heap.size g.2.2.2.1 q0_ mq0_ kq0_) (cwV 0 hts (gV_ t_1110 t_1111 t_1112 t_184 t_1113) rfl rfl rfl (by decide +kernel) ⟨(Nat.le_of_ble_eq_true rfl), (Nat.le_of_ble_eq_true rfl)⟩) (pre3V g hK mq0_ kq0_ (by decide) (q := (RX8, TX8, 10)) rfl) rfl rfl hl.1 rfl (lv_room (Nat.le_of_ble_eq_true rfl)) dX2_readArguments_4 ⟨(Nat.le_of_ble_eq_true rfl), (Nat.le_of_ble_eq_true rfl)⟩) g hK (by decide) (by decide) (fx' := [(2, 0, a0_, .ref q0_), (2, 1, a0_, .ref q1_), (2, 2, a0_, .ref q2_), (2, 3, a0_, .ref q3_), (0, 0, q2_, .ref q0_), (0, 1, q2_, .ref q1_), (5, 0, q1_, .ref q6_), (5, 1, q1_, .ref q7_), (8, 8, q0_, .int y0_)]) rfl (fun r_1 fr_1 H locs hp hMr_1 g => ?_)
  have hG_2 := eOK.frame hMr_1 go_.2.2.2.1 mq2_ kq2_ (by decide) (by decide) hGeq2_
  refine lv_istore_n (lv' := [(1, .int r_1), (0, .ref a0_)]) hx hb dX2_readArguments_7 rfl hl (by decide) rfl (fun ls hl => ?_)
  refine lv_aload_n hx hb dX2_readArguments_8 rfl (lv_at hl 1 rfl) ?_
  refine g_getk (C := RX2) (T := TX2) (N := 16) hx hb hts (mc_ inX2) hown hK g rfl 0 (by decide) rfl (hts _ (List.mem_cons_of_mem _ t_416)) (fun _ h9 => h9) 0 rfl dX2_readArguments_9 ?_
  refine lv_bipush (v := 40) hx hb dX2_readArguments_12 (by decide) ?_
  have go_ := g
  refine g_callv (va_runV (As := [.int 40]) (rest := []) ⟨hx, hb, hml, hown, hts⟩ (r_X8_take l dC dI L kd tys fr_1 H.size g.2.2.2.1 q0_ mq0_ kq0_ 40 y0_ by0_ (g.fcts [8] rfl)) (cwV 1 hts (gV_ t_1098 t_1099 t_1100 t_184 t_1101) rfl rfl rfl (by decide +kernel) ⟨(Nat.le_of_ble_eq_true rfl), (Nat.le_of_ble_eq_true rfl)⟩) (pre3V g hK mq0_ kq0_ (by decide) (q := (RX8, TX8, 10)) rfl) rfl rfl hl.1 rfl (lv_room (Nat.le_of_ble_eq_true rfl)) dX2_readArguments_14 ⟨(Nat.le_of_ble_eq_true rfl), (Nat.le_of_ble_eq_true rfl)⟩) g hK (by decide) (by decide) (fx' := [(2, 0, a0_, .ref q0_), (2, 1, a0_, .ref q1_), (2, 2, a0_, .ref q2_), (2, 3, a0_, .ref q3_), (0, 0, q2_, .ref q0_), (0, 1, q2_, .ref q1_), (5, 0, q1_, .ref q6_), (5, 1, q1_, .ref q7_)]) rfl (fun fr_3 H locs hp hMr_3 g => ?_)
  rcases hp with ⟨x_4, h_5, hF_6⟩ | ⟨x_7, h_8, hF_9⟩
  · have hG_10 := eOK.frame hMr_3 go_.2.2.2.1 mq2_ kq2_ (by decide) (by decide) hG_2
    have g := g.more hF_6
    refine lv_aload_n hx hb dX2_readArguments_17 rfl (lv_at hl 1 rfl) ?_
    refine g_geti (C := RX2) (T := TX2) (N := 16) hx hb hts (mc_ inX2) hown hK g ma0_ ka0_ (by decide) rfl 14 (by decide) rfl (hts _ (List.mem_cons_of_mem _ t_430)) (fun _ h9 => h9) rfl dX2_readArguments_18 (fun x_11 bx_11 g => ?_)
    have kb_0 : bd 0 0 (0 : Int32) := ⟨by decide, by decide⟩
    refine lv_if_ne (tgt := 46) hx hb dX2_readArguments_21 (by decide) (fun c_12 => ?_) (fun c_12 => ?_)
    · have fc_12 := neq_f c_12
      refine lv_iconst (v := 0) hx hb dX2_readArguments_46 (by decide) ?_
      refine lv_istore_n (lv' := [(2, .int 0), (1, .int r_1), (0, .ref a0_)]) hx hb dX2_readArguments_47 rfl hl (by decide) rfl (fun ls hl => ?_)
      refine lv_aload_n hx hb dX2_readArguments_48 rfl (lv_at hl 2 rfl) ?_
      refine g_getk (C := RX2) (T := TX2) (N := 16) hx hb hts (mc_ inX2) hown hK g rfl 0 (by decide) rfl (hts _ (List.mem_cons_of_mem _ t_416)) (fun _ h9 => h9) 3 rfl dX2_readArguments_49 ?_
      have go_ := g
      refine g_calli (va_runV (As := []) (rest := []) ⟨hx, hb, hml, hown, hts⟩ (r_X8_kind l dC dI L kd tys fr_3 H.size g.2.2.2.1 q0_ mq0_ kq0_) (cwV 0 hts (gV_ t_1118 t_1119 t_1120 t_184 t_1121) rfl rfl rfl (by decide +kernel) ⟨(Nat.le_of_ble_eq_true rfl), (Nat.le_of_ble_eq_true rfl)⟩) (pre3V g hK mq0_ kq0_ (by decide) (q := (RX8, TX8, 10)) rfl) rfl rfl hl.1 rfl (lv_room (Nat.le_of_ble_eq_true rfl)) dX2_readArguments_52 ⟨(Nat.le_of_ble_eq_true rfl), (Nat.le_of_ble_eq_true rfl)⟩) g hK (by decide) (by decide) (fx' := [(2, 14, a0_, .int x_11), (8, 6, q0_, .int x_4), (8, 8, q0_, .int y0_), (2, 0, a0_, .ref q0_), (2, 1, a0_, .ref q1_), (2, 2, a0_, .ref q2_), (2, 3, a0_, .ref q3_), (0, 0, q2_, .ref q0_), (0, 1, q2_, .ref q1_), (5, 0, q1_, .ref q6_), (5, 1, q1_, .ref q7_)]) rfl (fun r_13 fr_13 H locs hp hMr_13 g => ?_)
      have hG_14 := eOK.frame hMr_13 go_.2.2.2.1 mq2_ kq2_ (by decide) (by decide) hG_10
      refine lv_bipush (v := 41) hx hb dX2_readArguments_55 (by decide) ?_
      have kb_41 : bd 41 41 (41 : Int32) := ⟨by decide, by decide⟩
      refine lv_icmp_eq (tgt := 64) hx hb dX2_readArguments_57 (by decide) (fun c_15 => ?_) (fun c_15 => ?_)
      · have fc_15 := eq_f c_15
        have b_16 : bd 41 41 r_13 := eqX fc_15 (bdT r_13) kb_41 (by decide)
        refine lv_iconst (v := 0) hx hb dX2_readArguments_64 (by decide) ?_
        refine lv_istore_n (lv' := [(3, .int 0), (2, .int 0), (1, .int r_1), (0, .ref a0_)]) hx hb dX2_readArguments_65 rfl hl (by decide) rfl (fun ls hl => ?_)
        refine lv_iconst (v := 0) hx hb dX2_readArguments_66 (by decide) ?_
        refine lv_istore (lv' := [(4, .int 0), (3, .int 0), (2, .int 0), (1, .int r_1), (0, .ref a0_)]) hx hb dX2_readArguments_67 hl (by decide) rfl (fun ls hl => ?_)
        refine lv_iload hx hb dX2_readArguments_69 (lv_at hl 0 rfl) ?_
        refine lv_iconst (v := 3) hx hb dX2_readArguments_71 (by decide) ?_
        refine lv_icmp_gt (tgt := 162) hx hb dX2_readArguments_72 (by decide) (fun c_ => absurd c_ (by decide)) (fun c_ => ?_)
        refine lv_iload_n hx hb dX2_readArguments_75 rfl (lv_at hl 1 rfl) ?_
        refine lv_if_eq (tgt := 162) hx hb dX2_readArguments_76 (by decide) (fun c_ => ?_) (fun c_ => absurd (by decide) c_)
        refine lv_aload_n hx hb dX2_readArguments_162 rfl (lv_at hl 4 rfl) ?_
        refine g_getk (C := RX2) (T := TX2) (N := 16) hx hb hts (mc_ inX2) hown hK g rfl 0 (by decide) rfl (hts _ (List.mem_cons_of_mem _ t_416)) (fun _ h9 => h9) 3 rfl dX2_readArguments_163 ?_
        have go_ := g
        refine g_calli (va_runV (As := []) (rest := []) ⟨hx, hb, hml, hown, hts⟩ (r_X8_place l dC dI L kd tys fr_13 H.size g.2.2.2.1 q0_ mq0_ kq0_) (cwV 0 hts (gV_ t_1110 t_1111 t_1112 t_184 t_1113) rfl rfl rfl (by decide +kernel) ⟨(Nat.le_of_ble_eq_true rfl), (Nat.le_of_ble_eq_true rfl)⟩) (pre3V g hK mq0_ kq0_ (by decide) (q := (RX8, TX8, 10)) rfl) rfl rfl hl.1 rfl (lv_room (Nat.le_of_ble_eq_true rfl)) dX2_readArguments_166 ⟨(Nat.le_of_ble_eq_true rfl), (Nat.le_of_ble_eq_true rfl)⟩) g hK (by decide) (by decide) (fx' := [(2, 14, a0_, .int x_11), (8, 6, q0_, .int x_4), (8, 8, q0_, .int y0_), (2, 0, a0_, .ref q0_), (2, 1, a0_, .ref q1_), (2, 2, a0_, .ref q2_), (2, 3, a0_, .ref q3_), (0, 0, q2_, .ref q0_), (0, 1, q2_, .ref q1_), (5, 0, q1_, .ref q6_), (5, 1, q1_, .ref q7_)]) rfl (fun r_17 fr_17 H locs hp hMr_17 g => ?_)
        have hG_18 := eOK.frame hMr_17 go_.2.2.2.1 mq2_ kq2_ (by decide) (by decide) hG_14
        refine lv_istore (lv' := [(4, .int r_17), (3, .int 0), (2, .int 0), (1, .int r_1), (0, .ref a0_)]) hx hb dX2_readArguments_169 hl (by decide) rfl (fun ls hl => ?_)
        refine lv_aload_n hx hb dX2_readArguments_171 rfl (lv_at hl 4 rfl) ?_
        refine g_getk (C := RX2) (T := TX2) (N := 16) hx hb hts (mc_ inX2) hown hK g rfl 0 (by decide) rfl (hts _ (List.mem_cons_of_mem _ t_416)) (fun _ h9 => h9) 3 rfl dX2_readArguments_172 ?_
        refine lv_bipush (v := 41) hx hb dX2_readArguments_175 (by decide) ?_
        have go_ := g
        refine g_callv (va_runV (As := [.int 41]) (rest := []) ⟨hx, hb, hml, hown, hts⟩ (r_X8_take l dC dI L kd tys fr_17 H.size g.2.2.2.1 q0_ mq0_ kq0_ 41 y0_ by0_ (g.fcts [2] rfl)) (cwV 1 hts (gV_ t_1098 t_1099 t_1100 t_184 t_1101) rfl rfl rfl (by decide +kernel) ⟨(Nat.le_of_ble_eq_true rfl), (Nat.le_of_ble_eq_true rfl)⟩) (pre3V g hK mq0_ kq0_ (by decide) (q := (RX8, TX8, 10)) rfl) rfl rfl hl.1 rfl (lv_room (Nat.le_of_ble_eq_true rfl)) dX2_readArguments_177 ⟨(Nat.le_of_ble_eq_true rfl), (Nat.le_of_ble_eq_true rfl)⟩) g hK (by decide) (by decide) (fx' := [(2, 14, a0_, .int x_11), (2, 0, a0_, .ref q0_), (2, 1, a0_, .ref q1_), (2, 2, a0_, .ref q2_), (2, 3, a0_, .ref q3_), (0, 0, q2_, .ref q0_), (0, 1, q2_, .ref q1_), (5, 0, q1_, .ref q6_), (5, 1, q1_, .ref q7_)]) rfl (fun fr_19 H locs hp hMr_19 g => ?_)
        rcases hp with ⟨x_20, h_21, hF_22⟩ | ⟨x_23, h_24, hF_25⟩
        · have hG_26 := eOK.frame hMr_19 go_.2.2.2.1 mq2_ kq2_ (by decide) (by decide) hG_18
          have g := g.more hF_22
          refine lv_iload_n hx hb dX2_readArguments_180 rfl (lv_at hl 2 rfl) ?_
          refine lv_aload_n hx hb dX2_readArguments_181 rfl (lv_at hl 4 rfl) ?_
          refine g_getk (C := RX2) (T := TX2) (N := 16) hx hb hts (mc_ inX2) hown hK g rfl 14 (by decide) rfl (hts _ (List.mem_cons_of_mem _ t_430)) (fun _ h9 => h9) 2 rfl dX2_readArguments_182 ?_
          refine lv_icmp_ge (tgt := 199) hx hb dX2_readArguments_185 (by decide) (fun c_27 => ?_) (fun c_27 => ?_)
          · have fc_27 := le_f c_27
            have b_28 : bd (-2147483648) 0 x_11 := leL fc_27 (bdT x_11) kb_0 (by decide)
            refine lv_aload_n hx hb dX2_readArguments_199 rfl (lv_at hl 4 rfl) ?_
            refine g_getk (C := RX2) (T := TX2) (N := 16) hx hb hts (mc_ inX2) hown hK g rfl 3 (by decide) rfl (hts _ (List.mem_cons_of_mem _ t_419)) (fun _ h9 => h9) 6 rfl dX2_readArguments_200 ?_
            refine lv_aload_n hx hb dX2_readArguments_203 rfl (lv_at hl 4 rfl) ?_
            refine g_geti (C := RX2) (T := TX2) (N := 16) hx hb hts (mc_ inX2) hown hK g ma0_ ka0_ (by decide) rfl 12 (by decide) rfl (hts _ (List.mem_cons_of_mem _ t_428)) (fun _ h9 => h9) rfl dX2_readArguments_204 (fun x_29 bx_29 g => ?_)
            refine lv_aload_n hx hb dX2_readArguments_207 rfl (lv_at hl 4 rfl) ?_
            refine g_geti (C := RX2) (T := TX2) (N := 16) hx hb hts (mc_ inX2) hown hK g ma0_ ka0_ (by decide) rfl 13 (by decide) rfl (hts _ (List.mem_cons_of_mem _ t_429)) (fun _ h9 => h9) rfl dX2_readArguments_208 (fun x_30 bx_30 g => ?_)
            have go_ := g
            refine g_callv (va_runV (As := [.int x_29, .int x_30]) (rest := []) ⟨hx, hb, hml, hown, hts⟩ (r_X7_emit l dC dI L kd tys fr_19 H.size g.2.2.2.1 q3_ mq3_ kq3_ x_29 x_30) (cwV 2 hts (gV_ t_1301 t_1204 t_1205 t_191 t_1206) rfl rfl rfl (by decide +kernel) ⟨(Nat.le_of_ble_eq_true rfl), (Nat.le_of_ble_eq_true rfl)⟩) (pre3V g hK mq3_ kq3_ (by decide) (q := (RX7, TX7, 19)) rfl) rfl rfl hl.1 rfl (lv_room (Nat.le_of_ble_eq_true rfl)) dX2_readArguments_211 ⟨(Nat.le_of_ble_eq_true rfl), (Nat.le_of_ble_eq_true rfl)⟩) g hK (by decide) (by decide) (fx' := [(2, 13, a0_, .int x_30), (2, 12, a0_, .int x_29), (8, 6, q0_, .int x_20), (8, 8, q0_, .int y0_), (2, 14, a0_, .int x_11), (2, 0, a0_, .ref q0_), (2, 1, a0_, .ref q1_), (2, 2, a0_, .ref q2_), (2, 3, a0_, .ref q3_), (0, 0, q2_, .ref q0_), (0, 1, q2_, .ref q1_), (5, 0, q1_, .ref q6_), (5, 1, q1_, .ref q7_)]) rfl (fun fr_31 H locs hp hMr_31 g => ?_)
            obtain ⟨x_32, h_33, hF_34⟩ := hp
            have hG_35 := eOK.frame hMr_31 go_.2.2.2.1 mq2_ kq2_ (by decide) (by decide) hG_26
            have g := g.more hF_34
            refine lv_aload_n hx hb dX2_readArguments_214 rfl (lv_at hl 4 rfl) ?_
            refine g_getk (C := RX2) (T := TX2) (N := 16) hx hb hts (mc_ inX2) hown hK g rfl 3 (by decide) rfl (hts _ (List.mem_cons_of_mem _ t_419)) (fun _ h9 => h9) 9 rfl dX2_readArguments_215 ?_
            refine lv_bipush (v := 22) hx hb dX2_readArguments_218 (by decide) ?_
            refine lv_iconst (v := 0) hx hb dX2_readArguments_220 (by decide) ?_
            have go_ := g
            refine g_callv (va_runV (As := [.int 22, .int 0]) (rest := []) ⟨hx, hb, hml, hown, hts⟩ (r_X7_emit l dC dI L kd tys fr_31 H.size g.2.2.2.1 q3_ mq3_ kq3_ 22 0) (cwV 2 hts (gV_ t_1301 t_1204 t_1205 t_191 t_1206) rfl rfl rfl (by decide +kernel) ⟨(Nat.le_of_ble_eq_true rfl), (Nat.le_of_ble_eq_true rfl)⟩) (pre3V g hK mq3_ kq3_ (by decide) (q := (RX7, TX7, 19)) rfl) rfl rfl hl.1 rfl (lv_room (Nat.le_of_ble_eq_true rfl)) dX2_readArguments_221 ⟨(Nat.le_of_ble_eq_true rfl), (Nat.le_of_ble_eq_true rfl)⟩) g hK (by decide) (by decide) (fx' := [(2, 13, a0_, .int x_30), (2, 12, a0_, .int x_29), (8, 6, q0_, .int x_20), (8, 8, q0_, .int y0_), (2, 14, a0_, .int x_11), (2, 0, a0_, .ref q0_), (2, 1, a0_, .ref q1_), (2, 2, a0_, .ref q2_), (2, 3, a0_, .ref q3_), (0, 0, q2_, .ref q0_), (0, 1, q2_, .ref q1_), (5, 0, q1_, .ref q6_), (5, 1, q1_, .ref q7_)]) rfl (fun fr_36 H locs hp hMr_36 g => ?_)
            obtain ⟨x_37, h_38, hF_39⟩ := hp
            have hG_40 := eOK.frame hMr_36 go_.2.2.2.1 mq2_ kq2_ (by decide) (by decide) hG_35
            have g := g.more hF_39
            refine lv_aload_n hx hb dX2_readArguments_224 rfl (lv_at hl 4 rfl) ?_
            refine g_getk (C := RX2) (T := TX2) (N := 16) hx hb hts (mc_ inX2) hown hK g rfl 0 (by decide) rfl (hts _ (List.mem_cons_of_mem _ t_416)) (fun _ h9 => h9) 6 rfl dX2_readArguments_225 ?_
            refine lv_bipush (v := 59) hx hb dX2_readArguments_228 (by decide) ?_
            have go_ := g
            refine g_callv (va_runV (As := [.int 59]) (rest := []) ⟨hx, hb, hml, hown, hts⟩ (r_X8_take l dC dI L kd tys fr_36 H.size g.2.2.2.1 q0_ mq0_ kq0_ 59 y0_ by0_ (g.fcts [4] rfl)) (cwV 1 hts (gV_ t_1098 t_1099 t_1100 t_184 t_1101) rfl rfl rfl (by decide +kernel) ⟨(Nat.le_of_ble_eq_true rfl), (Nat.le_of_ble_eq_true rfl)⟩) (pre3V g hK mq0_ kq0_ (by decide) (q := (RX8, TX8, 10)) rfl) rfl rfl hl.1 rfl (lv_room (Nat.le_of_ble_eq_true rfl)) dX2_readArguments_230 ⟨(Nat.le_of_ble_eq_true rfl), (Nat.le_of_ble_eq_true rfl)⟩) g hK (by decide) (by decide) (fx' := [(7, 6, q3_, .int x_37), (2, 13, a0_, .int x_30), (2, 12, a0_, .int x_29), (2, 14, a0_, .int x_11), (2, 0, a0_, .ref q0_), (2, 1, a0_, .ref q1_), (2, 2, a0_, .ref q2_), (2, 3, a0_, .ref q3_), (0, 0, q2_, .ref q0_), (0, 1, q2_, .ref q1_), (5, 0, q1_, .ref q6_), (5, 1, q1_, .ref q7_)]) rfl (fun fr_41 H locs hp hMr_41 g => ?_)
            rcases hp with ⟨x_42, h_43, hF_44⟩ | ⟨x_45, h_46, hF_47⟩
            · have hG_48 := eOK.frame hMr_41 go_.2.2.2.1 mq2_ kq2_ (by decide) (by decide) hG_40
              have g := g.more hF_44
              subst hQ
              exact W.vret hx hb hr (fun t ht hW => ⟨⟨_, rfl, Or.inl ⟨hG_48, x_42, h_43, x_37, h_38, (g.fcts [0, 1, 2] rfl)⟩, q3_of g hK ht hW⟩, g.2.2.1.F ht⟩) g.2.2.1.2.2 dX2_readArguments_233
            · have hG_49 := eOK.frame hMr_41 go_.2.2.2.1 mq2_ kq2_ (by decide) (by decide) hG_40
              have g := g.more hF_47
              have kb_1201 : bd 1201 1201 (1201 : Int32) := ⟨by decide, by decide⟩
              subst hQ
              exact W.vret hx hb hr (fun t ht hW => ⟨⟨_, rfl, Or.inr (⟨hG_49, 1201, kb_1201, x_45, h_46, x_37, h_38, (g.fcts [0, 1, 2] rfl)⟩), q3_of g hK ht hW⟩, g.2.2.1.F ht⟩) g.2.2.1.2.2 dX2_readArguments_233
          · have fc_27 := nle_f c_27
            have b_50 : bd 1 2147483647 x_11 := ltR fc_27 kb_0 (bdT x_11) (by decide)
            refine lv_aload_n hx hb dX2_readArguments_188 rfl (lv_at hl 4 rfl) ?_
            refine g_getk (C := RX2) (T := TX2) (N := 16) hx hb hts (mc_ inX2) hown hK g rfl 0 (by decide) rfl (hts _ (List.mem_cons_of_mem _ t_416)) (fun _ h9 => h9) 3 rfl dX2_readArguments_189 ?_
            refine lv_bipush (v := 6) hx hb dX2_readArguments_192 (by decide) ?_
            refine lv_iload hx hb dX2_readArguments_194 (lv_at hl 0 rfl) ?_
            have kb_6 : bd 6 6 (6 : Int32) := ⟨by decide, by decide⟩
            have go_ := g
            refine g_callv (va_runV (As := [.int 6, .int r_17]) (rest := []) ⟨hx, hb, hml, hown, hts⟩ (r_X8_fail l dC dI L kd tys fr_19 H.size g.2.2.2.1 q0_ mq0_ kq0_ 6 (bd_sub kb_6 (by decide)) r_17 y0_ by0_ (g.fcts [1] rfl)) (cwV 2 hts (gV_ t_1122 t_1107 t_1108 t_184 t_1109) rfl rfl rfl (by decide +kernel) ⟨(Nat.le_of_ble_eq_true rfl), (Nat.le_of_ble_eq_true rfl)⟩) (pre3V g hK mq0_ kq0_ (by decide) (q := (RX8, TX8, 10)) rfl) rfl rfl hl.1 rfl (lv_room (Nat.le_of_ble_eq_true rfl)) dX2_readArguments_196 ⟨(Nat.le_of_ble_eq_true rfl), (Nat.le_of_ble_eq_true rfl)⟩) g hK (by decide) (by decide) (fx' := [(2, 14, a0_, .int x_11), (2, 0, a0_, .ref q0_), (2, 1, a0_, .ref q1_), (2, 2, a0_, .ref q2_), (2, 3, a0_, .ref q3_), (0, 0, q2_, .ref q0_), (0, 1, q2_, .ref q1_), (5, 0, q1_, .ref q6_), (5, 1, q1_, .ref q7_)]) rfl (fun fr_51 H locs hp hMr_51 g => ?_)
            obtain ⟨x_52, h_53, hF_54⟩ := hp
            have hG_55 := eOK.frame hMr_51 go_.2.2.2.1 mq2_ kq2_ (by decide) (by decide) hG_26
            have g := g.more hF_54
            refine lv_aload_n hx hb dX2_readArguments_199 rfl (lv_at hl 4 rfl) ?_
            refine g_getk (C := RX2) (T := TX2) (N := 16) hx hb hts (mc_ inX2) hown hK g rfl 3 (by decide) rfl (hts _ (List.mem_cons_of_mem _ t_419)) (fun _ h9 => h9) 6 rfl dX2_readArguments_200 ?_
            refine lv_aload_n hx hb dX2_readArguments_203 rfl (lv_at hl 4 rfl) ?_
            refine g_geti (C := RX2) (T := TX2) (N := 16) hx hb hts (mc_ inX2) hown hK g ma0_ ka0_ (by decide) rfl 12 (by decide) rfl (hts _ (List.mem_cons_of_mem _ t_428)) (fun _ h9 => h9) rfl dX2_readArguments_204 (fun x_56 bx_56 g => ?_)
            refine lv_aload_n hx hb dX2_readArguments_207 rfl (lv_at hl 4 rfl) ?_
            refine g_geti (C := RX2) (T := TX2) (N := 16) hx hb hts (mc_ inX2) hown hK g ma0_ ka0_ (by decide) rfl 13 (by decide) rfl (hts _ (List.mem_cons_of_mem _ t_429)) (fun _ h9 => h9) rfl dX2_readArguments_208 (fun x_57 bx_57 g => ?_)
            have go_ := g
            refine g_callv (va_runV (As := [.int x_56, .int x_57]) (rest := []) ⟨hx, hb, hml, hown, hts⟩ (r_X7_emit l dC dI L kd tys fr_51 H.size g.2.2.2.1 q3_ mq3_ kq3_ x_56 x_57) (cwV 2 hts (gV_ t_1301 t_1204 t_1205 t_191 t_1206) rfl rfl rfl (by decide +kernel) ⟨(Nat.le_of_ble_eq_true rfl), (Nat.le_of_ble_eq_true rfl)⟩) (pre3V g hK mq3_ kq3_ (by decide) (q := (RX7, TX7, 19)) rfl) rfl rfl hl.1 rfl (lv_room (Nat.le_of_ble_eq_true rfl)) dX2_readArguments_211 ⟨(Nat.le_of_ble_eq_true rfl), (Nat.le_of_ble_eq_true rfl)⟩) g hK (by decide) (by decide) (fx' := [(2, 13, a0_, .int x_57), (2, 12, a0_, .int x_56), (8, 6, q0_, .int 1201), (8, 8, q0_, .int x_52), (2, 14, a0_, .int x_11), (2, 0, a0_, .ref q0_), (2, 1, a0_, .ref q1_), (2, 2, a0_, .ref q2_), (2, 3, a0_, .ref q3_), (0, 0, q2_, .ref q0_), (0, 1, q2_, .ref q1_), (5, 0, q1_, .ref q6_), (5, 1, q1_, .ref q7_)]) rfl (fun fr_58 H locs hp hMr_58 g => ?_)
            obtain ⟨x_59, h_60, hF_61⟩ := hp
            have hG_62 := eOK.frame hMr_58 go_.2.2.2.1 mq2_ kq2_ (by decide) (by decide) hG_55
            have g := g.more hF_61
            refine lv_aload_n hx hb dX2_readArguments_214 rfl (lv_at hl 4 rfl) ?_
            refine g_getk (C := RX2) (T := TX2) (N := 16) hx hb hts (mc_ inX2) hown hK g rfl 3 (by decide) rfl (hts _ (List.mem_cons_of_mem _ t_419)) (fun _ h9 => h9) 9 rfl dX2_readArguments_215 ?_
            refine lv_bipush (v := 22) hx hb dX2_readArguments_218 (by decide) ?_
            refine lv_iconst (v := 0) hx hb dX2_readArguments_220 (by decide) ?_
            have go_ := g
            refine g_callv (va_runV (As := [.int 22, .int 0]) (rest := []) ⟨hx, hb, hml, hown, hts⟩ (r_X7_emit l dC dI L kd tys fr_58 H.size g.2.2.2.1 q3_ mq3_ kq3_ 22 0) (cwV 2 hts (gV_ t_1301 t_1204 t_1205 t_191 t_1206) rfl rfl rfl (by decide +kernel) ⟨(Nat.le_of_ble_eq_true rfl), (Nat.le_of_ble_eq_true rfl)⟩) (pre3V g hK mq3_ kq3_ (by decide) (q := (RX7, TX7, 19)) rfl) rfl rfl hl.1 rfl (lv_room (Nat.le_of_ble_eq_true rfl)) dX2_readArguments_221 ⟨(Nat.le_of_ble_eq_true rfl), (Nat.le_of_ble_eq_true rfl)⟩) g hK (by decide) (by decide) (fx' := [(2, 13, a0_, .int x_57), (2, 12, a0_, .int x_56), (8, 6, q0_, .int 1201), (8, 8, q0_, .int x_52), (2, 14, a0_, .int x_11), (2, 0, a0_, .ref q0_), (2, 1, a0_, .ref q1_), (2, 2, a0_, .ref q2_), (2, 3, a0_, .ref q3_), (0, 0, q2_, .ref q0_), (0, 1, q2_, .ref q1_), (5, 0, q1_, .ref q6_), (5, 1, q1_, .ref q7_)]) rfl (fun fr_63 H locs hp hMr_63 g => ?_)
            obtain ⟨x_64, h_65, hF_66⟩ := hp
            have hG_67 := eOK.frame hMr_63 go_.2.2.2.1 mq2_ kq2_ (by decide) (by decide) hG_62
            have g := g.more hF_66
            refine lv_aload_n hx hb dX2_readArguments_224 rfl (lv_at hl 4 rfl) ?_
            refine g_getk (C := RX2) (T := TX2) (N := 16) hx hb hts (mc_ inX2) hown hK g rfl 0 (by decide) rfl (hts _ (List.mem_cons_of_mem _ t_416)) (fun _ h9 => h9) 6 rfl dX2_readArguments_225 ?_
            refine lv_bipush (v := 59) hx hb dX2_readArguments_228 (by decide) ?_
            have kb_1201 : bd 1201 1201 (1201 : Int32) := ⟨by decide, by decide⟩
            have go_ := g
            refine g_callv (va_runV (As := [.int 59]) (rest := []) ⟨hx, hb, hml, hown, hts⟩ (r_X8_take_2 l dC dI L kd tys fr_63 H.size g.2.2.2.1 q0_ mq0_ kq0_ 59 1201 kb_1201 x_52 h_53 (g.fcts [3, 4] rfl)) (cwV 1 hts (gV_ t_1098 t_1099 t_1100 t_184 t_1101) rfl rfl rfl (by decide +kernel) ⟨(Nat.le_of_ble_eq_true rfl), (Nat.le_of_ble_eq_true rfl)⟩) (pre3V g hK mq0_ kq0_ (by decide) (q := (RX8, TX8, 10)) rfl) rfl rfl hl.1 rfl (lv_room (Nat.le_of_ble_eq_true rfl)) dX2_readArguments_230 ⟨(Nat.le_of_ble_eq_true rfl), (Nat.le_of_ble_eq_true rfl)⟩) g hK (by decide) (by decide) (fx' := [(7, 6, q3_, .int x_64), (2, 13, a0_, .int x_57), (2, 12, a0_, .int x_56), (8, 8, q0_, .int x_52), (2, 14, a0_, .int x_11), (2, 0, a0_, .ref q0_), (2, 1, a0_, .ref q1_), (2, 2, a0_, .ref q2_), (2, 3, a0_, .ref q3_), (0, 0, q2_, .ref q0_), (0, 1, q2_, .ref q1_), (5, 0, q1_, .ref q6_), (5, 1, q1_, .ref q7_)]) rfl (fun fr_68 H locs hp hMr_68 g => ?_)
            obtain ⟨x_69, h_70, hF_71⟩ := hp
            have hG_72 := eOK.frame hMr_68 go_.2.2.2.1 mq2_ kq2_ (by decide) (by decide) hG_67
            have g := g.more hF_71
            subst hQ
            exact W.vret hx hb hr (fun t ht hW => ⟨⟨_, rfl, Or.inr (⟨hG_72, x_69, h_70, x_52, h_53, x_64, h_65, (g.fcts [0, 4, 1] rfl)⟩), q3_of g hK ht hW⟩, g.2.2.1.F ht⟩) g.2.2.1.2.2 dX2_readArguments_233
        · have hG_73 := eOK.frame hMr_19 go_.2.2.2.1 mq2_ kq2_ (by decide) (by decide) hG_18
          have g := g.more hF_25
          refine lv_iload_n hx hb dX2_readArguments_180 rfl (lv_at hl 2 rfl) ?_
          refine lv_aload_n hx hb dX2_readArguments_181 rfl (lv_at hl 4 rfl) ?_
          refine g_getk (C := RX2) (T := TX2) (N := 16) hx hb hts (mc_ inX2) hown hK g rfl 14 (by decide) rfl (hts _ (List.mem_cons_of_mem _ t_430)) (fun _ h9 => h9) 2 rfl dX2_readArguments_182 ?_
          refine lv_icmp_ge (tgt := 199) hx hb dX2_readArguments_185 (by decide) (fun c_74 => ?_) (fun c_74 => ?_)
          · have fc_74 := le_f c_74
            have b_75 : bd (-2147483648) 0 x_11 := leL fc_74 (bdT x_11) kb_0 (by decide)
            refine lv_aload_n hx hb dX2_readArguments_199 rfl (lv_at hl 4 rfl) ?_
            refine g_getk (C := RX2) (T := TX2) (N := 16) hx hb hts (mc_ inX2) hown hK g rfl 3 (by decide) rfl (hts _ (List.mem_cons_of_mem _ t_419)) (fun _ h9 => h9) 6 rfl dX2_readArguments_200 ?_
            refine lv_aload_n hx hb dX2_readArguments_203 rfl (lv_at hl 4 rfl) ?_
            refine g_geti (C := RX2) (T := TX2) (N := 16) hx hb hts (mc_ inX2) hown hK g ma0_ ka0_ (by decide) rfl 12 (by decide) rfl (hts _ (List.mem_cons_of_mem _ t_428)) (fun _ h9 => h9) rfl dX2_readArguments_204 (fun x_76 bx_76 g => ?_)
            refine lv_aload_n hx hb dX2_readArguments_207 rfl (lv_at hl 4 rfl) ?_
            refine g_geti (C := RX2) (T := TX2) (N := 16) hx hb hts (mc_ inX2) hown hK g ma0_ ka0_ (by decide) rfl 13 (by decide) rfl (hts _ (List.mem_cons_of_mem _ t_429)) (fun _ h9 => h9) rfl dX2_readArguments_208 (fun x_77 bx_77 g => ?_)
            have go_ := g
            refine g_callv (va_runV (As := [.int x_76, .int x_77]) (rest := []) ⟨hx, hb, hml, hown, hts⟩ (r_X7_emit l dC dI L kd tys fr_19 H.size g.2.2.2.1 q3_ mq3_ kq3_ x_76 x_77) (cwV 2 hts (gV_ t_1301 t_1204 t_1205 t_191 t_1206) rfl rfl rfl (by decide +kernel) ⟨(Nat.le_of_ble_eq_true rfl), (Nat.le_of_ble_eq_true rfl)⟩) (pre3V g hK mq3_ kq3_ (by decide) (q := (RX7, TX7, 19)) rfl) rfl rfl hl.1 rfl (lv_room (Nat.le_of_ble_eq_true rfl)) dX2_readArguments_211 ⟨(Nat.le_of_ble_eq_true rfl), (Nat.le_of_ble_eq_true rfl)⟩) g hK (by decide) (by decide) (fx' := [(2, 13, a0_, .int x_77), (2, 12, a0_, .int x_76), (8, 6, q0_, .int 1201), (8, 8, q0_, .int x_23), (2, 14, a0_, .int x_11), (2, 0, a0_, .ref q0_), (2, 1, a0_, .ref q1_), (2, 2, a0_, .ref q2_), (2, 3, a0_, .ref q3_), (0, 0, q2_, .ref q0_), (0, 1, q2_, .ref q1_), (5, 0, q1_, .ref q6_), (5, 1, q1_, .ref q7_)]) rfl (fun fr_78 H locs hp hMr_78 g => ?_)
            obtain ⟨x_79, h_80, hF_81⟩ := hp
            have hG_82 := eOK.frame hMr_78 go_.2.2.2.1 mq2_ kq2_ (by decide) (by decide) hG_73
            have g := g.more hF_81
            refine lv_aload_n hx hb dX2_readArguments_214 rfl (lv_at hl 4 rfl) ?_
            refine g_getk (C := RX2) (T := TX2) (N := 16) hx hb hts (mc_ inX2) hown hK g rfl 3 (by decide) rfl (hts _ (List.mem_cons_of_mem _ t_419)) (fun _ h9 => h9) 9 rfl dX2_readArguments_215 ?_
            refine lv_bipush (v := 22) hx hb dX2_readArguments_218 (by decide) ?_
            refine lv_iconst (v := 0) hx hb dX2_readArguments_220 (by decide) ?_
            have go_ := g
            refine g_callv (va_runV (As := [.int 22, .int 0]) (rest := []) ⟨hx, hb, hml, hown, hts⟩ (r_X7_emit l dC dI L kd tys fr_78 H.size g.2.2.2.1 q3_ mq3_ kq3_ 22 0) (cwV 2 hts (gV_ t_1301 t_1204 t_1205 t_191 t_1206) rfl rfl rfl (by decide +kernel) ⟨(Nat.le_of_ble_eq_true rfl), (Nat.le_of_ble_eq_true rfl)⟩) (pre3V g hK mq3_ kq3_ (by decide) (q := (RX7, TX7, 19)) rfl) rfl rfl hl.1 rfl (lv_room (Nat.le_of_ble_eq_true rfl)) dX2_readArguments_221 ⟨(Nat.le_of_ble_eq_true rfl), (Nat.le_of_ble_eq_true rfl)⟩) g hK (by decide) (by decide) (fx' := [(2, 13, a0_, .int x_77), (2, 12, a0_, .int x_76), (8, 6, q0_, .int 1201), (8, 8, q0_, .int x_23), (2, 14, a0_, .int x_11), (2, 0, a0_, .ref q0_), (2, 1, a0_, .ref q1_), (2, 2, a0_, .ref q2_), (2, 3, a0_, .ref q3_), (0, 0, q2_, .ref q0_), (0, 1, q2_, .ref q1_), (5, 0, q1_, .ref q6_), (5, 1, q1_, .ref q7_)]) rfl (fun fr_83 H locs hp hMr_83 g => ?_)
            obtain ⟨x_84, h_85, hF_86⟩ := hp
            have hG_87 := eOK.frame hMr_83 go_.2.2.2.1 mq2_ kq2_ (by decide) (by decide) hG_82
            have g := g.more hF_86
            refine lv_aload_n hx hb dX2_readArguments_224 rfl (lv_at hl 4 rfl) ?_
            refine g_getk (C := RX2) (T := TX2) (N := 16) hx hb hts (mc_ inX2) hown hK g rfl 0 (by decide) rfl (hts _ (List.mem_cons_of_mem _ t_416)) (fun _ h9 => h9) 6 rfl dX2_readArguments_225 ?_
            refine lv_bipush (v := 59) hx hb dX2_readArguments_228 (by decide) ?_
            have kb_1201 : bd 1201 1201 (1201 : Int32) := ⟨by decide, by decide⟩
            have go_ := g
            refine g_callv (va_runV (As := [.int 59]) (rest := []) ⟨hx, hb, hml, hown, hts⟩ (r_X8_take_2 l dC dI L kd tys fr_83 H.size g.2.2.2.1 q0_ mq0_ kq0_ 59 1201 kb_1201 x_23 h_24 (g.fcts [3, 4] rfl)) (cwV 1 hts (gV_ t_1098 t_1099 t_1100 t_184 t_1101) rfl rfl rfl (by decide +kernel) ⟨(Nat.le_of_ble_eq_true rfl), (Nat.le_of_ble_eq_true rfl)⟩) (pre3V g hK mq0_ kq0_ (by decide) (q := (RX8, TX8, 10)) rfl) rfl rfl hl.1 rfl (lv_room (Nat.le_of_ble_eq_true rfl)) dX2_readArguments_230 ⟨(Nat.le_of_ble_eq_true rfl), (Nat.le_of_ble_eq_true rfl)⟩) g hK (by decide) (by decide) (fx' := [(7, 6, q3_, .int x_84), (2, 13, a0_, .int x_77), (2, 12, a0_, .int x_76), (8, 8, q0_, .int x_23), (2, 14, a0_, .int x_11), (2, 0, a0_, .ref q0_), (2, 1, a0_, .ref q1_), (2, 2, a0_, .ref q2_), (2, 3, a0_, .ref q3_), (0, 0, q2_, .ref q0_), (0, 1, q2_, .ref q1_), (5, 0, q1_, .ref q6_), (5, 1, q1_, .ref q7_)]) rfl (fun fr_88 H locs hp hMr_88 g => ?_)
            obtain ⟨x_89, h_90, hF_91⟩ := hp
            have hG_92 := eOK.frame hMr_88 go_.2.2.2.1 mq2_ kq2_ (by decide) (by decide) hG_87
            have g := g.more hF_91
            subst hQ
            exact W.vret hx hb hr (fun t ht hW => ⟨⟨_, rfl, Or.inr (⟨hG_92, x_89, h_90, x_23, h_24, x_84, h_85, (g.fcts [0, 4, 1] rfl)⟩), q3_of g hK ht hW⟩, g.2.2.1.F ht⟩) g.2.2.1.2.2 dX2_readArguments_233
          · have fc_74 := nle_f c_74
            have b_93 : bd 1 2147483647 x_11 := ltR fc_74 kb_0 (bdT x_11) (by decide)
            refine lv_aload_n hx hb dX2_readArguments_188 rfl (lv_at hl 4 rfl) ?_
            refine g_getk (C := RX2) (T := TX2) (N := 16) hx hb hts (mc_ inX2) hown hK g rfl 0 (by decide) rfl (hts _ (List.mem_cons_of_mem _ t_416)) (fun _ h9 => h9) 3 rfl dX2_readArguments_189 ?_
            refine lv_bipush (v := 6) hx hb dX2_readArguments_192 (by decide) ?_
            refine lv_iload hx hb dX2_readArguments_194 (lv_at hl 0 rfl) ?_
            have kb_6 : bd 6 6 (6 : Int32) := ⟨by decide, by decide⟩
            have go_ := g
            refine g_callv (va_runV (As := [.int 6, .int r_17]) (rest := []) ⟨hx, hb, hml, hown, hts⟩ (r_X8_fail_2 l dC dI L kd tys fr_19 H.size g.2.2.2.1 q0_ mq0_ kq0_ 6 (bd_sub kb_6 (by decide)) r_17 x_23 h_24 (g.fcts [1] rfl)) (cwV 2 hts (gV_ t_1122 t_1107 t_1108 t_184 t_1109) rfl rfl rfl (by decide +kernel) ⟨(Nat.le_of_ble_eq_true rfl), (Nat.le_of_ble_eq_true rfl)⟩) (pre3V g hK mq0_ kq0_ (by decide) (q := (RX8, TX8, 10)) rfl) rfl rfl hl.1 rfl (lv_room (Nat.le_of_ble_eq_true rfl)) dX2_readArguments_196 ⟨(Nat.le_of_ble_eq_true rfl), (Nat.le_of_ble_eq_true rfl)⟩) g hK (by decide) (by decide) (fx' := [(8, 8, q0_, .int x_23), (2, 14, a0_, .int x_11), (2, 0, a0_, .ref q0_), (2, 1, a0_, .ref q1_), (2, 2, a0_, .ref q2_), (2, 3, a0_, .ref q3_), (0, 0, q2_, .ref q0_), (0, 1, q2_, .ref q1_), (5, 0, q1_, .ref q6_), (5, 1, q1_, .ref q7_)]) rfl (fun fr_94 H locs hp hMr_94 g => ?_)
            have hF_95 := hp
            have hG_96 := eOK.frame hMr_94 go_.2.2.2.1 mq2_ kq2_ (by decide) (by decide) hG_73
            have g := g.more hF_95
            refine lv_aload_n hx hb dX2_readArguments_199 rfl (lv_at hl 4 rfl) ?_
            refine g_getk (C := RX2) (T := TX2) (N := 16) hx hb hts (mc_ inX2) hown hK g rfl 3 (by decide) rfl (hts _ (List.mem_cons_of_mem _ t_419)) (fun _ h9 => h9) 6 rfl dX2_readArguments_200 ?_
            refine lv_aload_n hx hb dX2_readArguments_203 rfl (lv_at hl 4 rfl) ?_
            refine g_geti (C := RX2) (T := TX2) (N := 16) hx hb hts (mc_ inX2) hown hK g ma0_ ka0_ (by decide) rfl 12 (by decide) rfl (hts _ (List.mem_cons_of_mem _ t_428)) (fun _ h9 => h9) rfl dX2_readArguments_204 (fun x_97 bx_97 g => ?_)
            refine lv_aload_n hx hb dX2_readArguments_207 rfl (lv_at hl 4 rfl) ?_
            refine g_geti (C := RX2) (T := TX2) (N := 16) hx hb hts (mc_ inX2) hown hK g ma0_ ka0_ (by decide) rfl 13 (by decide) rfl (hts _ (List.mem_cons_of_mem _ t_429)) (fun _ h9 => h9) rfl dX2_readArguments_208 (fun x_98 bx_98 g => ?_)
            have go_ := g
            refine g_callv (va_runV (As := [.int x_97, .int x_98]) (rest := []) ⟨hx, hb, hml, hown, hts⟩ (r_X7_emit l dC dI L kd tys fr_94 H.size g.2.2.2.1 q3_ mq3_ kq3_ x_97 x_98) (cwV 2 hts (gV_ t_1301 t_1204 t_1205 t_191 t_1206) rfl rfl rfl (by decide +kernel) ⟨(Nat.le_of_ble_eq_true rfl), (Nat.le_of_ble_eq_true rfl)⟩) (pre3V g hK mq3_ kq3_ (by decide) (q := (RX7, TX7, 19)) rfl) rfl rfl hl.1 rfl (lv_room (Nat.le_of_ble_eq_true rfl)) dX2_readArguments_211 ⟨(Nat.le_of_ble_eq_true rfl), (Nat.le_of_ble_eq_true rfl)⟩) g hK (by decide) (by decide) (fx' := [(2, 13, a0_, .int x_98), (2, 12, a0_, .int x_97), (8, 6, q0_, .int 1201), (8, 8, q0_, .int x_23), (2, 14, a0_, .int x_11), (2, 0, a0_, .ref q0_), (2, 1, a0_, .ref q1_), (2, 2, a0_, .ref q2_), (2, 3, a0_, .ref q3_), (0, 0, q2_, .ref q0_), (0, 1, q2_, .ref q1_), (5, 0, q1_, .ref q6_), (5, 1, q1_, .ref q7_)]) rfl (fun fr_99 H locs hp hMr_99 g => ?_)
            obtain ⟨x_100, h_101, hF_102⟩ := hp
            have hG_103 := eOK.frame hMr_99 go_.2.2.2.1 mq2_ kq2_ (by decide) (by decide) hG_96
            have g := g.more hF_102
            refine lv_aload_n hx hb dX2_readArguments_214 rfl (lv_at hl 4 rfl) ?_
            refine g_getk (C := RX2) (T := TX2) (N := 16) hx hb hts (mc_ inX2) hown hK g rfl 3 (by decide) rfl (hts _ (List.mem_cons_of_mem _ t_419)) (fun _ h9 => h9) 9 rfl dX2_readArguments_215 ?_
            refine lv_bipush (v := 22) hx hb dX2_readArguments_218 (by decide) ?_
            refine lv_iconst (v := 0) hx hb dX2_readArguments_220 (by decide) ?_
            have go_ := g
            refine g_callv (va_runV (As := [.int 22, .int 0]) (rest := []) ⟨hx, hb, hml, hown, hts⟩ (r_X7_emit l dC dI L kd tys fr_99 H.size g.2.2.2.1 q3_ mq3_ kq3_ 22 0) (cwV 2 hts (gV_ t_1301 t_1204 t_1205 t_191 t_1206) rfl rfl rfl (by decide +kernel) ⟨(Nat.le_of_ble_eq_true rfl), (Nat.le_of_ble_eq_true rfl)⟩) (pre3V g hK mq3_ kq3_ (by decide) (q := (RX7, TX7, 19)) rfl) rfl rfl hl.1 rfl (lv_room (Nat.le_of_ble_eq_true rfl)) dX2_readArguments_221 ⟨(Nat.le_of_ble_eq_true rfl), (Nat.le_of_ble_eq_true rfl)⟩) g hK (by decide) (by decide) (fx' := [(2, 13, a0_, .int x_98), (2, 12, a0_, .int x_97), (8, 6, q0_, .int 1201), (8, 8, q0_, .int x_23), (2, 14, a0_, .int x_11), (2, 0, a0_, .ref q0_), (2, 1, a0_, .ref q1_), (2, 2, a0_, .ref q2_), (2, 3, a0_, .ref q3_), (0, 0, q2_, .ref q0_), (0, 1, q2_, .ref q1_), (5, 0, q1_, .ref q6_), (5, 1, q1_, .ref q7_)]) rfl (fun fr_104 H locs hp hMr_104 g => ?_)
            obtain ⟨x_105, h_106, hF_107⟩ := hp
            have hG_108 := eOK.frame hMr_104 go_.2.2.2.1 mq2_ kq2_ (by decide) (by decide) hG_103
            have g := g.more hF_107
            refine lv_aload_n hx hb dX2_readArguments_224 rfl (lv_at hl 4 rfl) ?_
            refine g_getk (C := RX2) (T := TX2) (N := 16) hx hb hts (mc_ inX2) hown hK g rfl 0 (by decide) rfl (hts _ (List.mem_cons_of_mem _ t_416)) (fun _ h9 => h9) 6 rfl dX2_readArguments_225 ?_
            refine lv_bipush (v := 59) hx hb dX2_readArguments_228 (by decide) ?_
            have kb_1201 : bd 1201 1201 (1201 : Int32) := ⟨by decide, by decide⟩
            have go_ := g
            refine g_callv (va_runV (As := [.int 59]) (rest := []) ⟨hx, hb, hml, hown, hts⟩ (r_X8_take_2 l dC dI L kd tys fr_104 H.size g.2.2.2.1 q0_ mq0_ kq0_ 59 1201 kb_1201 x_23 h_24 (g.fcts [3, 4] rfl)) (cwV 1 hts (gV_ t_1098 t_1099 t_1100 t_184 t_1101) rfl rfl rfl (by decide +kernel) ⟨(Nat.le_of_ble_eq_true rfl), (Nat.le_of_ble_eq_true rfl)⟩) (pre3V g hK mq0_ kq0_ (by decide) (q := (RX8, TX8, 10)) rfl) rfl rfl hl.1 rfl (lv_room (Nat.le_of_ble_eq_true rfl)) dX2_readArguments_230 ⟨(Nat.le_of_ble_eq_true rfl), (Nat.le_of_ble_eq_true rfl)⟩) g hK (by decide) (by decide) (fx' := [(7, 6, q3_, .int x_105), (2, 13, a0_, .int x_98), (2, 12, a0_, .int x_97), (8, 8, q0_, .int x_23), (2, 14, a0_, .int x_11), (2, 0, a0_, .ref q0_), (2, 1, a0_, .ref q1_), (2, 2, a0_, .ref q2_), (2, 3, a0_, .ref q3_), (0, 0, q2_, .ref q0_), (0, 1, q2_, .ref q1_), (5, 0, q1_, .ref q6_), (5, 1, q1_, .ref q7_)]) rfl (fun fr_109 H locs hp hMr_109 g => ?_)
            obtain ⟨x_110, h_111, hF_112⟩ := hp
            have hG_113 := eOK.frame hMr_109 go_.2.2.2.1 mq2_ kq2_ (by decide) (by decide) hG_108
            have g := g.more hF_112
            subst hQ
            exact W.vret hx hb hr (fun t ht hW => ⟨⟨_, rfl, Or.inr (⟨hG_113, x_110, h_111, x_23, h_24, x_105, h_106, (g.fcts [0, 4, 1] rfl)⟩), q3_of g hK ht hW⟩, g.2.2.1.F ht⟩) g.2.2.1.2.2 dX2_readArguments_233
      · have fc_15 := neq_f c_15
        refine lv_iconst (v := 1) hx hb dX2_readArguments_60 (by decide) ?_
        refine lv_goto (tgt := 65) hx hb dX2_readArguments_61 (by decide) ?_
        refine lv_istore_n (lv' := [(3, .int 1), (2, .int 0), (1, .int r_1), (0, .ref a0_)]) hx hb dX2_readArguments_65 rfl hl (by decide) rfl (fun ls hl => ?_)
        refine lv_iconst (v := 0) hx hb dX2_readArguments_66 (by decide) ?_
        refine lv_istore (lv' := [(4, .int 0), (3, .int 1), (2, .int 0), (1, .int r_1), (0, .ref a0_)]) hx hb dX2_readArguments_67 hl (by decide) rfl (fun ls hl => ?_)
        have loop_114 : ∀ (n : Nat) (v69_4 : Int32) (v69_3 : Int32) (v69_2 : Int32), bd 0 4 v69_4 → bd 0 1 v69_3 → (4 - v69_4.toInt < (n : Int)) → ∀ (f : Nat → va_E) (H : Heap) (locs : List Loc) (ls : Array Slot), G3 (dC, dI) L kd tys s f0 [(0, 2), (0, 8), (0, 10), (0, 11), (0, 12), (0, 13), (7, 6), (7, 18), (8, 6), (8, 8), (8, 9)] [110, 111, 112, 113, 114, 115, 138, 139] f H locs [(2, 14, a0_, .int x_11), (8, 8, q0_, .int y0_), (2, 0, a0_, .ref q0_), (2, 1, a0_, .ref q1_), (2, 2, a0_, .ref q2_), (2, 3, a0_, .ref q3_), (0, 0, q2_, .ref q0_), (0, 1, q2_, .ref q1_), (5, 0, q1_, .ref q6_), (5, 1, q1_, .ref q7_)] → eOK f q2_ → lv_has ls 6 [(4, .int v69_4), (3, .int v69_3), (2, .int v69_2), (1, .int r_1), (0, .ref a0_)] → W p l e ({ frames := 4, cells := 0, slots := 0, locals := 97 } : Room) s m [.ref a0_].toArray below meth c H locs 0 0 Q (F0 m 69 ls []) := by
          intro n69
          induction n69 with
          | zero =>
            intro v69_4 v69_3 v69_2 bv69_4 bv69_3  hm69 f H locs ls g hG69_e_q2_ hl
            exact absurd hm69 (by have h9_v69_4 := bv69_4; unfold bd at h9_v69_4; have h9_v69_3 := bv69_3; unfold bd at h9_v69_3; have h9_v69_2 := bdT v69_2; unfold bd at h9_v69_2; omega)
          | succ n69 ih69 =>
            intro v69_4 v69_3 v69_2 bv69_4 bv69_3  hm69 f H locs ls g hG69_e_q2_ hl
            refine lv_iload hx hb dX2_readArguments_69 (lv_at hl 0 rfl) ?_
            refine lv_iconst (v := 3) hx hb dX2_readArguments_71 (by decide) ?_
            have kb_3 : bd 3 3 (3 : Int32) := ⟨by decide, by decide⟩
            refine lv_icmp_gt (tgt := 162) hx hb dX2_readArguments_72 (by decide) (fun c_115 => ?_) (fun c_115 => ?_)
            · have fc_115 := lt_f c_115
              have b_116 : bd 4 4 v69_4 := ltR fc_115 kb_3 bv69_4 (by decide)
              refine lv_aload_n hx hb dX2_readArguments_162 rfl (lv_at hl 4 rfl) ?_
              refine g_getk (C := RX2) (T := TX2) (N := 16) hx hb hts (mc_ inX2) hown hK g rfl 0 (by decide) rfl (hts _ (List.mem_cons_of_mem _ t_416)) (fun _ h9 => h9) 2 rfl dX2_readArguments_163 ?_
              have go_ := g
              refine g_calli (va_runV (As := []) (rest := []) ⟨hx, hb, hml, hown, hts⟩ (r_X8_place l dC dI L kd tys f H.size g.2.2.2.1 q0_ mq0_ kq0_) (cwV 0 hts (gV_ t_1110 t_1111 t_1112 t_184 t_1113) rfl rfl rfl (by decide +kernel) ⟨(Nat.le_of_ble_eq_true rfl), (Nat.le_of_ble_eq_true rfl)⟩) (pre3V g hK mq0_ kq0_ (by decide) (q := (RX8, TX8, 10)) rfl) rfl rfl hl.1 rfl (lv_room (Nat.le_of_ble_eq_true rfl)) dX2_readArguments_166 ⟨(Nat.le_of_ble_eq_true rfl), (Nat.le_of_ble_eq_true rfl)⟩) g hK (by decide) (by decide) (fx' := [(2, 14, a0_, .int x_11), (8, 8, q0_, .int y0_), (2, 0, a0_, .ref q0_), (2, 1, a0_, .ref q1_), (2, 2, a0_, .ref q2_), (2, 3, a0_, .ref q3_), (0, 0, q2_, .ref q0_), (0, 1, q2_, .ref q1_), (5, 0, q1_, .ref q6_), (5, 1, q1_, .ref q7_)]) rfl (fun r_117 fr_117 H locs hp hMr_117 g => ?_)
              have hG_118 := eOK.frame hMr_117 go_.2.2.2.1 mq2_ kq2_ (by decide) (by decide) hG69_e_q2_
              refine lv_istore (lv' := [(4, .int r_117), (3, .int v69_3), (2, .int v69_2), (1, .int r_1), (0, .ref a0_)]) hx hb dX2_readArguments_169 hl (by decide) rfl (fun ls hl => ?_)
              refine lv_aload_n hx hb dX2_readArguments_171 rfl (lv_at hl 4 rfl) ?_
              refine g_getk (C := RX2) (T := TX2) (N := 16) hx hb hts (mc_ inX2) hown hK g rfl 0 (by decide) rfl (hts _ (List.mem_cons_of_mem _ t_416)) (fun _ h9 => h9) 2 rfl dX2_readArguments_172 ?_
              refine lv_bipush (v := 41) hx hb dX2_readArguments_175 (by decide) ?_
              have go_ := g
              refine g_callv (va_runV (As := [.int 41]) (rest := []) ⟨hx, hb, hml, hown, hts⟩ (r_X8_take l dC dI L kd tys fr_117 H.size g.2.2.2.1 q0_ mq0_ kq0_ 41 y0_ by0_ (g.fcts [1] rfl)) (cwV 1 hts (gV_ t_1098 t_1099 t_1100 t_184 t_1101) rfl rfl rfl (by decide +kernel) ⟨(Nat.le_of_ble_eq_true rfl), (Nat.le_of_ble_eq_true rfl)⟩) (pre3V g hK mq0_ kq0_ (by decide) (q := (RX8, TX8, 10)) rfl) rfl rfl hl.1 rfl (lv_room (Nat.le_of_ble_eq_true rfl)) dX2_readArguments_177 ⟨(Nat.le_of_ble_eq_true rfl), (Nat.le_of_ble_eq_true rfl)⟩) g hK (by decide) (by decide) (fx' := [(2, 14, a0_, .int x_11), (2, 0, a0_, .ref q0_), (2, 1, a0_, .ref q1_), (2, 2, a0_, .ref q2_), (2, 3, a0_, .ref q3_), (0, 0, q2_, .ref q0_), (0, 1, q2_, .ref q1_), (5, 0, q1_, .ref q6_), (5, 1, q1_, .ref q7_)]) rfl (fun fr_119 H locs hp hMr_119 g => ?_)
              rcases hp with ⟨x_120, h_121, hF_122⟩ | ⟨x_123, h_124, hF_125⟩
              · have hG_126 := eOK.frame hMr_119 go_.2.2.2.1 mq2_ kq2_ (by decide) (by decide) hG_118
                have g := g.more hF_122
                refine lv_iload_n hx hb dX2_readArguments_180 rfl (lv_at hl 2 rfl) ?_
                refine lv_aload_n hx hb dX2_readArguments_181 rfl (lv_at hl 4 rfl) ?_
                refine g_getk (C := RX2) (T := TX2) (N := 16) hx hb hts (mc_ inX2) hown hK g rfl 14 (by decide) rfl (hts _ (List.mem_cons_of_mem _ t_430)) (fun _ h9 => h9) 2 rfl dX2_readArguments_182 ?_
                refine lv_icmp_ge (tgt := 199) hx hb dX2_readArguments_185 (by decide) (fun c_127 => ?_) (fun c_127 => ?_)
                · have fc_127 := le_f c_127
                  refine lv_aload_n hx hb dX2_readArguments_199 rfl (lv_at hl 4 rfl) ?_
                  refine g_getk (C := RX2) (T := TX2) (N := 16) hx hb hts (mc_ inX2) hown hK g rfl 3 (by decide) rfl (hts _ (List.mem_cons_of_mem _ t_419)) (fun _ h9 => h9) 6 rfl dX2_readArguments_200 ?_
                  refine lv_aload_n hx hb dX2_readArguments_203 rfl (lv_at hl 4 rfl) ?_
                  refine g_geti (C := RX2) (T := TX2) (N := 16) hx hb hts (mc_ inX2) hown hK g ma0_ ka0_ (by decide) rfl 12 (by decide) rfl (hts _ (List.mem_cons_of_mem _ t_428)) (fun _ h9 => h9) rfl dX2_readArguments_204 (fun x_128 bx_128 g => ?_)
                  refine lv_aload_n hx hb dX2_readArguments_207 rfl (lv_at hl 4 rfl) ?_
                  refine g_geti (C := RX2) (T := TX2) (N := 16) hx hb hts (mc_ inX2) hown hK g ma0_ ka0_ (by decide) rfl 13 (by decide) rfl (hts _ (List.mem_cons_of_mem _ t_429)) (fun _ h9 => h9) rfl dX2_readArguments_208 (fun x_129 bx_129 g => ?_)
                  have go_ := g
                  refine g_callv (va_runV (As := [.int x_128, .int x_129]) (rest := []) ⟨hx, hb, hml, hown, hts⟩ (r_X7_emit l dC dI L kd tys fr_119 H.size g.2.2.2.1 q3_ mq3_ kq3_ x_128 x_129) (cwV 2 hts (gV_ t_1301 t_1204 t_1205 t_191 t_1206) rfl rfl rfl (by decide +kernel) ⟨(Nat.le_of_ble_eq_true rfl), (Nat.le_of_ble_eq_true rfl)⟩) (pre3V g hK mq3_ kq3_ (by decide) (q := (RX7, TX7, 19)) rfl) rfl rfl hl.1 rfl (lv_room (Nat.le_of_ble_eq_true rfl)) dX2_readArguments_211 ⟨(Nat.le_of_ble_eq_true rfl), (Nat.le_of_ble_eq_true rfl)⟩) g hK (by decide) (by decide) (fx' := [(2, 13, a0_, .int x_129), (2, 12, a0_, .int x_128), (8, 6, q0_, .int x_120), (8, 8, q0_, .int y0_), (2, 14, a0_, .int x_11), (2, 0, a0_, .ref q0_), (2, 1, a0_, .ref q1_), (2, 2, a0_, .ref q2_), (2, 3, a0_, .ref q3_), (0, 0, q2_, .ref q0_), (0, 1, q2_, .ref q1_), (5, 0, q1_, .ref q6_), (5, 1, q1_, .ref q7_)]) rfl (fun fr_130 H locs hp hMr_130 g => ?_)
                  obtain ⟨x_131, h_132, hF_133⟩ := hp
                  have hG_134 := eOK.frame hMr_130 go_.2.2.2.1 mq2_ kq2_ (by decide) (by decide) hG_126
                  have g := g.more hF_133
                  refine lv_aload_n hx hb dX2_readArguments_214 rfl (lv_at hl 4 rfl) ?_
                  refine g_getk (C := RX2) (T := TX2) (N := 16) hx hb hts (mc_ inX2) hown hK g rfl 3 (by decide) rfl (hts _ (List.mem_cons_of_mem _ t_419)) (fun _ h9 => h9) 9 rfl dX2_readArguments_215 ?_
                  refine lv_bipush (v := 22) hx hb dX2_readArguments_218 (by decide) ?_
                  refine lv_iconst (v := 0) hx hb dX2_readArguments_220 (by decide) ?_
                  have go_ := g
                  refine g_callv (va_runV (As := [.int 22, .int 0]) (rest := []) ⟨hx, hb, hml, hown, hts⟩ (r_X7_emit l dC dI L kd tys fr_130 H.size g.2.2.2.1 q3_ mq3_ kq3_ 22 0) (cwV 2 hts (gV_ t_1301 t_1204 t_1205 t_191 t_1206) rfl rfl rfl (by decide +kernel) ⟨(Nat.le_of_ble_eq_true rfl), (Nat.le_of_ble_eq_true rfl)⟩) (pre3V g hK mq3_ kq3_ (by decide) (q := (RX7, TX7, 19)) rfl) rfl rfl hl.1 rfl (lv_room (Nat.le_of_ble_eq_true rfl)) dX2_readArguments_221 ⟨(Nat.le_of_ble_eq_true rfl), (Nat.le_of_ble_eq_true rfl)⟩) g hK (by decide) (by decide) (fx' := [(2, 13, a0_, .int x_129), (2, 12, a0_, .int x_128), (8, 6, q0_, .int x_120), (8, 8, q0_, .int y0_), (2, 14, a0_, .int x_11), (2, 0, a0_, .ref q0_), (2, 1, a0_, .ref q1_), (2, 2, a0_, .ref q2_), (2, 3, a0_, .ref q3_), (0, 0, q2_, .ref q0_), (0, 1, q2_, .ref q1_), (5, 0, q1_, .ref q6_), (5, 1, q1_, .ref q7_)]) rfl (fun fr_135 H locs hp hMr_135 g => ?_)
                  obtain ⟨x_136, h_137, hF_138⟩ := hp
                  have hG_139 := eOK.frame hMr_135 go_.2.2.2.1 mq2_ kq2_ (by decide) (by decide) hG_134
                  have g := g.more hF_138
                  refine lv_aload_n hx hb dX2_readArguments_224 rfl (lv_at hl 4 rfl) ?_
                  refine g_getk (C := RX2) (T := TX2) (N := 16) hx hb hts (mc_ inX2) hown hK g rfl 0 (by decide) rfl (hts _ (List.mem_cons_of_mem _ t_416)) (fun _ h9 => h9) 6 rfl dX2_readArguments_225 ?_
                  refine lv_bipush (v := 59) hx hb dX2_readArguments_228 (by decide) ?_
                  have go_ := g
                  refine g_callv (va_runV (As := [.int 59]) (rest := []) ⟨hx, hb, hml, hown, hts⟩ (r_X8_take l dC dI L kd tys fr_135 H.size g.2.2.2.1 q0_ mq0_ kq0_ 59 y0_ by0_ (g.fcts [4] rfl)) (cwV 1 hts (gV_ t_1098 t_1099 t_1100 t_184 t_1101) rfl rfl rfl (by decide +kernel) ⟨(Nat.le_of_ble_eq_true rfl), (Nat.le_of_ble_eq_true rfl)⟩) (pre3V g hK mq0_ kq0_ (by decide) (q := (RX8, TX8, 10)) rfl) rfl rfl hl.1 rfl (lv_room (Nat.le_of_ble_eq_true rfl)) dX2_readArguments_230 ⟨(Nat.le_of_ble_eq_true rfl), (Nat.le_of_ble_eq_true rfl)⟩) g hK (by decide) (by decide) (fx' := [(7, 6, q3_, .int x_136), (2, 13, a0_, .int x_129), (2, 12, a0_, .int x_128), (2, 14, a0_, .int x_11), (2, 0, a0_, .ref q0_), (2, 1, a0_, .ref q1_), (2, 2, a0_, .ref q2_), (2, 3, a0_, .ref q3_), (0, 0, q2_, .ref q0_), (0, 1, q2_, .ref q1_), (5, 0, q1_, .ref q6_), (5, 1, q1_, .ref q7_)]) rfl (fun fr_140 H locs hp hMr_140 g => ?_)
                  rcases hp with ⟨x_141, h_142, hF_143⟩ | ⟨x_144, h_145, hF_146⟩
                  · have hG_147 := eOK.frame hMr_140 go_.2.2.2.1 mq2_ kq2_ (by decide) (by decide) hG_139
                    have g := g.more hF_143
                    subst hQ
                    exact W.vret hx hb hr (fun t ht hW => ⟨⟨_, rfl, Or.inl ⟨hG_147, x_141, h_142, x_136, h_137, (g.fcts [0, 1, 2] rfl)⟩, q3_of g hK ht hW⟩, g.2.2.1.F ht⟩) g.2.2.1.2.2 dX2_readArguments_233
                  · have hG_148 := eOK.frame hMr_140 go_.2.2.2.1 mq2_ kq2_ (by decide) (by decide) hG_139
                    have g := g.more hF_146
                    have kb_1201 : bd 1201 1201 (1201 : Int32) := ⟨by decide, by decide⟩
                    subst hQ
                    exact W.vret hx hb hr (fun t ht hW => ⟨⟨_, rfl, Or.inr (⟨hG_148, 1201, kb_1201, x_144, h_145, x_136, h_137, (g.fcts [0, 1, 2] rfl)⟩), q3_of g hK ht hW⟩, g.2.2.1.F ht⟩) g.2.2.1.2.2 dX2_readArguments_233
                · have fc_127 := nle_f c_127
                  have b_149 : bd (-2147483648) 2147483646 v69_2 := ltL fc_127 (bdT v69_2) (bdT x_11) (by decide)
                  have b_150 : bd (-2147483647) 2147483647 x_11 := ltR fc_127 (bdT v69_2) (bdT x_11) (by decide)
                  refine lv_aload_n hx hb dX2_readArguments_188 rfl (lv_at hl 4 rfl) ?_
                  refine g_getk (C := RX2) (T := TX2) (N := 16) hx hb hts (mc_ inX2) hown hK g rfl 0 (by decide) rfl (hts _ (List.mem_cons_of_mem _ t_416)) (fun _ h9 => h9) 3 rfl dX2_readArguments_189 ?_
                  refine lv_bipush (v := 6) hx hb dX2_readArguments_192 (by decide) ?_
                  refine lv_iload hx hb dX2_readArguments_194 (lv_at hl 0 rfl) ?_
                  have kb_6 : bd 6 6 (6 : Int32) := ⟨by decide, by decide⟩
                  have go_ := g
                  refine g_callv (va_runV (As := [.int 6, .int r_117]) (rest := []) ⟨hx, hb, hml, hown, hts⟩ (r_X8_fail l dC dI L kd tys fr_119 H.size g.2.2.2.1 q0_ mq0_ kq0_ 6 (bd_sub kb_6 (by decide)) r_117 y0_ by0_ (g.fcts [1] rfl)) (cwV 2 hts (gV_ t_1122 t_1107 t_1108 t_184 t_1109) rfl rfl rfl (by decide +kernel) ⟨(Nat.le_of_ble_eq_true rfl), (Nat.le_of_ble_eq_true rfl)⟩) (pre3V g hK mq0_ kq0_ (by decide) (q := (RX8, TX8, 10)) rfl) rfl rfl hl.1 rfl (lv_room (Nat.le_of_ble_eq_true rfl)) dX2_readArguments_196 ⟨(Nat.le_of_ble_eq_true rfl), (Nat.le_of_ble_eq_true rfl)⟩) g hK (by decide) (by decide) (fx' := [(2, 14, a0_, .int x_11), (2, 0, a0_, .ref q0_), (2, 1, a0_, .ref q1_), (2, 2, a0_, .ref q2_), (2, 3, a0_, .ref q3_), (0, 0, q2_, .ref q0_), (0, 1, q2_, .ref q1_), (5, 0, q1_, .ref q6_), (5, 1, q1_, .ref q7_)]) rfl (fun fr_151 H locs hp hMr_151 g => ?_)
                  obtain ⟨x_152, h_153, hF_154⟩ := hp
                  have hG_155 := eOK.frame hMr_151 go_.2.2.2.1 mq2_ kq2_ (by decide) (by decide) hG_126
                  have g := g.more hF_154
                  refine lv_aload_n hx hb dX2_readArguments_199 rfl (lv_at hl 4 rfl) ?_
                  refine g_getk (C := RX2) (T := TX2) (N := 16) hx hb hts (mc_ inX2) hown hK g rfl 3 (by decide) rfl (hts _ (List.mem_cons_of_mem _ t_419)) (fun _ h9 => h9) 6 rfl dX2_readArguments_200 ?_
                  refine lv_aload_n hx hb dX2_readArguments_203 rfl (lv_at hl 4 rfl) ?_
                  refine g_geti (C := RX2) (T := TX2) (N := 16) hx hb hts (mc_ inX2) hown hK g ma0_ ka0_ (by decide) rfl 12 (by decide) rfl (hts _ (List.mem_cons_of_mem _ t_428)) (fun _ h9 => h9) rfl dX2_readArguments_204 (fun x_156 bx_156 g => ?_)
                  refine lv_aload_n hx hb dX2_readArguments_207 rfl (lv_at hl 4 rfl) ?_
                  refine g_geti (C := RX2) (T := TX2) (N := 16) hx hb hts (mc_ inX2) hown hK g ma0_ ka0_ (by decide) rfl 13 (by decide) rfl (hts _ (List.mem_cons_of_mem _ t_429)) (fun _ h9 => h9) rfl dX2_readArguments_208 (fun x_157 bx_157 g => ?_)
                  have go_ := g
                  refine g_callv (va_runV (As := [.int x_156, .int x_157]) (rest := []) ⟨hx, hb, hml, hown, hts⟩ (r_X7_emit l dC dI L kd tys fr_151 H.size g.2.2.2.1 q3_ mq3_ kq3_ x_156 x_157) (cwV 2 hts (gV_ t_1301 t_1204 t_1205 t_191 t_1206) rfl rfl rfl (by decide +kernel) ⟨(Nat.le_of_ble_eq_true rfl), (Nat.le_of_ble_eq_true rfl)⟩) (pre3V g hK mq3_ kq3_ (by decide) (q := (RX7, TX7, 19)) rfl) rfl rfl hl.1 rfl (lv_room (Nat.le_of_ble_eq_true rfl)) dX2_readArguments_211 ⟨(Nat.le_of_ble_eq_true rfl), (Nat.le_of_ble_eq_true rfl)⟩) g hK (by decide) (by decide) (fx' := [(2, 13, a0_, .int x_157), (2, 12, a0_, .int x_156), (8, 6, q0_, .int 1201), (8, 8, q0_, .int x_152), (2, 14, a0_, .int x_11), (2, 0, a0_, .ref q0_), (2, 1, a0_, .ref q1_), (2, 2, a0_, .ref q2_), (2, 3, a0_, .ref q3_), (0, 0, q2_, .ref q0_), (0, 1, q2_, .ref q1_), (5, 0, q1_, .ref q6_), (5, 1, q1_, .ref q7_)]) rfl (fun fr_158 H locs hp hMr_158 g => ?_)
                  obtain ⟨x_159, h_160, hF_161⟩ := hp
                  have hG_162 := eOK.frame hMr_158 go_.2.2.2.1 mq2_ kq2_ (by decide) (by decide) hG_155
                  have g := g.more hF_161
                  refine lv_aload_n hx hb dX2_readArguments_214 rfl (lv_at hl 4 rfl) ?_
                  refine g_getk (C := RX2) (T := TX2) (N := 16) hx hb hts (mc_ inX2) hown hK g rfl 3 (by decide) rfl (hts _ (List.mem_cons_of_mem _ t_419)) (fun _ h9 => h9) 9 rfl dX2_readArguments_215 ?_
                  refine lv_bipush (v := 22) hx hb dX2_readArguments_218 (by decide) ?_
                  refine lv_iconst (v := 0) hx hb dX2_readArguments_220 (by decide) ?_
                  have go_ := g
                  refine g_callv (va_runV (As := [.int 22, .int 0]) (rest := []) ⟨hx, hb, hml, hown, hts⟩ (r_X7_emit l dC dI L kd tys fr_158 H.size g.2.2.2.1 q3_ mq3_ kq3_ 22 0) (cwV 2 hts (gV_ t_1301 t_1204 t_1205 t_191 t_1206) rfl rfl rfl (by decide +kernel) ⟨(Nat.le_of_ble_eq_true rfl), (Nat.le_of_ble_eq_true rfl)⟩) (pre3V g hK mq3_ kq3_ (by decide) (q := (RX7, TX7, 19)) rfl) rfl rfl hl.1 rfl (lv_room (Nat.le_of_ble_eq_true rfl)) dX2_readArguments_221 ⟨(Nat.le_of_ble_eq_true rfl), (Nat.le_of_ble_eq_true rfl)⟩) g hK (by decide) (by decide) (fx' := [(2, 13, a0_, .int x_157), (2, 12, a0_, .int x_156), (8, 6, q0_, .int 1201), (8, 8, q0_, .int x_152), (2, 14, a0_, .int x_11), (2, 0, a0_, .ref q0_), (2, 1, a0_, .ref q1_), (2, 2, a0_, .ref q2_), (2, 3, a0_, .ref q3_), (0, 0, q2_, .ref q0_), (0, 1, q2_, .ref q1_), (5, 0, q1_, .ref q6_), (5, 1, q1_, .ref q7_)]) rfl (fun fr_163 H locs hp hMr_163 g => ?_)
                  obtain ⟨x_164, h_165, hF_166⟩ := hp
                  have hG_167 := eOK.frame hMr_163 go_.2.2.2.1 mq2_ kq2_ (by decide) (by decide) hG_162
                  have g := g.more hF_166
                  refine lv_aload_n hx hb dX2_readArguments_224 rfl (lv_at hl 4 rfl) ?_
                  refine g_getk (C := RX2) (T := TX2) (N := 16) hx hb hts (mc_ inX2) hown hK g rfl 0 (by decide) rfl (hts _ (List.mem_cons_of_mem _ t_416)) (fun _ h9 => h9) 6 rfl dX2_readArguments_225 ?_
                  refine lv_bipush (v := 59) hx hb dX2_readArguments_228 (by decide) ?_
                  have kb_1201 : bd 1201 1201 (1201 : Int32) := ⟨by decide, by decide⟩
                  have go_ := g
                  refine g_callv (va_runV (As := [.int 59]) (rest := []) ⟨hx, hb, hml, hown, hts⟩ (r_X8_take_2 l dC dI L kd tys fr_163 H.size g.2.2.2.1 q0_ mq0_ kq0_ 59 1201 kb_1201 x_152 h_153 (g.fcts [3, 4] rfl)) (cwV 1 hts (gV_ t_1098 t_1099 t_1100 t_184 t_1101) rfl rfl rfl (by decide +kernel) ⟨(Nat.le_of_ble_eq_true rfl), (Nat.le_of_ble_eq_true rfl)⟩) (pre3V g hK mq0_ kq0_ (by decide) (q := (RX8, TX8, 10)) rfl) rfl rfl hl.1 rfl (lv_room (Nat.le_of_ble_eq_true rfl)) dX2_readArguments_230 ⟨(Nat.le_of_ble_eq_true rfl), (Nat.le_of_ble_eq_true rfl)⟩) g hK (by decide) (by decide) (fx' := [(7, 6, q3_, .int x_164), (2, 13, a0_, .int x_157), (2, 12, a0_, .int x_156), (8, 8, q0_, .int x_152), (2, 14, a0_, .int x_11), (2, 0, a0_, .ref q0_), (2, 1, a0_, .ref q1_), (2, 2, a0_, .ref q2_), (2, 3, a0_, .ref q3_), (0, 0, q2_, .ref q0_), (0, 1, q2_, .ref q1_), (5, 0, q1_, .ref q6_), (5, 1, q1_, .ref q7_)]) rfl (fun fr_168 H locs hp hMr_168 g => ?_)
                  obtain ⟨x_169, h_170, hF_171⟩ := hp
                  have hG_172 := eOK.frame hMr_168 go_.2.2.2.1 mq2_ kq2_ (by decide) (by decide) hG_167
                  have g := g.more hF_171
                  subst hQ
                  exact W.vret hx hb hr (fun t ht hW => ⟨⟨_, rfl, Or.inr (⟨hG_172, x_169, h_170, x_152, h_153, x_164, h_165, (g.fcts [0, 4, 1] rfl)⟩), q3_of g hK ht hW⟩, g.2.2.1.F ht⟩) g.2.2.1.2.2 dX2_readArguments_233
              · have hG_173 := eOK.frame hMr_119 go_.2.2.2.1 mq2_ kq2_ (by decide) (by decide) hG_118
                have g := g.more hF_125
                refine lv_iload_n hx hb dX2_readArguments_180 rfl (lv_at hl 2 rfl) ?_
                refine lv_aload_n hx hb dX2_readArguments_181 rfl (lv_at hl 4 rfl) ?_
                refine g_getk (C := RX2) (T := TX2) (N := 16) hx hb hts (mc_ inX2) hown hK g rfl 14 (by decide) rfl (hts _ (List.mem_cons_of_mem _ t_430)) (fun _ h9 => h9) 2 rfl dX2_readArguments_182 ?_
                refine lv_icmp_ge (tgt := 199) hx hb dX2_readArguments_185 (by decide) (fun c_174 => ?_) (fun c_174 => ?_)
                · have fc_174 := le_f c_174
                  refine lv_aload_n hx hb dX2_readArguments_199 rfl (lv_at hl 4 rfl) ?_
                  refine g_getk (C := RX2) (T := TX2) (N := 16) hx hb hts (mc_ inX2) hown hK g rfl 3 (by decide) rfl (hts _ (List.mem_cons_of_mem _ t_419)) (fun _ h9 => h9) 6 rfl dX2_readArguments_200 ?_
                  refine lv_aload_n hx hb dX2_readArguments_203 rfl (lv_at hl 4 rfl) ?_
                  refine g_geti (C := RX2) (T := TX2) (N := 16) hx hb hts (mc_ inX2) hown hK g ma0_ ka0_ (by decide) rfl 12 (by decide) rfl (hts _ (List.mem_cons_of_mem _ t_428)) (fun _ h9 => h9) rfl dX2_readArguments_204 (fun x_175 bx_175 g => ?_)
                  refine lv_aload_n hx hb dX2_readArguments_207 rfl (lv_at hl 4 rfl) ?_
                  refine g_geti (C := RX2) (T := TX2) (N := 16) hx hb hts (mc_ inX2) hown hK g ma0_ ka0_ (by decide) rfl 13 (by decide) rfl (hts _ (List.mem_cons_of_mem _ t_429)) (fun _ h9 => h9) rfl dX2_readArguments_208 (fun x_176 bx_176 g => ?_)
                  have go_ := g
                  refine g_callv (va_runV (As := [.int x_175, .int x_176]) (rest := []) ⟨hx, hb, hml, hown, hts⟩ (r_X7_emit l dC dI L kd tys fr_119 H.size g.2.2.2.1 q3_ mq3_ kq3_ x_175 x_176) (cwV 2 hts (gV_ t_1301 t_1204 t_1205 t_191 t_1206) rfl rfl rfl (by decide +kernel) ⟨(Nat.le_of_ble_eq_true rfl), (Nat.le_of_ble_eq_true rfl)⟩) (pre3V g hK mq3_ kq3_ (by decide) (q := (RX7, TX7, 19)) rfl) rfl rfl hl.1 rfl (lv_room (Nat.le_of_ble_eq_true rfl)) dX2_readArguments_211 ⟨(Nat.le_of_ble_eq_true rfl), (Nat.le_of_ble_eq_true rfl)⟩) g hK (by decide) (by decide) (fx' := [(2, 13, a0_, .int x_176), (2, 12, a0_, .int x_175), (8, 6, q0_, .int 1201), (8, 8, q0_, .int x_123), (2, 14, a0_, .int x_11), (2, 0, a0_, .ref q0_), (2, 1, a0_, .ref q1_), (2, 2, a0_, .ref q2_), (2, 3, a0_, .ref q3_), (0, 0, q2_, .ref q0_), (0, 1, q2_, .ref q1_), (5, 0, q1_, .ref q6_), (5, 1, q1_, .ref q7_)]) rfl (fun fr_177 H locs hp hMr_177 g => ?_)
                  obtain ⟨x_178, h_179, hF_180⟩ := hp
                  have hG_181 := eOK.frame hMr_177 go_.2.2.2.1 mq2_ kq2_ (by decide) (by decide) hG_173
                  have g := g.more hF_180
                  refine lv_aload_n hx hb dX2_readArguments_214 rfl (lv_at hl 4 rfl) ?_
                  refine g_getk (C := RX2) (T := TX2) (N := 16) hx hb hts (mc_ inX2) hown hK g rfl 3 (by decide) rfl (hts _ (List.mem_cons_of_mem _ t_419)) (fun _ h9 => h9) 9 rfl dX2_readArguments_215 ?_
                  refine lv_bipush (v := 22) hx hb dX2_readArguments_218 (by decide) ?_
                  refine lv_iconst (v := 0) hx hb dX2_readArguments_220 (by decide) ?_
                  have go_ := g
                  refine g_callv (va_runV (As := [.int 22, .int 0]) (rest := []) ⟨hx, hb, hml, hown, hts⟩ (r_X7_emit l dC dI L kd tys fr_177 H.size g.2.2.2.1 q3_ mq3_ kq3_ 22 0) (cwV 2 hts (gV_ t_1301 t_1204 t_1205 t_191 t_1206) rfl rfl rfl (by decide +kernel) ⟨(Nat.le_of_ble_eq_true rfl), (Nat.le_of_ble_eq_true rfl)⟩) (pre3V g hK mq3_ kq3_ (by decide) (q := (RX7, TX7, 19)) rfl) rfl rfl hl.1 rfl (lv_room (Nat.le_of_ble_eq_true rfl)) dX2_readArguments_221 ⟨(Nat.le_of_ble_eq_true rfl), (Nat.le_of_ble_eq_true rfl)⟩) g hK (by decide) (by decide) (fx' := [(2, 13, a0_, .int x_176), (2, 12, a0_, .int x_175), (8, 6, q0_, .int 1201), (8, 8, q0_, .int x_123), (2, 14, a0_, .int x_11), (2, 0, a0_, .ref q0_), (2, 1, a0_, .ref q1_), (2, 2, a0_, .ref q2_), (2, 3, a0_, .ref q3_), (0, 0, q2_, .ref q0_), (0, 1, q2_, .ref q1_), (5, 0, q1_, .ref q6_), (5, 1, q1_, .ref q7_)]) rfl (fun fr_182 H locs hp hMr_182 g => ?_)
                  obtain ⟨x_183, h_184, hF_185⟩ := hp
                  have hG_186 := eOK.frame hMr_182 go_.2.2.2.1 mq2_ kq2_ (by decide) (by decide) hG_181
                  have g := g.more hF_185
                  refine lv_aload_n hx hb dX2_readArguments_224 rfl (lv_at hl 4 rfl) ?_
                  refine g_getk (C := RX2) (T := TX2) (N := 16) hx hb hts (mc_ inX2) hown hK g rfl 0 (by decide) rfl (hts _ (List.mem_cons_of_mem _ t_416)) (fun _ h9 => h9) 6 rfl dX2_readArguments_225 ?_
                  refine lv_bipush (v := 59) hx hb dX2_readArguments_228 (by decide) ?_
                  have kb_1201 : bd 1201 1201 (1201 : Int32) := ⟨by decide, by decide⟩
                  have go_ := g
                  refine g_callv (va_runV (As := [.int 59]) (rest := []) ⟨hx, hb, hml, hown, hts⟩ (r_X8_take_2 l dC dI L kd tys fr_182 H.size g.2.2.2.1 q0_ mq0_ kq0_ 59 1201 kb_1201 x_123 h_124 (g.fcts [3, 4] rfl)) (cwV 1 hts (gV_ t_1098 t_1099 t_1100 t_184 t_1101) rfl rfl rfl (by decide +kernel) ⟨(Nat.le_of_ble_eq_true rfl), (Nat.le_of_ble_eq_true rfl)⟩) (pre3V g hK mq0_ kq0_ (by decide) (q := (RX8, TX8, 10)) rfl) rfl rfl hl.1 rfl (lv_room (Nat.le_of_ble_eq_true rfl)) dX2_readArguments_230 ⟨(Nat.le_of_ble_eq_true rfl), (Nat.le_of_ble_eq_true rfl)⟩) g hK (by decide) (by decide) (fx' := [(7, 6, q3_, .int x_183), (2, 13, a0_, .int x_176), (2, 12, a0_, .int x_175), (8, 8, q0_, .int x_123), (2, 14, a0_, .int x_11), (2, 0, a0_, .ref q0_), (2, 1, a0_, .ref q1_), (2, 2, a0_, .ref q2_), (2, 3, a0_, .ref q3_), (0, 0, q2_, .ref q0_), (0, 1, q2_, .ref q1_), (5, 0, q1_, .ref q6_), (5, 1, q1_, .ref q7_)]) rfl (fun fr_187 H locs hp hMr_187 g => ?_)
                  obtain ⟨x_188, h_189, hF_190⟩ := hp
                  have hG_191 := eOK.frame hMr_187 go_.2.2.2.1 mq2_ kq2_ (by decide) (by decide) hG_186
                  have g := g.more hF_190
                  subst hQ
                  exact W.vret hx hb hr (fun t ht hW => ⟨⟨_, rfl, Or.inr (⟨hG_191, x_188, h_189, x_123, h_124, x_183, h_184, (g.fcts [0, 4, 1] rfl)⟩), q3_of g hK ht hW⟩, g.2.2.1.F ht⟩) g.2.2.1.2.2 dX2_readArguments_233
                · have fc_174 := nle_f c_174
                  have b_192 : bd (-2147483648) 2147483646 v69_2 := ltL fc_174 (bdT v69_2) (bdT x_11) (by decide)
                  have b_193 : bd (-2147483647) 2147483647 x_11 := ltR fc_174 (bdT v69_2) (bdT x_11) (by decide)
                  refine lv_aload_n hx hb dX2_readArguments_188 rfl (lv_at hl 4 rfl) ?_
                  refine g_getk (C := RX2) (T := TX2) (N := 16) hx hb hts (mc_ inX2) hown hK g rfl 0 (by decide) rfl (hts _ (List.mem_cons_of_mem _ t_416)) (fun _ h9 => h9) 3 rfl dX2_readArguments_189 ?_
                  refine lv_bipush (v := 6) hx hb dX2_readArguments_192 (by decide) ?_
                  refine lv_iload hx hb dX2_readArguments_194 (lv_at hl 0 rfl) ?_
                  have kb_6 : bd 6 6 (6 : Int32) := ⟨by decide, by decide⟩
                  have go_ := g
                  refine g_callv (va_runV (As := [.int 6, .int r_117]) (rest := []) ⟨hx, hb, hml, hown, hts⟩ (r_X8_fail_2 l dC dI L kd tys fr_119 H.size g.2.2.2.1 q0_ mq0_ kq0_ 6 (bd_sub kb_6 (by decide)) r_117 x_123 h_124 (g.fcts [1] rfl)) (cwV 2 hts (gV_ t_1122 t_1107 t_1108 t_184 t_1109) rfl rfl rfl (by decide +kernel) ⟨(Nat.le_of_ble_eq_true rfl), (Nat.le_of_ble_eq_true rfl)⟩) (pre3V g hK mq0_ kq0_ (by decide) (q := (RX8, TX8, 10)) rfl) rfl rfl hl.1 rfl (lv_room (Nat.le_of_ble_eq_true rfl)) dX2_readArguments_196 ⟨(Nat.le_of_ble_eq_true rfl), (Nat.le_of_ble_eq_true rfl)⟩) g hK (by decide) (by decide) (fx' := [(8, 8, q0_, .int x_123), (2, 14, a0_, .int x_11), (2, 0, a0_, .ref q0_), (2, 1, a0_, .ref q1_), (2, 2, a0_, .ref q2_), (2, 3, a0_, .ref q3_), (0, 0, q2_, .ref q0_), (0, 1, q2_, .ref q1_), (5, 0, q1_, .ref q6_), (5, 1, q1_, .ref q7_)]) rfl (fun fr_194 H locs hp hMr_194 g => ?_)
                  have hF_195 := hp
                  have hG_196 := eOK.frame hMr_194 go_.2.2.2.1 mq2_ kq2_ (by decide) (by decide) hG_173
                  have g := g.more hF_195
                  refine lv_aload_n hx hb dX2_readArguments_199 rfl (lv_at hl 4 rfl) ?_
                  refine g_getk (C := RX2) (T := TX2) (N := 16) hx hb hts (mc_ inX2) hown hK g rfl 3 (by decide) rfl (hts _ (List.mem_cons_of_mem _ t_419)) (fun _ h9 => h9) 6 rfl dX2_readArguments_200 ?_
                  refine lv_aload_n hx hb dX2_readArguments_203 rfl (lv_at hl 4 rfl) ?_
                  refine g_geti (C := RX2) (T := TX2) (N := 16) hx hb hts (mc_ inX2) hown hK g ma0_ ka0_ (by decide) rfl 12 (by decide) rfl (hts _ (List.mem_cons_of_mem _ t_428)) (fun _ h9 => h9) rfl dX2_readArguments_204 (fun x_197 bx_197 g => ?_)
                  refine lv_aload_n hx hb dX2_readArguments_207 rfl (lv_at hl 4 rfl) ?_
                  refine g_geti (C := RX2) (T := TX2) (N := 16) hx hb hts (mc_ inX2) hown hK g ma0_ ka0_ (by decide) rfl 13 (by decide) rfl (hts _ (List.mem_cons_of_mem _ t_429)) (fun _ h9 => h9) rfl dX2_readArguments_208 (fun x_198 bx_198 g => ?_)
                  have go_ := g
                  refine g_callv (va_runV (As := [.int x_197, .int x_198]) (rest := []) ⟨hx, hb, hml, hown, hts⟩ (r_X7_emit l dC dI L kd tys fr_194 H.size g.2.2.2.1 q3_ mq3_ kq3_ x_197 x_198) (cwV 2 hts (gV_ t_1301 t_1204 t_1205 t_191 t_1206) rfl rfl rfl (by decide +kernel) ⟨(Nat.le_of_ble_eq_true rfl), (Nat.le_of_ble_eq_true rfl)⟩) (pre3V g hK mq3_ kq3_ (by decide) (q := (RX7, TX7, 19)) rfl) rfl rfl hl.1 rfl (lv_room (Nat.le_of_ble_eq_true rfl)) dX2_readArguments_211 ⟨(Nat.le_of_ble_eq_true rfl), (Nat.le_of_ble_eq_true rfl)⟩) g hK (by decide) (by decide) (fx' := [(2, 13, a0_, .int x_198), (2, 12, a0_, .int x_197), (8, 6, q0_, .int 1201), (8, 8, q0_, .int x_123), (2, 14, a0_, .int x_11), (2, 0, a0_, .ref q0_), (2, 1, a0_, .ref q1_), (2, 2, a0_, .ref q2_), (2, 3, a0_, .ref q3_), (0, 0, q2_, .ref q0_), (0, 1, q2_, .ref q1_), (5, 0, q1_, .ref q6_), (5, 1, q1_, .ref q7_)]) rfl (fun fr_199 H locs hp hMr_199 g => ?_)
                  obtain ⟨x_200, h_201, hF_202⟩ := hp
                  have hG_203 := eOK.frame hMr_199 go_.2.2.2.1 mq2_ kq2_ (by decide) (by decide) hG_196
                  have g := g.more hF_202
                  refine lv_aload_n hx hb dX2_readArguments_214 rfl (lv_at hl 4 rfl) ?_
                  refine g_getk (C := RX2) (T := TX2) (N := 16) hx hb hts (mc_ inX2) hown hK g rfl 3 (by decide) rfl (hts _ (List.mem_cons_of_mem _ t_419)) (fun _ h9 => h9) 9 rfl dX2_readArguments_215 ?_
                  refine lv_bipush (v := 22) hx hb dX2_readArguments_218 (by decide) ?_
                  refine lv_iconst (v := 0) hx hb dX2_readArguments_220 (by decide) ?_
                  have go_ := g
                  refine g_callv (va_runV (As := [.int 22, .int 0]) (rest := []) ⟨hx, hb, hml, hown, hts⟩ (r_X7_emit l dC dI L kd tys fr_199 H.size g.2.2.2.1 q3_ mq3_ kq3_ 22 0) (cwV 2 hts (gV_ t_1301 t_1204 t_1205 t_191 t_1206) rfl rfl rfl (by decide +kernel) ⟨(Nat.le_of_ble_eq_true rfl), (Nat.le_of_ble_eq_true rfl)⟩) (pre3V g hK mq3_ kq3_ (by decide) (q := (RX7, TX7, 19)) rfl) rfl rfl hl.1 rfl (lv_room (Nat.le_of_ble_eq_true rfl)) dX2_readArguments_221 ⟨(Nat.le_of_ble_eq_true rfl), (Nat.le_of_ble_eq_true rfl)⟩) g hK (by decide) (by decide) (fx' := [(2, 13, a0_, .int x_198), (2, 12, a0_, .int x_197), (8, 6, q0_, .int 1201), (8, 8, q0_, .int x_123), (2, 14, a0_, .int x_11), (2, 0, a0_, .ref q0_), (2, 1, a0_, .ref q1_), (2, 2, a0_, .ref q2_), (2, 3, a0_, .ref q3_), (0, 0, q2_, .ref q0_), (0, 1, q2_, .ref q1_), (5, 0, q1_, .ref q6_), (5, 1, q1_, .ref q7_)]) rfl (fun fr_204 H locs hp hMr_204 g => ?_)
                  obtain ⟨x_205, h_206, hF_207⟩ := hp
                  have hG_208 := eOK.frame hMr_204 go_.2.2.2.1 mq2_ kq2_ (by decide) (by decide) hG_203
                  have g := g.more hF_207
                  refine lv_aload_n hx hb dX2_readArguments_224 rfl (lv_at hl 4 rfl) ?_
                  refine g_getk (C := RX2) (T := TX2) (N := 16) hx hb hts (mc_ inX2) hown hK g rfl 0 (by decide) rfl (hts _ (List.mem_cons_of_mem _ t_416)) (fun _ h9 => h9) 6 rfl dX2_readArguments_225 ?_
                  refine lv_bipush (v := 59) hx hb dX2_readArguments_228 (by decide) ?_
                  have kb_1201 : bd 1201 1201 (1201 : Int32) := ⟨by decide, by decide⟩
                  have go_ := g
                  refine g_callv (va_runV (As := [.int 59]) (rest := []) ⟨hx, hb, hml, hown, hts⟩ (r_X8_take_2 l dC dI L kd tys fr_204 H.size g.2.2.2.1 q0_ mq0_ kq0_ 59 1201 kb_1201 x_123 h_124 (g.fcts [3, 4] rfl)) (cwV 1 hts (gV_ t_1098 t_1099 t_1100 t_184 t_1101) rfl rfl rfl (by decide +kernel) ⟨(Nat.le_of_ble_eq_true rfl), (Nat.le_of_ble_eq_true rfl)⟩) (pre3V g hK mq0_ kq0_ (by decide) (q := (RX8, TX8, 10)) rfl) rfl rfl hl.1 rfl (lv_room (Nat.le_of_ble_eq_true rfl)) dX2_readArguments_230 ⟨(Nat.le_of_ble_eq_true rfl), (Nat.le_of_ble_eq_true rfl)⟩) g hK (by decide) (by decide) (fx' := [(7, 6, q3_, .int x_205), (2, 13, a0_, .int x_198), (2, 12, a0_, .int x_197), (8, 8, q0_, .int x_123), (2, 14, a0_, .int x_11), (2, 0, a0_, .ref q0_), (2, 1, a0_, .ref q1_), (2, 2, a0_, .ref q2_), (2, 3, a0_, .ref q3_), (0, 0, q2_, .ref q0_), (0, 1, q2_, .ref q1_), (5, 0, q1_, .ref q6_), (5, 1, q1_, .ref q7_)]) rfl (fun fr_209 H locs hp hMr_209 g => ?_)
                  obtain ⟨x_210, h_211, hF_212⟩ := hp
                  have hG_213 := eOK.frame hMr_209 go_.2.2.2.1 mq2_ kq2_ (by decide) (by decide) hG_208
                  have g := g.more hF_212
                  subst hQ
                  exact W.vret hx hb hr (fun t ht hW => ⟨⟨_, rfl, Or.inr (⟨hG_213, x_210, h_211, x_123, h_124, x_205, h_206, (g.fcts [0, 4, 1] rfl)⟩), q3_of g hK ht hW⟩, g.2.2.1.F ht⟩) g.2.2.1.2.2 dX2_readArguments_233
            · have fc_115 := nlt_f c_115
              have b_214 : bd 0 3 v69_4 := leL fc_115 bv69_4 kb_3 (by decide)
              refine lv_iload_n hx hb dX2_readArguments_75 rfl (lv_at hl 1 rfl) ?_
              refine lv_if_eq (tgt := 162) hx hb dX2_readArguments_76 (by decide) (fun c_215 => ?_) (fun c_215 => ?_)
              · have fc_215 := eq_f c_215
                have b_216 : bd 0 0 v69_3 := eqX fc_215 bv69_3 kb_0 (by decide)
                refine lv_aload_n hx hb dX2_readArguments_162 rfl (lv_at hl 4 rfl) ?_
                refine g_getk (C := RX2) (T := TX2) (N := 16) hx hb hts (mc_ inX2) hown hK g rfl 0 (by decide) rfl (hts _ (List.mem_cons_of_mem _ t_416)) (fun _ h9 => h9) 2 rfl dX2_readArguments_163 ?_
                have go_ := g
                refine g_calli (va_runV (As := []) (rest := []) ⟨hx, hb, hml, hown, hts⟩ (r_X8_place l dC dI L kd tys f H.size g.2.2.2.1 q0_ mq0_ kq0_) (cwV 0 hts (gV_ t_1110 t_1111 t_1112 t_184 t_1113) rfl rfl rfl (by decide +kernel) ⟨(Nat.le_of_ble_eq_true rfl), (Nat.le_of_ble_eq_true rfl)⟩) (pre3V g hK mq0_ kq0_ (by decide) (q := (RX8, TX8, 10)) rfl) rfl rfl hl.1 rfl (lv_room (Nat.le_of_ble_eq_true rfl)) dX2_readArguments_166 ⟨(Nat.le_of_ble_eq_true rfl), (Nat.le_of_ble_eq_true rfl)⟩) g hK (by decide) (by decide) (fx' := [(2, 14, a0_, .int x_11), (8, 8, q0_, .int y0_), (2, 0, a0_, .ref q0_), (2, 1, a0_, .ref q1_), (2, 2, a0_, .ref q2_), (2, 3, a0_, .ref q3_), (0, 0, q2_, .ref q0_), (0, 1, q2_, .ref q1_), (5, 0, q1_, .ref q6_), (5, 1, q1_, .ref q7_)]) rfl (fun r_217 fr_217 H locs hp hMr_217 g => ?_)
                have hG_218 := eOK.frame hMr_217 go_.2.2.2.1 mq2_ kq2_ (by decide) (by decide) hG69_e_q2_
                refine lv_istore (lv' := [(4, .int r_217), (3, .int v69_3), (2, .int v69_2), (1, .int r_1), (0, .ref a0_)]) hx hb dX2_readArguments_169 hl (by decide) rfl (fun ls hl => ?_)
                refine lv_aload_n hx hb dX2_readArguments_171 rfl (lv_at hl 4 rfl) ?_
                refine g_getk (C := RX2) (T := TX2) (N := 16) hx hb hts (mc_ inX2) hown hK g rfl 0 (by decide) rfl (hts _ (List.mem_cons_of_mem _ t_416)) (fun _ h9 => h9) 2 rfl dX2_readArguments_172 ?_
                refine lv_bipush (v := 41) hx hb dX2_readArguments_175 (by decide) ?_
                have go_ := g
                refine g_callv (va_runV (As := [.int 41]) (rest := []) ⟨hx, hb, hml, hown, hts⟩ (r_X8_take l dC dI L kd tys fr_217 H.size g.2.2.2.1 q0_ mq0_ kq0_ 41 y0_ by0_ (g.fcts [1] rfl)) (cwV 1 hts (gV_ t_1098 t_1099 t_1100 t_184 t_1101) rfl rfl rfl (by decide +kernel) ⟨(Nat.le_of_ble_eq_true rfl), (Nat.le_of_ble_eq_true rfl)⟩) (pre3V g hK mq0_ kq0_ (by decide) (q := (RX8, TX8, 10)) rfl) rfl rfl hl.1 rfl (lv_room (Nat.le_of_ble_eq_true rfl)) dX2_readArguments_177 ⟨(Nat.le_of_ble_eq_true rfl), (Nat.le_of_ble_eq_true rfl)⟩) g hK (by decide) (by decide) (fx' := [(2, 14, a0_, .int x_11), (2, 0, a0_, .ref q0_), (2, 1, a0_, .ref q1_), (2, 2, a0_, .ref q2_), (2, 3, a0_, .ref q3_), (0, 0, q2_, .ref q0_), (0, 1, q2_, .ref q1_), (5, 0, q1_, .ref q6_), (5, 1, q1_, .ref q7_)]) rfl (fun fr_219 H locs hp hMr_219 g => ?_)
                rcases hp with ⟨x_220, h_221, hF_222⟩ | ⟨x_223, h_224, hF_225⟩
                · have hG_226 := eOK.frame hMr_219 go_.2.2.2.1 mq2_ kq2_ (by decide) (by decide) hG_218
                  have g := g.more hF_222
                  refine lv_iload_n hx hb dX2_readArguments_180 rfl (lv_at hl 2 rfl) ?_
                  refine lv_aload_n hx hb dX2_readArguments_181 rfl (lv_at hl 4 rfl) ?_
                  refine g_getk (C := RX2) (T := TX2) (N := 16) hx hb hts (mc_ inX2) hown hK g rfl 14 (by decide) rfl (hts _ (List.mem_cons_of_mem _ t_430)) (fun _ h9 => h9) 2 rfl dX2_readArguments_182 ?_
                  refine lv_icmp_ge (tgt := 199) hx hb dX2_readArguments_185 (by decide) (fun c_227 => ?_) (fun c_227 => ?_)
                  · have fc_227 := le_f c_227
                    refine lv_aload_n hx hb dX2_readArguments_199 rfl (lv_at hl 4 rfl) ?_
                    refine g_getk (C := RX2) (T := TX2) (N := 16) hx hb hts (mc_ inX2) hown hK g rfl 3 (by decide) rfl (hts _ (List.mem_cons_of_mem _ t_419)) (fun _ h9 => h9) 6 rfl dX2_readArguments_200 ?_
                    refine lv_aload_n hx hb dX2_readArguments_203 rfl (lv_at hl 4 rfl) ?_
                    refine g_geti (C := RX2) (T := TX2) (N := 16) hx hb hts (mc_ inX2) hown hK g ma0_ ka0_ (by decide) rfl 12 (by decide) rfl (hts _ (List.mem_cons_of_mem _ t_428)) (fun _ h9 => h9) rfl dX2_readArguments_204 (fun x_228 bx_228 g => ?_)
                    refine lv_aload_n hx hb dX2_readArguments_207 rfl (lv_at hl 4 rfl) ?_
                    refine g_geti (C := RX2) (T := TX2) (N := 16) hx hb hts (mc_ inX2) hown hK g ma0_ ka0_ (by decide) rfl 13 (by decide) rfl (hts _ (List.mem_cons_of_mem _ t_429)) (fun _ h9 => h9) rfl dX2_readArguments_208 (fun x_229 bx_229 g => ?_)
                    have go_ := g
                    refine g_callv (va_runV (As := [.int x_228, .int x_229]) (rest := []) ⟨hx, hb, hml, hown, hts⟩ (r_X7_emit l dC dI L kd tys fr_219 H.size g.2.2.2.1 q3_ mq3_ kq3_ x_228 x_229) (cwV 2 hts (gV_ t_1301 t_1204 t_1205 t_191 t_1206) rfl rfl rfl (by decide +kernel) ⟨(Nat.le_of_ble_eq_true rfl), (Nat.le_of_ble_eq_true rfl)⟩) (pre3V g hK mq3_ kq3_ (by decide) (q := (RX7, TX7, 19)) rfl) rfl rfl hl.1 rfl (lv_room (Nat.le_of_ble_eq_true rfl)) dX2_readArguments_211 ⟨(Nat.le_of_ble_eq_true rfl), (Nat.le_of_ble_eq_true rfl)⟩) g hK (by decide) (by decide) (fx' := [(2, 13, a0_, .int x_229), (2, 12, a0_, .int x_228), (8, 6, q0_, .int x_220), (8, 8, q0_, .int y0_), (2, 14, a0_, .int x_11), (2, 0, a0_, .ref q0_), (2, 1, a0_, .ref q1_), (2, 2, a0_, .ref q2_), (2, 3, a0_, .ref q3_), (0, 0, q2_, .ref q0_), (0, 1, q2_, .ref q1_), (5, 0, q1_, .ref q6_), (5, 1, q1_, .ref q7_)]) rfl (fun fr_230 H locs hp hMr_230 g => ?_)
                    obtain ⟨x_231, h_232, hF_233⟩ := hp
                    have hG_234 := eOK.frame hMr_230 go_.2.2.2.1 mq2_ kq2_ (by decide) (by decide) hG_226
                    have g := g.more hF_233
                    refine lv_aload_n hx hb dX2_readArguments_214 rfl (lv_at hl 4 rfl) ?_
                    refine g_getk (C := RX2) (T := TX2) (N := 16) hx hb hts (mc_ inX2) hown hK g rfl 3 (by decide) rfl (hts _ (List.mem_cons_of_mem _ t_419)) (fun _ h9 => h9) 9 rfl dX2_readArguments_215 ?_
                    refine lv_bipush (v := 22) hx hb dX2_readArguments_218 (by decide) ?_
                    refine lv_iconst (v := 0) hx hb dX2_readArguments_220 (by decide) ?_
                    have go_ := g
                    refine g_callv (va_runV (As := [.int 22, .int 0]) (rest := []) ⟨hx, hb, hml, hown, hts⟩ (r_X7_emit l dC dI L kd tys fr_230 H.size g.2.2.2.1 q3_ mq3_ kq3_ 22 0) (cwV 2 hts (gV_ t_1301 t_1204 t_1205 t_191 t_1206) rfl rfl rfl (by decide +kernel) ⟨(Nat.le_of_ble_eq_true rfl), (Nat.le_of_ble_eq_true rfl)⟩) (pre3V g hK mq3_ kq3_ (by decide) (q := (RX7, TX7, 19)) rfl) rfl rfl hl.1 rfl (lv_room (Nat.le_of_ble_eq_true rfl)) dX2_readArguments_221 ⟨(Nat.le_of_ble_eq_true rfl), (Nat.le_of_ble_eq_true rfl)⟩) g hK (by decide) (by decide) (fx' := [(2, 13, a0_, .int x_229), (2, 12, a0_, .int x_228), (8, 6, q0_, .int x_220), (8, 8, q0_, .int y0_), (2, 14, a0_, .int x_11), (2, 0, a0_, .ref q0_), (2, 1, a0_, .ref q1_), (2, 2, a0_, .ref q2_), (2, 3, a0_, .ref q3_), (0, 0, q2_, .ref q0_), (0, 1, q2_, .ref q1_), (5, 0, q1_, .ref q6_), (5, 1, q1_, .ref q7_)]) rfl (fun fr_235 H locs hp hMr_235 g => ?_)
                    obtain ⟨x_236, h_237, hF_238⟩ := hp
                    have hG_239 := eOK.frame hMr_235 go_.2.2.2.1 mq2_ kq2_ (by decide) (by decide) hG_234
                    have g := g.more hF_238
                    refine lv_aload_n hx hb dX2_readArguments_224 rfl (lv_at hl 4 rfl) ?_
                    refine g_getk (C := RX2) (T := TX2) (N := 16) hx hb hts (mc_ inX2) hown hK g rfl 0 (by decide) rfl (hts _ (List.mem_cons_of_mem _ t_416)) (fun _ h9 => h9) 6 rfl dX2_readArguments_225 ?_
                    refine lv_bipush (v := 59) hx hb dX2_readArguments_228 (by decide) ?_
                    have go_ := g
                    refine g_callv (va_runV (As := [.int 59]) (rest := []) ⟨hx, hb, hml, hown, hts⟩ (r_X8_take l dC dI L kd tys fr_235 H.size g.2.2.2.1 q0_ mq0_ kq0_ 59 y0_ by0_ (g.fcts [4] rfl)) (cwV 1 hts (gV_ t_1098 t_1099 t_1100 t_184 t_1101) rfl rfl rfl (by decide +kernel) ⟨(Nat.le_of_ble_eq_true rfl), (Nat.le_of_ble_eq_true rfl)⟩) (pre3V g hK mq0_ kq0_ (by decide) (q := (RX8, TX8, 10)) rfl) rfl rfl hl.1 rfl (lv_room (Nat.le_of_ble_eq_true rfl)) dX2_readArguments_230 ⟨(Nat.le_of_ble_eq_true rfl), (Nat.le_of_ble_eq_true rfl)⟩) g hK (by decide) (by decide) (fx' := [(7, 6, q3_, .int x_236), (2, 13, a0_, .int x_229), (2, 12, a0_, .int x_228), (2, 14, a0_, .int x_11), (2, 0, a0_, .ref q0_), (2, 1, a0_, .ref q1_), (2, 2, a0_, .ref q2_), (2, 3, a0_, .ref q3_), (0, 0, q2_, .ref q0_), (0, 1, q2_, .ref q1_), (5, 0, q1_, .ref q6_), (5, 1, q1_, .ref q7_)]) rfl (fun fr_240 H locs hp hMr_240 g => ?_)
                    rcases hp with ⟨x_241, h_242, hF_243⟩ | ⟨x_244, h_245, hF_246⟩
                    · have hG_247 := eOK.frame hMr_240 go_.2.2.2.1 mq2_ kq2_ (by decide) (by decide) hG_239
                      have g := g.more hF_243
                      subst hQ
                      exact W.vret hx hb hr (fun t ht hW => ⟨⟨_, rfl, Or.inl ⟨hG_247, x_241, h_242, x_236, h_237, (g.fcts [0, 1, 2] rfl)⟩, q3_of g hK ht hW⟩, g.2.2.1.F ht⟩) g.2.2.1.2.2 dX2_readArguments_233
                    · have hG_248 := eOK.frame hMr_240 go_.2.2.2.1 mq2_ kq2_ (by decide) (by decide) hG_239
                      have g := g.more hF_246
                      have kb_1201 : bd 1201 1201 (1201 : Int32) := ⟨by decide, by decide⟩
                      subst hQ
                      exact W.vret hx hb hr (fun t ht hW => ⟨⟨_, rfl, Or.inr (⟨hG_248, 1201, kb_1201, x_244, h_245, x_236, h_237, (g.fcts [0, 1, 2] rfl)⟩), q3_of g hK ht hW⟩, g.2.2.1.F ht⟩) g.2.2.1.2.2 dX2_readArguments_233
                  · have fc_227 := nle_f c_227
                    have b_249 : bd (-2147483648) 2147483646 v69_2 := ltL fc_227 (bdT v69_2) (bdT x_11) (by decide)
                    have b_250 : bd (-2147483647) 2147483647 x_11 := ltR fc_227 (bdT v69_2) (bdT x_11) (by decide)
                    refine lv_aload_n hx hb dX2_readArguments_188 rfl (lv_at hl 4 rfl) ?_
                    refine g_getk (C := RX2) (T := TX2) (N := 16) hx hb hts (mc_ inX2) hown hK g rfl 0 (by decide) rfl (hts _ (List.mem_cons_of_mem _ t_416)) (fun _ h9 => h9) 3 rfl dX2_readArguments_189 ?_
                    refine lv_bipush (v := 6) hx hb dX2_readArguments_192 (by decide) ?_
                    refine lv_iload hx hb dX2_readArguments_194 (lv_at hl 0 rfl) ?_
                    have kb_6 : bd 6 6 (6 : Int32) := ⟨by decide, by decide⟩
                    have go_ := g
                    refine g_callv (va_runV (As := [.int 6, .int r_217]) (rest := []) ⟨hx, hb, hml, hown, hts⟩ (r_X8_fail l dC dI L kd tys fr_219 H.size g.2.2.2.1 q0_ mq0_ kq0_ 6 (bd_sub kb_6 (by decide)) r_217 y0_ by0_ (g.fcts [1] rfl)) (cwV 2 hts (gV_ t_1122 t_1107 t_1108 t_184 t_1109) rfl rfl rfl (by decide +kernel) ⟨(Nat.le_of_ble_eq_true rfl), (Nat.le_of_ble_eq_true rfl)⟩) (pre3V g hK mq0_ kq0_ (by decide) (q := (RX8, TX8, 10)) rfl) rfl rfl hl.1 rfl (lv_room (Nat.le_of_ble_eq_true rfl)) dX2_readArguments_196 ⟨(Nat.le_of_ble_eq_true rfl), (Nat.le_of_ble_eq_true rfl)⟩) g hK (by decide) (by decide) (fx' := [(2, 14, a0_, .int x_11), (2, 0, a0_, .ref q0_), (2, 1, a0_, .ref q1_), (2, 2, a0_, .ref q2_), (2, 3, a0_, .ref q3_), (0, 0, q2_, .ref q0_), (0, 1, q2_, .ref q1_), (5, 0, q1_, .ref q6_), (5, 1, q1_, .ref q7_)]) rfl (fun fr_251 H locs hp hMr_251 g => ?_)
                    obtain ⟨x_252, h_253, hF_254⟩ := hp
                    have hG_255 := eOK.frame hMr_251 go_.2.2.2.1 mq2_ kq2_ (by decide) (by decide) hG_226
                    have g := g.more hF_254
                    refine lv_aload_n hx hb dX2_readArguments_199 rfl (lv_at hl 4 rfl) ?_
                    refine g_getk (C := RX2) (T := TX2) (N := 16) hx hb hts (mc_ inX2) hown hK g rfl 3 (by decide) rfl (hts _ (List.mem_cons_of_mem _ t_419)) (fun _ h9 => h9) 6 rfl dX2_readArguments_200 ?_
                    refine lv_aload_n hx hb dX2_readArguments_203 rfl (lv_at hl 4 rfl) ?_
                    refine g_geti (C := RX2) (T := TX2) (N := 16) hx hb hts (mc_ inX2) hown hK g ma0_ ka0_ (by decide) rfl 12 (by decide) rfl (hts _ (List.mem_cons_of_mem _ t_428)) (fun _ h9 => h9) rfl dX2_readArguments_204 (fun x_256 bx_256 g => ?_)
                    refine lv_aload_n hx hb dX2_readArguments_207 rfl (lv_at hl 4 rfl) ?_
                    refine g_geti (C := RX2) (T := TX2) (N := 16) hx hb hts (mc_ inX2) hown hK g ma0_ ka0_ (by decide) rfl 13 (by decide) rfl (hts _ (List.mem_cons_of_mem _ t_429)) (fun _ h9 => h9) rfl dX2_readArguments_208 (fun x_257 bx_257 g => ?_)
                    have go_ := g
                    refine g_callv (va_runV (As := [.int x_256, .int x_257]) (rest := []) ⟨hx, hb, hml, hown, hts⟩ (r_X7_emit l dC dI L kd tys fr_251 H.size g.2.2.2.1 q3_ mq3_ kq3_ x_256 x_257) (cwV 2 hts (gV_ t_1301 t_1204 t_1205 t_191 t_1206) rfl rfl rfl (by decide +kernel) ⟨(Nat.le_of_ble_eq_true rfl), (Nat.le_of_ble_eq_true rfl)⟩) (pre3V g hK mq3_ kq3_ (by decide) (q := (RX7, TX7, 19)) rfl) rfl rfl hl.1 rfl (lv_room (Nat.le_of_ble_eq_true rfl)) dX2_readArguments_211 ⟨(Nat.le_of_ble_eq_true rfl), (Nat.le_of_ble_eq_true rfl)⟩) g hK (by decide) (by decide) (fx' := [(2, 13, a0_, .int x_257), (2, 12, a0_, .int x_256), (8, 6, q0_, .int 1201), (8, 8, q0_, .int x_252), (2, 14, a0_, .int x_11), (2, 0, a0_, .ref q0_), (2, 1, a0_, .ref q1_), (2, 2, a0_, .ref q2_), (2, 3, a0_, .ref q3_), (0, 0, q2_, .ref q0_), (0, 1, q2_, .ref q1_), (5, 0, q1_, .ref q6_), (5, 1, q1_, .ref q7_)]) rfl (fun fr_258 H locs hp hMr_258 g => ?_)
                    obtain ⟨x_259, h_260, hF_261⟩ := hp
                    have hG_262 := eOK.frame hMr_258 go_.2.2.2.1 mq2_ kq2_ (by decide) (by decide) hG_255
                    have g := g.more hF_261
                    refine lv_aload_n hx hb dX2_readArguments_214 rfl (lv_at hl 4 rfl) ?_
                    refine g_getk (C := RX2) (T := TX2) (N := 16) hx hb hts (mc_ inX2) hown hK g rfl 3 (by decide) rfl (hts _ (List.mem_cons_of_mem _ t_419)) (fun _ h9 => h9) 9 rfl dX2_readArguments_215 ?_
                    refine lv_bipush (v := 22) hx hb dX2_readArguments_218 (by decide) ?_
                    refine lv_iconst (v := 0) hx hb dX2_readArguments_220 (by decide) ?_
                    have go_ := g
                    refine g_callv (va_runV (As := [.int 22, .int 0]) (rest := []) ⟨hx, hb, hml, hown, hts⟩ (r_X7_emit l dC dI L kd tys fr_258 H.size g.2.2.2.1 q3_ mq3_ kq3_ 22 0) (cwV 2 hts (gV_ t_1301 t_1204 t_1205 t_191 t_1206) rfl rfl rfl (by decide +kernel) ⟨(Nat.le_of_ble_eq_true rfl), (Nat.le_of_ble_eq_true rfl)⟩) (pre3V g hK mq3_ kq3_ (by decide) (q := (RX7, TX7, 19)) rfl) rfl rfl hl.1 rfl (lv_room (Nat.le_of_ble_eq_true rfl)) dX2_readArguments_221 ⟨(Nat.le_of_ble_eq_true rfl), (Nat.le_of_ble_eq_true rfl)⟩) g hK (by decide) (by decide) (fx' := [(2, 13, a0_, .int x_257), (2, 12, a0_, .int x_256), (8, 6, q0_, .int 1201), (8, 8, q0_, .int x_252), (2, 14, a0_, .int x_11), (2, 0, a0_, .ref q0_), (2, 1, a0_, .ref q1_), (2, 2, a0_, .ref q2_), (2, 3, a0_, .ref q3_), (0, 0, q2_, .ref q0_), (0, 1, q2_, .ref q1_), (5, 0, q1_, .ref q6_), (5, 1, q1_, .ref q7_)]) rfl (fun fr_263 H locs hp hMr_263 g => ?_)
                    obtain ⟨x_264, h_265, hF_266⟩ := hp
                    have hG_267 := eOK.frame hMr_263 go_.2.2.2.1 mq2_ kq2_ (by decide) (by decide) hG_262
                    have g := g.more hF_266
                    refine lv_aload_n hx hb dX2_readArguments_224 rfl (lv_at hl 4 rfl) ?_
                    refine g_getk (C := RX2) (T := TX2) (N := 16) hx hb hts (mc_ inX2) hown hK g rfl 0 (by decide) rfl (hts _ (List.mem_cons_of_mem _ t_416)) (fun _ h9 => h9) 6 rfl dX2_readArguments_225 ?_
                    refine lv_bipush (v := 59) hx hb dX2_readArguments_228 (by decide) ?_
                    have kb_1201 : bd 1201 1201 (1201 : Int32) := ⟨by decide, by decide⟩
                    have go_ := g
                    refine g_callv (va_runV (As := [.int 59]) (rest := []) ⟨hx, hb, hml, hown, hts⟩ (r_X8_take_2 l dC dI L kd tys fr_263 H.size g.2.2.2.1 q0_ mq0_ kq0_ 59 1201 kb_1201 x_252 h_253 (g.fcts [3, 4] rfl)) (cwV 1 hts (gV_ t_1098 t_1099 t_1100 t_184 t_1101) rfl rfl rfl (by decide +kernel) ⟨(Nat.le_of_ble_eq_true rfl), (Nat.le_of_ble_eq_true rfl)⟩) (pre3V g hK mq0_ kq0_ (by decide) (q := (RX8, TX8, 10)) rfl) rfl rfl hl.1 rfl (lv_room (Nat.le_of_ble_eq_true rfl)) dX2_readArguments_230 ⟨(Nat.le_of_ble_eq_true rfl), (Nat.le_of_ble_eq_true rfl)⟩) g hK (by decide) (by decide) (fx' := [(7, 6, q3_, .int x_264), (2, 13, a0_, .int x_257), (2, 12, a0_, .int x_256), (8, 8, q0_, .int x_252), (2, 14, a0_, .int x_11), (2, 0, a0_, .ref q0_), (2, 1, a0_, .ref q1_), (2, 2, a0_, .ref q2_), (2, 3, a0_, .ref q3_), (0, 0, q2_, .ref q0_), (0, 1, q2_, .ref q1_), (5, 0, q1_, .ref q6_), (5, 1, q1_, .ref q7_)]) rfl (fun fr_268 H locs hp hMr_268 g => ?_)
                    obtain ⟨x_269, h_270, hF_271⟩ := hp
                    have hG_272 := eOK.frame hMr_268 go_.2.2.2.1 mq2_ kq2_ (by decide) (by decide) hG_267
                    have g := g.more hF_271
                    subst hQ
                    exact W.vret hx hb hr (fun t ht hW => ⟨⟨_, rfl, Or.inr (⟨hG_272, x_269, h_270, x_252, h_253, x_264, h_265, (g.fcts [0, 4, 1] rfl)⟩), q3_of g hK ht hW⟩, g.2.2.1.F ht⟩) g.2.2.1.2.2 dX2_readArguments_233
                · have hG_273 := eOK.frame hMr_219 go_.2.2.2.1 mq2_ kq2_ (by decide) (by decide) hG_218
                  have g := g.more hF_225
                  refine lv_iload_n hx hb dX2_readArguments_180 rfl (lv_at hl 2 rfl) ?_
                  refine lv_aload_n hx hb dX2_readArguments_181 rfl (lv_at hl 4 rfl) ?_
                  refine g_getk (C := RX2) (T := TX2) (N := 16) hx hb hts (mc_ inX2) hown hK g rfl 14 (by decide) rfl (hts _ (List.mem_cons_of_mem _ t_430)) (fun _ h9 => h9) 2 rfl dX2_readArguments_182 ?_
                  refine lv_icmp_ge (tgt := 199) hx hb dX2_readArguments_185 (by decide) (fun c_274 => ?_) (fun c_274 => ?_)
                  · have fc_274 := le_f c_274
                    refine lv_aload_n hx hb dX2_readArguments_199 rfl (lv_at hl 4 rfl) ?_
                    refine g_getk (C := RX2) (T := TX2) (N := 16) hx hb hts (mc_ inX2) hown hK g rfl 3 (by decide) rfl (hts _ (List.mem_cons_of_mem _ t_419)) (fun _ h9 => h9) 6 rfl dX2_readArguments_200 ?_
                    refine lv_aload_n hx hb dX2_readArguments_203 rfl (lv_at hl 4 rfl) ?_
                    refine g_geti (C := RX2) (T := TX2) (N := 16) hx hb hts (mc_ inX2) hown hK g ma0_ ka0_ (by decide) rfl 12 (by decide) rfl (hts _ (List.mem_cons_of_mem _ t_428)) (fun _ h9 => h9) rfl dX2_readArguments_204 (fun x_275 bx_275 g => ?_)
                    refine lv_aload_n hx hb dX2_readArguments_207 rfl (lv_at hl 4 rfl) ?_
                    refine g_geti (C := RX2) (T := TX2) (N := 16) hx hb hts (mc_ inX2) hown hK g ma0_ ka0_ (by decide) rfl 13 (by decide) rfl (hts _ (List.mem_cons_of_mem _ t_429)) (fun _ h9 => h9) rfl dX2_readArguments_208 (fun x_276 bx_276 g => ?_)
                    have go_ := g
                    refine g_callv (va_runV (As := [.int x_275, .int x_276]) (rest := []) ⟨hx, hb, hml, hown, hts⟩ (r_X7_emit l dC dI L kd tys fr_219 H.size g.2.2.2.1 q3_ mq3_ kq3_ x_275 x_276) (cwV 2 hts (gV_ t_1301 t_1204 t_1205 t_191 t_1206) rfl rfl rfl (by decide +kernel) ⟨(Nat.le_of_ble_eq_true rfl), (Nat.le_of_ble_eq_true rfl)⟩) (pre3V g hK mq3_ kq3_ (by decide) (q := (RX7, TX7, 19)) rfl) rfl rfl hl.1 rfl (lv_room (Nat.le_of_ble_eq_true rfl)) dX2_readArguments_211 ⟨(Nat.le_of_ble_eq_true rfl), (Nat.le_of_ble_eq_true rfl)⟩) g hK (by decide) (by decide) (fx' := [(2, 13, a0_, .int x_276), (2, 12, a0_, .int x_275), (8, 6, q0_, .int 1201), (8, 8, q0_, .int x_223), (2, 14, a0_, .int x_11), (2, 0, a0_, .ref q0_), (2, 1, a0_, .ref q1_), (2, 2, a0_, .ref q2_), (2, 3, a0_, .ref q3_), (0, 0, q2_, .ref q0_), (0, 1, q2_, .ref q1_), (5, 0, q1_, .ref q6_), (5, 1, q1_, .ref q7_)]) rfl (fun fr_277 H locs hp hMr_277 g => ?_)
                    obtain ⟨x_278, h_279, hF_280⟩ := hp
                    have hG_281 := eOK.frame hMr_277 go_.2.2.2.1 mq2_ kq2_ (by decide) (by decide) hG_273
                    have g := g.more hF_280
                    refine lv_aload_n hx hb dX2_readArguments_214 rfl (lv_at hl 4 rfl) ?_
                    refine g_getk (C := RX2) (T := TX2) (N := 16) hx hb hts (mc_ inX2) hown hK g rfl 3 (by decide) rfl (hts _ (List.mem_cons_of_mem _ t_419)) (fun _ h9 => h9) 9 rfl dX2_readArguments_215 ?_
                    refine lv_bipush (v := 22) hx hb dX2_readArguments_218 (by decide) ?_
                    refine lv_iconst (v := 0) hx hb dX2_readArguments_220 (by decide) ?_
                    have go_ := g
                    refine g_callv (va_runV (As := [.int 22, .int 0]) (rest := []) ⟨hx, hb, hml, hown, hts⟩ (r_X7_emit l dC dI L kd tys fr_277 H.size g.2.2.2.1 q3_ mq3_ kq3_ 22 0) (cwV 2 hts (gV_ t_1301 t_1204 t_1205 t_191 t_1206) rfl rfl rfl (by decide +kernel) ⟨(Nat.le_of_ble_eq_true rfl), (Nat.le_of_ble_eq_true rfl)⟩) (pre3V g hK mq3_ kq3_ (by decide) (q := (RX7, TX7, 19)) rfl) rfl rfl hl.1 rfl (lv_room (Nat.le_of_ble_eq_true rfl)) dX2_readArguments_221 ⟨(Nat.le_of_ble_eq_true rfl), (Nat.le_of_ble_eq_true rfl)⟩) g hK (by decide) (by decide) (fx' := [(2, 13, a0_, .int x_276), (2, 12, a0_, .int x_275), (8, 6, q0_, .int 1201), (8, 8, q0_, .int x_223), (2, 14, a0_, .int x_11), (2, 0, a0_, .ref q0_), (2, 1, a0_, .ref q1_), (2, 2, a0_, .ref q2_), (2, 3, a0_, .ref q3_), (0, 0, q2_, .ref q0_), (0, 1, q2_, .ref q1_), (5, 0, q1_, .ref q6_), (5, 1, q1_, .ref q7_)]) rfl (fun fr_282 H locs hp hMr_282 g => ?_)
                    obtain ⟨x_283, h_284, hF_285⟩ := hp
                    have hG_286 := eOK.frame hMr_282 go_.2.2.2.1 mq2_ kq2_ (by decide) (by decide) hG_281
                    have g := g.more hF_285
                    refine lv_aload_n hx hb dX2_readArguments_224 rfl (lv_at hl 4 rfl) ?_
                    refine g_getk (C := RX2) (T := TX2) (N := 16) hx hb hts (mc_ inX2) hown hK g rfl 0 (by decide) rfl (hts _ (List.mem_cons_of_mem _ t_416)) (fun _ h9 => h9) 6 rfl dX2_readArguments_225 ?_
                    refine lv_bipush (v := 59) hx hb dX2_readArguments_228 (by decide) ?_
                    have kb_1201 : bd 1201 1201 (1201 : Int32) := ⟨by decide, by decide⟩
                    have go_ := g
                    refine g_callv (va_runV (As := [.int 59]) (rest := []) ⟨hx, hb, hml, hown, hts⟩ (r_X8_take_2 l dC dI L kd tys fr_282 H.size g.2.2.2.1 q0_ mq0_ kq0_ 59 1201 kb_1201 x_223 h_224 (g.fcts [3, 4] rfl)) (cwV 1 hts (gV_ t_1098 t_1099 t_1100 t_184 t_1101) rfl rfl rfl (by decide +kernel) ⟨(Nat.le_of_ble_eq_true rfl), (Nat.le_of_ble_eq_true rfl)⟩) (pre3V g hK mq0_ kq0_ (by decide) (q := (RX8, TX8, 10)) rfl) rfl rfl hl.1 rfl (lv_room (Nat.le_of_ble_eq_true rfl)) dX2_readArguments_230 ⟨(Nat.le_of_ble_eq_true rfl), (Nat.le_of_ble_eq_true rfl)⟩) g hK (by decide) (by decide) (fx' := [(7, 6, q3_, .int x_283), (2, 13, a0_, .int x_276), (2, 12, a0_, .int x_275), (8, 8, q0_, .int x_223), (2, 14, a0_, .int x_11), (2, 0, a0_, .ref q0_), (2, 1, a0_, .ref q1_), (2, 2, a0_, .ref q2_), (2, 3, a0_, .ref q3_), (0, 0, q2_, .ref q0_), (0, 1, q2_, .ref q1_), (5, 0, q1_, .ref q6_), (5, 1, q1_, .ref q7_)]) rfl (fun fr_287 H locs hp hMr_287 g => ?_)
                    obtain ⟨x_288, h_289, hF_290⟩ := hp
                    have hG_291 := eOK.frame hMr_287 go_.2.2.2.1 mq2_ kq2_ (by decide) (by decide) hG_286
                    have g := g.more hF_290
                    subst hQ
                    exact W.vret hx hb hr (fun t ht hW => ⟨⟨_, rfl, Or.inr (⟨hG_291, x_288, h_289, x_223, h_224, x_283, h_284, (g.fcts [0, 4, 1] rfl)⟩), q3_of g hK ht hW⟩, g.2.2.1.F ht⟩) g.2.2.1.2.2 dX2_readArguments_233
                  · have fc_274 := nle_f c_274
                    have b_292 : bd (-2147483648) 2147483646 v69_2 := ltL fc_274 (bdT v69_2) (bdT x_11) (by decide)
                    have b_293 : bd (-2147483647) 2147483647 x_11 := ltR fc_274 (bdT v69_2) (bdT x_11) (by decide)
                    refine lv_aload_n hx hb dX2_readArguments_188 rfl (lv_at hl 4 rfl) ?_
                    refine g_getk (C := RX2) (T := TX2) (N := 16) hx hb hts (mc_ inX2) hown hK g rfl 0 (by decide) rfl (hts _ (List.mem_cons_of_mem _ t_416)) (fun _ h9 => h9) 3 rfl dX2_readArguments_189 ?_
                    refine lv_bipush (v := 6) hx hb dX2_readArguments_192 (by decide) ?_
                    refine lv_iload hx hb dX2_readArguments_194 (lv_at hl 0 rfl) ?_
                    have kb_6 : bd 6 6 (6 : Int32) := ⟨by decide, by decide⟩
                    have go_ := g
                    refine g_callv (va_runV (As := [.int 6, .int r_217]) (rest := []) ⟨hx, hb, hml, hown, hts⟩ (r_X8_fail_2 l dC dI L kd tys fr_219 H.size g.2.2.2.1 q0_ mq0_ kq0_ 6 (bd_sub kb_6 (by decide)) r_217 x_223 h_224 (g.fcts [1] rfl)) (cwV 2 hts (gV_ t_1122 t_1107 t_1108 t_184 t_1109) rfl rfl rfl (by decide +kernel) ⟨(Nat.le_of_ble_eq_true rfl), (Nat.le_of_ble_eq_true rfl)⟩) (pre3V g hK mq0_ kq0_ (by decide) (q := (RX8, TX8, 10)) rfl) rfl rfl hl.1 rfl (lv_room (Nat.le_of_ble_eq_true rfl)) dX2_readArguments_196 ⟨(Nat.le_of_ble_eq_true rfl), (Nat.le_of_ble_eq_true rfl)⟩) g hK (by decide) (by decide) (fx' := [(8, 8, q0_, .int x_223), (2, 14, a0_, .int x_11), (2, 0, a0_, .ref q0_), (2, 1, a0_, .ref q1_), (2, 2, a0_, .ref q2_), (2, 3, a0_, .ref q3_), (0, 0, q2_, .ref q0_), (0, 1, q2_, .ref q1_), (5, 0, q1_, .ref q6_), (5, 1, q1_, .ref q7_)]) rfl (fun fr_294 H locs hp hMr_294 g => ?_)
                    have hF_295 := hp
                    have hG_296 := eOK.frame hMr_294 go_.2.2.2.1 mq2_ kq2_ (by decide) (by decide) hG_273
                    have g := g.more hF_295
                    refine lv_aload_n hx hb dX2_readArguments_199 rfl (lv_at hl 4 rfl) ?_
                    refine g_getk (C := RX2) (T := TX2) (N := 16) hx hb hts (mc_ inX2) hown hK g rfl 3 (by decide) rfl (hts _ (List.mem_cons_of_mem _ t_419)) (fun _ h9 => h9) 6 rfl dX2_readArguments_200 ?_
                    refine lv_aload_n hx hb dX2_readArguments_203 rfl (lv_at hl 4 rfl) ?_
                    refine g_geti (C := RX2) (T := TX2) (N := 16) hx hb hts (mc_ inX2) hown hK g ma0_ ka0_ (by decide) rfl 12 (by decide) rfl (hts _ (List.mem_cons_of_mem _ t_428)) (fun _ h9 => h9) rfl dX2_readArguments_204 (fun x_297 bx_297 g => ?_)
                    refine lv_aload_n hx hb dX2_readArguments_207 rfl (lv_at hl 4 rfl) ?_
                    refine g_geti (C := RX2) (T := TX2) (N := 16) hx hb hts (mc_ inX2) hown hK g ma0_ ka0_ (by decide) rfl 13 (by decide) rfl (hts _ (List.mem_cons_of_mem _ t_429)) (fun _ h9 => h9) rfl dX2_readArguments_208 (fun x_298 bx_298 g => ?_)
                    have go_ := g
                    refine g_callv (va_runV (As := [.int x_297, .int x_298]) (rest := []) ⟨hx, hb, hml, hown, hts⟩ (r_X7_emit l dC dI L kd tys fr_294 H.size g.2.2.2.1 q3_ mq3_ kq3_ x_297 x_298) (cwV 2 hts (gV_ t_1301 t_1204 t_1205 t_191 t_1206) rfl rfl rfl (by decide +kernel) ⟨(Nat.le_of_ble_eq_true rfl), (Nat.le_of_ble_eq_true rfl)⟩) (pre3V g hK mq3_ kq3_ (by decide) (q := (RX7, TX7, 19)) rfl) rfl rfl hl.1 rfl (lv_room (Nat.le_of_ble_eq_true rfl)) dX2_readArguments_211 ⟨(Nat.le_of_ble_eq_true rfl), (Nat.le_of_ble_eq_true rfl)⟩) g hK (by decide) (by decide) (fx' := [(2, 13, a0_, .int x_298), (2, 12, a0_, .int x_297), (8, 6, q0_, .int 1201), (8, 8, q0_, .int x_223), (2, 14, a0_, .int x_11), (2, 0, a0_, .ref q0_), (2, 1, a0_, .ref q1_), (2, 2, a0_, .ref q2_), (2, 3, a0_, .ref q3_), (0, 0, q2_, .ref q0_), (0, 1, q2_, .ref q1_), (5, 0, q1_, .ref q6_), (5, 1, q1_, .ref q7_)]) rfl (fun fr_299 H locs hp hMr_299 g => ?_)
                    obtain ⟨x_300, h_301, hF_302⟩ := hp
                    have hG_303 := eOK.frame hMr_299 go_.2.2.2.1 mq2_ kq2_ (by decide) (by decide) hG_296
                    have g := g.more hF_302
                    refine lv_aload_n hx hb dX2_readArguments_214 rfl (lv_at hl 4 rfl) ?_
                    refine g_getk (C := RX2) (T := TX2) (N := 16) hx hb hts (mc_ inX2) hown hK g rfl 3 (by decide) rfl (hts _ (List.mem_cons_of_mem _ t_419)) (fun _ h9 => h9) 9 rfl dX2_readArguments_215 ?_
                    refine lv_bipush (v := 22) hx hb dX2_readArguments_218 (by decide) ?_
                    refine lv_iconst (v := 0) hx hb dX2_readArguments_220 (by decide) ?_
                    have go_ := g
                    refine g_callv (va_runV (As := [.int 22, .int 0]) (rest := []) ⟨hx, hb, hml, hown, hts⟩ (r_X7_emit l dC dI L kd tys fr_299 H.size g.2.2.2.1 q3_ mq3_ kq3_ 22 0) (cwV 2 hts (gV_ t_1301 t_1204 t_1205 t_191 t_1206) rfl rfl rfl (by decide +kernel) ⟨(Nat.le_of_ble_eq_true rfl), (Nat.le_of_ble_eq_true rfl)⟩) (pre3V g hK mq3_ kq3_ (by decide) (q := (RX7, TX7, 19)) rfl) rfl rfl hl.1 rfl (lv_room (Nat.le_of_ble_eq_true rfl)) dX2_readArguments_221 ⟨(Nat.le_of_ble_eq_true rfl), (Nat.le_of_ble_eq_true rfl)⟩) g hK (by decide) (by decide) (fx' := [(2, 13, a0_, .int x_298), (2, 12, a0_, .int x_297), (8, 6, q0_, .int 1201), (8, 8, q0_, .int x_223), (2, 14, a0_, .int x_11), (2, 0, a0_, .ref q0_), (2, 1, a0_, .ref q1_), (2, 2, a0_, .ref q2_), (2, 3, a0_, .ref q3_), (0, 0, q2_, .ref q0_), (0, 1, q2_, .ref q1_), (5, 0, q1_, .ref q6_), (5, 1, q1_, .ref q7_)]) rfl (fun fr_304 H locs hp hMr_304 g => ?_)
                    obtain ⟨x_305, h_306, hF_307⟩ := hp
                    have hG_308 := eOK.frame hMr_304 go_.2.2.2.1 mq2_ kq2_ (by decide) (by decide) hG_303
                    have g := g.more hF_307
                    refine lv_aload_n hx hb dX2_readArguments_224 rfl (lv_at hl 4 rfl) ?_
                    refine g_getk (C := RX2) (T := TX2) (N := 16) hx hb hts (mc_ inX2) hown hK g rfl 0 (by decide) rfl (hts _ (List.mem_cons_of_mem _ t_416)) (fun _ h9 => h9) 6 rfl dX2_readArguments_225 ?_
                    refine lv_bipush (v := 59) hx hb dX2_readArguments_228 (by decide) ?_
                    have kb_1201 : bd 1201 1201 (1201 : Int32) := ⟨by decide, by decide⟩
                    have go_ := g
                    refine g_callv (va_runV (As := [.int 59]) (rest := []) ⟨hx, hb, hml, hown, hts⟩ (r_X8_take_2 l dC dI L kd tys fr_304 H.size g.2.2.2.1 q0_ mq0_ kq0_ 59 1201 kb_1201 x_223 h_224 (g.fcts [3, 4] rfl)) (cwV 1 hts (gV_ t_1098 t_1099 t_1100 t_184 t_1101) rfl rfl rfl (by decide +kernel) ⟨(Nat.le_of_ble_eq_true rfl), (Nat.le_of_ble_eq_true rfl)⟩) (pre3V g hK mq0_ kq0_ (by decide) (q := (RX8, TX8, 10)) rfl) rfl rfl hl.1 rfl (lv_room (Nat.le_of_ble_eq_true rfl)) dX2_readArguments_230 ⟨(Nat.le_of_ble_eq_true rfl), (Nat.le_of_ble_eq_true rfl)⟩) g hK (by decide) (by decide) (fx' := [(7, 6, q3_, .int x_305), (2, 13, a0_, .int x_298), (2, 12, a0_, .int x_297), (8, 8, q0_, .int x_223), (2, 14, a0_, .int x_11), (2, 0, a0_, .ref q0_), (2, 1, a0_, .ref q1_), (2, 2, a0_, .ref q2_), (2, 3, a0_, .ref q3_), (0, 0, q2_, .ref q0_), (0, 1, q2_, .ref q1_), (5, 0, q1_, .ref q6_), (5, 1, q1_, .ref q7_)]) rfl (fun fr_309 H locs hp hMr_309 g => ?_)
                    obtain ⟨x_310, h_311, hF_312⟩ := hp
                    have hG_313 := eOK.frame hMr_309 go_.2.2.2.1 mq2_ kq2_ (by decide) (by decide) hG_308
                    have g := g.more hF_312
                    subst hQ
                    exact W.vret hx hb hr (fun t ht hW => ⟨⟨_, rfl, Or.inr (⟨hG_313, x_310, h_311, x_223, h_224, x_305, h_306, (g.fcts [0, 4, 1] rfl)⟩), q3_of g hK ht hW⟩, g.2.2.1.F ht⟩) g.2.2.1.2.2 dX2_readArguments_233
              · have fc_215 := neq_f c_215
                have b_314 : bd 1 1 v69_3 := neX fc_215 bv69_3 kb_0 (by decide)
                refine lv_aload_n hx hb dX2_readArguments_79 rfl (lv_at hl 4 rfl) ?_
                refine g_getk (C := RX2) (T := TX2) (N := 16) hx hb hts (mc_ inX2) hown hK g rfl 0 (by decide) rfl (hts _ (List.mem_cons_of_mem _ t_416)) (fun _ h9 => h9) 2 rfl dX2_readArguments_80 ?_
                refine g_getk (C := RX8) (T := TX8) (N := 10) hx hb hts (mc_ inX8) hown hK g rfl 8 (by decide) rfl (hts _ (List.mem_cons_of_mem _ t_294)) (fun _ h9 => h9) 1 rfl dX2_readArguments_83 ?_
                refine lv_if_ne (tgt := 162) hx hb dX2_readArguments_86 (by decide) (fun c_315 => ?_) (fun c_315 => ?_)
                · have fc_315 := neq_f c_315
                  have b_316 : bd 1 (-1) y0_ := neX fc_315 by0_ kb_0 (by decide)
                  exact bd_no b_316 (by decide)
                · have fc_315 := eq_f c_315
                  refine lv_aload_n hx hb dX2_readArguments_89 rfl (lv_at hl 4 rfl) ?_
                  refine g_getk (C := RX2) (T := TX2) (N := 16) hx hb hts (mc_ inX2) hown hK g rfl 2 (by decide) rfl (hts _ (List.mem_cons_of_mem _ t_418)) (fun _ h9 => h9) 4 rfl dX2_readArguments_90 ?_
                  have go_ := g
                  refine g_callv (va_runV (As := []) (rest := []) ⟨hx, hb, hml, hown, hts⟩ (r_X0_read l dC dI L kd tys f H.size g.2.2.2.1 q2_ mq2_ kq2_ q0_ mq0_ kq0_ q1_ mq1_ kq1_ q6_ mq6_ kq6_ q7_ mq7_ kq7_ y0_ by0_ hG69_e_q2_ (g.fcts [6, 7, 8, 9, 1] rfl)) (cwV 0 hts (gV_ t_1182 t_1183 t_1184 t_190 t_1185) rfl rfl rfl (by decide +kernel) ⟨(Nat.le_of_ble_eq_true rfl), (Nat.le_of_ble_eq_true rfl)⟩) (pre3V g hK mq2_ kq2_ (by decide) (q := (RX0, TX0, 14)) rfl) rfl rfl hl.1 rfl (lv_room (Nat.le_of_ble_eq_true rfl)) dX2_readArguments_93 ⟨(Nat.le_of_ble_eq_true rfl), (Nat.le_of_ble_eq_true rfl)⟩) g hK (by decide) (by decide) (fx' := [(2, 14, a0_, .int x_11), (2, 0, a0_, .ref q0_), (2, 1, a0_, .ref q1_), (2, 2, a0_, .ref q2_), (2, 3, a0_, .ref q3_), (0, 0, q2_, .ref q0_), (0, 1, q2_, .ref q1_), (5, 0, q1_, .ref q6_), (5, 1, q1_, .ref q7_)]) rfl (fun fr_317 H locs hp hMr_317 g => ?_)
                  rcases hp with ⟨hG_318, hF_319⟩ | ⟨hG_320, x_321, h_322, x_323, h_324, hF_325⟩
                  · have g := g.more hF_319
                    have kb_1 : bd 1 1 (1 : Int32) := ⟨by decide, by decide⟩
                    obtain ⟨y_326, ey_326⟩ : ∃ z : Int32, z = v69_2 + 1 := ⟨_, rfl⟩
                    refine lv_iinc (v := y_326) (lv' := [(2, .int y_326), (4, .int v69_4), (3, .int v69_3), (1, .int r_1), (0, .ref a0_)]) hx hb dX2_readArguments_96 hl (k := 2) rfl (by rw [ey_326]; rfl) (by decide) rfl (fun ls hl => ?_)
                    refine lv_aload_n hx hb dX2_readArguments_99 rfl (lv_at hl 4 rfl) ?_
                    refine g_getk (C := RX2) (T := TX2) (N := 16) hx hb hts (mc_ inX2) hown hK g rfl 0 (by decide) rfl (hts _ (List.mem_cons_of_mem _ t_416)) (fun _ h9 => h9) 3 rfl dX2_readArguments_100 ?_
                    have go_ := g
                    refine g_calli (va_runV (As := []) (rest := []) ⟨hx, hb, hml, hown, hts⟩ (r_X8_kind l dC dI L kd tys fr_317 H.size g.2.2.2.1 q0_ mq0_ kq0_) (cwV 0 hts (gV_ t_1118 t_1119 t_1120 t_184 t_1121) rfl rfl rfl (by decide +kernel) ⟨(Nat.le_of_ble_eq_true rfl), (Nat.le_of_ble_eq_true rfl)⟩) (pre3V g hK mq0_ kq0_ (by decide) (q := (RX8, TX8, 10)) rfl) rfl rfl hl.1 rfl (lv_room (Nat.le_of_ble_eq_true rfl)) dX2_readArguments_103 ⟨(Nat.le_of_ble_eq_true rfl), (Nat.le_of_ble_eq_true rfl)⟩) g hK (by decide) (by decide) (fx' := [(0, 2, q2_, .ref q6_), (8, 8, q0_, .int y0_), (2, 14, a0_, .int x_11), (2, 0, a0_, .ref q0_), (2, 1, a0_, .ref q1_), (2, 2, a0_, .ref q2_), (2, 3, a0_, .ref q3_), (0, 0, q2_, .ref q0_), (0, 1, q2_, .ref q1_), (5, 0, q1_, .ref q6_), (5, 1, q1_, .ref q7_)]) rfl (fun r_327 fr_327 H locs hp hMr_327 g => ?_)
                    have hG_328 := eOK.frame hMr_327 go_.2.2.2.1 mq2_ kq2_ (by decide) (by decide) hG_318
                    refine lv_bipush (v := 44) hx hb dX2_readArguments_106 (by decide) ?_
                    have kb_44 : bd 44 44 (44 : Int32) := ⟨by decide, by decide⟩
                    refine lv_icmp_ne (tgt := 115) hx hb dX2_readArguments_108 (by decide) (fun c_329 => ?_) (fun c_329 => ?_)
                    · have fc_329 := neq_f c_329
                      refine lv_iconst (v := 0) hx hb dX2_readArguments_115 (by decide) ?_
                      refine lv_istore_n (lv' := [(3, .int 0), (2, .int y_326), (4, .int v69_4), (1, .int r_1), (0, .ref a0_)]) hx hb dX2_readArguments_116 rfl hl (by decide) rfl (fun ls hl => ?_)
                      refine lv_iload_n hx hb dX2_readArguments_117 rfl (lv_at hl 0 rfl) ?_
                      refine lv_if_eq (tgt := 156) hx hb dX2_readArguments_118 (by decide) (fun c_ => ?_) (fun c_ => absurd (by decide) c_)
                      obtain ⟨y_330, ey_330⟩ : ∃ z : Int32, z = v69_4 + 1 := ⟨_, rfl⟩
                      refine lv_iinc (v := y_330) (lv' := [(4, .int y_330), (3, .int 0), (2, .int y_326), (1, .int r_1), (0, .ref a0_)]) hx hb dX2_readArguments_156 hl (k := 2) rfl (by rw [ey_330]; rfl) (by decide) rfl (fun ls hl => ?_)
                      have ty_330 := add_bd ey_330 b_214 kb_1 (by decide)
                      have b_331 : bd 1 4 y_330 := add_rg ty_330 b_214 kb_1 (by decide)
                      refine lv_goto (tgt := 69) hx hb dX2_readArguments_159 (by decide) ?_
                      have hl9 := lv_sub hl [0, 1, 2, 3, 4] (by rfl : lv_pick [(4, .int y_330), (3, .int 0), (2, .int y_326), (1, .int r_1), (0, .ref a0_)] [0, 1, 2, 3, 4] = [(4, .int y_330), (3, .int 0), (2, .int y_326), (1, .int r_1), (0, .ref a0_)])
                      have g9 := g.sub (fx' := [(2, 14, a0_, .int x_11), (8, 8, q0_, .int y0_), (2, 0, a0_, .ref q0_), (2, 1, a0_, .ref q1_), (2, 2, a0_, .ref q2_), (2, 3, a0_, .ref q3_), (0, 0, q2_, .ref q0_), (0, 1, q2_, .ref q1_), (5, 0, q1_, .ref q6_), (5, 1, q1_, .ref q7_)]) [2, 1, 3, 4, 5, 6, 7, 8, 9, 10] rfl
                      exact ih69  y_330 0 y_326 (bd_sub b_331 (by decide)) (bd_sub kb_0 (by decide)) (by have h9_0 := b_331; unfold bd at h9_0; have h9_1 := bdT v69_2; unfold bd at h9_1; have h9_2 := bdT y_326; unfold bd at h9_2; have h9_3 := bv69_3; unfold bd at h9_3; have h9_4 := bv69_4; unfold bd at h9_4; have h9_5 := kb_0; unfold bd at h9_5; have h9_6 := kb_1; unfold bd at h9_6; have h9_7 := kb_3; unfold bd at h9_7; have h9_8 := kb_41; unfold bd at h9_8; have h9_9 := kb_44; unfold bd at h9_9; omega) _ _ _ _ g9 hG_328 hl9
                    · have fc_329 := eq_f c_329
                      have b_332 : bd 44 44 r_327 := eqX fc_329 (bdT r_327) kb_44 (by decide)
                      refine lv_iconst (v := 1) hx hb dX2_readArguments_111 (by decide) ?_
                      refine lv_goto (tgt := 116) hx hb dX2_readArguments_112 (by decide) ?_
                      refine lv_istore_n (lv' := [(3, .int 1), (2, .int y_326), (4, .int v69_4), (1, .int r_1), (0, .ref a0_)]) hx hb dX2_readArguments_116 rfl hl (by decide) rfl (fun ls hl => ?_)
                      refine lv_iload_n hx hb dX2_readArguments_117 rfl (lv_at hl 0 rfl) ?_
                      refine lv_if_eq (tgt := 156) hx hb dX2_readArguments_118 (by decide) (fun c_ => absurd c_ (by decide)) (fun c_ => ?_)
                      refine lv_aload_n hx hb dX2_readArguments_121 rfl (lv_at hl 4 rfl) ?_
                      refine g_getk (C := RX2) (T := TX2) (N := 16) hx hb hts (mc_ inX2) hown hK g rfl 0 (by decide) rfl (hts _ (List.mem_cons_of_mem _ t_416)) (fun _ h9 => h9) 3 rfl dX2_readArguments_122 ?_
                      have go_ := g
                      refine g_calli (va_runV (As := []) (rest := []) ⟨hx, hb, hml, hown, hts⟩ (r_X8_place l dC dI L kd tys fr_327 H.size g.2.2.2.1 q0_ mq0_ kq0_) (cwV 0 hts (gV_ t_1110 t_1111 t_1112 t_184 t_1113) rfl rfl rfl (by decide +kernel) ⟨(Nat.le_of_ble_eq_true rfl), (Nat.le_of_ble_eq_true rfl)⟩) (pre3V g hK mq0_ kq0_ (by decide) (q := (RX8, TX8, 10)) rfl) rfl rfl hl.1 rfl (lv_room (Nat.le_of_ble_eq_true rfl)) dX2_readArguments_125 ⟨(Nat.le_of_ble_eq_true rfl), (Nat.le_of_ble_eq_true rfl)⟩) g hK (by decide) (by decide) (fx' := [(0, 2, q2_, .ref q6_), (8, 8, q0_, .int y0_), (2, 14, a0_, .int x_11), (2, 0, a0_, .ref q0_), (2, 1, a0_, .ref q1_), (2, 2, a0_, .ref q2_), (2, 3, a0_, .ref q3_), (0, 0, q2_, .ref q0_), (0, 1, q2_, .ref q1_), (5, 0, q1_, .ref q6_), (5, 1, q1_, .ref q7_)]) rfl (fun r_333 fr_333 H locs hp hMr_333 g => ?_)
                      have hG_334 := eOK.frame hMr_333 go_.2.2.2.1 mq2_ kq2_ (by decide) (by decide) hG_328
                      refine lv_istore (lv' := [(5, .int r_333), (3, .int 1), (2, .int y_326), (4, .int v69_4), (1, .int r_1), (0, .ref a0_)]) hx hb dX2_readArguments_128 hl (by decide) rfl (fun ls hl => ?_)
                      refine lv_aload_n hx hb dX2_readArguments_130 rfl (lv_at hl 5 rfl) ?_
                      refine g_getk (C := RX2) (T := TX2) (N := 16) hx hb hts (mc_ inX2) hown hK g rfl 0 (by decide) rfl (hts _ (List.mem_cons_of_mem _ t_416)) (fun _ h9 => h9) 3 rfl dX2_readArguments_131 ?_
                      have go_ := g
                      refine g_callv (va_runV (As := []) (rest := []) ⟨hx, hb, hml, hown, hts⟩ (r_X8_next l dC dI L kd tys fr_333 H.size g.2.2.2.1 q0_ mq0_ kq0_) (cwV 0 hts (gV_ t_1131 t_1103 t_1104 t_184 t_1105) rfl rfl rfl (by decide +kernel) ⟨(Nat.le_of_ble_eq_true rfl), (Nat.le_of_ble_eq_true rfl)⟩) (pre3V g hK mq0_ kq0_ (by decide) (q := (RX8, TX8, 10)) rfl) rfl rfl hl.1 rfl (lv_room (Nat.le_of_ble_eq_true rfl)) dX2_readArguments_134 ⟨(Nat.le_of_ble_eq_true rfl), (Nat.le_of_ble_eq_true rfl)⟩) g hK (by decide) (by decide) (fx' := [(0, 2, q2_, .ref q6_), (8, 8, q0_, .int y0_), (2, 14, a0_, .int x_11), (2, 0, a0_, .ref q0_), (2, 1, a0_, .ref q1_), (2, 2, a0_, .ref q2_), (2, 3, a0_, .ref q3_), (0, 0, q2_, .ref q0_), (0, 1, q2_, .ref q1_), (5, 0, q1_, .ref q6_), (5, 1, q1_, .ref q7_)]) rfl (fun fr_335 H locs hp hMr_335 g => ?_)
                      obtain ⟨x_336, h_337, hF_338⟩ := hp
                      have hG_339 := eOK.frame hMr_335 go_.2.2.2.1 mq2_ kq2_ (by decide) (by decide) hG_334
                      have g := g.more hF_338
                      refine lv_iload_n hx hb dX2_readArguments_137 rfl (lv_at hl 2 rfl) ?_
                      refine lv_aload_n hx hb dX2_readArguments_138 rfl (lv_at hl 5 rfl) ?_
                      refine g_getk (C := RX2) (T := TX2) (N := 16) hx hb hts (mc_ inX2) hown hK g rfl 14 (by decide) rfl (hts _ (List.mem_cons_of_mem _ t_430)) (fun _ h9 => h9) 3 rfl dX2_readArguments_139 ?_
                      refine lv_icmp_lt (tgt := 156) hx hb dX2_readArguments_142 (by decide) (fun c_340 => ?_) (fun c_340 => ?_)
                      · have fc_340 := lt_f c_340
                        have b_341 : bd (-2147483648) 2147483646 y_326 := ltL fc_340 (bdT y_326) (bdT x_11) (by decide)
                        have b_342 : bd (-2147483647) 2147483647 x_11 := ltR fc_340 (bdT y_326) (bdT x_11) (by decide)
                        obtain ⟨y_343, ey_343⟩ : ∃ z : Int32, z = v69_4 + 1 := ⟨_, rfl⟩
                        refine lv_iinc (v := y_343) (lv' := [(4, .int y_343), (5, .int r_333), (3, .int 1), (2, .int y_326), (1, .int r_1), (0, .ref a0_)]) hx hb dX2_readArguments_156 hl (k := 3) rfl (by rw [ey_343]; rfl) (by decide) rfl (fun ls hl => ?_)
                        have ty_343 := add_bd ey_343 b_214 kb_1 (by decide)
                        have b_344 : bd 1 4 y_343 := add_rg ty_343 b_214 kb_1 (by decide)
                        refine lv_goto (tgt := 69) hx hb dX2_readArguments_159 (by decide) ?_
                        have hl9 := lv_sub hl [0, 2, 3, 4, 5] (by rfl : lv_pick [(4, .int y_343), (5, .int r_333), (3, .int 1), (2, .int y_326), (1, .int r_1), (0, .ref a0_)] [0, 2, 3, 4, 5] = [(4, .int y_343), (3, .int 1), (2, .int y_326), (1, .int r_1), (0, .ref a0_)])
                        have g9 := g.sub (fx' := [(2, 14, a0_, .int x_11), (8, 8, q0_, .int y0_), (2, 0, a0_, .ref q0_), (2, 1, a0_, .ref q1_), (2, 2, a0_, .ref q2_), (2, 3, a0_, .ref q3_), (0, 0, q2_, .ref q0_), (0, 1, q2_, .ref q1_), (5, 0, q1_, .ref q6_), (5, 1, q1_, .ref q7_)]) [3, 2, 4, 5, 6, 7, 8, 9, 10, 11] rfl
                        exact ih69  y_343 1 y_326 (bd_sub b_344 (by decide)) (bd_sub kb_1 (by decide)) (by have h9_0 := b_341; unfold bd at h9_0; have h9_1 := b_344; unfold bd at h9_1; have h9_2 := bdT v69_2; unfold bd at h9_2; have h9_3 := bv69_3; unfold bd at h9_3; have h9_4 := bv69_4; unfold bd at h9_4; have h9_5 := h_337; unfold bd at h9_5; have h9_6 := kb_0; unfold bd at h9_6; have h9_7 := kb_1; unfold bd at h9_7; have h9_8 := kb_3; unfold bd at h9_8; have h9_9 := kb_41; unfold bd at h9_9; have h9_10 := kb_44; unfold bd at h9_10; omega) _ _ _ _ g9 hG_339 hl9
                      · have fc_340 := nlt_f c_340
                        refine lv_aload_n hx hb dX2_readArguments_145 rfl (lv_at hl 5 rfl) ?_
                        refine g_getk (C := RX2) (T := TX2) (N := 16) hx hb hts (mc_ inX2) hown hK g rfl 0 (by decide) rfl (hts _ (List.mem_cons_of_mem _ t_416)) (fun _ h9 => h9) 4 rfl dX2_readArguments_146 ?_
                        refine lv_bipush (v := 6) hx hb dX2_readArguments_149 (by decide) ?_
                        refine lv_iload hx hb dX2_readArguments_151 (lv_at hl 0 rfl) ?_
                        have kb_6 : bd 6 6 (6 : Int32) := ⟨by decide, by decide⟩
                        have go_ := g
                        refine g_callv (va_runV (As := [.int 6, .int r_333]) (rest := []) ⟨hx, hb, hml, hown, hts⟩ (r_X8_fail l dC dI L kd tys fr_335 H.size g.2.2.2.1 q0_ mq0_ kq0_ 6 (bd_sub kb_6 (by decide)) r_333 y0_ by0_ (g.fcts [2] rfl)) (cwV 2 hts (gV_ t_1122 t_1107 t_1108 t_184 t_1109) rfl rfl rfl (by decide +kernel) ⟨(Nat.le_of_ble_eq_true rfl), (Nat.le_of_ble_eq_true rfl)⟩) (pre3V g hK mq0_ kq0_ (by decide) (q := (RX8, TX8, 10)) rfl) rfl rfl hl.1 rfl (lv_room (Nat.le_of_ble_eq_true rfl)) dX2_readArguments_153 ⟨(Nat.le_of_ble_eq_true rfl), (Nat.le_of_ble_eq_true rfl)⟩) g hK (by decide) (by decide) (fx' := [(0, 2, q2_, .ref q6_), (2, 14, a0_, .int x_11), (2, 0, a0_, .ref q0_), (2, 1, a0_, .ref q1_), (2, 2, a0_, .ref q2_), (2, 3, a0_, .ref q3_), (0, 0, q2_, .ref q0_), (0, 1, q2_, .ref q1_), (5, 0, q1_, .ref q6_), (5, 1, q1_, .ref q7_)]) rfl (fun fr_345 H locs hp hMr_345 g => ?_)
                        obtain ⟨x_346, h_347, hF_348⟩ := hp
                        have hG_349 := eOK.frame hMr_345 go_.2.2.2.1 mq2_ kq2_ (by decide) (by decide) hG_339
                        have g := g.more hF_348
                        obtain ⟨y_350, ey_350⟩ : ∃ z : Int32, z = v69_4 + 1 := ⟨_, rfl⟩
                        refine lv_iinc (v := y_350) (lv' := [(4, .int y_350), (5, .int r_333), (3, .int 1), (2, .int y_326), (1, .int r_1), (0, .ref a0_)]) hx hb dX2_readArguments_156 hl (k := 3) rfl (by rw [ey_350]; rfl) (by decide) rfl (fun ls hl => ?_)
                        have ty_350 := add_bd ey_350 b_214 kb_1 (by decide)
                        have b_351 : bd 1 4 y_350 := add_rg ty_350 b_214 kb_1 (by decide)
                        refine lv_goto (tgt := 69) hx hb dX2_readArguments_159 (by decide) ?_
                        refine lv_iload hx hb dX2_readArguments_69 (lv_at hl 0 rfl) ?_
                        refine lv_iconst (v := 3) hx hb dX2_readArguments_71 (by decide) ?_
                        refine lv_icmp_gt (tgt := 162) hx hb dX2_readArguments_72 (by decide) (fun c_352 => ?_) (fun c_352 => ?_)
                        · have fc_352 := lt_f c_352
                          have b_353 : bd 4 4 y_350 := ltR fc_352 kb_3 b_351 (by decide)
                          have b_354 : bd 3 3 v69_4 := add_inv ty_350 b_353 b_214 kb_1 (by decide)
                          refine lv_aload_n hx hb dX2_readArguments_162 rfl (lv_at hl 5 rfl) ?_
                          refine g_getk (C := RX2) (T := TX2) (N := 16) hx hb hts (mc_ inX2) hown hK g rfl 0 (by decide) rfl (hts _ (List.mem_cons_of_mem _ t_416)) (fun _ h9 => h9) 4 rfl dX2_readArguments_163 ?_
                          have go_ := g
                          refine g_calli (va_runV (As := []) (rest := []) ⟨hx, hb, hml, hown, hts⟩ (r_X8_place l dC dI L kd tys fr_345 H.size g.2.2.2.1 q0_ mq0_ kq0_) (cwV 0 hts (gV_ t_1110 t_1111 t_1112 t_184 t_1113) rfl rfl rfl (by decide +kernel) ⟨(Nat.le_of_ble_eq_true rfl), (Nat.le_of_ble_eq_true rfl)⟩) (pre3V g hK mq0_ kq0_ (by decide) (q := (RX8, TX8, 10)) rfl) rfl rfl hl.1 rfl (lv_room (Nat.le_of_ble_eq_true rfl)) dX2_readArguments_166 ⟨(Nat.le_of_ble_eq_true rfl), (Nat.le_of_ble_eq_true rfl)⟩) g hK (by decide) (by decide) (fx' := [(8, 6, q0_, .int 1201), (8, 8, q0_, .int x_346), (0, 2, q2_, .ref q6_), (2, 14, a0_, .int x_11), (2, 0, a0_, .ref q0_), (2, 1, a0_, .ref q1_), (2, 2, a0_, .ref q2_), (2, 3, a0_, .ref q3_), (0, 0, q2_, .ref q0_), (0, 1, q2_, .ref q1_), (5, 0, q1_, .ref q6_), (5, 1, q1_, .ref q7_)]) rfl (fun r_355 fr_355 H locs hp hMr_355 g => ?_)
                          have hG_356 := eOK.frame hMr_355 go_.2.2.2.1 mq2_ kq2_ (by decide) (by decide) hG_349
                          refine lv_istore (lv' := [(4, .int r_355), (5, .int r_333), (3, .int 1), (2, .int y_326), (1, .int r_1), (0, .ref a0_)]) hx hb dX2_readArguments_169 hl (by decide) rfl (fun ls hl => ?_)
                          refine lv_aload_n hx hb dX2_readArguments_171 rfl (lv_at hl 5 rfl) ?_
                          refine g_getk (C := RX2) (T := TX2) (N := 16) hx hb hts (mc_ inX2) hown hK g rfl 0 (by decide) rfl (hts _ (List.mem_cons_of_mem _ t_416)) (fun _ h9 => h9) 4 rfl dX2_readArguments_172 ?_
                          refine lv_bipush (v := 41) hx hb dX2_readArguments_175 (by decide) ?_
                          have kb_1201 : bd 1201 1201 (1201 : Int32) := ⟨by decide, by decide⟩
                          have go_ := g
                          refine g_callv (va_runV (As := [.int 41]) (rest := []) ⟨hx, hb, hml, hown, hts⟩ (r_X8_take_2 l dC dI L kd tys fr_355 H.size g.2.2.2.1 q0_ mq0_ kq0_ 41 1201 kb_1201 x_346 h_347 (g.fcts [0, 1] rfl)) (cwV 1 hts (gV_ t_1098 t_1099 t_1100 t_184 t_1101) rfl rfl rfl (by decide +kernel) ⟨(Nat.le_of_ble_eq_true rfl), (Nat.le_of_ble_eq_true rfl)⟩) (pre3V g hK mq0_ kq0_ (by decide) (q := (RX8, TX8, 10)) rfl) rfl rfl hl.1 rfl (lv_room (Nat.le_of_ble_eq_true rfl)) dX2_readArguments_177 ⟨(Nat.le_of_ble_eq_true rfl), (Nat.le_of_ble_eq_true rfl)⟩) g hK (by decide) (by decide) (fx' := [(8, 8, q0_, .int x_346), (0, 2, q2_, .ref q6_), (2, 14, a0_, .int x_11), (2, 0, a0_, .ref q0_), (2, 1, a0_, .ref q1_), (2, 2, a0_, .ref q2_), (2, 3, a0_, .ref q3_), (0, 0, q2_, .ref q0_), (0, 1, q2_, .ref q1_), (5, 0, q1_, .ref q6_), (5, 1, q1_, .ref q7_)]) rfl (fun fr_357 H locs hp hMr_357 g => ?_)
                          obtain ⟨x_358, h_359, hF_360⟩ := hp
                          have hG_361 := eOK.frame hMr_357 go_.2.2.2.1 mq2_ kq2_ (by decide) (by decide) hG_356
                          have g := g.more hF_360
                          refine lv_iload_n hx hb dX2_readArguments_180 rfl (lv_at hl 3 rfl) ?_
                          refine lv_aload_n hx hb dX2_readArguments_181 rfl (lv_at hl 5 rfl) ?_
                          refine g_getk (C := RX2) (T := TX2) (N := 16) hx hb hts (mc_ inX2) hown hK g rfl 14 (by decide) rfl (hts _ (List.mem_cons_of_mem _ t_430)) (fun _ h9 => h9) 3 rfl dX2_readArguments_182 ?_
                          refine lv_icmp_ge (tgt := 199) hx hb dX2_readArguments_185 (by decide) (fun c_362 => ?_) (fun c_362 => ?_)
                          · have fc_362 := le_f c_362
                            refine lv_aload_n hx hb dX2_readArguments_199 rfl (lv_at hl 5 rfl) ?_
                            refine g_getk (C := RX2) (T := TX2) (N := 16) hx hb hts (mc_ inX2) hown hK g rfl 3 (by decide) rfl (hts _ (List.mem_cons_of_mem _ t_419)) (fun _ h9 => h9) 7 rfl dX2_readArguments_200 ?_
                            refine lv_aload_n hx hb dX2_readArguments_203 rfl (lv_at hl 5 rfl) ?_
                            refine g_geti (C := RX2) (T := TX2) (N := 16) hx hb hts (mc_ inX2) hown hK g ma0_ ka0_ (by decide) rfl 12 (by decide) rfl (hts _ (List.mem_cons_of_mem _ t_428)) (fun _ h9 => h9) rfl dX2_readArguments_204 (fun x_363 bx_363 g => ?_)
                            refine lv_aload_n hx hb dX2_readArguments_207 rfl (lv_at hl 5 rfl) ?_
                            refine g_geti (C := RX2) (T := TX2) (N := 16) hx hb hts (mc_ inX2) hown hK g ma0_ ka0_ (by decide) rfl 13 (by decide) rfl (hts _ (List.mem_cons_of_mem _ t_429)) (fun _ h9 => h9) rfl dX2_readArguments_208 (fun x_364 bx_364 g => ?_)
                            have go_ := g
                            refine g_callv (va_runV (As := [.int x_363, .int x_364]) (rest := []) ⟨hx, hb, hml, hown, hts⟩ (r_X7_emit l dC dI L kd tys fr_357 H.size g.2.2.2.1 q3_ mq3_ kq3_ x_363 x_364) (cwV 2 hts (gV_ t_1301 t_1204 t_1205 t_191 t_1206) rfl rfl rfl (by decide +kernel) ⟨(Nat.le_of_ble_eq_true rfl), (Nat.le_of_ble_eq_true rfl)⟩) (pre3V g hK mq3_ kq3_ (by decide) (q := (RX7, TX7, 19)) rfl) rfl rfl hl.1 rfl (lv_room (Nat.le_of_ble_eq_true rfl)) dX2_readArguments_211 ⟨(Nat.le_of_ble_eq_true rfl), (Nat.le_of_ble_eq_true rfl)⟩) g hK (by decide) (by decide) (fx' := [(2, 13, a0_, .int x_364), (2, 12, a0_, .int x_363), (8, 6, q0_, .int x_358), (8, 8, q0_, .int x_346), (0, 2, q2_, .ref q6_), (2, 14, a0_, .int x_11), (2, 0, a0_, .ref q0_), (2, 1, a0_, .ref q1_), (2, 2, a0_, .ref q2_), (2, 3, a0_, .ref q3_), (0, 0, q2_, .ref q0_), (0, 1, q2_, .ref q1_), (5, 0, q1_, .ref q6_), (5, 1, q1_, .ref q7_)]) rfl (fun fr_365 H locs hp hMr_365 g => ?_)
                            obtain ⟨x_366, h_367, hF_368⟩ := hp
                            have hG_369 := eOK.frame hMr_365 go_.2.2.2.1 mq2_ kq2_ (by decide) (by decide) hG_361
                            have g := g.more hF_368
                            refine lv_aload_n hx hb dX2_readArguments_214 rfl (lv_at hl 5 rfl) ?_
                            refine g_getk (C := RX2) (T := TX2) (N := 16) hx hb hts (mc_ inX2) hown hK g rfl 3 (by decide) rfl (hts _ (List.mem_cons_of_mem _ t_419)) (fun _ h9 => h9) 10 rfl dX2_readArguments_215 ?_
                            refine lv_bipush (v := 22) hx hb dX2_readArguments_218 (by decide) ?_
                            refine lv_iconst (v := 0) hx hb dX2_readArguments_220 (by decide) ?_
                            have go_ := g
                            refine g_callv (va_runV (As := [.int 22, .int 0]) (rest := []) ⟨hx, hb, hml, hown, hts⟩ (r_X7_emit l dC dI L kd tys fr_365 H.size g.2.2.2.1 q3_ mq3_ kq3_ 22 0) (cwV 2 hts (gV_ t_1301 t_1204 t_1205 t_191 t_1206) rfl rfl rfl (by decide +kernel) ⟨(Nat.le_of_ble_eq_true rfl), (Nat.le_of_ble_eq_true rfl)⟩) (pre3V g hK mq3_ kq3_ (by decide) (q := (RX7, TX7, 19)) rfl) rfl rfl hl.1 rfl (lv_room (Nat.le_of_ble_eq_true rfl)) dX2_readArguments_221 ⟨(Nat.le_of_ble_eq_true rfl), (Nat.le_of_ble_eq_true rfl)⟩) g hK (by decide) (by decide) (fx' := [(2, 13, a0_, .int x_364), (2, 12, a0_, .int x_363), (8, 6, q0_, .int x_358), (8, 8, q0_, .int x_346), (0, 2, q2_, .ref q6_), (2, 14, a0_, .int x_11), (2, 0, a0_, .ref q0_), (2, 1, a0_, .ref q1_), (2, 2, a0_, .ref q2_), (2, 3, a0_, .ref q3_), (0, 0, q2_, .ref q0_), (0, 1, q2_, .ref q1_), (5, 0, q1_, .ref q6_), (5, 1, q1_, .ref q7_)]) rfl (fun fr_370 H locs hp hMr_370 g => ?_)
                            obtain ⟨x_371, h_372, hF_373⟩ := hp
                            have hG_374 := eOK.frame hMr_370 go_.2.2.2.1 mq2_ kq2_ (by decide) (by decide) hG_369
                            have g := g.more hF_373
                            refine lv_aload_n hx hb dX2_readArguments_224 rfl (lv_at hl 5 rfl) ?_
                            refine g_getk (C := RX2) (T := TX2) (N := 16) hx hb hts (mc_ inX2) hown hK g rfl 0 (by decide) rfl (hts _ (List.mem_cons_of_mem _ t_416)) (fun _ h9 => h9) 7 rfl dX2_readArguments_225 ?_
                            refine lv_bipush (v := 59) hx hb dX2_readArguments_228 (by decide) ?_
                            have go_ := g
                            refine g_callv (va_runV (As := [.int 59]) (rest := []) ⟨hx, hb, hml, hown, hts⟩ (r_X8_take_2 l dC dI L kd tys fr_370 H.size g.2.2.2.1 q0_ mq0_ kq0_ 59 x_358 h_359 x_346 h_347 (g.fcts [3, 4] rfl)) (cwV 1 hts (gV_ t_1098 t_1099 t_1100 t_184 t_1101) rfl rfl rfl (by decide +kernel) ⟨(Nat.le_of_ble_eq_true rfl), (Nat.le_of_ble_eq_true rfl)⟩) (pre3V g hK mq0_ kq0_ (by decide) (q := (RX8, TX8, 10)) rfl) rfl rfl hl.1 rfl (lv_room (Nat.le_of_ble_eq_true rfl)) dX2_readArguments_230 ⟨(Nat.le_of_ble_eq_true rfl), (Nat.le_of_ble_eq_true rfl)⟩) g hK (by decide) (by decide) (fx' := [(7, 6, q3_, .int x_371), (2, 13, a0_, .int x_364), (2, 12, a0_, .int x_363), (8, 8, q0_, .int x_346), (0, 2, q2_, .ref q6_), (2, 14, a0_, .int x_11), (2, 0, a0_, .ref q0_), (2, 1, a0_, .ref q1_), (2, 2, a0_, .ref q2_), (2, 3, a0_, .ref q3_), (0, 0, q2_, .ref q0_), (0, 1, q2_, .ref q1_), (5, 0, q1_, .ref q6_), (5, 1, q1_, .ref q7_)]) rfl (fun fr_375 H locs hp hMr_375 g => ?_)
                            obtain ⟨x_376, h_377, hF_378⟩ := hp
                            have hG_379 := eOK.frame hMr_375 go_.2.2.2.1 mq2_ kq2_ (by decide) (by decide) hG_374
                            have g := g.more hF_378
                            subst hQ
                            exact W.vret hx hb hr (fun t ht hW => ⟨⟨_, rfl, Or.inr (⟨hG_379, x_376, h_377, x_346, h_347, x_371, h_372, (g.fcts [0, 4, 1] rfl)⟩), q3_of g hK ht hW⟩, g.2.2.1.F ht⟩) g.2.2.1.2.2 dX2_readArguments_233
                          · have fc_362 := nle_f c_362
                            have b_380 : bd (-2147483648) 2147483646 y_326 := ltL fc_362 (bdT y_326) (bdT x_11) (by decide)
                            have b_381 : bd (-2147483647) 2147483647 x_11 := ltR fc_362 (bdT y_326) (bdT x_11) (by decide)
                            refine lv_aload_n hx hb dX2_readArguments_188 rfl (lv_at hl 5 rfl) ?_
                            refine g_getk (C := RX2) (T := TX2) (N := 16) hx hb hts (mc_ inX2) hown hK g rfl 0 (by decide) rfl (hts _ (List.mem_cons_of_mem _ t_416)) (fun _ h9 => h9) 4 rfl dX2_readArguments_189 ?_
                            refine lv_bipush (v := 6) hx hb dX2_readArguments_192 (by decide) ?_
                            refine lv_iload hx hb dX2_readArguments_194 (lv_at hl 0 rfl) ?_
                            have go_ := g
                            refine g_callv (va_runV (As := [.int 6, .int r_355]) (rest := []) ⟨hx, hb, hml, hown, hts⟩ (r_X8_fail_2 l dC dI L kd tys fr_357 H.size g.2.2.2.1 q0_ mq0_ kq0_ 6 (bd_sub kb_6 (by decide)) r_355 x_346 h_347 (g.fcts [1] rfl)) (cwV 2 hts (gV_ t_1122 t_1107 t_1108 t_184 t_1109) rfl rfl rfl (by decide +kernel) ⟨(Nat.le_of_ble_eq_true rfl), (Nat.le_of_ble_eq_true rfl)⟩) (pre3V g hK mq0_ kq0_ (by decide) (q := (RX8, TX8, 10)) rfl) rfl rfl hl.1 rfl (lv_room (Nat.le_of_ble_eq_true rfl)) dX2_readArguments_196 ⟨(Nat.le_of_ble_eq_true rfl), (Nat.le_of_ble_eq_true rfl)⟩) g hK (by decide) (by decide) (fx' := [(8, 8, q0_, .int x_346), (0, 2, q2_, .ref q6_), (2, 14, a0_, .int x_11), (2, 0, a0_, .ref q0_), (2, 1, a0_, .ref q1_), (2, 2, a0_, .ref q2_), (2, 3, a0_, .ref q3_), (0, 0, q2_, .ref q0_), (0, 1, q2_, .ref q1_), (5, 0, q1_, .ref q6_), (5, 1, q1_, .ref q7_)]) rfl (fun fr_382 H locs hp hMr_382 g => ?_)
                            have hF_383 := hp
                            have hG_384 := eOK.frame hMr_382 go_.2.2.2.1 mq2_ kq2_ (by decide) (by decide) hG_361
                            have g := g.more hF_383
                            refine lv_aload_n hx hb dX2_readArguments_199 rfl (lv_at hl 5 rfl) ?_
                            refine g_getk (C := RX2) (T := TX2) (N := 16) hx hb hts (mc_ inX2) hown hK g rfl 3 (by decide) rfl (hts _ (List.mem_cons_of_mem _ t_419)) (fun _ h9 => h9) 7 rfl dX2_readArguments_200 ?_
                            refine lv_aload_n hx hb dX2_readArguments_203 rfl (lv_at hl 5 rfl) ?_
                            refine g_geti (C := RX2) (T := TX2) (N := 16) hx hb hts (mc_ inX2) hown hK g ma0_ ka0_ (by decide) rfl 12 (by decide) rfl (hts _ (List.mem_cons_of_mem _ t_428)) (fun _ h9 => h9) rfl dX2_readArguments_204 (fun x_385 bx_385 g => ?_)
                            refine lv_aload_n hx hb dX2_readArguments_207 rfl (lv_at hl 5 rfl) ?_
                            refine g_geti (C := RX2) (T := TX2) (N := 16) hx hb hts (mc_ inX2) hown hK g ma0_ ka0_ (by decide) rfl 13 (by decide) rfl (hts _ (List.mem_cons_of_mem _ t_429)) (fun _ h9 => h9) rfl dX2_readArguments_208 (fun x_386 bx_386 g => ?_)
                            have go_ := g
                            refine g_callv (va_runV (As := [.int x_385, .int x_386]) (rest := []) ⟨hx, hb, hml, hown, hts⟩ (r_X7_emit l dC dI L kd tys fr_382 H.size g.2.2.2.1 q3_ mq3_ kq3_ x_385 x_386) (cwV 2 hts (gV_ t_1301 t_1204 t_1205 t_191 t_1206) rfl rfl rfl (by decide +kernel) ⟨(Nat.le_of_ble_eq_true rfl), (Nat.le_of_ble_eq_true rfl)⟩) (pre3V g hK mq3_ kq3_ (by decide) (q := (RX7, TX7, 19)) rfl) rfl rfl hl.1 rfl (lv_room (Nat.le_of_ble_eq_true rfl)) dX2_readArguments_211 ⟨(Nat.le_of_ble_eq_true rfl), (Nat.le_of_ble_eq_true rfl)⟩) g hK (by decide) (by decide) (fx' := [(2, 13, a0_, .int x_386), (2, 12, a0_, .int x_385), (8, 6, q0_, .int 1201), (8, 8, q0_, .int x_346), (0, 2, q2_, .ref q6_), (2, 14, a0_, .int x_11), (2, 0, a0_, .ref q0_), (2, 1, a0_, .ref q1_), (2, 2, a0_, .ref q2_), (2, 3, a0_, .ref q3_), (0, 0, q2_, .ref q0_), (0, 1, q2_, .ref q1_), (5, 0, q1_, .ref q6_), (5, 1, q1_, .ref q7_)]) rfl (fun fr_387 H locs hp hMr_387 g => ?_)
                            obtain ⟨x_388, h_389, hF_390⟩ := hp
                            have hG_391 := eOK.frame hMr_387 go_.2.2.2.1 mq2_ kq2_ (by decide) (by decide) hG_384
                            have g := g.more hF_390
                            refine lv_aload_n hx hb dX2_readArguments_214 rfl (lv_at hl 5 rfl) ?_
                            refine g_getk (C := RX2) (T := TX2) (N := 16) hx hb hts (mc_ inX2) hown hK g rfl 3 (by decide) rfl (hts _ (List.mem_cons_of_mem _ t_419)) (fun _ h9 => h9) 10 rfl dX2_readArguments_215 ?_
                            refine lv_bipush (v := 22) hx hb dX2_readArguments_218 (by decide) ?_
                            refine lv_iconst (v := 0) hx hb dX2_readArguments_220 (by decide) ?_
                            have go_ := g
                            refine g_callv (va_runV (As := [.int 22, .int 0]) (rest := []) ⟨hx, hb, hml, hown, hts⟩ (r_X7_emit l dC dI L kd tys fr_387 H.size g.2.2.2.1 q3_ mq3_ kq3_ 22 0) (cwV 2 hts (gV_ t_1301 t_1204 t_1205 t_191 t_1206) rfl rfl rfl (by decide +kernel) ⟨(Nat.le_of_ble_eq_true rfl), (Nat.le_of_ble_eq_true rfl)⟩) (pre3V g hK mq3_ kq3_ (by decide) (q := (RX7, TX7, 19)) rfl) rfl rfl hl.1 rfl (lv_room (Nat.le_of_ble_eq_true rfl)) dX2_readArguments_221 ⟨(Nat.le_of_ble_eq_true rfl), (Nat.le_of_ble_eq_true rfl)⟩) g hK (by decide) (by decide) (fx' := [(2, 13, a0_, .int x_386), (2, 12, a0_, .int x_385), (8, 6, q0_, .int 1201), (8, 8, q0_, .int x_346), (0, 2, q2_, .ref q6_), (2, 14, a0_, .int x_11), (2, 0, a0_, .ref q0_), (2, 1, a0_, .ref q1_), (2, 2, a0_, .ref q2_), (2, 3, a0_, .ref q3_), (0, 0, q2_, .ref q0_), (0, 1, q2_, .ref q1_), (5, 0, q1_, .ref q6_), (5, 1, q1_, .ref q7_)]) rfl (fun fr_392 H locs hp hMr_392 g => ?_)
                            obtain ⟨x_393, h_394, hF_395⟩ := hp
                            have hG_396 := eOK.frame hMr_392 go_.2.2.2.1 mq2_ kq2_ (by decide) (by decide) hG_391
                            have g := g.more hF_395
                            refine lv_aload_n hx hb dX2_readArguments_224 rfl (lv_at hl 5 rfl) ?_
                            refine g_getk (C := RX2) (T := TX2) (N := 16) hx hb hts (mc_ inX2) hown hK g rfl 0 (by decide) rfl (hts _ (List.mem_cons_of_mem _ t_416)) (fun _ h9 => h9) 7 rfl dX2_readArguments_225 ?_
                            refine lv_bipush (v := 59) hx hb dX2_readArguments_228 (by decide) ?_
                            have go_ := g
                            refine g_callv (va_runV (As := [.int 59]) (rest := []) ⟨hx, hb, hml, hown, hts⟩ (r_X8_take_2 l dC dI L kd tys fr_392 H.size g.2.2.2.1 q0_ mq0_ kq0_ 59 1201 kb_1201 x_346 h_347 (g.fcts [3, 4] rfl)) (cwV 1 hts (gV_ t_1098 t_1099 t_1100 t_184 t_1101) rfl rfl rfl (by decide +kernel) ⟨(Nat.le_of_ble_eq_true rfl), (Nat.le_of_ble_eq_true rfl)⟩) (pre3V g hK mq0_ kq0_ (by decide) (q := (RX8, TX8, 10)) rfl) rfl rfl hl.1 rfl (lv_room (Nat.le_of_ble_eq_true rfl)) dX2_readArguments_230 ⟨(Nat.le_of_ble_eq_true rfl), (Nat.le_of_ble_eq_true rfl)⟩) g hK (by decide) (by decide) (fx' := [(7, 6, q3_, .int x_393), (2, 13, a0_, .int x_386), (2, 12, a0_, .int x_385), (8, 8, q0_, .int x_346), (0, 2, q2_, .ref q6_), (2, 14, a0_, .int x_11), (2, 0, a0_, .ref q0_), (2, 1, a0_, .ref q1_), (2, 2, a0_, .ref q2_), (2, 3, a0_, .ref q3_), (0, 0, q2_, .ref q0_), (0, 1, q2_, .ref q1_), (5, 0, q1_, .ref q6_), (5, 1, q1_, .ref q7_)]) rfl (fun fr_397 H locs hp hMr_397 g => ?_)
                            obtain ⟨x_398, h_399, hF_400⟩ := hp
                            have hG_401 := eOK.frame hMr_397 go_.2.2.2.1 mq2_ kq2_ (by decide) (by decide) hG_396
                            have g := g.more hF_400
                            subst hQ
                            exact W.vret hx hb hr (fun t ht hW => ⟨⟨_, rfl, Or.inr (⟨hG_401, x_398, h_399, x_346, h_347, x_393, h_394, (g.fcts [0, 4, 1] rfl)⟩), q3_of g hK ht hW⟩, g.2.2.1.F ht⟩) g.2.2.1.2.2 dX2_readArguments_233
                        · have fc_352 := nlt_f c_352
                          have b_402 : bd 1 3 y_350 := leL fc_352 b_351 kb_3 (by decide)
                          have b_403 : bd 0 2 v69_4 := add_inv ty_350 b_402 b_214 kb_1 (by decide)
                          refine lv_iload_n hx hb dX2_readArguments_75 rfl (lv_at hl 2 rfl) ?_
                          refine lv_if_eq (tgt := 162) hx hb dX2_readArguments_76 (by decide) (fun c_ => absurd c_ (by decide)) (fun c_ => ?_)
                          refine lv_aload_n hx hb dX2_readArguments_79 rfl (lv_at hl 5 rfl) ?_
                          refine g_getk (C := RX2) (T := TX2) (N := 16) hx hb hts (mc_ inX2) hown hK g rfl 0 (by decide) rfl (hts _ (List.mem_cons_of_mem _ t_416)) (fun _ h9 => h9) 4 rfl dX2_readArguments_80 ?_
                          refine g_getk (C := RX8) (T := TX8) (N := 10) hx hb hts (mc_ inX8) hown hK g rfl 8 (by decide) rfl (hts _ (List.mem_cons_of_mem _ t_294)) (fun _ h9 => h9) 1 rfl dX2_readArguments_83 ?_
                          refine lv_if_ne (tgt := 162) hx hb dX2_readArguments_86 (by decide) (fun c_404 => ?_) (fun c_404 => ?_)
                          · have fc_404 := neq_f c_404
                            refine lv_aload_n hx hb dX2_readArguments_162 rfl (lv_at hl 5 rfl) ?_
                            refine g_getk (C := RX2) (T := TX2) (N := 16) hx hb hts (mc_ inX2) hown hK g rfl 0 (by decide) rfl (hts _ (List.mem_cons_of_mem _ t_416)) (fun _ h9 => h9) 4 rfl dX2_readArguments_163 ?_
                            have go_ := g
                            refine g_calli (va_runV (As := []) (rest := []) ⟨hx, hb, hml, hown, hts⟩ (r_X8_place l dC dI L kd tys fr_345 H.size g.2.2.2.1 q0_ mq0_ kq0_) (cwV 0 hts (gV_ t_1110 t_1111 t_1112 t_184 t_1113) rfl rfl rfl (by decide +kernel) ⟨(Nat.le_of_ble_eq_true rfl), (Nat.le_of_ble_eq_true rfl)⟩) (pre3V g hK mq0_ kq0_ (by decide) (q := (RX8, TX8, 10)) rfl) rfl rfl hl.1 rfl (lv_room (Nat.le_of_ble_eq_true rfl)) dX2_readArguments_166 ⟨(Nat.le_of_ble_eq_true rfl), (Nat.le_of_ble_eq_true rfl)⟩) g hK (by decide) (by decide) (fx' := [(8, 6, q0_, .int 1201), (8, 8, q0_, .int x_346), (0, 2, q2_, .ref q6_), (2, 14, a0_, .int x_11), (2, 0, a0_, .ref q0_), (2, 1, a0_, .ref q1_), (2, 2, a0_, .ref q2_), (2, 3, a0_, .ref q3_), (0, 0, q2_, .ref q0_), (0, 1, q2_, .ref q1_), (5, 0, q1_, .ref q6_), (5, 1, q1_, .ref q7_)]) rfl (fun r_405 fr_405 H locs hp hMr_405 g => ?_)
                            have hG_406 := eOK.frame hMr_405 go_.2.2.2.1 mq2_ kq2_ (by decide) (by decide) hG_349
                            refine lv_istore (lv' := [(4, .int r_405), (5, .int r_333), (3, .int 1), (2, .int y_326), (1, .int r_1), (0, .ref a0_)]) hx hb dX2_readArguments_169 hl (by decide) rfl (fun ls hl => ?_)
                            refine lv_aload_n hx hb dX2_readArguments_171 rfl (lv_at hl 5 rfl) ?_
                            refine g_getk (C := RX2) (T := TX2) (N := 16) hx hb hts (mc_ inX2) hown hK g rfl 0 (by decide) rfl (hts _ (List.mem_cons_of_mem _ t_416)) (fun _ h9 => h9) 4 rfl dX2_readArguments_172 ?_
                            refine lv_bipush (v := 41) hx hb dX2_readArguments_175 (by decide) ?_
                            have kb_1201 : bd 1201 1201 (1201 : Int32) := ⟨by decide, by decide⟩
                            have go_ := g
                            refine g_callv (va_runV (As := [.int 41]) (rest := []) ⟨hx, hb, hml, hown, hts⟩ (r_X8_take_2 l dC dI L kd tys fr_405 H.size g.2.2.2.1 q0_ mq0_ kq0_ 41 1201 kb_1201 x_346 h_347 (g.fcts [0, 1] rfl)) (cwV 1 hts (gV_ t_1098 t_1099 t_1100 t_184 t_1101) rfl rfl rfl (by decide +kernel) ⟨(Nat.le_of_ble_eq_true rfl), (Nat.le_of_ble_eq_true rfl)⟩) (pre3V g hK mq0_ kq0_ (by decide) (q := (RX8, TX8, 10)) rfl) rfl rfl hl.1 rfl (lv_room (Nat.le_of_ble_eq_true rfl)) dX2_readArguments_177 ⟨(Nat.le_of_ble_eq_true rfl), (Nat.le_of_ble_eq_true rfl)⟩) g hK (by decide) (by decide) (fx' := [(8, 8, q0_, .int x_346), (0, 2, q2_, .ref q6_), (2, 14, a0_, .int x_11), (2, 0, a0_, .ref q0_), (2, 1, a0_, .ref q1_), (2, 2, a0_, .ref q2_), (2, 3, a0_, .ref q3_), (0, 0, q2_, .ref q0_), (0, 1, q2_, .ref q1_), (5, 0, q1_, .ref q6_), (5, 1, q1_, .ref q7_)]) rfl (fun fr_407 H locs hp hMr_407 g => ?_)
                            obtain ⟨x_408, h_409, hF_410⟩ := hp
                            have hG_411 := eOK.frame hMr_407 go_.2.2.2.1 mq2_ kq2_ (by decide) (by decide) hG_406
                            have g := g.more hF_410
                            refine lv_iload_n hx hb dX2_readArguments_180 rfl (lv_at hl 3 rfl) ?_
                            refine lv_aload_n hx hb dX2_readArguments_181 rfl (lv_at hl 5 rfl) ?_
                            refine g_getk (C := RX2) (T := TX2) (N := 16) hx hb hts (mc_ inX2) hown hK g rfl 14 (by decide) rfl (hts _ (List.mem_cons_of_mem _ t_430)) (fun _ h9 => h9) 3 rfl dX2_readArguments_182 ?_
                            refine lv_icmp_ge (tgt := 199) hx hb dX2_readArguments_185 (by decide) (fun c_412 => ?_) (fun c_412 => ?_)
                            · have fc_412 := le_f c_412
                              refine lv_aload_n hx hb dX2_readArguments_199 rfl (lv_at hl 5 rfl) ?_
                              refine g_getk (C := RX2) (T := TX2) (N := 16) hx hb hts (mc_ inX2) hown hK g rfl 3 (by decide) rfl (hts _ (List.mem_cons_of_mem _ t_419)) (fun _ h9 => h9) 7 rfl dX2_readArguments_200 ?_
                              refine lv_aload_n hx hb dX2_readArguments_203 rfl (lv_at hl 5 rfl) ?_
                              refine g_geti (C := RX2) (T := TX2) (N := 16) hx hb hts (mc_ inX2) hown hK g ma0_ ka0_ (by decide) rfl 12 (by decide) rfl (hts _ (List.mem_cons_of_mem _ t_428)) (fun _ h9 => h9) rfl dX2_readArguments_204 (fun x_413 bx_413 g => ?_)
                              refine lv_aload_n hx hb dX2_readArguments_207 rfl (lv_at hl 5 rfl) ?_
                              refine g_geti (C := RX2) (T := TX2) (N := 16) hx hb hts (mc_ inX2) hown hK g ma0_ ka0_ (by decide) rfl 13 (by decide) rfl (hts _ (List.mem_cons_of_mem _ t_429)) (fun _ h9 => h9) rfl dX2_readArguments_208 (fun x_414 bx_414 g => ?_)
                              have go_ := g
                              refine g_callv (va_runV (As := [.int x_413, .int x_414]) (rest := []) ⟨hx, hb, hml, hown, hts⟩ (r_X7_emit l dC dI L kd tys fr_407 H.size g.2.2.2.1 q3_ mq3_ kq3_ x_413 x_414) (cwV 2 hts (gV_ t_1301 t_1204 t_1205 t_191 t_1206) rfl rfl rfl (by decide +kernel) ⟨(Nat.le_of_ble_eq_true rfl), (Nat.le_of_ble_eq_true rfl)⟩) (pre3V g hK mq3_ kq3_ (by decide) (q := (RX7, TX7, 19)) rfl) rfl rfl hl.1 rfl (lv_room (Nat.le_of_ble_eq_true rfl)) dX2_readArguments_211 ⟨(Nat.le_of_ble_eq_true rfl), (Nat.le_of_ble_eq_true rfl)⟩) g hK (by decide) (by decide) (fx' := [(2, 13, a0_, .int x_414), (2, 12, a0_, .int x_413), (8, 6, q0_, .int x_408), (8, 8, q0_, .int x_346), (0, 2, q2_, .ref q6_), (2, 14, a0_, .int x_11), (2, 0, a0_, .ref q0_), (2, 1, a0_, .ref q1_), (2, 2, a0_, .ref q2_), (2, 3, a0_, .ref q3_), (0, 0, q2_, .ref q0_), (0, 1, q2_, .ref q1_), (5, 0, q1_, .ref q6_), (5, 1, q1_, .ref q7_)]) rfl (fun fr_415 H locs hp hMr_415 g => ?_)
                              obtain ⟨x_416, h_417, hF_418⟩ := hp
                              have hG_419 := eOK.frame hMr_415 go_.2.2.2.1 mq2_ kq2_ (by decide) (by decide) hG_411
                              have g := g.more hF_418
                              refine lv_aload_n hx hb dX2_readArguments_214 rfl (lv_at hl 5 rfl) ?_
                              refine g_getk (C := RX2) (T := TX2) (N := 16) hx hb hts (mc_ inX2) hown hK g rfl 3 (by decide) rfl (hts _ (List.mem_cons_of_mem _ t_419)) (fun _ h9 => h9) 10 rfl dX2_readArguments_215 ?_
                              refine lv_bipush (v := 22) hx hb dX2_readArguments_218 (by decide) ?_
                              refine lv_iconst (v := 0) hx hb dX2_readArguments_220 (by decide) ?_
                              have go_ := g
                              refine g_callv (va_runV (As := [.int 22, .int 0]) (rest := []) ⟨hx, hb, hml, hown, hts⟩ (r_X7_emit l dC dI L kd tys fr_415 H.size g.2.2.2.1 q3_ mq3_ kq3_ 22 0) (cwV 2 hts (gV_ t_1301 t_1204 t_1205 t_191 t_1206) rfl rfl rfl (by decide +kernel) ⟨(Nat.le_of_ble_eq_true rfl), (Nat.le_of_ble_eq_true rfl)⟩) (pre3V g hK mq3_ kq3_ (by decide) (q := (RX7, TX7, 19)) rfl) rfl rfl hl.1 rfl (lv_room (Nat.le_of_ble_eq_true rfl)) dX2_readArguments_221 ⟨(Nat.le_of_ble_eq_true rfl), (Nat.le_of_ble_eq_true rfl)⟩) g hK (by decide) (by decide) (fx' := [(2, 13, a0_, .int x_414), (2, 12, a0_, .int x_413), (8, 6, q0_, .int x_408), (8, 8, q0_, .int x_346), (0, 2, q2_, .ref q6_), (2, 14, a0_, .int x_11), (2, 0, a0_, .ref q0_), (2, 1, a0_, .ref q1_), (2, 2, a0_, .ref q2_), (2, 3, a0_, .ref q3_), (0, 0, q2_, .ref q0_), (0, 1, q2_, .ref q1_), (5, 0, q1_, .ref q6_), (5, 1, q1_, .ref q7_)]) rfl (fun fr_420 H locs hp hMr_420 g => ?_)
                              obtain ⟨x_421, h_422, hF_423⟩ := hp
                              have hG_424 := eOK.frame hMr_420 go_.2.2.2.1 mq2_ kq2_ (by decide) (by decide) hG_419
                              have g := g.more hF_423
                              refine lv_aload_n hx hb dX2_readArguments_224 rfl (lv_at hl 5 rfl) ?_
                              refine g_getk (C := RX2) (T := TX2) (N := 16) hx hb hts (mc_ inX2) hown hK g rfl 0 (by decide) rfl (hts _ (List.mem_cons_of_mem _ t_416)) (fun _ h9 => h9) 7 rfl dX2_readArguments_225 ?_
                              refine lv_bipush (v := 59) hx hb dX2_readArguments_228 (by decide) ?_
                              have go_ := g
                              refine g_callv (va_runV (As := [.int 59]) (rest := []) ⟨hx, hb, hml, hown, hts⟩ (r_X8_take_2 l dC dI L kd tys fr_420 H.size g.2.2.2.1 q0_ mq0_ kq0_ 59 x_408 h_409 x_346 h_347 (g.fcts [3, 4] rfl)) (cwV 1 hts (gV_ t_1098 t_1099 t_1100 t_184 t_1101) rfl rfl rfl (by decide +kernel) ⟨(Nat.le_of_ble_eq_true rfl), (Nat.le_of_ble_eq_true rfl)⟩) (pre3V g hK mq0_ kq0_ (by decide) (q := (RX8, TX8, 10)) rfl) rfl rfl hl.1 rfl (lv_room (Nat.le_of_ble_eq_true rfl)) dX2_readArguments_230 ⟨(Nat.le_of_ble_eq_true rfl), (Nat.le_of_ble_eq_true rfl)⟩) g hK (by decide) (by decide) (fx' := [(7, 6, q3_, .int x_421), (2, 13, a0_, .int x_414), (2, 12, a0_, .int x_413), (8, 8, q0_, .int x_346), (0, 2, q2_, .ref q6_), (2, 14, a0_, .int x_11), (2, 0, a0_, .ref q0_), (2, 1, a0_, .ref q1_), (2, 2, a0_, .ref q2_), (2, 3, a0_, .ref q3_), (0, 0, q2_, .ref q0_), (0, 1, q2_, .ref q1_), (5, 0, q1_, .ref q6_), (5, 1, q1_, .ref q7_)]) rfl (fun fr_425 H locs hp hMr_425 g => ?_)
                              obtain ⟨x_426, h_427, hF_428⟩ := hp
                              have hG_429 := eOK.frame hMr_425 go_.2.2.2.1 mq2_ kq2_ (by decide) (by decide) hG_424
                              have g := g.more hF_428
                              subst hQ
                              exact W.vret hx hb hr (fun t ht hW => ⟨⟨_, rfl, Or.inr (⟨hG_429, x_426, h_427, x_346, h_347, x_421, h_422, (g.fcts [0, 4, 1] rfl)⟩), q3_of g hK ht hW⟩, g.2.2.1.F ht⟩) g.2.2.1.2.2 dX2_readArguments_233
                            · have fc_412 := nle_f c_412
                              have b_430 : bd (-2147483648) 2147483646 y_326 := ltL fc_412 (bdT y_326) (bdT x_11) (by decide)
                              have b_431 : bd (-2147483647) 2147483647 x_11 := ltR fc_412 (bdT y_326) (bdT x_11) (by decide)
                              refine lv_aload_n hx hb dX2_readArguments_188 rfl (lv_at hl 5 rfl) ?_
                              refine g_getk (C := RX2) (T := TX2) (N := 16) hx hb hts (mc_ inX2) hown hK g rfl 0 (by decide) rfl (hts _ (List.mem_cons_of_mem _ t_416)) (fun _ h9 => h9) 4 rfl dX2_readArguments_189 ?_
                              refine lv_bipush (v := 6) hx hb dX2_readArguments_192 (by decide) ?_
                              refine lv_iload hx hb dX2_readArguments_194 (lv_at hl 0 rfl) ?_
                              have go_ := g
                              refine g_callv (va_runV (As := [.int 6, .int r_405]) (rest := []) ⟨hx, hb, hml, hown, hts⟩ (r_X8_fail_2 l dC dI L kd tys fr_407 H.size g.2.2.2.1 q0_ mq0_ kq0_ 6 (bd_sub kb_6 (by decide)) r_405 x_346 h_347 (g.fcts [1] rfl)) (cwV 2 hts (gV_ t_1122 t_1107 t_1108 t_184 t_1109) rfl rfl rfl (by decide +kernel) ⟨(Nat.le_of_ble_eq_true rfl), (Nat.le_of_ble_eq_true rfl)⟩) (pre3V g hK mq0_ kq0_ (by decide) (q := (RX8, TX8, 10)) rfl) rfl rfl hl.1 rfl (lv_room (Nat.le_of_ble_eq_true rfl)) dX2_readArguments_196 ⟨(Nat.le_of_ble_eq_true rfl), (Nat.le_of_ble_eq_true rfl)⟩) g hK (by decide) (by decide) (fx' := [(8, 8, q0_, .int x_346), (0, 2, q2_, .ref q6_), (2, 14, a0_, .int x_11), (2, 0, a0_, .ref q0_), (2, 1, a0_, .ref q1_), (2, 2, a0_, .ref q2_), (2, 3, a0_, .ref q3_), (0, 0, q2_, .ref q0_), (0, 1, q2_, .ref q1_), (5, 0, q1_, .ref q6_), (5, 1, q1_, .ref q7_)]) rfl (fun fr_432 H locs hp hMr_432 g => ?_)
                              have hF_433 := hp
                              have hG_434 := eOK.frame hMr_432 go_.2.2.2.1 mq2_ kq2_ (by decide) (by decide) hG_411
                              have g := g.more hF_433
                              refine lv_aload_n hx hb dX2_readArguments_199 rfl (lv_at hl 5 rfl) ?_
                              refine g_getk (C := RX2) (T := TX2) (N := 16) hx hb hts (mc_ inX2) hown hK g rfl 3 (by decide) rfl (hts _ (List.mem_cons_of_mem _ t_419)) (fun _ h9 => h9) 7 rfl dX2_readArguments_200 ?_
                              refine lv_aload_n hx hb dX2_readArguments_203 rfl (lv_at hl 5 rfl) ?_
                              refine g_geti (C := RX2) (T := TX2) (N := 16) hx hb hts (mc_ inX2) hown hK g ma0_ ka0_ (by decide) rfl 12 (by decide) rfl (hts _ (List.mem_cons_of_mem _ t_428)) (fun _ h9 => h9) rfl dX2_readArguments_204 (fun x_435 bx_435 g => ?_)
                              refine lv_aload_n hx hb dX2_readArguments_207 rfl (lv_at hl 5 rfl) ?_
                              refine g_geti (C := RX2) (T := TX2) (N := 16) hx hb hts (mc_ inX2) hown hK g ma0_ ka0_ (by decide) rfl 13 (by decide) rfl (hts _ (List.mem_cons_of_mem _ t_429)) (fun _ h9 => h9) rfl dX2_readArguments_208 (fun x_436 bx_436 g => ?_)
                              have go_ := g
                              refine g_callv (va_runV (As := [.int x_435, .int x_436]) (rest := []) ⟨hx, hb, hml, hown, hts⟩ (r_X7_emit l dC dI L kd tys fr_432 H.size g.2.2.2.1 q3_ mq3_ kq3_ x_435 x_436) (cwV 2 hts (gV_ t_1301 t_1204 t_1205 t_191 t_1206) rfl rfl rfl (by decide +kernel) ⟨(Nat.le_of_ble_eq_true rfl), (Nat.le_of_ble_eq_true rfl)⟩) (pre3V g hK mq3_ kq3_ (by decide) (q := (RX7, TX7, 19)) rfl) rfl rfl hl.1 rfl (lv_room (Nat.le_of_ble_eq_true rfl)) dX2_readArguments_211 ⟨(Nat.le_of_ble_eq_true rfl), (Nat.le_of_ble_eq_true rfl)⟩) g hK (by decide) (by decide) (fx' := [(2, 13, a0_, .int x_436), (2, 12, a0_, .int x_435), (8, 6, q0_, .int 1201), (8, 8, q0_, .int x_346), (0, 2, q2_, .ref q6_), (2, 14, a0_, .int x_11), (2, 0, a0_, .ref q0_), (2, 1, a0_, .ref q1_), (2, 2, a0_, .ref q2_), (2, 3, a0_, .ref q3_), (0, 0, q2_, .ref q0_), (0, 1, q2_, .ref q1_), (5, 0, q1_, .ref q6_), (5, 1, q1_, .ref q7_)]) rfl (fun fr_437 H locs hp hMr_437 g => ?_)
                              obtain ⟨x_438, h_439, hF_440⟩ := hp
                              have hG_441 := eOK.frame hMr_437 go_.2.2.2.1 mq2_ kq2_ (by decide) (by decide) hG_434
                              have g := g.more hF_440
                              refine lv_aload_n hx hb dX2_readArguments_214 rfl (lv_at hl 5 rfl) ?_
                              refine g_getk (C := RX2) (T := TX2) (N := 16) hx hb hts (mc_ inX2) hown hK g rfl 3 (by decide) rfl (hts _ (List.mem_cons_of_mem _ t_419)) (fun _ h9 => h9) 10 rfl dX2_readArguments_215 ?_
                              refine lv_bipush (v := 22) hx hb dX2_readArguments_218 (by decide) ?_
                              refine lv_iconst (v := 0) hx hb dX2_readArguments_220 (by decide) ?_
                              have go_ := g
                              refine g_callv (va_runV (As := [.int 22, .int 0]) (rest := []) ⟨hx, hb, hml, hown, hts⟩ (r_X7_emit l dC dI L kd tys fr_437 H.size g.2.2.2.1 q3_ mq3_ kq3_ 22 0) (cwV 2 hts (gV_ t_1301 t_1204 t_1205 t_191 t_1206) rfl rfl rfl (by decide +kernel) ⟨(Nat.le_of_ble_eq_true rfl), (Nat.le_of_ble_eq_true rfl)⟩) (pre3V g hK mq3_ kq3_ (by decide) (q := (RX7, TX7, 19)) rfl) rfl rfl hl.1 rfl (lv_room (Nat.le_of_ble_eq_true rfl)) dX2_readArguments_221 ⟨(Nat.le_of_ble_eq_true rfl), (Nat.le_of_ble_eq_true rfl)⟩) g hK (by decide) (by decide) (fx' := [(2, 13, a0_, .int x_436), (2, 12, a0_, .int x_435), (8, 6, q0_, .int 1201), (8, 8, q0_, .int x_346), (0, 2, q2_, .ref q6_), (2, 14, a0_, .int x_11), (2, 0, a0_, .ref q0_), (2, 1, a0_, .ref q1_), (2, 2, a0_, .ref q2_), (2, 3, a0_, .ref q3_), (0, 0, q2_, .ref q0_), (0, 1, q2_, .ref q1_), (5, 0, q1_, .ref q6_), (5, 1, q1_, .ref q7_)]) rfl (fun fr_442 H locs hp hMr_442 g => ?_)
                              obtain ⟨x_443, h_444, hF_445⟩ := hp
                              have hG_446 := eOK.frame hMr_442 go_.2.2.2.1 mq2_ kq2_ (by decide) (by decide) hG_441
                              have g := g.more hF_445
                              refine lv_aload_n hx hb dX2_readArguments_224 rfl (lv_at hl 5 rfl) ?_
                              refine g_getk (C := RX2) (T := TX2) (N := 16) hx hb hts (mc_ inX2) hown hK g rfl 0 (by decide) rfl (hts _ (List.mem_cons_of_mem _ t_416)) (fun _ h9 => h9) 7 rfl dX2_readArguments_225 ?_
                              refine lv_bipush (v := 59) hx hb dX2_readArguments_228 (by decide) ?_
                              have go_ := g
                              refine g_callv (va_runV (As := [.int 59]) (rest := []) ⟨hx, hb, hml, hown, hts⟩ (r_X8_take_2 l dC dI L kd tys fr_442 H.size g.2.2.2.1 q0_ mq0_ kq0_ 59 1201 kb_1201 x_346 h_347 (g.fcts [3, 4] rfl)) (cwV 1 hts (gV_ t_1098 t_1099 t_1100 t_184 t_1101) rfl rfl rfl (by decide +kernel) ⟨(Nat.le_of_ble_eq_true rfl), (Nat.le_of_ble_eq_true rfl)⟩) (pre3V g hK mq0_ kq0_ (by decide) (q := (RX8, TX8, 10)) rfl) rfl rfl hl.1 rfl (lv_room (Nat.le_of_ble_eq_true rfl)) dX2_readArguments_230 ⟨(Nat.le_of_ble_eq_true rfl), (Nat.le_of_ble_eq_true rfl)⟩) g hK (by decide) (by decide) (fx' := [(7, 6, q3_, .int x_443), (2, 13, a0_, .int x_436), (2, 12, a0_, .int x_435), (8, 8, q0_, .int x_346), (0, 2, q2_, .ref q6_), (2, 14, a0_, .int x_11), (2, 0, a0_, .ref q0_), (2, 1, a0_, .ref q1_), (2, 2, a0_, .ref q2_), (2, 3, a0_, .ref q3_), (0, 0, q2_, .ref q0_), (0, 1, q2_, .ref q1_), (5, 0, q1_, .ref q6_), (5, 1, q1_, .ref q7_)]) rfl (fun fr_447 H locs hp hMr_447 g => ?_)
                              obtain ⟨x_448, h_449, hF_450⟩ := hp
                              have hG_451 := eOK.frame hMr_447 go_.2.2.2.1 mq2_ kq2_ (by decide) (by decide) hG_446
                              have g := g.more hF_450
                              subst hQ
                              exact W.vret hx hb hr (fun t ht hW => ⟨⟨_, rfl, Or.inr (⟨hG_451, x_448, h_449, x_346, h_347, x_443, h_444, (g.fcts [0, 4, 1] rfl)⟩), q3_of g hK ht hW⟩, g.2.2.1.F ht⟩) g.2.2.1.2.2 dX2_readArguments_233
                          · have fc_404 := eq_f c_404
                            have b_452 : bd 1 0 x_346 := eqX fc_404 h_347 kb_0 (by decide)
                            exact bd_no b_452 (by decide)
                  · have g := g.more hF_325
                    have kb_1 : bd 1 1 (1 : Int32) := ⟨by decide, by decide⟩
                    obtain ⟨y_453, ey_453⟩ : ∃ z : Int32, z = v69_2 + 1 := ⟨_, rfl⟩
                    refine lv_iinc (v := y_453) (lv' := [(2, .int y_453), (4, .int v69_4), (3, .int v69_3), (1, .int r_1), (0, .ref a0_)]) hx hb dX2_readArguments_96 hl (k := 2) rfl (by rw [ey_453]; rfl) (by decide) rfl (fun ls hl => ?_)
                    refine lv_aload_n hx hb dX2_readArguments_99 rfl (lv_at hl 4 rfl) ?_
                    refine g_getk (C := RX2) (T := TX2) (N := 16) hx hb hts (mc_ inX2) hown hK g rfl 0 (by decide) rfl (hts _ (List.mem_cons_of_mem _ t_416)) (fun _ h9 => h9) 4 rfl dX2_readArguments_100 ?_
                    have go_ := g
                    refine g_calli (va_runV (As := []) (rest := []) ⟨hx, hb, hml, hown, hts⟩ (r_X8_kind_2 l dC dI L kd tys fr_317 H.size g.2.2.2.1 q0_ mq0_ kq0_ x_321 h_322 (g.fcts [0] rfl)) (cwV 0 hts (gV_ t_1118 t_1119 t_1120 t_184 t_1121) rfl rfl rfl (by decide +kernel) ⟨(Nat.le_of_ble_eq_true rfl), (Nat.le_of_ble_eq_true rfl)⟩) (pre3V g hK mq0_ kq0_ (by decide) (q := (RX8, TX8, 10)) rfl) rfl rfl hl.1 rfl (lv_room (Nat.le_of_ble_eq_true rfl)) dX2_readArguments_103 ⟨(Nat.le_of_ble_eq_true rfl), (Nat.le_of_ble_eq_true rfl)⟩) g hK (by decide) (by decide) (fx' := [(8, 6, q0_, .int x_321), (8, 8, q0_, .int x_323), (0, 2, q2_, .ref q6_), (2, 14, a0_, .int x_11), (2, 0, a0_, .ref q0_), (2, 1, a0_, .ref q1_), (2, 2, a0_, .ref q2_), (2, 3, a0_, .ref q3_), (0, 0, q2_, .ref q0_), (0, 1, q2_, .ref q1_), (5, 0, q1_, .ref q6_), (5, 1, q1_, .ref q7_)]) rfl (fun r_454 fr_454 H locs hp hMr_454 g => ?_)
                    obtain ⟨h_455, -⟩ := hp
                    have hG_456 := eOK.frame hMr_454 go_.2.2.2.1 mq2_ kq2_ (by decide) (by decide) hG_320
                    obtain rfl : r_454 = 0 := h_455
                    refine lv_bipush (v := 44) hx hb dX2_readArguments_106 (by decide) ?_
                    refine lv_icmp_ne (tgt := 115) hx hb dX2_readArguments_108 (by decide) (fun c_ => ?_) (fun c_ => absurd c_ (by decide))
                    refine lv_iconst (v := 0) hx hb dX2_readArguments_115 (by decide) ?_
                    refine lv_istore_n (lv' := [(3, .int 0), (2, .int y_453), (4, .int v69_4), (1, .int r_1), (0, .ref a0_)]) hx hb dX2_readArguments_116 rfl hl (by decide) rfl (fun ls hl => ?_)
                    refine lv_iload_n hx hb dX2_readArguments_117 rfl (lv_at hl 0 rfl) ?_
                    refine lv_if_eq (tgt := 156) hx hb dX2_readArguments_118 (by decide) (fun c_ => ?_) (fun c_ => absurd (by decide) c_)
                    obtain ⟨y_457, ey_457⟩ : ∃ z : Int32, z = v69_4 + 1 := ⟨_, rfl⟩
                    refine lv_iinc (v := y_457) (lv' := [(4, .int y_457), (3, .int 0), (2, .int y_453), (1, .int r_1), (0, .ref a0_)]) hx hb dX2_readArguments_156 hl (k := 2) rfl (by rw [ey_457]; rfl) (by decide) rfl (fun ls hl => ?_)
                    have ty_457 := add_bd ey_457 b_214 kb_1 (by decide)
                    have b_458 : bd 1 4 y_457 := add_rg ty_457 b_214 kb_1 (by decide)
                    refine lv_goto (tgt := 69) hx hb dX2_readArguments_159 (by decide) ?_
                    refine lv_iload hx hb dX2_readArguments_69 (lv_at hl 0 rfl) ?_
                    refine lv_iconst (v := 3) hx hb dX2_readArguments_71 (by decide) ?_
                    refine lv_icmp_gt (tgt := 162) hx hb dX2_readArguments_72 (by decide) (fun c_459 => ?_) (fun c_459 => ?_)
                    · have fc_459 := lt_f c_459
                      have b_460 : bd 4 4 y_457 := ltR fc_459 kb_3 b_458 (by decide)
                      have b_461 : bd 3 3 v69_4 := add_inv ty_457 b_460 b_214 kb_1 (by decide)
                      refine lv_aload_n hx hb dX2_readArguments_162 rfl (lv_at hl 4 rfl) ?_
                      refine g_getk (C := RX2) (T := TX2) (N := 16) hx hb hts (mc_ inX2) hown hK g rfl 0 (by decide) rfl (hts _ (List.mem_cons_of_mem _ t_416)) (fun _ h9 => h9) 4 rfl dX2_readArguments_163 ?_
                      have go_ := g
                      refine g_calli (va_runV (As := []) (rest := []) ⟨hx, hb, hml, hown, hts⟩ (r_X8_place l dC dI L kd tys fr_454 H.size g.2.2.2.1 q0_ mq0_ kq0_) (cwV 0 hts (gV_ t_1110 t_1111 t_1112 t_184 t_1113) rfl rfl rfl (by decide +kernel) ⟨(Nat.le_of_ble_eq_true rfl), (Nat.le_of_ble_eq_true rfl)⟩) (pre3V g hK mq0_ kq0_ (by decide) (q := (RX8, TX8, 10)) rfl) rfl rfl hl.1 rfl (lv_room (Nat.le_of_ble_eq_true rfl)) dX2_readArguments_166 ⟨(Nat.le_of_ble_eq_true rfl), (Nat.le_of_ble_eq_true rfl)⟩) g hK (by decide) (by decide) (fx' := [(8, 6, q0_, .int x_321), (8, 8, q0_, .int x_323), (0, 2, q2_, .ref q6_), (2, 14, a0_, .int x_11), (2, 0, a0_, .ref q0_), (2, 1, a0_, .ref q1_), (2, 2, a0_, .ref q2_), (2, 3, a0_, .ref q3_), (0, 0, q2_, .ref q0_), (0, 1, q2_, .ref q1_), (5, 0, q1_, .ref q6_), (5, 1, q1_, .ref q7_)]) rfl (fun r_462 fr_462 H locs hp hMr_462 g => ?_)
                      have hG_463 := eOK.frame hMr_462 go_.2.2.2.1 mq2_ kq2_ (by decide) (by decide) hG_456
                      refine lv_istore (lv' := [(4, .int r_462), (3, .int 0), (2, .int y_453), (1, .int r_1), (0, .ref a0_)]) hx hb dX2_readArguments_169 hl (by decide) rfl (fun ls hl => ?_)
                      refine lv_aload_n hx hb dX2_readArguments_171 rfl (lv_at hl 4 rfl) ?_
                      refine g_getk (C := RX2) (T := TX2) (N := 16) hx hb hts (mc_ inX2) hown hK g rfl 0 (by decide) rfl (hts _ (List.mem_cons_of_mem _ t_416)) (fun _ h9 => h9) 4 rfl dX2_readArguments_172 ?_
                      refine lv_bipush (v := 41) hx hb dX2_readArguments_175 (by decide) ?_
                      have go_ := g
                      refine g_callv (va_runV (As := [.int 41]) (rest := []) ⟨hx, hb, hml, hown, hts⟩ (r_X8_take_2 l dC dI L kd tys fr_462 H.size g.2.2.2.1 q0_ mq0_ kq0_ 41 x_321 h_322 x_323 h_324 (g.fcts [0, 1] rfl)) (cwV 1 hts (gV_ t_1098 t_1099 t_1100 t_184 t_1101) rfl rfl rfl (by decide +kernel) ⟨(Nat.le_of_ble_eq_true rfl), (Nat.le_of_ble_eq_true rfl)⟩) (pre3V g hK mq0_ kq0_ (by decide) (q := (RX8, TX8, 10)) rfl) rfl rfl hl.1 rfl (lv_room (Nat.le_of_ble_eq_true rfl)) dX2_readArguments_177 ⟨(Nat.le_of_ble_eq_true rfl), (Nat.le_of_ble_eq_true rfl)⟩) g hK (by decide) (by decide) (fx' := [(8, 8, q0_, .int x_323), (0, 2, q2_, .ref q6_), (2, 14, a0_, .int x_11), (2, 0, a0_, .ref q0_), (2, 1, a0_, .ref q1_), (2, 2, a0_, .ref q2_), (2, 3, a0_, .ref q3_), (0, 0, q2_, .ref q0_), (0, 1, q2_, .ref q1_), (5, 0, q1_, .ref q6_), (5, 1, q1_, .ref q7_)]) rfl (fun fr_464 H locs hp hMr_464 g => ?_)
                      obtain ⟨x_465, h_466, hF_467⟩ := hp
                      have hG_468 := eOK.frame hMr_464 go_.2.2.2.1 mq2_ kq2_ (by decide) (by decide) hG_463
                      have g := g.more hF_467
                      refine lv_iload_n hx hb dX2_readArguments_180 rfl (lv_at hl 2 rfl) ?_
                      refine lv_aload_n hx hb dX2_readArguments_181 rfl (lv_at hl 4 rfl) ?_
                      refine g_getk (C := RX2) (T := TX2) (N := 16) hx hb hts (mc_ inX2) hown hK g rfl 14 (by decide) rfl (hts _ (List.mem_cons_of_mem _ t_430)) (fun _ h9 => h9) 3 rfl dX2_readArguments_182 ?_
                      refine lv_icmp_ge (tgt := 199) hx hb dX2_readArguments_185 (by decide) (fun c_469 => ?_) (fun c_469 => ?_)
                      · have fc_469 := le_f c_469
                        refine lv_aload_n hx hb dX2_readArguments_199 rfl (lv_at hl 4 rfl) ?_
                        refine g_getk (C := RX2) (T := TX2) (N := 16) hx hb hts (mc_ inX2) hown hK g rfl 3 (by decide) rfl (hts _ (List.mem_cons_of_mem _ t_419)) (fun _ h9 => h9) 7 rfl dX2_readArguments_200 ?_
                        refine lv_aload_n hx hb dX2_readArguments_203 rfl (lv_at hl 4 rfl) ?_
                        refine g_geti (C := RX2) (T := TX2) (N := 16) hx hb hts (mc_ inX2) hown hK g ma0_ ka0_ (by decide) rfl 12 (by decide) rfl (hts _ (List.mem_cons_of_mem _ t_428)) (fun _ h9 => h9) rfl dX2_readArguments_204 (fun x_470 bx_470 g => ?_)
                        refine lv_aload_n hx hb dX2_readArguments_207 rfl (lv_at hl 4 rfl) ?_
                        refine g_geti (C := RX2) (T := TX2) (N := 16) hx hb hts (mc_ inX2) hown hK g ma0_ ka0_ (by decide) rfl 13 (by decide) rfl (hts _ (List.mem_cons_of_mem _ t_429)) (fun _ h9 => h9) rfl dX2_readArguments_208 (fun x_471 bx_471 g => ?_)
                        have go_ := g
                        refine g_callv (va_runV (As := [.int x_470, .int x_471]) (rest := []) ⟨hx, hb, hml, hown, hts⟩ (r_X7_emit l dC dI L kd tys fr_464 H.size g.2.2.2.1 q3_ mq3_ kq3_ x_470 x_471) (cwV 2 hts (gV_ t_1301 t_1204 t_1205 t_191 t_1206) rfl rfl rfl (by decide +kernel) ⟨(Nat.le_of_ble_eq_true rfl), (Nat.le_of_ble_eq_true rfl)⟩) (pre3V g hK mq3_ kq3_ (by decide) (q := (RX7, TX7, 19)) rfl) rfl rfl hl.1 rfl (lv_room (Nat.le_of_ble_eq_true rfl)) dX2_readArguments_211 ⟨(Nat.le_of_ble_eq_true rfl), (Nat.le_of_ble_eq_true rfl)⟩) g hK (by decide) (by decide) (fx' := [(2, 13, a0_, .int x_471), (2, 12, a0_, .int x_470), (8, 6, q0_, .int x_465), (8, 8, q0_, .int x_323), (0, 2, q2_, .ref q6_), (2, 14, a0_, .int x_11), (2, 0, a0_, .ref q0_), (2, 1, a0_, .ref q1_), (2, 2, a0_, .ref q2_), (2, 3, a0_, .ref q3_), (0, 0, q2_, .ref q0_), (0, 1, q2_, .ref q1_), (5, 0, q1_, .ref q6_), (5, 1, q1_, .ref q7_)]) rfl (fun fr_472 H locs hp hMr_472 g => ?_)
                        obtain ⟨x_473, h_474, hF_475⟩ := hp
                        have hG_476 := eOK.frame hMr_472 go_.2.2.2.1 mq2_ kq2_ (by decide) (by decide) hG_468
                        have g := g.more hF_475
                        refine lv_aload_n hx hb dX2_readArguments_214 rfl (lv_at hl 4 rfl) ?_
                        refine g_getk (C := RX2) (T := TX2) (N := 16) hx hb hts (mc_ inX2) hown hK g rfl 3 (by decide) rfl (hts _ (List.mem_cons_of_mem _ t_419)) (fun _ h9 => h9) 10 rfl dX2_readArguments_215 ?_
                        refine lv_bipush (v := 22) hx hb dX2_readArguments_218 (by decide) ?_
                        refine lv_iconst (v := 0) hx hb dX2_readArguments_220 (by decide) ?_
                        have go_ := g
                        refine g_callv (va_runV (As := [.int 22, .int 0]) (rest := []) ⟨hx, hb, hml, hown, hts⟩ (r_X7_emit l dC dI L kd tys fr_472 H.size g.2.2.2.1 q3_ mq3_ kq3_ 22 0) (cwV 2 hts (gV_ t_1301 t_1204 t_1205 t_191 t_1206) rfl rfl rfl (by decide +kernel) ⟨(Nat.le_of_ble_eq_true rfl), (Nat.le_of_ble_eq_true rfl)⟩) (pre3V g hK mq3_ kq3_ (by decide) (q := (RX7, TX7, 19)) rfl) rfl rfl hl.1 rfl (lv_room (Nat.le_of_ble_eq_true rfl)) dX2_readArguments_221 ⟨(Nat.le_of_ble_eq_true rfl), (Nat.le_of_ble_eq_true rfl)⟩) g hK (by decide) (by decide) (fx' := [(2, 13, a0_, .int x_471), (2, 12, a0_, .int x_470), (8, 6, q0_, .int x_465), (8, 8, q0_, .int x_323), (0, 2, q2_, .ref q6_), (2, 14, a0_, .int x_11), (2, 0, a0_, .ref q0_), (2, 1, a0_, .ref q1_), (2, 2, a0_, .ref q2_), (2, 3, a0_, .ref q3_), (0, 0, q2_, .ref q0_), (0, 1, q2_, .ref q1_), (5, 0, q1_, .ref q6_), (5, 1, q1_, .ref q7_)]) rfl (fun fr_477 H locs hp hMr_477 g => ?_)
                        obtain ⟨x_478, h_479, hF_480⟩ := hp
                        have hG_481 := eOK.frame hMr_477 go_.2.2.2.1 mq2_ kq2_ (by decide) (by decide) hG_476
                        have g := g.more hF_480
                        refine lv_aload_n hx hb dX2_readArguments_224 rfl (lv_at hl 4 rfl) ?_
                        refine g_getk (C := RX2) (T := TX2) (N := 16) hx hb hts (mc_ inX2) hown hK g rfl 0 (by decide) rfl (hts _ (List.mem_cons_of_mem _ t_416)) (fun _ h9 => h9) 7 rfl dX2_readArguments_225 ?_
                        refine lv_bipush (v := 59) hx hb dX2_readArguments_228 (by decide) ?_
                        have go_ := g
                        refine g_callv (va_runV (As := [.int 59]) (rest := []) ⟨hx, hb, hml, hown, hts⟩ (r_X8_take_2 l dC dI L kd tys fr_477 H.size g.2.2.2.1 q0_ mq0_ kq0_ 59 x_465 h_466 x_323 h_324 (g.fcts [3, 4] rfl)) (cwV 1 hts (gV_ t_1098 t_1099 t_1100 t_184 t_1101) rfl rfl rfl (by decide +kernel) ⟨(Nat.le_of_ble_eq_true rfl), (Nat.le_of_ble_eq_true rfl)⟩) (pre3V g hK mq0_ kq0_ (by decide) (q := (RX8, TX8, 10)) rfl) rfl rfl hl.1 rfl (lv_room (Nat.le_of_ble_eq_true rfl)) dX2_readArguments_230 ⟨(Nat.le_of_ble_eq_true rfl), (Nat.le_of_ble_eq_true rfl)⟩) g hK (by decide) (by decide) (fx' := [(7, 6, q3_, .int x_478), (2, 13, a0_, .int x_471), (2, 12, a0_, .int x_470), (8, 8, q0_, .int x_323), (0, 2, q2_, .ref q6_), (2, 14, a0_, .int x_11), (2, 0, a0_, .ref q0_), (2, 1, a0_, .ref q1_), (2, 2, a0_, .ref q2_), (2, 3, a0_, .ref q3_), (0, 0, q2_, .ref q0_), (0, 1, q2_, .ref q1_), (5, 0, q1_, .ref q6_), (5, 1, q1_, .ref q7_)]) rfl (fun fr_482 H locs hp hMr_482 g => ?_)
                        obtain ⟨x_483, h_484, hF_485⟩ := hp
                        have hG_486 := eOK.frame hMr_482 go_.2.2.2.1 mq2_ kq2_ (by decide) (by decide) hG_481
                        have g := g.more hF_485
                        subst hQ
                        exact W.vret hx hb hr (fun t ht hW => ⟨⟨_, rfl, Or.inr (⟨hG_486, x_483, h_484, x_323, h_324, x_478, h_479, (g.fcts [0, 4, 1] rfl)⟩), q3_of g hK ht hW⟩, g.2.2.1.F ht⟩) g.2.2.1.2.2 dX2_readArguments_233
                      · have fc_469 := nle_f c_469
                        have b_487 : bd (-2147483648) 2147483646 y_453 := ltL fc_469 (bdT y_453) (bdT x_11) (by decide)
                        have b_488 : bd (-2147483647) 2147483647 x_11 := ltR fc_469 (bdT y_453) (bdT x_11) (by decide)
                        refine lv_aload_n hx hb dX2_readArguments_188 rfl (lv_at hl 4 rfl) ?_
                        refine g_getk (C := RX2) (T := TX2) (N := 16) hx hb hts (mc_ inX2) hown hK g rfl 0 (by decide) rfl (hts _ (List.mem_cons_of_mem _ t_416)) (fun _ h9 => h9) 4 rfl dX2_readArguments_189 ?_
                        refine lv_bipush (v := 6) hx hb dX2_readArguments_192 (by decide) ?_
                        refine lv_iload hx hb dX2_readArguments_194 (lv_at hl 0 rfl) ?_
                        have kb_6 : bd 6 6 (6 : Int32) := ⟨by decide, by decide⟩
                        have go_ := g
                        refine g_callv (va_runV (As := [.int 6, .int r_462]) (rest := []) ⟨hx, hb, hml, hown, hts⟩ (r_X8_fail_2 l dC dI L kd tys fr_464 H.size g.2.2.2.1 q0_ mq0_ kq0_ 6 (bd_sub kb_6 (by decide)) r_462 x_323 h_324 (g.fcts [1] rfl)) (cwV 2 hts (gV_ t_1122 t_1107 t_1108 t_184 t_1109) rfl rfl rfl (by decide +kernel) ⟨(Nat.le_of_ble_eq_true rfl), (Nat.le_of_ble_eq_true rfl)⟩) (pre3V g hK mq0_ kq0_ (by decide) (q := (RX8, TX8, 10)) rfl) rfl rfl hl.1 rfl (lv_room (Nat.le_of_ble_eq_true rfl)) dX2_readArguments_196 ⟨(Nat.le_of_ble_eq_true rfl), (Nat.le_of_ble_eq_true rfl)⟩) g hK (by decide) (by decide) (fx' := [(8, 8, q0_, .int x_323), (0, 2, q2_, .ref q6_), (2, 14, a0_, .int x_11), (2, 0, a0_, .ref q0_), (2, 1, a0_, .ref q1_), (2, 2, a0_, .ref q2_), (2, 3, a0_, .ref q3_), (0, 0, q2_, .ref q0_), (0, 1, q2_, .ref q1_), (5, 0, q1_, .ref q6_), (5, 1, q1_, .ref q7_)]) rfl (fun fr_489 H locs hp hMr_489 g => ?_)
                        have hF_490 := hp
                        have hG_491 := eOK.frame hMr_489 go_.2.2.2.1 mq2_ kq2_ (by decide) (by decide) hG_468
                        have g := g.more hF_490
                        refine lv_aload_n hx hb dX2_readArguments_199 rfl (lv_at hl 4 rfl) ?_
                        refine g_getk (C := RX2) (T := TX2) (N := 16) hx hb hts (mc_ inX2) hown hK g rfl 3 (by decide) rfl (hts _ (List.mem_cons_of_mem _ t_419)) (fun _ h9 => h9) 7 rfl dX2_readArguments_200 ?_
                        refine lv_aload_n hx hb dX2_readArguments_203 rfl (lv_at hl 4 rfl) ?_
                        refine g_geti (C := RX2) (T := TX2) (N := 16) hx hb hts (mc_ inX2) hown hK g ma0_ ka0_ (by decide) rfl 12 (by decide) rfl (hts _ (List.mem_cons_of_mem _ t_428)) (fun _ h9 => h9) rfl dX2_readArguments_204 (fun x_492 bx_492 g => ?_)
                        refine lv_aload_n hx hb dX2_readArguments_207 rfl (lv_at hl 4 rfl) ?_
                        refine g_geti (C := RX2) (T := TX2) (N := 16) hx hb hts (mc_ inX2) hown hK g ma0_ ka0_ (by decide) rfl 13 (by decide) rfl (hts _ (List.mem_cons_of_mem _ t_429)) (fun _ h9 => h9) rfl dX2_readArguments_208 (fun x_493 bx_493 g => ?_)
                        have go_ := g
                        refine g_callv (va_runV (As := [.int x_492, .int x_493]) (rest := []) ⟨hx, hb, hml, hown, hts⟩ (r_X7_emit l dC dI L kd tys fr_489 H.size g.2.2.2.1 q3_ mq3_ kq3_ x_492 x_493) (cwV 2 hts (gV_ t_1301 t_1204 t_1205 t_191 t_1206) rfl rfl rfl (by decide +kernel) ⟨(Nat.le_of_ble_eq_true rfl), (Nat.le_of_ble_eq_true rfl)⟩) (pre3V g hK mq3_ kq3_ (by decide) (q := (RX7, TX7, 19)) rfl) rfl rfl hl.1 rfl (lv_room (Nat.le_of_ble_eq_true rfl)) dX2_readArguments_211 ⟨(Nat.le_of_ble_eq_true rfl), (Nat.le_of_ble_eq_true rfl)⟩) g hK (by decide) (by decide) (fx' := [(2, 13, a0_, .int x_493), (2, 12, a0_, .int x_492), (8, 6, q0_, .int 1201), (8, 8, q0_, .int x_323), (0, 2, q2_, .ref q6_), (2, 14, a0_, .int x_11), (2, 0, a0_, .ref q0_), (2, 1, a0_, .ref q1_), (2, 2, a0_, .ref q2_), (2, 3, a0_, .ref q3_), (0, 0, q2_, .ref q0_), (0, 1, q2_, .ref q1_), (5, 0, q1_, .ref q6_), (5, 1, q1_, .ref q7_)]) rfl (fun fr_494 H locs hp hMr_494 g => ?_)
                        obtain ⟨x_495, h_496, hF_497⟩ := hp
                        have hG_498 := eOK.frame hMr_494 go_.2.2.2.1 mq2_ kq2_ (by decide) (by decide) hG_491
                        have g := g.more hF_497
                        refine lv_aload_n hx hb dX2_readArguments_214 rfl (lv_at hl 4 rfl) ?_
                        refine g_getk (C := RX2) (T := TX2) (N := 16) hx hb hts (mc_ inX2) hown hK g rfl 3 (by decide) rfl (hts _ (List.mem_cons_of_mem _ t_419)) (fun _ h9 => h9) 10 rfl dX2_readArguments_215 ?_
                        refine lv_bipush (v := 22) hx hb dX2_readArguments_218 (by decide) ?_
                        refine lv_iconst (v := 0) hx hb dX2_readArguments_220 (by decide) ?_
                        have go_ := g
                        refine g_callv (va_runV (As := [.int 22, .int 0]) (rest := []) ⟨hx, hb, hml, hown, hts⟩ (r_X7_emit l dC dI L kd tys fr_494 H.size g.2.2.2.1 q3_ mq3_ kq3_ 22 0) (cwV 2 hts (gV_ t_1301 t_1204 t_1205 t_191 t_1206) rfl rfl rfl (by decide +kernel) ⟨(Nat.le_of_ble_eq_true rfl), (Nat.le_of_ble_eq_true rfl)⟩) (pre3V g hK mq3_ kq3_ (by decide) (q := (RX7, TX7, 19)) rfl) rfl rfl hl.1 rfl (lv_room (Nat.le_of_ble_eq_true rfl)) dX2_readArguments_221 ⟨(Nat.le_of_ble_eq_true rfl), (Nat.le_of_ble_eq_true rfl)⟩) g hK (by decide) (by decide) (fx' := [(2, 13, a0_, .int x_493), (2, 12, a0_, .int x_492), (8, 6, q0_, .int 1201), (8, 8, q0_, .int x_323), (0, 2, q2_, .ref q6_), (2, 14, a0_, .int x_11), (2, 0, a0_, .ref q0_), (2, 1, a0_, .ref q1_), (2, 2, a0_, .ref q2_), (2, 3, a0_, .ref q3_), (0, 0, q2_, .ref q0_), (0, 1, q2_, .ref q1_), (5, 0, q1_, .ref q6_), (5, 1, q1_, .ref q7_)]) rfl (fun fr_499 H locs hp hMr_499 g => ?_)
                        obtain ⟨x_500, h_501, hF_502⟩ := hp
                        have hG_503 := eOK.frame hMr_499 go_.2.2.2.1 mq2_ kq2_ (by decide) (by decide) hG_498
                        have g := g.more hF_502
                        refine lv_aload_n hx hb dX2_readArguments_224 rfl (lv_at hl 4 rfl) ?_
                        refine g_getk (C := RX2) (T := TX2) (N := 16) hx hb hts (mc_ inX2) hown hK g rfl 0 (by decide) rfl (hts _ (List.mem_cons_of_mem _ t_416)) (fun _ h9 => h9) 7 rfl dX2_readArguments_225 ?_
                        refine lv_bipush (v := 59) hx hb dX2_readArguments_228 (by decide) ?_
                        have kb_1201 : bd 1201 1201 (1201 : Int32) := ⟨by decide, by decide⟩
                        have go_ := g
                        refine g_callv (va_runV (As := [.int 59]) (rest := []) ⟨hx, hb, hml, hown, hts⟩ (r_X8_take_2 l dC dI L kd tys fr_499 H.size g.2.2.2.1 q0_ mq0_ kq0_ 59 1201 kb_1201 x_323 h_324 (g.fcts [3, 4] rfl)) (cwV 1 hts (gV_ t_1098 t_1099 t_1100 t_184 t_1101) rfl rfl rfl (by decide +kernel) ⟨(Nat.le_of_ble_eq_true rfl), (Nat.le_of_ble_eq_true rfl)⟩) (pre3V g hK mq0_ kq0_ (by decide) (q := (RX8, TX8, 10)) rfl) rfl rfl hl.1 rfl (lv_room (Nat.le_of_ble_eq_true rfl)) dX2_readArguments_230 ⟨(Nat.le_of_ble_eq_true rfl), (Nat.le_of_ble_eq_true rfl)⟩) g hK (by decide) (by decide) (fx' := [(7, 6, q3_, .int x_500), (2, 13, a0_, .int x_493), (2, 12, a0_, .int x_492), (8, 8, q0_, .int x_323), (0, 2, q2_, .ref q6_), (2, 14, a0_, .int x_11), (2, 0, a0_, .ref q0_), (2, 1, a0_, .ref q1_), (2, 2, a0_, .ref q2_), (2, 3, a0_, .ref q3_), (0, 0, q2_, .ref q0_), (0, 1, q2_, .ref q1_), (5, 0, q1_, .ref q6_), (5, 1, q1_, .ref q7_)]) rfl (fun fr_504 H locs hp hMr_504 g => ?_)
                        obtain ⟨x_505, h_506, hF_507⟩ := hp
                        have hG_508 := eOK.frame hMr_504 go_.2.2.2.1 mq2_ kq2_ (by decide) (by decide) hG_503
                        have g := g.more hF_507
                        subst hQ
                        exact W.vret hx hb hr (fun t ht hW => ⟨⟨_, rfl, Or.inr (⟨hG_508, x_505, h_506, x_323, h_324, x_500, h_501, (g.fcts [0, 4, 1] rfl)⟩), q3_of g hK ht hW⟩, g.2.2.1.F ht⟩) g.2.2.1.2.2 dX2_readArguments_233
                    · have fc_459 := nlt_f c_459
                      have b_509 : bd 1 3 y_457 := leL fc_459 b_458 kb_3 (by decide)
                      have b_510 : bd 0 2 v69_4 := add_inv ty_457 b_509 b_214 kb_1 (by decide)
                      refine lv_iload_n hx hb dX2_readArguments_75 rfl (lv_at hl 1 rfl) ?_
                      refine lv_if_eq (tgt := 162) hx hb dX2_readArguments_76 (by decide) (fun c_ => ?_) (fun c_ => absurd (by decide) c_)
                      refine lv_aload_n hx hb dX2_readArguments_162 rfl (lv_at hl 4 rfl) ?_
                      refine g_getk (C := RX2) (T := TX2) (N := 16) hx hb hts (mc_ inX2) hown hK g rfl 0 (by decide) rfl (hts _ (List.mem_cons_of_mem _ t_416)) (fun _ h9 => h9) 4 rfl dX2_readArguments_163 ?_
                      have go_ := g
                      refine g_calli (va_runV (As := []) (rest := []) ⟨hx, hb, hml, hown, hts⟩ (r_X8_place l dC dI L kd tys fr_454 H.size g.2.2.2.1 q0_ mq0_ kq0_) (cwV 0 hts (gV_ t_1110 t_1111 t_1112 t_184 t_1113) rfl rfl rfl (by decide +kernel) ⟨(Nat.le_of_ble_eq_true rfl), (Nat.le_of_ble_eq_true rfl)⟩) (pre3V g hK mq0_ kq0_ (by decide) (q := (RX8, TX8, 10)) rfl) rfl rfl hl.1 rfl (lv_room (Nat.le_of_ble_eq_true rfl)) dX2_readArguments_166 ⟨(Nat.le_of_ble_eq_true rfl), (Nat.le_of_ble_eq_true rfl)⟩) g hK (by decide) (by decide) (fx' := [(8, 6, q0_, .int x_321), (8, 8, q0_, .int x_323), (0, 2, q2_, .ref q6_), (2, 14, a0_, .int x_11), (2, 0, a0_, .ref q0_), (2, 1, a0_, .ref q1_), (2, 2, a0_, .ref q2_), (2, 3, a0_, .ref q3_), (0, 0, q2_, .ref q0_), (0, 1, q2_, .ref q1_), (5, 0, q1_, .ref q6_), (5, 1, q1_, .ref q7_)]) rfl (fun r_511 fr_511 H locs hp hMr_511 g => ?_)
                      have hG_512 := eOK.frame hMr_511 go_.2.2.2.1 mq2_ kq2_ (by decide) (by decide) hG_456
                      refine lv_istore (lv' := [(4, .int r_511), (3, .int 0), (2, .int y_453), (1, .int r_1), (0, .ref a0_)]) hx hb dX2_readArguments_169 hl (by decide) rfl (fun ls hl => ?_)
                      refine lv_aload_n hx hb dX2_readArguments_171 rfl (lv_at hl 4 rfl) ?_
                      refine g_getk (C := RX2) (T := TX2) (N := 16) hx hb hts (mc_ inX2) hown hK g rfl 0 (by decide) rfl (hts _ (List.mem_cons_of_mem _ t_416)) (fun _ h9 => h9) 4 rfl dX2_readArguments_172 ?_
                      refine lv_bipush (v := 41) hx hb dX2_readArguments_175 (by decide) ?_
                      have go_ := g
                      refine g_callv (va_runV (As := [.int 41]) (rest := []) ⟨hx, hb, hml, hown, hts⟩ (r_X8_take_2 l dC dI L kd tys fr_511 H.size g.2.2.2.1 q0_ mq0_ kq0_ 41 x_321 h_322 x_323 h_324 (g.fcts [0, 1] rfl)) (cwV 1 hts (gV_ t_1098 t_1099 t_1100 t_184 t_1101) rfl rfl rfl (by decide +kernel) ⟨(Nat.le_of_ble_eq_true rfl), (Nat.le_of_ble_eq_true rfl)⟩) (pre3V g hK mq0_ kq0_ (by decide) (q := (RX8, TX8, 10)) rfl) rfl rfl hl.1 rfl (lv_room (Nat.le_of_ble_eq_true rfl)) dX2_readArguments_177 ⟨(Nat.le_of_ble_eq_true rfl), (Nat.le_of_ble_eq_true rfl)⟩) g hK (by decide) (by decide) (fx' := [(8, 8, q0_, .int x_323), (0, 2, q2_, .ref q6_), (2, 14, a0_, .int x_11), (2, 0, a0_, .ref q0_), (2, 1, a0_, .ref q1_), (2, 2, a0_, .ref q2_), (2, 3, a0_, .ref q3_), (0, 0, q2_, .ref q0_), (0, 1, q2_, .ref q1_), (5, 0, q1_, .ref q6_), (5, 1, q1_, .ref q7_)]) rfl (fun fr_513 H locs hp hMr_513 g => ?_)
                      obtain ⟨x_514, h_515, hF_516⟩ := hp
                      have hG_517 := eOK.frame hMr_513 go_.2.2.2.1 mq2_ kq2_ (by decide) (by decide) hG_512
                      have g := g.more hF_516
                      refine lv_iload_n hx hb dX2_readArguments_180 rfl (lv_at hl 2 rfl) ?_
                      refine lv_aload_n hx hb dX2_readArguments_181 rfl (lv_at hl 4 rfl) ?_
                      refine g_getk (C := RX2) (T := TX2) (N := 16) hx hb hts (mc_ inX2) hown hK g rfl 14 (by decide) rfl (hts _ (List.mem_cons_of_mem _ t_430)) (fun _ h9 => h9) 3 rfl dX2_readArguments_182 ?_
                      refine lv_icmp_ge (tgt := 199) hx hb dX2_readArguments_185 (by decide) (fun c_518 => ?_) (fun c_518 => ?_)
                      · have fc_518 := le_f c_518
                        refine lv_aload_n hx hb dX2_readArguments_199 rfl (lv_at hl 4 rfl) ?_
                        refine g_getk (C := RX2) (T := TX2) (N := 16) hx hb hts (mc_ inX2) hown hK g rfl 3 (by decide) rfl (hts _ (List.mem_cons_of_mem _ t_419)) (fun _ h9 => h9) 7 rfl dX2_readArguments_200 ?_
                        refine lv_aload_n hx hb dX2_readArguments_203 rfl (lv_at hl 4 rfl) ?_
                        refine g_geti (C := RX2) (T := TX2) (N := 16) hx hb hts (mc_ inX2) hown hK g ma0_ ka0_ (by decide) rfl 12 (by decide) rfl (hts _ (List.mem_cons_of_mem _ t_428)) (fun _ h9 => h9) rfl dX2_readArguments_204 (fun x_519 bx_519 g => ?_)
                        refine lv_aload_n hx hb dX2_readArguments_207 rfl (lv_at hl 4 rfl) ?_
                        refine g_geti (C := RX2) (T := TX2) (N := 16) hx hb hts (mc_ inX2) hown hK g ma0_ ka0_ (by decide) rfl 13 (by decide) rfl (hts _ (List.mem_cons_of_mem _ t_429)) (fun _ h9 => h9) rfl dX2_readArguments_208 (fun x_520 bx_520 g => ?_)
                        have go_ := g
                        refine g_callv (va_runV (As := [.int x_519, .int x_520]) (rest := []) ⟨hx, hb, hml, hown, hts⟩ (r_X7_emit l dC dI L kd tys fr_513 H.size g.2.2.2.1 q3_ mq3_ kq3_ x_519 x_520) (cwV 2 hts (gV_ t_1301 t_1204 t_1205 t_191 t_1206) rfl rfl rfl (by decide +kernel) ⟨(Nat.le_of_ble_eq_true rfl), (Nat.le_of_ble_eq_true rfl)⟩) (pre3V g hK mq3_ kq3_ (by decide) (q := (RX7, TX7, 19)) rfl) rfl rfl hl.1 rfl (lv_room (Nat.le_of_ble_eq_true rfl)) dX2_readArguments_211 ⟨(Nat.le_of_ble_eq_true rfl), (Nat.le_of_ble_eq_true rfl)⟩) g hK (by decide) (by decide) (fx' := [(2, 13, a0_, .int x_520), (2, 12, a0_, .int x_519), (8, 6, q0_, .int x_514), (8, 8, q0_, .int x_323), (0, 2, q2_, .ref q6_), (2, 14, a0_, .int x_11), (2, 0, a0_, .ref q0_), (2, 1, a0_, .ref q1_), (2, 2, a0_, .ref q2_), (2, 3, a0_, .ref q3_), (0, 0, q2_, .ref q0_), (0, 1, q2_, .ref q1_), (5, 0, q1_, .ref q6_), (5, 1, q1_, .ref q7_)]) rfl (fun fr_521 H locs hp hMr_521 g => ?_)
                        obtain ⟨x_522, h_523, hF_524⟩ := hp
                        have hG_525 := eOK.frame hMr_521 go_.2.2.2.1 mq2_ kq2_ (by decide) (by decide) hG_517
                        have g := g.more hF_524
                        refine lv_aload_n hx hb dX2_readArguments_214 rfl (lv_at hl 4 rfl) ?_
                        refine g_getk (C := RX2) (T := TX2) (N := 16) hx hb hts (mc_ inX2) hown hK g rfl 3 (by decide) rfl (hts _ (List.mem_cons_of_mem _ t_419)) (fun _ h9 => h9) 10 rfl dX2_readArguments_215 ?_
                        refine lv_bipush (v := 22) hx hb dX2_readArguments_218 (by decide) ?_
                        refine lv_iconst (v := 0) hx hb dX2_readArguments_220 (by decide) ?_
                        have go_ := g
                        refine g_callv (va_runV (As := [.int 22, .int 0]) (rest := []) ⟨hx, hb, hml, hown, hts⟩ (r_X7_emit l dC dI L kd tys fr_521 H.size g.2.2.2.1 q3_ mq3_ kq3_ 22 0) (cwV 2 hts (gV_ t_1301 t_1204 t_1205 t_191 t_1206) rfl rfl rfl (by decide +kernel) ⟨(Nat.le_of_ble_eq_true rfl), (Nat.le_of_ble_eq_true rfl)⟩) (pre3V g hK mq3_ kq3_ (by decide) (q := (RX7, TX7, 19)) rfl) rfl rfl hl.1 rfl (lv_room (Nat.le_of_ble_eq_true rfl)) dX2_readArguments_221 ⟨(Nat.le_of_ble_eq_true rfl), (Nat.le_of_ble_eq_true rfl)⟩) g hK (by decide) (by decide) (fx' := [(2, 13, a0_, .int x_520), (2, 12, a0_, .int x_519), (8, 6, q0_, .int x_514), (8, 8, q0_, .int x_323), (0, 2, q2_, .ref q6_), (2, 14, a0_, .int x_11), (2, 0, a0_, .ref q0_), (2, 1, a0_, .ref q1_), (2, 2, a0_, .ref q2_), (2, 3, a0_, .ref q3_), (0, 0, q2_, .ref q0_), (0, 1, q2_, .ref q1_), (5, 0, q1_, .ref q6_), (5, 1, q1_, .ref q7_)]) rfl (fun fr_526 H locs hp hMr_526 g => ?_)
                        obtain ⟨x_527, h_528, hF_529⟩ := hp
                        have hG_530 := eOK.frame hMr_526 go_.2.2.2.1 mq2_ kq2_ (by decide) (by decide) hG_525
                        have g := g.more hF_529
                        refine lv_aload_n hx hb dX2_readArguments_224 rfl (lv_at hl 4 rfl) ?_
                        refine g_getk (C := RX2) (T := TX2) (N := 16) hx hb hts (mc_ inX2) hown hK g rfl 0 (by decide) rfl (hts _ (List.mem_cons_of_mem _ t_416)) (fun _ h9 => h9) 7 rfl dX2_readArguments_225 ?_
                        refine lv_bipush (v := 59) hx hb dX2_readArguments_228 (by decide) ?_
                        have go_ := g
                        refine g_callv (va_runV (As := [.int 59]) (rest := []) ⟨hx, hb, hml, hown, hts⟩ (r_X8_take_2 l dC dI L kd tys fr_526 H.size g.2.2.2.1 q0_ mq0_ kq0_ 59 x_514 h_515 x_323 h_324 (g.fcts [3, 4] rfl)) (cwV 1 hts (gV_ t_1098 t_1099 t_1100 t_184 t_1101) rfl rfl rfl (by decide +kernel) ⟨(Nat.le_of_ble_eq_true rfl), (Nat.le_of_ble_eq_true rfl)⟩) (pre3V g hK mq0_ kq0_ (by decide) (q := (RX8, TX8, 10)) rfl) rfl rfl hl.1 rfl (lv_room (Nat.le_of_ble_eq_true rfl)) dX2_readArguments_230 ⟨(Nat.le_of_ble_eq_true rfl), (Nat.le_of_ble_eq_true rfl)⟩) g hK (by decide) (by decide) (fx' := [(7, 6, q3_, .int x_527), (2, 13, a0_, .int x_520), (2, 12, a0_, .int x_519), (8, 8, q0_, .int x_323), (0, 2, q2_, .ref q6_), (2, 14, a0_, .int x_11), (2, 0, a0_, .ref q0_), (2, 1, a0_, .ref q1_), (2, 2, a0_, .ref q2_), (2, 3, a0_, .ref q3_), (0, 0, q2_, .ref q0_), (0, 1, q2_, .ref q1_), (5, 0, q1_, .ref q6_), (5, 1, q1_, .ref q7_)]) rfl (fun fr_531 H locs hp hMr_531 g => ?_)
                        obtain ⟨x_532, h_533, hF_534⟩ := hp
                        have hG_535 := eOK.frame hMr_531 go_.2.2.2.1 mq2_ kq2_ (by decide) (by decide) hG_530
                        have g := g.more hF_534
                        subst hQ
                        exact W.vret hx hb hr (fun t ht hW => ⟨⟨_, rfl, Or.inr (⟨hG_535, x_532, h_533, x_323, h_324, x_527, h_528, (g.fcts [0, 4, 1] rfl)⟩), q3_of g hK ht hW⟩, g.2.2.1.F ht⟩) g.2.2.1.2.2 dX2_readArguments_233
                      · have fc_518 := nle_f c_518
                        have b_536 : bd (-2147483648) 2147483646 y_453 := ltL fc_518 (bdT y_453) (bdT x_11) (by decide)
                        have b_537 : bd (-2147483647) 2147483647 x_11 := ltR fc_518 (bdT y_453) (bdT x_11) (by decide)
                        refine lv_aload_n hx hb dX2_readArguments_188 rfl (lv_at hl 4 rfl) ?_
                        refine g_getk (C := RX2) (T := TX2) (N := 16) hx hb hts (mc_ inX2) hown hK g rfl 0 (by decide) rfl (hts _ (List.mem_cons_of_mem _ t_416)) (fun _ h9 => h9) 4 rfl dX2_readArguments_189 ?_
                        refine lv_bipush (v := 6) hx hb dX2_readArguments_192 (by decide) ?_
                        refine lv_iload hx hb dX2_readArguments_194 (lv_at hl 0 rfl) ?_
                        have kb_6 : bd 6 6 (6 : Int32) := ⟨by decide, by decide⟩
                        have go_ := g
                        refine g_callv (va_runV (As := [.int 6, .int r_511]) (rest := []) ⟨hx, hb, hml, hown, hts⟩ (r_X8_fail_2 l dC dI L kd tys fr_513 H.size g.2.2.2.1 q0_ mq0_ kq0_ 6 (bd_sub kb_6 (by decide)) r_511 x_323 h_324 (g.fcts [1] rfl)) (cwV 2 hts (gV_ t_1122 t_1107 t_1108 t_184 t_1109) rfl rfl rfl (by decide +kernel) ⟨(Nat.le_of_ble_eq_true rfl), (Nat.le_of_ble_eq_true rfl)⟩) (pre3V g hK mq0_ kq0_ (by decide) (q := (RX8, TX8, 10)) rfl) rfl rfl hl.1 rfl (lv_room (Nat.le_of_ble_eq_true rfl)) dX2_readArguments_196 ⟨(Nat.le_of_ble_eq_true rfl), (Nat.le_of_ble_eq_true rfl)⟩) g hK (by decide) (by decide) (fx' := [(8, 8, q0_, .int x_323), (0, 2, q2_, .ref q6_), (2, 14, a0_, .int x_11), (2, 0, a0_, .ref q0_), (2, 1, a0_, .ref q1_), (2, 2, a0_, .ref q2_), (2, 3, a0_, .ref q3_), (0, 0, q2_, .ref q0_), (0, 1, q2_, .ref q1_), (5, 0, q1_, .ref q6_), (5, 1, q1_, .ref q7_)]) rfl (fun fr_538 H locs hp hMr_538 g => ?_)
                        have hF_539 := hp
                        have hG_540 := eOK.frame hMr_538 go_.2.2.2.1 mq2_ kq2_ (by decide) (by decide) hG_517
                        have g := g.more hF_539
                        refine lv_aload_n hx hb dX2_readArguments_199 rfl (lv_at hl 4 rfl) ?_
                        refine g_getk (C := RX2) (T := TX2) (N := 16) hx hb hts (mc_ inX2) hown hK g rfl 3 (by decide) rfl (hts _ (List.mem_cons_of_mem _ t_419)) (fun _ h9 => h9) 7 rfl dX2_readArguments_200 ?_
                        refine lv_aload_n hx hb dX2_readArguments_203 rfl (lv_at hl 4 rfl) ?_
                        refine g_geti (C := RX2) (T := TX2) (N := 16) hx hb hts (mc_ inX2) hown hK g ma0_ ka0_ (by decide) rfl 12 (by decide) rfl (hts _ (List.mem_cons_of_mem _ t_428)) (fun _ h9 => h9) rfl dX2_readArguments_204 (fun x_541 bx_541 g => ?_)
                        refine lv_aload_n hx hb dX2_readArguments_207 rfl (lv_at hl 4 rfl) ?_
                        refine g_geti (C := RX2) (T := TX2) (N := 16) hx hb hts (mc_ inX2) hown hK g ma0_ ka0_ (by decide) rfl 13 (by decide) rfl (hts _ (List.mem_cons_of_mem _ t_429)) (fun _ h9 => h9) rfl dX2_readArguments_208 (fun x_542 bx_542 g => ?_)
                        have go_ := g
                        refine g_callv (va_runV (As := [.int x_541, .int x_542]) (rest := []) ⟨hx, hb, hml, hown, hts⟩ (r_X7_emit l dC dI L kd tys fr_538 H.size g.2.2.2.1 q3_ mq3_ kq3_ x_541 x_542) (cwV 2 hts (gV_ t_1301 t_1204 t_1205 t_191 t_1206) rfl rfl rfl (by decide +kernel) ⟨(Nat.le_of_ble_eq_true rfl), (Nat.le_of_ble_eq_true rfl)⟩) (pre3V g hK mq3_ kq3_ (by decide) (q := (RX7, TX7, 19)) rfl) rfl rfl hl.1 rfl (lv_room (Nat.le_of_ble_eq_true rfl)) dX2_readArguments_211 ⟨(Nat.le_of_ble_eq_true rfl), (Nat.le_of_ble_eq_true rfl)⟩) g hK (by decide) (by decide) (fx' := [(2, 13, a0_, .int x_542), (2, 12, a0_, .int x_541), (8, 6, q0_, .int 1201), (8, 8, q0_, .int x_323), (0, 2, q2_, .ref q6_), (2, 14, a0_, .int x_11), (2, 0, a0_, .ref q0_), (2, 1, a0_, .ref q1_), (2, 2, a0_, .ref q2_), (2, 3, a0_, .ref q3_), (0, 0, q2_, .ref q0_), (0, 1, q2_, .ref q1_), (5, 0, q1_, .ref q6_), (5, 1, q1_, .ref q7_)]) rfl (fun fr_543 H locs hp hMr_543 g => ?_)
                        obtain ⟨x_544, h_545, hF_546⟩ := hp
                        have hG_547 := eOK.frame hMr_543 go_.2.2.2.1 mq2_ kq2_ (by decide) (by decide) hG_540
                        have g := g.more hF_546
                        refine lv_aload_n hx hb dX2_readArguments_214 rfl (lv_at hl 4 rfl) ?_
                        refine g_getk (C := RX2) (T := TX2) (N := 16) hx hb hts (mc_ inX2) hown hK g rfl 3 (by decide) rfl (hts _ (List.mem_cons_of_mem _ t_419)) (fun _ h9 => h9) 10 rfl dX2_readArguments_215 ?_
                        refine lv_bipush (v := 22) hx hb dX2_readArguments_218 (by decide) ?_
                        refine lv_iconst (v := 0) hx hb dX2_readArguments_220 (by decide) ?_
                        have go_ := g
                        refine g_callv (va_runV (As := [.int 22, .int 0]) (rest := []) ⟨hx, hb, hml, hown, hts⟩ (r_X7_emit l dC dI L kd tys fr_543 H.size g.2.2.2.1 q3_ mq3_ kq3_ 22 0) (cwV 2 hts (gV_ t_1301 t_1204 t_1205 t_191 t_1206) rfl rfl rfl (by decide +kernel) ⟨(Nat.le_of_ble_eq_true rfl), (Nat.le_of_ble_eq_true rfl)⟩) (pre3V g hK mq3_ kq3_ (by decide) (q := (RX7, TX7, 19)) rfl) rfl rfl hl.1 rfl (lv_room (Nat.le_of_ble_eq_true rfl)) dX2_readArguments_221 ⟨(Nat.le_of_ble_eq_true rfl), (Nat.le_of_ble_eq_true rfl)⟩) g hK (by decide) (by decide) (fx' := [(2, 13, a0_, .int x_542), (2, 12, a0_, .int x_541), (8, 6, q0_, .int 1201), (8, 8, q0_, .int x_323), (0, 2, q2_, .ref q6_), (2, 14, a0_, .int x_11), (2, 0, a0_, .ref q0_), (2, 1, a0_, .ref q1_), (2, 2, a0_, .ref q2_), (2, 3, a0_, .ref q3_), (0, 0, q2_, .ref q0_), (0, 1, q2_, .ref q1_), (5, 0, q1_, .ref q6_), (5, 1, q1_, .ref q7_)]) rfl (fun fr_548 H locs hp hMr_548 g => ?_)
                        obtain ⟨x_549, h_550, hF_551⟩ := hp
                        have hG_552 := eOK.frame hMr_548 go_.2.2.2.1 mq2_ kq2_ (by decide) (by decide) hG_547
                        have g := g.more hF_551
                        refine lv_aload_n hx hb dX2_readArguments_224 rfl (lv_at hl 4 rfl) ?_
                        refine g_getk (C := RX2) (T := TX2) (N := 16) hx hb hts (mc_ inX2) hown hK g rfl 0 (by decide) rfl (hts _ (List.mem_cons_of_mem _ t_416)) (fun _ h9 => h9) 7 rfl dX2_readArguments_225 ?_
                        refine lv_bipush (v := 59) hx hb dX2_readArguments_228 (by decide) ?_
                        have kb_1201 : bd 1201 1201 (1201 : Int32) := ⟨by decide, by decide⟩
                        have go_ := g
                        refine g_callv (va_runV (As := [.int 59]) (rest := []) ⟨hx, hb, hml, hown, hts⟩ (r_X8_take_2 l dC dI L kd tys fr_548 H.size g.2.2.2.1 q0_ mq0_ kq0_ 59 1201 kb_1201 x_323 h_324 (g.fcts [3, 4] rfl)) (cwV 1 hts (gV_ t_1098 t_1099 t_1100 t_184 t_1101) rfl rfl rfl (by decide +kernel) ⟨(Nat.le_of_ble_eq_true rfl), (Nat.le_of_ble_eq_true rfl)⟩) (pre3V g hK mq0_ kq0_ (by decide) (q := (RX8, TX8, 10)) rfl) rfl rfl hl.1 rfl (lv_room (Nat.le_of_ble_eq_true rfl)) dX2_readArguments_230 ⟨(Nat.le_of_ble_eq_true rfl), (Nat.le_of_ble_eq_true rfl)⟩) g hK (by decide) (by decide) (fx' := [(7, 6, q3_, .int x_549), (2, 13, a0_, .int x_542), (2, 12, a0_, .int x_541), (8, 8, q0_, .int x_323), (0, 2, q2_, .ref q6_), (2, 14, a0_, .int x_11), (2, 0, a0_, .ref q0_), (2, 1, a0_, .ref q1_), (2, 2, a0_, .ref q2_), (2, 3, a0_, .ref q3_), (0, 0, q2_, .ref q0_), (0, 1, q2_, .ref q1_), (5, 0, q1_, .ref q6_), (5, 1, q1_, .ref q7_)]) rfl (fun fr_553 H locs hp hMr_553 g => ?_)
                        obtain ⟨x_554, h_555, hF_556⟩ := hp
                        have hG_557 := eOK.frame hMr_553 go_.2.2.2.1 mq2_ kq2_ (by decide) (by decide) hG_552
                        have g := g.more hF_556
                        subst hQ
                        exact W.vret hx hb hr (fun t ht hW => ⟨⟨_, rfl, Or.inr (⟨hG_557, x_554, h_555, x_323, h_324, x_549, h_550, (g.fcts [0, 4, 1] rfl)⟩), q3_of g hK ht hW⟩, g.2.2.1.F ht⟩) g.2.2.1.2.2 dX2_readArguments_233
        have kb_1 : bd 1 1 (1 : Int32) := ⟨by decide, by decide⟩
        have hl9 := lv_sub hl [0, 1, 2, 3, 4] (by rfl : lv_pick [(4, .int 0), (3, .int 1), (2, .int 0), (1, .int r_1), (0, .ref a0_)] [0, 1, 2, 3, 4] = [(4, .int 0), (3, .int 1), (2, .int 0), (1, .int r_1), (0, .ref a0_)])
        have g9 := g.sub (fx' := [(2, 14, a0_, .int x_11), (8, 8, q0_, .int y0_), (2, 0, a0_, .ref q0_), (2, 1, a0_, .ref q1_), (2, 2, a0_, .ref q2_), (2, 3, a0_, .ref q3_), (0, 0, q2_, .ref q0_), (0, 1, q2_, .ref q1_), (5, 0, q1_, .ref q6_), (5, 1, q1_, .ref q7_)]) [0, 2, 3, 4, 5, 6, 7, 8, 9, 10] rfl
        exact loop_114 (11) 0 1 0 (bd_sub kb_0 (by decide)) (bd_sub kb_1 (by decide)) (by have h9_0 := h_5; unfold bd at h9_0; have h9_1 := kb_0; unfold bd at h9_1; have h9_2 := kb_1; unfold bd at h9_2; have h9_3 := kb_41; unfold bd at h9_3; omega) _ _ _ _ g9 hG_14 hl9
    · have fc_12 := eq_f c_12
      have b_558 : bd 0 0 x_11 := eqX fc_12 (bdT x_11) kb_0 (by decide)
      refine lv_aload_n hx hb dX2_readArguments_24 rfl (lv_at hl 1 rfl) ?_
      refine g_getk (C := RX2) (T := TX2) (N := 16) hx hb hts (mc_ inX2) hown hK g rfl 0 (by decide) rfl (hts _ (List.mem_cons_of_mem _ t_416)) (fun _ h9 => h9) 3 rfl dX2_readArguments_25 ?_
      have go_ := g
      refine g_calli (va_runV (As := []) (rest := []) ⟨hx, hb, hml, hown, hts⟩ (r_X8_kind l dC dI L kd tys fr_3 H.size g.2.2.2.1 q0_ mq0_ kq0_) (cwV 0 hts (gV_ t_1118 t_1119 t_1120 t_184 t_1121) rfl rfl rfl (by decide +kernel) ⟨(Nat.le_of_ble_eq_true rfl), (Nat.le_of_ble_eq_true rfl)⟩) (pre3V g hK mq0_ kq0_ (by decide) (q := (RX8, TX8, 10)) rfl) rfl rfl hl.1 rfl (lv_room (Nat.le_of_ble_eq_true rfl)) dX2_readArguments_28 ⟨(Nat.le_of_ble_eq_true rfl), (Nat.le_of_ble_eq_true rfl)⟩) g hK (by decide) (by decide) (fx' := [(2, 14, a0_, .int x_11), (8, 6, q0_, .int x_4), (8, 8, q0_, .int y0_), (2, 0, a0_, .ref q0_), (2, 1, a0_, .ref q1_), (2, 2, a0_, .ref q2_), (2, 3, a0_, .ref q3_), (0, 0, q2_, .ref q0_), (0, 1, q2_, .ref q1_), (5, 0, q1_, .ref q6_), (5, 1, q1_, .ref q7_)]) rfl (fun r_559 fr_559 H locs hp hMr_559 g => ?_)
      have hG_560 := eOK.frame hMr_559 go_.2.2.2.1 mq2_ kq2_ (by decide) (by decide) hG_10
      refine lv_bipush (v := 41) hx hb dX2_readArguments_31 (by decide) ?_
      have kb_41 : bd 41 41 (41 : Int32) := ⟨by decide, by decide⟩
      refine lv_icmp_eq (tgt := 46) hx hb dX2_readArguments_33 (by decide) (fun c_561 => ?_) (fun c_561 => ?_)
      · have fc_561 := eq_f c_561
        have b_562 : bd 41 41 r_559 := eqX fc_561 (bdT r_559) kb_41 (by decide)
        refine lv_iconst (v := 0) hx hb dX2_readArguments_46 (by decide) ?_
        refine lv_istore_n (lv' := [(2, .int 0), (1, .int r_1), (0, .ref a0_)]) hx hb dX2_readArguments_47 rfl hl (by decide) rfl (fun ls hl => ?_)
        refine lv_aload_n hx hb dX2_readArguments_48 rfl (lv_at hl 2 rfl) ?_
        refine g_getk (C := RX2) (T := TX2) (N := 16) hx hb hts (mc_ inX2) hown hK g rfl 0 (by decide) rfl (hts _ (List.mem_cons_of_mem _ t_416)) (fun _ h9 => h9) 3 rfl dX2_readArguments_49 ?_
        have go_ := g
        refine g_calli (va_runV (As := []) (rest := []) ⟨hx, hb, hml, hown, hts⟩ (r_X8_kind l dC dI L kd tys fr_559 H.size g.2.2.2.1 q0_ mq0_ kq0_) (cwV 0 hts (gV_ t_1118 t_1119 t_1120 t_184 t_1121) rfl rfl rfl (by decide +kernel) ⟨(Nat.le_of_ble_eq_true rfl), (Nat.le_of_ble_eq_true rfl)⟩) (pre3V g hK mq0_ kq0_ (by decide) (q := (RX8, TX8, 10)) rfl) rfl rfl hl.1 rfl (lv_room (Nat.le_of_ble_eq_true rfl)) dX2_readArguments_52 ⟨(Nat.le_of_ble_eq_true rfl), (Nat.le_of_ble_eq_true rfl)⟩) g hK (by decide) (by decide) (fx' := [(2, 14, a0_, .int x_11), (8, 6, q0_, .int x_4), (8, 8, q0_, .int y0_), (2, 0, a0_, .ref q0_), (2, 1, a0_, .ref q1_), (2, 2, a0_, .ref q2_), (2, 3, a0_, .ref q3_), (0, 0, q2_, .ref q0_), (0, 1, q2_, .ref q1_), (5, 0, q1_, .ref q6_), (5, 1, q1_, .ref q7_)]) rfl (fun r_563 fr_563 H locs hp hMr_563 g => ?_)
        have hG_564 := eOK.frame hMr_563 go_.2.2.2.1 mq2_ kq2_ (by decide) (by decide) hG_560
        refine lv_bipush (v := 41) hx hb dX2_readArguments_55 (by decide) ?_
        refine lv_icmp_eq (tgt := 64) hx hb dX2_readArguments_57 (by decide) (fun c_565 => ?_) (fun c_565 => ?_)
        · have fc_565 := eq_f c_565
          have b_566 : bd 41 41 r_563 := eqX fc_565 (bdT r_563) kb_41 (by decide)
          refine lv_iconst (v := 0) hx hb dX2_readArguments_64 (by decide) ?_
          refine lv_istore_n (lv' := [(3, .int 0), (2, .int 0), (1, .int r_1), (0, .ref a0_)]) hx hb dX2_readArguments_65 rfl hl (by decide) rfl (fun ls hl => ?_)
          refine lv_iconst (v := 0) hx hb dX2_readArguments_66 (by decide) ?_
          refine lv_istore (lv' := [(4, .int 0), (3, .int 0), (2, .int 0), (1, .int r_1), (0, .ref a0_)]) hx hb dX2_readArguments_67 hl (by decide) rfl (fun ls hl => ?_)
          refine lv_iload hx hb dX2_readArguments_69 (lv_at hl 0 rfl) ?_
          refine lv_iconst (v := 3) hx hb dX2_readArguments_71 (by decide) ?_
          refine lv_icmp_gt (tgt := 162) hx hb dX2_readArguments_72 (by decide) (fun c_ => absurd c_ (by decide)) (fun c_ => ?_)
          refine lv_iload_n hx hb dX2_readArguments_75 rfl (lv_at hl 1 rfl) ?_
          refine lv_if_eq (tgt := 162) hx hb dX2_readArguments_76 (by decide) (fun c_ => ?_) (fun c_ => absurd (by decide) c_)
          refine lv_aload_n hx hb dX2_readArguments_162 rfl (lv_at hl 4 rfl) ?_
          refine g_getk (C := RX2) (T := TX2) (N := 16) hx hb hts (mc_ inX2) hown hK g rfl 0 (by decide) rfl (hts _ (List.mem_cons_of_mem _ t_416)) (fun _ h9 => h9) 3 rfl dX2_readArguments_163 ?_
          have go_ := g
          refine g_calli (va_runV (As := []) (rest := []) ⟨hx, hb, hml, hown, hts⟩ (r_X8_place l dC dI L kd tys fr_563 H.size g.2.2.2.1 q0_ mq0_ kq0_) (cwV 0 hts (gV_ t_1110 t_1111 t_1112 t_184 t_1113) rfl rfl rfl (by decide +kernel) ⟨(Nat.le_of_ble_eq_true rfl), (Nat.le_of_ble_eq_true rfl)⟩) (pre3V g hK mq0_ kq0_ (by decide) (q := (RX8, TX8, 10)) rfl) rfl rfl hl.1 rfl (lv_room (Nat.le_of_ble_eq_true rfl)) dX2_readArguments_166 ⟨(Nat.le_of_ble_eq_true rfl), (Nat.le_of_ble_eq_true rfl)⟩) g hK (by decide) (by decide) (fx' := [(2, 14, a0_, .int x_11), (8, 6, q0_, .int x_4), (8, 8, q0_, .int y0_), (2, 0, a0_, .ref q0_), (2, 1, a0_, .ref q1_), (2, 2, a0_, .ref q2_), (2, 3, a0_, .ref q3_), (0, 0, q2_, .ref q0_), (0, 1, q2_, .ref q1_), (5, 0, q1_, .ref q6_), (5, 1, q1_, .ref q7_)]) rfl (fun r_567 fr_567 H locs hp hMr_567 g => ?_)
          have hG_568 := eOK.frame hMr_567 go_.2.2.2.1 mq2_ kq2_ (by decide) (by decide) hG_564
          refine lv_istore (lv' := [(4, .int r_567), (3, .int 0), (2, .int 0), (1, .int r_1), (0, .ref a0_)]) hx hb dX2_readArguments_169 hl (by decide) rfl (fun ls hl => ?_)
          refine lv_aload_n hx hb dX2_readArguments_171 rfl (lv_at hl 4 rfl) ?_
          refine g_getk (C := RX2) (T := TX2) (N := 16) hx hb hts (mc_ inX2) hown hK g rfl 0 (by decide) rfl (hts _ (List.mem_cons_of_mem _ t_416)) (fun _ h9 => h9) 3 rfl dX2_readArguments_172 ?_
          refine lv_bipush (v := 41) hx hb dX2_readArguments_175 (by decide) ?_
          have go_ := g
          refine g_callv (va_runV (As := [.int 41]) (rest := []) ⟨hx, hb, hml, hown, hts⟩ (r_X8_take l dC dI L kd tys fr_567 H.size g.2.2.2.1 q0_ mq0_ kq0_ 41 y0_ by0_ (g.fcts [2] rfl)) (cwV 1 hts (gV_ t_1098 t_1099 t_1100 t_184 t_1101) rfl rfl rfl (by decide +kernel) ⟨(Nat.le_of_ble_eq_true rfl), (Nat.le_of_ble_eq_true rfl)⟩) (pre3V g hK mq0_ kq0_ (by decide) (q := (RX8, TX8, 10)) rfl) rfl rfl hl.1 rfl (lv_room (Nat.le_of_ble_eq_true rfl)) dX2_readArguments_177 ⟨(Nat.le_of_ble_eq_true rfl), (Nat.le_of_ble_eq_true rfl)⟩) g hK (by decide) (by decide) (fx' := [(2, 14, a0_, .int x_11), (2, 0, a0_, .ref q0_), (2, 1, a0_, .ref q1_), (2, 2, a0_, .ref q2_), (2, 3, a0_, .ref q3_), (0, 0, q2_, .ref q0_), (0, 1, q2_, .ref q1_), (5, 0, q1_, .ref q6_), (5, 1, q1_, .ref q7_)]) rfl (fun fr_569 H locs hp hMr_569 g => ?_)
          rcases hp with ⟨x_570, h_571, hF_572⟩ | ⟨x_573, h_574, hF_575⟩
          · have hG_576 := eOK.frame hMr_569 go_.2.2.2.1 mq2_ kq2_ (by decide) (by decide) hG_568
            have g := g.more hF_572
            refine lv_iload_n hx hb dX2_readArguments_180 rfl (lv_at hl 2 rfl) ?_
            refine lv_aload_n hx hb dX2_readArguments_181 rfl (lv_at hl 4 rfl) ?_
            refine g_getk (C := RX2) (T := TX2) (N := 16) hx hb hts (mc_ inX2) hown hK g rfl 14 (by decide) rfl (hts _ (List.mem_cons_of_mem _ t_430)) (fun _ h9 => h9) 2 rfl dX2_readArguments_182 ?_
            refine lv_icmp_ge (tgt := 199) hx hb dX2_readArguments_185 (by decide) (fun c_577 => ?_) (fun c_577 => ?_)
            · have fc_577 := le_f c_577
              refine lv_aload_n hx hb dX2_readArguments_199 rfl (lv_at hl 4 rfl) ?_
              refine g_getk (C := RX2) (T := TX2) (N := 16) hx hb hts (mc_ inX2) hown hK g rfl 3 (by decide) rfl (hts _ (List.mem_cons_of_mem _ t_419)) (fun _ h9 => h9) 6 rfl dX2_readArguments_200 ?_
              refine lv_aload_n hx hb dX2_readArguments_203 rfl (lv_at hl 4 rfl) ?_
              refine g_geti (C := RX2) (T := TX2) (N := 16) hx hb hts (mc_ inX2) hown hK g ma0_ ka0_ (by decide) rfl 12 (by decide) rfl (hts _ (List.mem_cons_of_mem _ t_428)) (fun _ h9 => h9) rfl dX2_readArguments_204 (fun x_578 bx_578 g => ?_)
              refine lv_aload_n hx hb dX2_readArguments_207 rfl (lv_at hl 4 rfl) ?_
              refine g_geti (C := RX2) (T := TX2) (N := 16) hx hb hts (mc_ inX2) hown hK g ma0_ ka0_ (by decide) rfl 13 (by decide) rfl (hts _ (List.mem_cons_of_mem _ t_429)) (fun _ h9 => h9) rfl dX2_readArguments_208 (fun x_579 bx_579 g => ?_)
              have go_ := g
              refine g_callv (va_runV (As := [.int x_578, .int x_579]) (rest := []) ⟨hx, hb, hml, hown, hts⟩ (r_X7_emit l dC dI L kd tys fr_569 H.size g.2.2.2.1 q3_ mq3_ kq3_ x_578 x_579) (cwV 2 hts (gV_ t_1301 t_1204 t_1205 t_191 t_1206) rfl rfl rfl (by decide +kernel) ⟨(Nat.le_of_ble_eq_true rfl), (Nat.le_of_ble_eq_true rfl)⟩) (pre3V g hK mq3_ kq3_ (by decide) (q := (RX7, TX7, 19)) rfl) rfl rfl hl.1 rfl (lv_room (Nat.le_of_ble_eq_true rfl)) dX2_readArguments_211 ⟨(Nat.le_of_ble_eq_true rfl), (Nat.le_of_ble_eq_true rfl)⟩) g hK (by decide) (by decide) (fx' := [(2, 13, a0_, .int x_579), (2, 12, a0_, .int x_578), (8, 6, q0_, .int x_570), (8, 8, q0_, .int y0_), (2, 14, a0_, .int x_11), (2, 0, a0_, .ref q0_), (2, 1, a0_, .ref q1_), (2, 2, a0_, .ref q2_), (2, 3, a0_, .ref q3_), (0, 0, q2_, .ref q0_), (0, 1, q2_, .ref q1_), (5, 0, q1_, .ref q6_), (5, 1, q1_, .ref q7_)]) rfl (fun fr_580 H locs hp hMr_580 g => ?_)
              obtain ⟨x_581, h_582, hF_583⟩ := hp
              have hG_584 := eOK.frame hMr_580 go_.2.2.2.1 mq2_ kq2_ (by decide) (by decide) hG_576
              have g := g.more hF_583
              refine lv_aload_n hx hb dX2_readArguments_214 rfl (lv_at hl 4 rfl) ?_
              refine g_getk (C := RX2) (T := TX2) (N := 16) hx hb hts (mc_ inX2) hown hK g rfl 3 (by decide) rfl (hts _ (List.mem_cons_of_mem _ t_419)) (fun _ h9 => h9) 9 rfl dX2_readArguments_215 ?_
              refine lv_bipush (v := 22) hx hb dX2_readArguments_218 (by decide) ?_
              refine lv_iconst (v := 0) hx hb dX2_readArguments_220 (by decide) ?_
              have go_ := g
              refine g_callv (va_runV (As := [.int 22, .int 0]) (rest := []) ⟨hx, hb, hml, hown, hts⟩ (r_X7_emit l dC dI L kd tys fr_580 H.size g.2.2.2.1 q3_ mq3_ kq3_ 22 0) (cwV 2 hts (gV_ t_1301 t_1204 t_1205 t_191 t_1206) rfl rfl rfl (by decide +kernel) ⟨(Nat.le_of_ble_eq_true rfl), (Nat.le_of_ble_eq_true rfl)⟩) (pre3V g hK mq3_ kq3_ (by decide) (q := (RX7, TX7, 19)) rfl) rfl rfl hl.1 rfl (lv_room (Nat.le_of_ble_eq_true rfl)) dX2_readArguments_221 ⟨(Nat.le_of_ble_eq_true rfl), (Nat.le_of_ble_eq_true rfl)⟩) g hK (by decide) (by decide) (fx' := [(2, 13, a0_, .int x_579), (2, 12, a0_, .int x_578), (8, 6, q0_, .int x_570), (8, 8, q0_, .int y0_), (2, 14, a0_, .int x_11), (2, 0, a0_, .ref q0_), (2, 1, a0_, .ref q1_), (2, 2, a0_, .ref q2_), (2, 3, a0_, .ref q3_), (0, 0, q2_, .ref q0_), (0, 1, q2_, .ref q1_), (5, 0, q1_, .ref q6_), (5, 1, q1_, .ref q7_)]) rfl (fun fr_585 H locs hp hMr_585 g => ?_)
              obtain ⟨x_586, h_587, hF_588⟩ := hp
              have hG_589 := eOK.frame hMr_585 go_.2.2.2.1 mq2_ kq2_ (by decide) (by decide) hG_584
              have g := g.more hF_588
              refine lv_aload_n hx hb dX2_readArguments_224 rfl (lv_at hl 4 rfl) ?_
              refine g_getk (C := RX2) (T := TX2) (N := 16) hx hb hts (mc_ inX2) hown hK g rfl 0 (by decide) rfl (hts _ (List.mem_cons_of_mem _ t_416)) (fun _ h9 => h9) 6 rfl dX2_readArguments_225 ?_
              refine lv_bipush (v := 59) hx hb dX2_readArguments_228 (by decide) ?_
              have go_ := g
              refine g_callv (va_runV (As := [.int 59]) (rest := []) ⟨hx, hb, hml, hown, hts⟩ (r_X8_take l dC dI L kd tys fr_585 H.size g.2.2.2.1 q0_ mq0_ kq0_ 59 y0_ by0_ (g.fcts [4] rfl)) (cwV 1 hts (gV_ t_1098 t_1099 t_1100 t_184 t_1101) rfl rfl rfl (by decide +kernel) ⟨(Nat.le_of_ble_eq_true rfl), (Nat.le_of_ble_eq_true rfl)⟩) (pre3V g hK mq0_ kq0_ (by decide) (q := (RX8, TX8, 10)) rfl) rfl rfl hl.1 rfl (lv_room (Nat.le_of_ble_eq_true rfl)) dX2_readArguments_230 ⟨(Nat.le_of_ble_eq_true rfl), (Nat.le_of_ble_eq_true rfl)⟩) g hK (by decide) (by decide) (fx' := [(7, 6, q3_, .int x_586), (2, 13, a0_, .int x_579), (2, 12, a0_, .int x_578), (2, 14, a0_, .int x_11), (2, 0, a0_, .ref q0_), (2, 1, a0_, .ref q1_), (2, 2, a0_, .ref q2_), (2, 3, a0_, .ref q3_), (0, 0, q2_, .ref q0_), (0, 1, q2_, .ref q1_), (5, 0, q1_, .ref q6_), (5, 1, q1_, .ref q7_)]) rfl (fun fr_590 H locs hp hMr_590 g => ?_)
              rcases hp with ⟨x_591, h_592, hF_593⟩ | ⟨x_594, h_595, hF_596⟩
              · have hG_597 := eOK.frame hMr_590 go_.2.2.2.1 mq2_ kq2_ (by decide) (by decide) hG_589
                have g := g.more hF_593
                subst hQ
                exact W.vret hx hb hr (fun t ht hW => ⟨⟨_, rfl, Or.inl ⟨hG_597, x_591, h_592, x_586, h_587, (g.fcts [0, 1, 2] rfl)⟩, q3_of g hK ht hW⟩, g.2.2.1.F ht⟩) g.2.2.1.2.2 dX2_readArguments_233
              · have hG_598 := eOK.frame hMr_590 go_.2.2.2.1 mq2_ kq2_ (by decide) (by decide) hG_589
                have g := g.more hF_596
                have kb_1201 : bd 1201 1201 (1201 : Int32) := ⟨by decide, by decide⟩
                subst hQ
                exact W.vret hx hb hr (fun t ht hW => ⟨⟨_, rfl, Or.inr (⟨hG_598, 1201, kb_1201, x_594, h_595, x_586, h_587, (g.fcts [0, 1, 2] rfl)⟩), q3_of g hK ht hW⟩, g.2.2.1.F ht⟩) g.2.2.1.2.2 dX2_readArguments_233
            · have fc_577 := nle_f c_577
              have b_599 : bd 0 (-1) (0 : Int32) := ltL fc_577 kb_0 b_558 (by decide)
              exact bd_no (eqX rfl b_599 kb_0 (lo := 0) (hi := (-1)) (by decide)) (by decide)
          · have hG_600 := eOK.frame hMr_569 go_.2.2.2.1 mq2_ kq2_ (by decide) (by decide) hG_568
            have g := g.more hF_575
            refine lv_iload_n hx hb dX2_readArguments_180 rfl (lv_at hl 2 rfl) ?_
            refine lv_aload_n hx hb dX2_readArguments_181 rfl (lv_at hl 4 rfl) ?_
            refine g_getk (C := RX2) (T := TX2) (N := 16) hx hb hts (mc_ inX2) hown hK g rfl 14 (by decide) rfl (hts _ (List.mem_cons_of_mem _ t_430)) (fun _ h9 => h9) 2 rfl dX2_readArguments_182 ?_
            refine lv_icmp_ge (tgt := 199) hx hb dX2_readArguments_185 (by decide) (fun c_601 => ?_) (fun c_601 => ?_)
            · have fc_601 := le_f c_601
              refine lv_aload_n hx hb dX2_readArguments_199 rfl (lv_at hl 4 rfl) ?_
              refine g_getk (C := RX2) (T := TX2) (N := 16) hx hb hts (mc_ inX2) hown hK g rfl 3 (by decide) rfl (hts _ (List.mem_cons_of_mem _ t_419)) (fun _ h9 => h9) 6 rfl dX2_readArguments_200 ?_
              refine lv_aload_n hx hb dX2_readArguments_203 rfl (lv_at hl 4 rfl) ?_
              refine g_geti (C := RX2) (T := TX2) (N := 16) hx hb hts (mc_ inX2) hown hK g ma0_ ka0_ (by decide) rfl 12 (by decide) rfl (hts _ (List.mem_cons_of_mem _ t_428)) (fun _ h9 => h9) rfl dX2_readArguments_204 (fun x_602 bx_602 g => ?_)
              refine lv_aload_n hx hb dX2_readArguments_207 rfl (lv_at hl 4 rfl) ?_
              refine g_geti (C := RX2) (T := TX2) (N := 16) hx hb hts (mc_ inX2) hown hK g ma0_ ka0_ (by decide) rfl 13 (by decide) rfl (hts _ (List.mem_cons_of_mem _ t_429)) (fun _ h9 => h9) rfl dX2_readArguments_208 (fun x_603 bx_603 g => ?_)
              have go_ := g
              refine g_callv (va_runV (As := [.int x_602, .int x_603]) (rest := []) ⟨hx, hb, hml, hown, hts⟩ (r_X7_emit l dC dI L kd tys fr_569 H.size g.2.2.2.1 q3_ mq3_ kq3_ x_602 x_603) (cwV 2 hts (gV_ t_1301 t_1204 t_1205 t_191 t_1206) rfl rfl rfl (by decide +kernel) ⟨(Nat.le_of_ble_eq_true rfl), (Nat.le_of_ble_eq_true rfl)⟩) (pre3V g hK mq3_ kq3_ (by decide) (q := (RX7, TX7, 19)) rfl) rfl rfl hl.1 rfl (lv_room (Nat.le_of_ble_eq_true rfl)) dX2_readArguments_211 ⟨(Nat.le_of_ble_eq_true rfl), (Nat.le_of_ble_eq_true rfl)⟩) g hK (by decide) (by decide) (fx' := [(2, 13, a0_, .int x_603), (2, 12, a0_, .int x_602), (8, 6, q0_, .int 1201), (8, 8, q0_, .int x_573), (2, 14, a0_, .int x_11), (2, 0, a0_, .ref q0_), (2, 1, a0_, .ref q1_), (2, 2, a0_, .ref q2_), (2, 3, a0_, .ref q3_), (0, 0, q2_, .ref q0_), (0, 1, q2_, .ref q1_), (5, 0, q1_, .ref q6_), (5, 1, q1_, .ref q7_)]) rfl (fun fr_604 H locs hp hMr_604 g => ?_)
              obtain ⟨x_605, h_606, hF_607⟩ := hp
              have hG_608 := eOK.frame hMr_604 go_.2.2.2.1 mq2_ kq2_ (by decide) (by decide) hG_600
              have g := g.more hF_607
              refine lv_aload_n hx hb dX2_readArguments_214 rfl (lv_at hl 4 rfl) ?_
              refine g_getk (C := RX2) (T := TX2) (N := 16) hx hb hts (mc_ inX2) hown hK g rfl 3 (by decide) rfl (hts _ (List.mem_cons_of_mem _ t_419)) (fun _ h9 => h9) 9 rfl dX2_readArguments_215 ?_
              refine lv_bipush (v := 22) hx hb dX2_readArguments_218 (by decide) ?_
              refine lv_iconst (v := 0) hx hb dX2_readArguments_220 (by decide) ?_
              have go_ := g
              refine g_callv (va_runV (As := [.int 22, .int 0]) (rest := []) ⟨hx, hb, hml, hown, hts⟩ (r_X7_emit l dC dI L kd tys fr_604 H.size g.2.2.2.1 q3_ mq3_ kq3_ 22 0) (cwV 2 hts (gV_ t_1301 t_1204 t_1205 t_191 t_1206) rfl rfl rfl (by decide +kernel) ⟨(Nat.le_of_ble_eq_true rfl), (Nat.le_of_ble_eq_true rfl)⟩) (pre3V g hK mq3_ kq3_ (by decide) (q := (RX7, TX7, 19)) rfl) rfl rfl hl.1 rfl (lv_room (Nat.le_of_ble_eq_true rfl)) dX2_readArguments_221 ⟨(Nat.le_of_ble_eq_true rfl), (Nat.le_of_ble_eq_true rfl)⟩) g hK (by decide) (by decide) (fx' := [(2, 13, a0_, .int x_603), (2, 12, a0_, .int x_602), (8, 6, q0_, .int 1201), (8, 8, q0_, .int x_573), (2, 14, a0_, .int x_11), (2, 0, a0_, .ref q0_), (2, 1, a0_, .ref q1_), (2, 2, a0_, .ref q2_), (2, 3, a0_, .ref q3_), (0, 0, q2_, .ref q0_), (0, 1, q2_, .ref q1_), (5, 0, q1_, .ref q6_), (5, 1, q1_, .ref q7_)]) rfl (fun fr_609 H locs hp hMr_609 g => ?_)
              obtain ⟨x_610, h_611, hF_612⟩ := hp
              have hG_613 := eOK.frame hMr_609 go_.2.2.2.1 mq2_ kq2_ (by decide) (by decide) hG_608
              have g := g.more hF_612
              refine lv_aload_n hx hb dX2_readArguments_224 rfl (lv_at hl 4 rfl) ?_
              refine g_getk (C := RX2) (T := TX2) (N := 16) hx hb hts (mc_ inX2) hown hK g rfl 0 (by decide) rfl (hts _ (List.mem_cons_of_mem _ t_416)) (fun _ h9 => h9) 6 rfl dX2_readArguments_225 ?_
              refine lv_bipush (v := 59) hx hb dX2_readArguments_228 (by decide) ?_
              have kb_1201 : bd 1201 1201 (1201 : Int32) := ⟨by decide, by decide⟩
              have go_ := g
              refine g_callv (va_runV (As := [.int 59]) (rest := []) ⟨hx, hb, hml, hown, hts⟩ (r_X8_take_2 l dC dI L kd tys fr_609 H.size g.2.2.2.1 q0_ mq0_ kq0_ 59 1201 kb_1201 x_573 h_574 (g.fcts [3, 4] rfl)) (cwV 1 hts (gV_ t_1098 t_1099 t_1100 t_184 t_1101) rfl rfl rfl (by decide +kernel) ⟨(Nat.le_of_ble_eq_true rfl), (Nat.le_of_ble_eq_true rfl)⟩) (pre3V g hK mq0_ kq0_ (by decide) (q := (RX8, TX8, 10)) rfl) rfl rfl hl.1 rfl (lv_room (Nat.le_of_ble_eq_true rfl)) dX2_readArguments_230 ⟨(Nat.le_of_ble_eq_true rfl), (Nat.le_of_ble_eq_true rfl)⟩) g hK (by decide) (by decide) (fx' := [(7, 6, q3_, .int x_610), (2, 13, a0_, .int x_603), (2, 12, a0_, .int x_602), (8, 8, q0_, .int x_573), (2, 14, a0_, .int x_11), (2, 0, a0_, .ref q0_), (2, 1, a0_, .ref q1_), (2, 2, a0_, .ref q2_), (2, 3, a0_, .ref q3_), (0, 0, q2_, .ref q0_), (0, 1, q2_, .ref q1_), (5, 0, q1_, .ref q6_), (5, 1, q1_, .ref q7_)]) rfl (fun fr_614 H locs hp hMr_614 g => ?_)
              obtain ⟨x_615, h_616, hF_617⟩ := hp
              have hG_618 := eOK.frame hMr_614 go_.2.2.2.1 mq2_ kq2_ (by decide) (by decide) hG_613
              have g := g.more hF_617
              subst hQ
              exact W.vret hx hb hr (fun t ht hW => ⟨⟨_, rfl, Or.inr (⟨hG_618, x_615, h_616, x_573, h_574, x_610, h_611, (g.fcts [0, 4, 1] rfl)⟩), q3_of g hK ht hW⟩, g.2.2.1.F ht⟩) g.2.2.1.2.2 dX2_readArguments_233
            · have fc_601 := nle_f c_601
              have b_619 : bd 0 (-1) (0 : Int32) := ltL fc_601 kb_0 b_558 (by decide)
              exact bd_no (eqX rfl b_619 kb_0 (lo := 0) (hi := (-1)) (by decide)) (by decide)
        · have fc_565 := neq_f c_565
          refine lv_iconst (v := 1) hx hb dX2_readArguments_60 (by decide) ?_
          refine lv_goto (tgt := 65) hx hb dX2_readArguments_61 (by decide) ?_
          refine lv_istore_n (lv' := [(3, .int 1), (2, .int 0), (1, .int r_1), (0, .ref a0_)]) hx hb dX2_readArguments_65 rfl hl (by decide) rfl (fun ls hl => ?_)
          refine lv_iconst (v := 0) hx hb dX2_readArguments_66 (by decide) ?_
          refine lv_istore (lv' := [(4, .int 0), (3, .int 1), (2, .int 0), (1, .int r_1), (0, .ref a0_)]) hx hb dX2_readArguments_67 hl (by decide) rfl (fun ls hl => ?_)
          have loop_620 : ∀ (n : Nat) (v69_4 : Int32) (v69_3 : Int32) (v69_2 : Int32), bd 0 4 v69_4 → bd 0 1 v69_3 → (4 - v69_4.toInt < (n : Int)) → ∀ (f : Nat → va_E) (H : Heap) (locs : List Loc) (ls : Array Slot), G3 (dC, dI) L kd tys s f0 [(0, 2), (0, 8), (0, 10), (0, 11), (0, 12), (0, 13), (7, 6), (7, 18), (8, 6), (8, 8), (8, 9)] [110, 111, 112, 113, 114, 115, 138, 139] f H locs [(2, 14, a0_, .int x_11), (8, 8, q0_, .int y0_), (2, 0, a0_, .ref q0_), (2, 1, a0_, .ref q1_), (2, 2, a0_, .ref q2_), (2, 3, a0_, .ref q3_), (0, 0, q2_, .ref q0_), (0, 1, q2_, .ref q1_), (5, 0, q1_, .ref q6_), (5, 1, q1_, .ref q7_)] → eOK f q2_ → lv_has ls 6 [(4, .int v69_4), (3, .int v69_3), (2, .int v69_2), (1, .int r_1), (0, .ref a0_)] → W p l e ({ frames := 4, cells := 0, slots := 0, locals := 97 } : Room) s m [.ref a0_].toArray below meth c H locs 0 0 Q (F0 m 69 ls []) := by
            intro n69
            induction n69 with
            | zero =>
              intro v69_4 v69_3 v69_2 bv69_4 bv69_3  hm69 f H locs ls g hG69_e_q2_ hl
              exact absurd hm69 (by have h9_v69_4 := bv69_4; unfold bd at h9_v69_4; have h9_v69_3 := bv69_3; unfold bd at h9_v69_3; have h9_v69_2 := bdT v69_2; unfold bd at h9_v69_2; omega)
            | succ n69 ih69 =>
              intro v69_4 v69_3 v69_2 bv69_4 bv69_3  hm69 f H locs ls g hG69_e_q2_ hl
              refine lv_iload hx hb dX2_readArguments_69 (lv_at hl 0 rfl) ?_
              refine lv_iconst (v := 3) hx hb dX2_readArguments_71 (by decide) ?_
              have kb_3 : bd 3 3 (3 : Int32) := ⟨by decide, by decide⟩
              refine lv_icmp_gt (tgt := 162) hx hb dX2_readArguments_72 (by decide) (fun c_621 => ?_) (fun c_621 => ?_)
              · have fc_621 := lt_f c_621
                have b_622 : bd 4 4 v69_4 := ltR fc_621 kb_3 bv69_4 (by decide)
                refine lv_aload_n hx hb dX2_readArguments_162 rfl (lv_at hl 4 rfl) ?_
                refine g_getk (C := RX2) (T := TX2) (N := 16) hx hb hts (mc_ inX2) hown hK g rfl 0 (by decide) rfl (hts _ (List.mem_cons_of_mem _ t_416)) (fun _ h9 => h9) 2 rfl dX2_readArguments_163 ?_
                have go_ := g
                refine g_calli (va_runV (As := []) (rest := []) ⟨hx, hb, hml, hown, hts⟩ (r_X8_place l dC dI L kd tys f H.size g.2.2.2.1 q0_ mq0_ kq0_) (cwV 0 hts (gV_ t_1110 t_1111 t_1112 t_184 t_1113) rfl rfl rfl (by decide +kernel) ⟨(Nat.le_of_ble_eq_true rfl), (Nat.le_of_ble_eq_true rfl)⟩) (pre3V g hK mq0_ kq0_ (by decide) (q := (RX8, TX8, 10)) rfl) rfl rfl hl.1 rfl (lv_room (Nat.le_of_ble_eq_true rfl)) dX2_readArguments_166 ⟨(Nat.le_of_ble_eq_true rfl), (Nat.le_of_ble_eq_true rfl)⟩) g hK (by decide) (by decide) (fx' := [(2, 14, a0_, .int x_11), (8, 8, q0_, .int y0_), (2, 0, a0_, .ref q0_), (2, 1, a0_, .ref q1_), (2, 2, a0_, .ref q2_), (2, 3, a0_, .ref q3_), (0, 0, q2_, .ref q0_), (0, 1, q2_, .ref q1_), (5, 0, q1_, .ref q6_), (5, 1, q1_, .ref q7_)]) rfl (fun r_623 fr_623 H locs hp hMr_623 g => ?_)
                have hG_624 := eOK.frame hMr_623 go_.2.2.2.1 mq2_ kq2_ (by decide) (by decide) hG69_e_q2_
                refine lv_istore (lv' := [(4, .int r_623), (3, .int v69_3), (2, .int v69_2), (1, .int r_1), (0, .ref a0_)]) hx hb dX2_readArguments_169 hl (by decide) rfl (fun ls hl => ?_)
                refine lv_aload_n hx hb dX2_readArguments_171 rfl (lv_at hl 4 rfl) ?_
                refine g_getk (C := RX2) (T := TX2) (N := 16) hx hb hts (mc_ inX2) hown hK g rfl 0 (by decide) rfl (hts _ (List.mem_cons_of_mem _ t_416)) (fun _ h9 => h9) 2 rfl dX2_readArguments_172 ?_
                refine lv_bipush (v := 41) hx hb dX2_readArguments_175 (by decide) ?_
                have go_ := g
                refine g_callv (va_runV (As := [.int 41]) (rest := []) ⟨hx, hb, hml, hown, hts⟩ (r_X8_take l dC dI L kd tys fr_623 H.size g.2.2.2.1 q0_ mq0_ kq0_ 41 y0_ by0_ (g.fcts [1] rfl)) (cwV 1 hts (gV_ t_1098 t_1099 t_1100 t_184 t_1101) rfl rfl rfl (by decide +kernel) ⟨(Nat.le_of_ble_eq_true rfl), (Nat.le_of_ble_eq_true rfl)⟩) (pre3V g hK mq0_ kq0_ (by decide) (q := (RX8, TX8, 10)) rfl) rfl rfl hl.1 rfl (lv_room (Nat.le_of_ble_eq_true rfl)) dX2_readArguments_177 ⟨(Nat.le_of_ble_eq_true rfl), (Nat.le_of_ble_eq_true rfl)⟩) g hK (by decide) (by decide) (fx' := [(2, 14, a0_, .int x_11), (2, 0, a0_, .ref q0_), (2, 1, a0_, .ref q1_), (2, 2, a0_, .ref q2_), (2, 3, a0_, .ref q3_), (0, 0, q2_, .ref q0_), (0, 1, q2_, .ref q1_), (5, 0, q1_, .ref q6_), (5, 1, q1_, .ref q7_)]) rfl (fun fr_625 H locs hp hMr_625 g => ?_)
                rcases hp with ⟨x_626, h_627, hF_628⟩ | ⟨x_629, h_630, hF_631⟩
                · have hG_632 := eOK.frame hMr_625 go_.2.2.2.1 mq2_ kq2_ (by decide) (by decide) hG_624
                  have g := g.more hF_628
                  refine lv_iload_n hx hb dX2_readArguments_180 rfl (lv_at hl 2 rfl) ?_
                  refine lv_aload_n hx hb dX2_readArguments_181 rfl (lv_at hl 4 rfl) ?_
                  refine g_getk (C := RX2) (T := TX2) (N := 16) hx hb hts (mc_ inX2) hown hK g rfl 14 (by decide) rfl (hts _ (List.mem_cons_of_mem _ t_430)) (fun _ h9 => h9) 2 rfl dX2_readArguments_182 ?_
                  refine lv_icmp_ge (tgt := 199) hx hb dX2_readArguments_185 (by decide) (fun c_633 => ?_) (fun c_633 => ?_)
                  · have fc_633 := le_f c_633
                    have b_634 : bd 0 2147483647 v69_2 := leR fc_633 b_558 (bdT v69_2) (by decide)
                    refine lv_aload_n hx hb dX2_readArguments_199 rfl (lv_at hl 4 rfl) ?_
                    refine g_getk (C := RX2) (T := TX2) (N := 16) hx hb hts (mc_ inX2) hown hK g rfl 3 (by decide) rfl (hts _ (List.mem_cons_of_mem _ t_419)) (fun _ h9 => h9) 6 rfl dX2_readArguments_200 ?_
                    refine lv_aload_n hx hb dX2_readArguments_203 rfl (lv_at hl 4 rfl) ?_
                    refine g_geti (C := RX2) (T := TX2) (N := 16) hx hb hts (mc_ inX2) hown hK g ma0_ ka0_ (by decide) rfl 12 (by decide) rfl (hts _ (List.mem_cons_of_mem _ t_428)) (fun _ h9 => h9) rfl dX2_readArguments_204 (fun x_635 bx_635 g => ?_)
                    refine lv_aload_n hx hb dX2_readArguments_207 rfl (lv_at hl 4 rfl) ?_
                    refine g_geti (C := RX2) (T := TX2) (N := 16) hx hb hts (mc_ inX2) hown hK g ma0_ ka0_ (by decide) rfl 13 (by decide) rfl (hts _ (List.mem_cons_of_mem _ t_429)) (fun _ h9 => h9) rfl dX2_readArguments_208 (fun x_636 bx_636 g => ?_)
                    have go_ := g
                    refine g_callv (va_runV (As := [.int x_635, .int x_636]) (rest := []) ⟨hx, hb, hml, hown, hts⟩ (r_X7_emit l dC dI L kd tys fr_625 H.size g.2.2.2.1 q3_ mq3_ kq3_ x_635 x_636) (cwV 2 hts (gV_ t_1301 t_1204 t_1205 t_191 t_1206) rfl rfl rfl (by decide +kernel) ⟨(Nat.le_of_ble_eq_true rfl), (Nat.le_of_ble_eq_true rfl)⟩) (pre3V g hK mq3_ kq3_ (by decide) (q := (RX7, TX7, 19)) rfl) rfl rfl hl.1 rfl (lv_room (Nat.le_of_ble_eq_true rfl)) dX2_readArguments_211 ⟨(Nat.le_of_ble_eq_true rfl), (Nat.le_of_ble_eq_true rfl)⟩) g hK (by decide) (by decide) (fx' := [(2, 13, a0_, .int x_636), (2, 12, a0_, .int x_635), (8, 6, q0_, .int x_626), (8, 8, q0_, .int y0_), (2, 14, a0_, .int x_11), (2, 0, a0_, .ref q0_), (2, 1, a0_, .ref q1_), (2, 2, a0_, .ref q2_), (2, 3, a0_, .ref q3_), (0, 0, q2_, .ref q0_), (0, 1, q2_, .ref q1_), (5, 0, q1_, .ref q6_), (5, 1, q1_, .ref q7_)]) rfl (fun fr_637 H locs hp hMr_637 g => ?_)
                    obtain ⟨x_638, h_639, hF_640⟩ := hp
                    have hG_641 := eOK.frame hMr_637 go_.2.2.2.1 mq2_ kq2_ (by decide) (by decide) hG_632
                    have g := g.more hF_640
                    refine lv_aload_n hx hb dX2_readArguments_214 rfl (lv_at hl 4 rfl) ?_
                    refine g_getk (C := RX2) (T := TX2) (N := 16) hx hb hts (mc_ inX2) hown hK g rfl 3 (by decide) rfl (hts _ (List.mem_cons_of_mem _ t_419)) (fun _ h9 => h9) 9 rfl dX2_readArguments_215 ?_
                    refine lv_bipush (v := 22) hx hb dX2_readArguments_218 (by decide) ?_
                    refine lv_iconst (v := 0) hx hb dX2_readArguments_220 (by decide) ?_
                    have go_ := g
                    refine g_callv (va_runV (As := [.int 22, .int 0]) (rest := []) ⟨hx, hb, hml, hown, hts⟩ (r_X7_emit l dC dI L kd tys fr_637 H.size g.2.2.2.1 q3_ mq3_ kq3_ 22 0) (cwV 2 hts (gV_ t_1301 t_1204 t_1205 t_191 t_1206) rfl rfl rfl (by decide +kernel) ⟨(Nat.le_of_ble_eq_true rfl), (Nat.le_of_ble_eq_true rfl)⟩) (pre3V g hK mq3_ kq3_ (by decide) (q := (RX7, TX7, 19)) rfl) rfl rfl hl.1 rfl (lv_room (Nat.le_of_ble_eq_true rfl)) dX2_readArguments_221 ⟨(Nat.le_of_ble_eq_true rfl), (Nat.le_of_ble_eq_true rfl)⟩) g hK (by decide) (by decide) (fx' := [(2, 13, a0_, .int x_636), (2, 12, a0_, .int x_635), (8, 6, q0_, .int x_626), (8, 8, q0_, .int y0_), (2, 14, a0_, .int x_11), (2, 0, a0_, .ref q0_), (2, 1, a0_, .ref q1_), (2, 2, a0_, .ref q2_), (2, 3, a0_, .ref q3_), (0, 0, q2_, .ref q0_), (0, 1, q2_, .ref q1_), (5, 0, q1_, .ref q6_), (5, 1, q1_, .ref q7_)]) rfl (fun fr_642 H locs hp hMr_642 g => ?_)
                    obtain ⟨x_643, h_644, hF_645⟩ := hp
                    have hG_646 := eOK.frame hMr_642 go_.2.2.2.1 mq2_ kq2_ (by decide) (by decide) hG_641
                    have g := g.more hF_645
                    refine lv_aload_n hx hb dX2_readArguments_224 rfl (lv_at hl 4 rfl) ?_
                    refine g_getk (C := RX2) (T := TX2) (N := 16) hx hb hts (mc_ inX2) hown hK g rfl 0 (by decide) rfl (hts _ (List.mem_cons_of_mem _ t_416)) (fun _ h9 => h9) 6 rfl dX2_readArguments_225 ?_
                    refine lv_bipush (v := 59) hx hb dX2_readArguments_228 (by decide) ?_
                    have go_ := g
                    refine g_callv (va_runV (As := [.int 59]) (rest := []) ⟨hx, hb, hml, hown, hts⟩ (r_X8_take l dC dI L kd tys fr_642 H.size g.2.2.2.1 q0_ mq0_ kq0_ 59 y0_ by0_ (g.fcts [4] rfl)) (cwV 1 hts (gV_ t_1098 t_1099 t_1100 t_184 t_1101) rfl rfl rfl (by decide +kernel) ⟨(Nat.le_of_ble_eq_true rfl), (Nat.le_of_ble_eq_true rfl)⟩) (pre3V g hK mq0_ kq0_ (by decide) (q := (RX8, TX8, 10)) rfl) rfl rfl hl.1 rfl (lv_room (Nat.le_of_ble_eq_true rfl)) dX2_readArguments_230 ⟨(Nat.le_of_ble_eq_true rfl), (Nat.le_of_ble_eq_true rfl)⟩) g hK (by decide) (by decide) (fx' := [(7, 6, q3_, .int x_643), (2, 13, a0_, .int x_636), (2, 12, a0_, .int x_635), (2, 14, a0_, .int x_11), (2, 0, a0_, .ref q0_), (2, 1, a0_, .ref q1_), (2, 2, a0_, .ref q2_), (2, 3, a0_, .ref q3_), (0, 0, q2_, .ref q0_), (0, 1, q2_, .ref q1_), (5, 0, q1_, .ref q6_), (5, 1, q1_, .ref q7_)]) rfl (fun fr_647 H locs hp hMr_647 g => ?_)
                    rcases hp with ⟨x_648, h_649, hF_650⟩ | ⟨x_651, h_652, hF_653⟩
                    · have hG_654 := eOK.frame hMr_647 go_.2.2.2.1 mq2_ kq2_ (by decide) (by decide) hG_646
                      have g := g.more hF_650
                      subst hQ
                      exact W.vret hx hb hr (fun t ht hW => ⟨⟨_, rfl, Or.inl ⟨hG_654, x_648, h_649, x_643, h_644, (g.fcts [0, 1, 2] rfl)⟩, q3_of g hK ht hW⟩, g.2.2.1.F ht⟩) g.2.2.1.2.2 dX2_readArguments_233
                    · have hG_655 := eOK.frame hMr_647 go_.2.2.2.1 mq2_ kq2_ (by decide) (by decide) hG_646
                      have g := g.more hF_653
                      have kb_1201 : bd 1201 1201 (1201 : Int32) := ⟨by decide, by decide⟩
                      subst hQ
                      exact W.vret hx hb hr (fun t ht hW => ⟨⟨_, rfl, Or.inr (⟨hG_655, 1201, kb_1201, x_651, h_652, x_643, h_644, (g.fcts [0, 1, 2] rfl)⟩), q3_of g hK ht hW⟩, g.2.2.1.F ht⟩) g.2.2.1.2.2 dX2_readArguments_233
                  · have fc_633 := nle_f c_633
                    have b_656 : bd (-2147483648) (-1) v69_2 := ltL fc_633 (bdT v69_2) b_558 (by decide)
                    refine lv_aload_n hx hb dX2_readArguments_188 rfl (lv_at hl 4 rfl) ?_
                    refine g_getk (C := RX2) (T := TX2) (N := 16) hx hb hts (mc_ inX2) hown hK g rfl 0 (by decide) rfl (hts _ (List.mem_cons_of_mem _ t_416)) (fun _ h9 => h9) 3 rfl dX2_readArguments_189 ?_
                    refine lv_bipush (v := 6) hx hb dX2_readArguments_192 (by decide) ?_
                    refine lv_iload hx hb dX2_readArguments_194 (lv_at hl 0 rfl) ?_
                    have kb_6 : bd 6 6 (6 : Int32) := ⟨by decide, by decide⟩
                    have go_ := g
                    refine g_callv (va_runV (As := [.int 6, .int r_623]) (rest := []) ⟨hx, hb, hml, hown, hts⟩ (r_X8_fail l dC dI L kd tys fr_625 H.size g.2.2.2.1 q0_ mq0_ kq0_ 6 (bd_sub kb_6 (by decide)) r_623 y0_ by0_ (g.fcts [1] rfl)) (cwV 2 hts (gV_ t_1122 t_1107 t_1108 t_184 t_1109) rfl rfl rfl (by decide +kernel) ⟨(Nat.le_of_ble_eq_true rfl), (Nat.le_of_ble_eq_true rfl)⟩) (pre3V g hK mq0_ kq0_ (by decide) (q := (RX8, TX8, 10)) rfl) rfl rfl hl.1 rfl (lv_room (Nat.le_of_ble_eq_true rfl)) dX2_readArguments_196 ⟨(Nat.le_of_ble_eq_true rfl), (Nat.le_of_ble_eq_true rfl)⟩) g hK (by decide) (by decide) (fx' := [(2, 14, a0_, .int x_11), (2, 0, a0_, .ref q0_), (2, 1, a0_, .ref q1_), (2, 2, a0_, .ref q2_), (2, 3, a0_, .ref q3_), (0, 0, q2_, .ref q0_), (0, 1, q2_, .ref q1_), (5, 0, q1_, .ref q6_), (5, 1, q1_, .ref q7_)]) rfl (fun fr_657 H locs hp hMr_657 g => ?_)
                    obtain ⟨x_658, h_659, hF_660⟩ := hp
                    have hG_661 := eOK.frame hMr_657 go_.2.2.2.1 mq2_ kq2_ (by decide) (by decide) hG_632
                    have g := g.more hF_660
                    refine lv_aload_n hx hb dX2_readArguments_199 rfl (lv_at hl 4 rfl) ?_
                    refine g_getk (C := RX2) (T := TX2) (N := 16) hx hb hts (mc_ inX2) hown hK g rfl 3 (by decide) rfl (hts _ (List.mem_cons_of_mem _ t_419)) (fun _ h9 => h9) 6 rfl dX2_readArguments_200 ?_
                    refine lv_aload_n hx hb dX2_readArguments_203 rfl (lv_at hl 4 rfl) ?_
                    refine g_geti (C := RX2) (T := TX2) (N := 16) hx hb hts (mc_ inX2) hown hK g ma0_ ka0_ (by decide) rfl 12 (by decide) rfl (hts _ (List.mem_cons_of_mem _ t_428)) (fun _ h9 => h9) rfl dX2_readArguments_204 (fun x_662 bx_662 g => ?_)
                    refine lv_aload_n hx hb dX2_readArguments_207 rfl (lv_at hl 4 rfl) ?_
                    refine g_geti (C := RX2) (T := TX2) (N := 16) hx hb hts (mc_ inX2) hown hK g ma0_ ka0_ (by decide) rfl 13 (by decide) rfl (hts _ (List.mem_cons_of_mem _ t_429)) (fun _ h9 => h9) rfl dX2_readArguments_208 (fun x_663 bx_663 g => ?_)
                    have go_ := g
                    refine g_callv (va_runV (As := [.int x_662, .int x_663]) (rest := []) ⟨hx, hb, hml, hown, hts⟩ (r_X7_emit l dC dI L kd tys fr_657 H.size g.2.2.2.1 q3_ mq3_ kq3_ x_662 x_663) (cwV 2 hts (gV_ t_1301 t_1204 t_1205 t_191 t_1206) rfl rfl rfl (by decide +kernel) ⟨(Nat.le_of_ble_eq_true rfl), (Nat.le_of_ble_eq_true rfl)⟩) (pre3V g hK mq3_ kq3_ (by decide) (q := (RX7, TX7, 19)) rfl) rfl rfl hl.1 rfl (lv_room (Nat.le_of_ble_eq_true rfl)) dX2_readArguments_211 ⟨(Nat.le_of_ble_eq_true rfl), (Nat.le_of_ble_eq_true rfl)⟩) g hK (by decide) (by decide) (fx' := [(2, 13, a0_, .int x_663), (2, 12, a0_, .int x_662), (8, 6, q0_, .int 1201), (8, 8, q0_, .int x_658), (2, 14, a0_, .int x_11), (2, 0, a0_, .ref q0_), (2, 1, a0_, .ref q1_), (2, 2, a0_, .ref q2_), (2, 3, a0_, .ref q3_), (0, 0, q2_, .ref q0_), (0, 1, q2_, .ref q1_), (5, 0, q1_, .ref q6_), (5, 1, q1_, .ref q7_)]) rfl (fun fr_664 H locs hp hMr_664 g => ?_)
                    obtain ⟨x_665, h_666, hF_667⟩ := hp
                    have hG_668 := eOK.frame hMr_664 go_.2.2.2.1 mq2_ kq2_ (by decide) (by decide) hG_661
                    have g := g.more hF_667
                    refine lv_aload_n hx hb dX2_readArguments_214 rfl (lv_at hl 4 rfl) ?_
                    refine g_getk (C := RX2) (T := TX2) (N := 16) hx hb hts (mc_ inX2) hown hK g rfl 3 (by decide) rfl (hts _ (List.mem_cons_of_mem _ t_419)) (fun _ h9 => h9) 9 rfl dX2_readArguments_215 ?_
                    refine lv_bipush (v := 22) hx hb dX2_readArguments_218 (by decide) ?_
                    refine lv_iconst (v := 0) hx hb dX2_readArguments_220 (by decide) ?_
                    have go_ := g
                    refine g_callv (va_runV (As := [.int 22, .int 0]) (rest := []) ⟨hx, hb, hml, hown, hts⟩ (r_X7_emit l dC dI L kd tys fr_664 H.size g.2.2.2.1 q3_ mq3_ kq3_ 22 0) (cwV 2 hts (gV_ t_1301 t_1204 t_1205 t_191 t_1206) rfl rfl rfl (by decide +kernel) ⟨(Nat.le_of_ble_eq_true rfl), (Nat.le_of_ble_eq_true rfl)⟩) (pre3V g hK mq3_ kq3_ (by decide) (q := (RX7, TX7, 19)) rfl) rfl rfl hl.1 rfl (lv_room (Nat.le_of_ble_eq_true rfl)) dX2_readArguments_221 ⟨(Nat.le_of_ble_eq_true rfl), (Nat.le_of_ble_eq_true rfl)⟩) g hK (by decide) (by decide) (fx' := [(2, 13, a0_, .int x_663), (2, 12, a0_, .int x_662), (8, 6, q0_, .int 1201), (8, 8, q0_, .int x_658), (2, 14, a0_, .int x_11), (2, 0, a0_, .ref q0_), (2, 1, a0_, .ref q1_), (2, 2, a0_, .ref q2_), (2, 3, a0_, .ref q3_), (0, 0, q2_, .ref q0_), (0, 1, q2_, .ref q1_), (5, 0, q1_, .ref q6_), (5, 1, q1_, .ref q7_)]) rfl (fun fr_669 H locs hp hMr_669 g => ?_)
                    obtain ⟨x_670, h_671, hF_672⟩ := hp
                    have hG_673 := eOK.frame hMr_669 go_.2.2.2.1 mq2_ kq2_ (by decide) (by decide) hG_668
                    have g := g.more hF_672
                    refine lv_aload_n hx hb dX2_readArguments_224 rfl (lv_at hl 4 rfl) ?_
                    refine g_getk (C := RX2) (T := TX2) (N := 16) hx hb hts (mc_ inX2) hown hK g rfl 0 (by decide) rfl (hts _ (List.mem_cons_of_mem _ t_416)) (fun _ h9 => h9) 6 rfl dX2_readArguments_225 ?_
                    refine lv_bipush (v := 59) hx hb dX2_readArguments_228 (by decide) ?_
                    have kb_1201 : bd 1201 1201 (1201 : Int32) := ⟨by decide, by decide⟩
                    have go_ := g
                    refine g_callv (va_runV (As := [.int 59]) (rest := []) ⟨hx, hb, hml, hown, hts⟩ (r_X8_take_2 l dC dI L kd tys fr_669 H.size g.2.2.2.1 q0_ mq0_ kq0_ 59 1201 kb_1201 x_658 h_659 (g.fcts [3, 4] rfl)) (cwV 1 hts (gV_ t_1098 t_1099 t_1100 t_184 t_1101) rfl rfl rfl (by decide +kernel) ⟨(Nat.le_of_ble_eq_true rfl), (Nat.le_of_ble_eq_true rfl)⟩) (pre3V g hK mq0_ kq0_ (by decide) (q := (RX8, TX8, 10)) rfl) rfl rfl hl.1 rfl (lv_room (Nat.le_of_ble_eq_true rfl)) dX2_readArguments_230 ⟨(Nat.le_of_ble_eq_true rfl), (Nat.le_of_ble_eq_true rfl)⟩) g hK (by decide) (by decide) (fx' := [(7, 6, q3_, .int x_670), (2, 13, a0_, .int x_663), (2, 12, a0_, .int x_662), (8, 8, q0_, .int x_658), (2, 14, a0_, .int x_11), (2, 0, a0_, .ref q0_), (2, 1, a0_, .ref q1_), (2, 2, a0_, .ref q2_), (2, 3, a0_, .ref q3_), (0, 0, q2_, .ref q0_), (0, 1, q2_, .ref q1_), (5, 0, q1_, .ref q6_), (5, 1, q1_, .ref q7_)]) rfl (fun fr_674 H locs hp hMr_674 g => ?_)
                    obtain ⟨x_675, h_676, hF_677⟩ := hp
                    have hG_678 := eOK.frame hMr_674 go_.2.2.2.1 mq2_ kq2_ (by decide) (by decide) hG_673
                    have g := g.more hF_677
                    subst hQ
                    exact W.vret hx hb hr (fun t ht hW => ⟨⟨_, rfl, Or.inr (⟨hG_678, x_675, h_676, x_658, h_659, x_670, h_671, (g.fcts [0, 4, 1] rfl)⟩), q3_of g hK ht hW⟩, g.2.2.1.F ht⟩) g.2.2.1.2.2 dX2_readArguments_233
                · have hG_679 := eOK.frame hMr_625 go_.2.2.2.1 mq2_ kq2_ (by decide) (by decide) hG_624
                  have g := g.more hF_631
                  refine lv_iload_n hx hb dX2_readArguments_180 rfl (lv_at hl 2 rfl) ?_
                  refine lv_aload_n hx hb dX2_readArguments_181 rfl (lv_at hl 4 rfl) ?_
                  refine g_getk (C := RX2) (T := TX2) (N := 16) hx hb hts (mc_ inX2) hown hK g rfl 14 (by decide) rfl (hts _ (List.mem_cons_of_mem _ t_430)) (fun _ h9 => h9) 2 rfl dX2_readArguments_182 ?_
                  refine lv_icmp_ge (tgt := 199) hx hb dX2_readArguments_185 (by decide) (fun c_680 => ?_) (fun c_680 => ?_)
                  · have fc_680 := le_f c_680
                    have b_681 : bd 0 2147483647 v69_2 := leR fc_680 b_558 (bdT v69_2) (by decide)
                    refine lv_aload_n hx hb dX2_readArguments_199 rfl (lv_at hl 4 rfl) ?_
                    refine g_getk (C := RX2) (T := TX2) (N := 16) hx hb hts (mc_ inX2) hown hK g rfl 3 (by decide) rfl (hts _ (List.mem_cons_of_mem _ t_419)) (fun _ h9 => h9) 6 rfl dX2_readArguments_200 ?_
                    refine lv_aload_n hx hb dX2_readArguments_203 rfl (lv_at hl 4 rfl) ?_
                    refine g_geti (C := RX2) (T := TX2) (N := 16) hx hb hts (mc_ inX2) hown hK g ma0_ ka0_ (by decide) rfl 12 (by decide) rfl (hts _ (List.mem_cons_of_mem _ t_428)) (fun _ h9 => h9) rfl dX2_readArguments_204 (fun x_682 bx_682 g => ?_)
                    refine lv_aload_n hx hb dX2_readArguments_207 rfl (lv_at hl 4 rfl) ?_
                    refine g_geti (C := RX2) (T := TX2) (N := 16) hx hb hts (mc_ inX2) hown hK g ma0_ ka0_ (by decide) rfl 13 (by decide) rfl (hts _ (List.mem_cons_of_mem _ t_429)) (fun _ h9 => h9) rfl dX2_readArguments_208 (fun x_683 bx_683 g => ?_)
                    have go_ := g
                    refine g_callv (va_runV (As := [.int x_682, .int x_683]) (rest := []) ⟨hx, hb, hml, hown, hts⟩ (r_X7_emit l dC dI L kd tys fr_625 H.size g.2.2.2.1 q3_ mq3_ kq3_ x_682 x_683) (cwV 2 hts (gV_ t_1301 t_1204 t_1205 t_191 t_1206) rfl rfl rfl (by decide +kernel) ⟨(Nat.le_of_ble_eq_true rfl), (Nat.le_of_ble_eq_true rfl)⟩) (pre3V g hK mq3_ kq3_ (by decide) (q := (RX7, TX7, 19)) rfl) rfl rfl hl.1 rfl (lv_room (Nat.le_of_ble_eq_true rfl)) dX2_readArguments_211 ⟨(Nat.le_of_ble_eq_true rfl), (Nat.le_of_ble_eq_true rfl)⟩) g hK (by decide) (by decide) (fx' := [(2, 13, a0_, .int x_683), (2, 12, a0_, .int x_682), (8, 6, q0_, .int 1201), (8, 8, q0_, .int x_629), (2, 14, a0_, .int x_11), (2, 0, a0_, .ref q0_), (2, 1, a0_, .ref q1_), (2, 2, a0_, .ref q2_), (2, 3, a0_, .ref q3_), (0, 0, q2_, .ref q0_), (0, 1, q2_, .ref q1_), (5, 0, q1_, .ref q6_), (5, 1, q1_, .ref q7_)]) rfl (fun fr_684 H locs hp hMr_684 g => ?_)
                    obtain ⟨x_685, h_686, hF_687⟩ := hp
                    have hG_688 := eOK.frame hMr_684 go_.2.2.2.1 mq2_ kq2_ (by decide) (by decide) hG_679
                    have g := g.more hF_687
                    refine lv_aload_n hx hb dX2_readArguments_214 rfl (lv_at hl 4 rfl) ?_
                    refine g_getk (C := RX2) (T := TX2) (N := 16) hx hb hts (mc_ inX2) hown hK g rfl 3 (by decide) rfl (hts _ (List.mem_cons_of_mem _ t_419)) (fun _ h9 => h9) 9 rfl dX2_readArguments_215 ?_
                    refine lv_bipush (v := 22) hx hb dX2_readArguments_218 (by decide) ?_
                    refine lv_iconst (v := 0) hx hb dX2_readArguments_220 (by decide) ?_
                    have go_ := g
                    refine g_callv (va_runV (As := [.int 22, .int 0]) (rest := []) ⟨hx, hb, hml, hown, hts⟩ (r_X7_emit l dC dI L kd tys fr_684 H.size g.2.2.2.1 q3_ mq3_ kq3_ 22 0) (cwV 2 hts (gV_ t_1301 t_1204 t_1205 t_191 t_1206) rfl rfl rfl (by decide +kernel) ⟨(Nat.le_of_ble_eq_true rfl), (Nat.le_of_ble_eq_true rfl)⟩) (pre3V g hK mq3_ kq3_ (by decide) (q := (RX7, TX7, 19)) rfl) rfl rfl hl.1 rfl (lv_room (Nat.le_of_ble_eq_true rfl)) dX2_readArguments_221 ⟨(Nat.le_of_ble_eq_true rfl), (Nat.le_of_ble_eq_true rfl)⟩) g hK (by decide) (by decide) (fx' := [(2, 13, a0_, .int x_683), (2, 12, a0_, .int x_682), (8, 6, q0_, .int 1201), (8, 8, q0_, .int x_629), (2, 14, a0_, .int x_11), (2, 0, a0_, .ref q0_), (2, 1, a0_, .ref q1_), (2, 2, a0_, .ref q2_), (2, 3, a0_, .ref q3_), (0, 0, q2_, .ref q0_), (0, 1, q2_, .ref q1_), (5, 0, q1_, .ref q6_), (5, 1, q1_, .ref q7_)]) rfl (fun fr_689 H locs hp hMr_689 g => ?_)
                    obtain ⟨x_690, h_691, hF_692⟩ := hp
                    have hG_693 := eOK.frame hMr_689 go_.2.2.2.1 mq2_ kq2_ (by decide) (by decide) hG_688
                    have g := g.more hF_692
                    refine lv_aload_n hx hb dX2_readArguments_224 rfl (lv_at hl 4 rfl) ?_
                    refine g_getk (C := RX2) (T := TX2) (N := 16) hx hb hts (mc_ inX2) hown hK g rfl 0 (by decide) rfl (hts _ (List.mem_cons_of_mem _ t_416)) (fun _ h9 => h9) 6 rfl dX2_readArguments_225 ?_
                    refine lv_bipush (v := 59) hx hb dX2_readArguments_228 (by decide) ?_
                    have kb_1201 : bd 1201 1201 (1201 : Int32) := ⟨by decide, by decide⟩
                    have go_ := g
                    refine g_callv (va_runV (As := [.int 59]) (rest := []) ⟨hx, hb, hml, hown, hts⟩ (r_X8_take_2 l dC dI L kd tys fr_689 H.size g.2.2.2.1 q0_ mq0_ kq0_ 59 1201 kb_1201 x_629 h_630 (g.fcts [3, 4] rfl)) (cwV 1 hts (gV_ t_1098 t_1099 t_1100 t_184 t_1101) rfl rfl rfl (by decide +kernel) ⟨(Nat.le_of_ble_eq_true rfl), (Nat.le_of_ble_eq_true rfl)⟩) (pre3V g hK mq0_ kq0_ (by decide) (q := (RX8, TX8, 10)) rfl) rfl rfl hl.1 rfl (lv_room (Nat.le_of_ble_eq_true rfl)) dX2_readArguments_230 ⟨(Nat.le_of_ble_eq_true rfl), (Nat.le_of_ble_eq_true rfl)⟩) g hK (by decide) (by decide) (fx' := [(7, 6, q3_, .int x_690), (2, 13, a0_, .int x_683), (2, 12, a0_, .int x_682), (8, 8, q0_, .int x_629), (2, 14, a0_, .int x_11), (2, 0, a0_, .ref q0_), (2, 1, a0_, .ref q1_), (2, 2, a0_, .ref q2_), (2, 3, a0_, .ref q3_), (0, 0, q2_, .ref q0_), (0, 1, q2_, .ref q1_), (5, 0, q1_, .ref q6_), (5, 1, q1_, .ref q7_)]) rfl (fun fr_694 H locs hp hMr_694 g => ?_)
                    obtain ⟨x_695, h_696, hF_697⟩ := hp
                    have hG_698 := eOK.frame hMr_694 go_.2.2.2.1 mq2_ kq2_ (by decide) (by decide) hG_693
                    have g := g.more hF_697
                    subst hQ
                    exact W.vret hx hb hr (fun t ht hW => ⟨⟨_, rfl, Or.inr (⟨hG_698, x_695, h_696, x_629, h_630, x_690, h_691, (g.fcts [0, 4, 1] rfl)⟩), q3_of g hK ht hW⟩, g.2.2.1.F ht⟩) g.2.2.1.2.2 dX2_readArguments_233
                  · have fc_680 := nle_f c_680
                    have b_699 : bd (-2147483648) (-1) v69_2 := ltL fc_680 (bdT v69_2) b_558 (by decide)
                    refine lv_aload_n hx hb dX2_readArguments_188 rfl (lv_at hl 4 rfl) ?_
                    refine g_getk (C := RX2) (T := TX2) (N := 16) hx hb hts (mc_ inX2) hown hK g rfl 0 (by decide) rfl (hts _ (List.mem_cons_of_mem _ t_416)) (fun _ h9 => h9) 3 rfl dX2_readArguments_189 ?_
                    refine lv_bipush (v := 6) hx hb dX2_readArguments_192 (by decide) ?_
                    refine lv_iload hx hb dX2_readArguments_194 (lv_at hl 0 rfl) ?_
                    have kb_6 : bd 6 6 (6 : Int32) := ⟨by decide, by decide⟩
                    have go_ := g
                    refine g_callv (va_runV (As := [.int 6, .int r_623]) (rest := []) ⟨hx, hb, hml, hown, hts⟩ (r_X8_fail_2 l dC dI L kd tys fr_625 H.size g.2.2.2.1 q0_ mq0_ kq0_ 6 (bd_sub kb_6 (by decide)) r_623 x_629 h_630 (g.fcts [1] rfl)) (cwV 2 hts (gV_ t_1122 t_1107 t_1108 t_184 t_1109) rfl rfl rfl (by decide +kernel) ⟨(Nat.le_of_ble_eq_true rfl), (Nat.le_of_ble_eq_true rfl)⟩) (pre3V g hK mq0_ kq0_ (by decide) (q := (RX8, TX8, 10)) rfl) rfl rfl hl.1 rfl (lv_room (Nat.le_of_ble_eq_true rfl)) dX2_readArguments_196 ⟨(Nat.le_of_ble_eq_true rfl), (Nat.le_of_ble_eq_true rfl)⟩) g hK (by decide) (by decide) (fx' := [(8, 8, q0_, .int x_629), (2, 14, a0_, .int x_11), (2, 0, a0_, .ref q0_), (2, 1, a0_, .ref q1_), (2, 2, a0_, .ref q2_), (2, 3, a0_, .ref q3_), (0, 0, q2_, .ref q0_), (0, 1, q2_, .ref q1_), (5, 0, q1_, .ref q6_), (5, 1, q1_, .ref q7_)]) rfl (fun fr_700 H locs hp hMr_700 g => ?_)
                    have hF_701 := hp
                    have hG_702 := eOK.frame hMr_700 go_.2.2.2.1 mq2_ kq2_ (by decide) (by decide) hG_679
                    have g := g.more hF_701
                    refine lv_aload_n hx hb dX2_readArguments_199 rfl (lv_at hl 4 rfl) ?_
                    refine g_getk (C := RX2) (T := TX2) (N := 16) hx hb hts (mc_ inX2) hown hK g rfl 3 (by decide) rfl (hts _ (List.mem_cons_of_mem _ t_419)) (fun _ h9 => h9) 6 rfl dX2_readArguments_200 ?_
                    refine lv_aload_n hx hb dX2_readArguments_203 rfl (lv_at hl 4 rfl) ?_
                    refine g_geti (C := RX2) (T := TX2) (N := 16) hx hb hts (mc_ inX2) hown hK g ma0_ ka0_ (by decide) rfl 12 (by decide) rfl (hts _ (List.mem_cons_of_mem _ t_428)) (fun _ h9 => h9) rfl dX2_readArguments_204 (fun x_703 bx_703 g => ?_)
                    refine lv_aload_n hx hb dX2_readArguments_207 rfl (lv_at hl 4 rfl) ?_
                    refine g_geti (C := RX2) (T := TX2) (N := 16) hx hb hts (mc_ inX2) hown hK g ma0_ ka0_ (by decide) rfl 13 (by decide) rfl (hts _ (List.mem_cons_of_mem _ t_429)) (fun _ h9 => h9) rfl dX2_readArguments_208 (fun x_704 bx_704 g => ?_)
                    have go_ := g
                    refine g_callv (va_runV (As := [.int x_703, .int x_704]) (rest := []) ⟨hx, hb, hml, hown, hts⟩ (r_X7_emit l dC dI L kd tys fr_700 H.size g.2.2.2.1 q3_ mq3_ kq3_ x_703 x_704) (cwV 2 hts (gV_ t_1301 t_1204 t_1205 t_191 t_1206) rfl rfl rfl (by decide +kernel) ⟨(Nat.le_of_ble_eq_true rfl), (Nat.le_of_ble_eq_true rfl)⟩) (pre3V g hK mq3_ kq3_ (by decide) (q := (RX7, TX7, 19)) rfl) rfl rfl hl.1 rfl (lv_room (Nat.le_of_ble_eq_true rfl)) dX2_readArguments_211 ⟨(Nat.le_of_ble_eq_true rfl), (Nat.le_of_ble_eq_true rfl)⟩) g hK (by decide) (by decide) (fx' := [(2, 13, a0_, .int x_704), (2, 12, a0_, .int x_703), (8, 6, q0_, .int 1201), (8, 8, q0_, .int x_629), (2, 14, a0_, .int x_11), (2, 0, a0_, .ref q0_), (2, 1, a0_, .ref q1_), (2, 2, a0_, .ref q2_), (2, 3, a0_, .ref q3_), (0, 0, q2_, .ref q0_), (0, 1, q2_, .ref q1_), (5, 0, q1_, .ref q6_), (5, 1, q1_, .ref q7_)]) rfl (fun fr_705 H locs hp hMr_705 g => ?_)
                    obtain ⟨x_706, h_707, hF_708⟩ := hp
                    have hG_709 := eOK.frame hMr_705 go_.2.2.2.1 mq2_ kq2_ (by decide) (by decide) hG_702
                    have g := g.more hF_708
                    refine lv_aload_n hx hb dX2_readArguments_214 rfl (lv_at hl 4 rfl) ?_
                    refine g_getk (C := RX2) (T := TX2) (N := 16) hx hb hts (mc_ inX2) hown hK g rfl 3 (by decide) rfl (hts _ (List.mem_cons_of_mem _ t_419)) (fun _ h9 => h9) 9 rfl dX2_readArguments_215 ?_
                    refine lv_bipush (v := 22) hx hb dX2_readArguments_218 (by decide) ?_
                    refine lv_iconst (v := 0) hx hb dX2_readArguments_220 (by decide) ?_
                    have go_ := g
                    refine g_callv (va_runV (As := [.int 22, .int 0]) (rest := []) ⟨hx, hb, hml, hown, hts⟩ (r_X7_emit l dC dI L kd tys fr_705 H.size g.2.2.2.1 q3_ mq3_ kq3_ 22 0) (cwV 2 hts (gV_ t_1301 t_1204 t_1205 t_191 t_1206) rfl rfl rfl (by decide +kernel) ⟨(Nat.le_of_ble_eq_true rfl), (Nat.le_of_ble_eq_true rfl)⟩) (pre3V g hK mq3_ kq3_ (by decide) (q := (RX7, TX7, 19)) rfl) rfl rfl hl.1 rfl (lv_room (Nat.le_of_ble_eq_true rfl)) dX2_readArguments_221 ⟨(Nat.le_of_ble_eq_true rfl), (Nat.le_of_ble_eq_true rfl)⟩) g hK (by decide) (by decide) (fx' := [(2, 13, a0_, .int x_704), (2, 12, a0_, .int x_703), (8, 6, q0_, .int 1201), (8, 8, q0_, .int x_629), (2, 14, a0_, .int x_11), (2, 0, a0_, .ref q0_), (2, 1, a0_, .ref q1_), (2, 2, a0_, .ref q2_), (2, 3, a0_, .ref q3_), (0, 0, q2_, .ref q0_), (0, 1, q2_, .ref q1_), (5, 0, q1_, .ref q6_), (5, 1, q1_, .ref q7_)]) rfl (fun fr_710 H locs hp hMr_710 g => ?_)
                    obtain ⟨x_711, h_712, hF_713⟩ := hp
                    have hG_714 := eOK.frame hMr_710 go_.2.2.2.1 mq2_ kq2_ (by decide) (by decide) hG_709
                    have g := g.more hF_713
                    refine lv_aload_n hx hb dX2_readArguments_224 rfl (lv_at hl 4 rfl) ?_
                    refine g_getk (C := RX2) (T := TX2) (N := 16) hx hb hts (mc_ inX2) hown hK g rfl 0 (by decide) rfl (hts _ (List.mem_cons_of_mem _ t_416)) (fun _ h9 => h9) 6 rfl dX2_readArguments_225 ?_
                    refine lv_bipush (v := 59) hx hb dX2_readArguments_228 (by decide) ?_
                    have kb_1201 : bd 1201 1201 (1201 : Int32) := ⟨by decide, by decide⟩
                    have go_ := g
                    refine g_callv (va_runV (As := [.int 59]) (rest := []) ⟨hx, hb, hml, hown, hts⟩ (r_X8_take_2 l dC dI L kd tys fr_710 H.size g.2.2.2.1 q0_ mq0_ kq0_ 59 1201 kb_1201 x_629 h_630 (g.fcts [3, 4] rfl)) (cwV 1 hts (gV_ t_1098 t_1099 t_1100 t_184 t_1101) rfl rfl rfl (by decide +kernel) ⟨(Nat.le_of_ble_eq_true rfl), (Nat.le_of_ble_eq_true rfl)⟩) (pre3V g hK mq0_ kq0_ (by decide) (q := (RX8, TX8, 10)) rfl) rfl rfl hl.1 rfl (lv_room (Nat.le_of_ble_eq_true rfl)) dX2_readArguments_230 ⟨(Nat.le_of_ble_eq_true rfl), (Nat.le_of_ble_eq_true rfl)⟩) g hK (by decide) (by decide) (fx' := [(7, 6, q3_, .int x_711), (2, 13, a0_, .int x_704), (2, 12, a0_, .int x_703), (8, 8, q0_, .int x_629), (2, 14, a0_, .int x_11), (2, 0, a0_, .ref q0_), (2, 1, a0_, .ref q1_), (2, 2, a0_, .ref q2_), (2, 3, a0_, .ref q3_), (0, 0, q2_, .ref q0_), (0, 1, q2_, .ref q1_), (5, 0, q1_, .ref q6_), (5, 1, q1_, .ref q7_)]) rfl (fun fr_715 H locs hp hMr_715 g => ?_)
                    obtain ⟨x_716, h_717, hF_718⟩ := hp
                    have hG_719 := eOK.frame hMr_715 go_.2.2.2.1 mq2_ kq2_ (by decide) (by decide) hG_714
                    have g := g.more hF_718
                    subst hQ
                    exact W.vret hx hb hr (fun t ht hW => ⟨⟨_, rfl, Or.inr (⟨hG_719, x_716, h_717, x_629, h_630, x_711, h_712, (g.fcts [0, 4, 1] rfl)⟩), q3_of g hK ht hW⟩, g.2.2.1.F ht⟩) g.2.2.1.2.2 dX2_readArguments_233
              · have fc_621 := nlt_f c_621
                have b_720 : bd 0 3 v69_4 := leL fc_621 bv69_4 kb_3 (by decide)
                refine lv_iload_n hx hb dX2_readArguments_75 rfl (lv_at hl 1 rfl) ?_
                refine lv_if_eq (tgt := 162) hx hb dX2_readArguments_76 (by decide) (fun c_721 => ?_) (fun c_721 => ?_)
                · have fc_721 := eq_f c_721
                  have b_722 : bd 0 0 v69_3 := eqX fc_721 bv69_3 kb_0 (by decide)
                  refine lv_aload_n hx hb dX2_readArguments_162 rfl (lv_at hl 4 rfl) ?_
                  refine g_getk (C := RX2) (T := TX2) (N := 16) hx hb hts (mc_ inX2) hown hK g rfl 0 (by decide) rfl (hts _ (List.mem_cons_of_mem _ t_416)) (fun _ h9 => h9) 2 rfl dX2_readArguments_163 ?_
                  have go_ := g
                  refine g_calli (va_runV (As := []) (rest := []) ⟨hx, hb, hml, hown, hts⟩ (r_X8_place l dC dI L kd tys f H.size g.2.2.2.1 q0_ mq0_ kq0_) (cwV 0 hts (gV_ t_1110 t_1111 t_1112 t_184 t_1113) rfl rfl rfl (by decide +kernel) ⟨(Nat.le_of_ble_eq_true rfl), (Nat.le_of_ble_eq_true rfl)⟩) (pre3V g hK mq0_ kq0_ (by decide) (q := (RX8, TX8, 10)) rfl) rfl rfl hl.1 rfl (lv_room (Nat.le_of_ble_eq_true rfl)) dX2_readArguments_166 ⟨(Nat.le_of_ble_eq_true rfl), (Nat.le_of_ble_eq_true rfl)⟩) g hK (by decide) (by decide) (fx' := [(2, 14, a0_, .int x_11), (8, 8, q0_, .int y0_), (2, 0, a0_, .ref q0_), (2, 1, a0_, .ref q1_), (2, 2, a0_, .ref q2_), (2, 3, a0_, .ref q3_), (0, 0, q2_, .ref q0_), (0, 1, q2_, .ref q1_), (5, 0, q1_, .ref q6_), (5, 1, q1_, .ref q7_)]) rfl (fun r_723 fr_723 H locs hp hMr_723 g => ?_)
                  have hG_724 := eOK.frame hMr_723 go_.2.2.2.1 mq2_ kq2_ (by decide) (by decide) hG69_e_q2_
                  refine lv_istore (lv' := [(4, .int r_723), (3, .int v69_3), (2, .int v69_2), (1, .int r_1), (0, .ref a0_)]) hx hb dX2_readArguments_169 hl (by decide) rfl (fun ls hl => ?_)
                  refine lv_aload_n hx hb dX2_readArguments_171 rfl (lv_at hl 4 rfl) ?_
                  refine g_getk (C := RX2) (T := TX2) (N := 16) hx hb hts (mc_ inX2) hown hK g rfl 0 (by decide) rfl (hts _ (List.mem_cons_of_mem _ t_416)) (fun _ h9 => h9) 2 rfl dX2_readArguments_172 ?_
                  refine lv_bipush (v := 41) hx hb dX2_readArguments_175 (by decide) ?_
                  have go_ := g
                  refine g_callv (va_runV (As := [.int 41]) (rest := []) ⟨hx, hb, hml, hown, hts⟩ (r_X8_take l dC dI L kd tys fr_723 H.size g.2.2.2.1 q0_ mq0_ kq0_ 41 y0_ by0_ (g.fcts [1] rfl)) (cwV 1 hts (gV_ t_1098 t_1099 t_1100 t_184 t_1101) rfl rfl rfl (by decide +kernel) ⟨(Nat.le_of_ble_eq_true rfl), (Nat.le_of_ble_eq_true rfl)⟩) (pre3V g hK mq0_ kq0_ (by decide) (q := (RX8, TX8, 10)) rfl) rfl rfl hl.1 rfl (lv_room (Nat.le_of_ble_eq_true rfl)) dX2_readArguments_177 ⟨(Nat.le_of_ble_eq_true rfl), (Nat.le_of_ble_eq_true rfl)⟩) g hK (by decide) (by decide) (fx' := [(2, 14, a0_, .int x_11), (2, 0, a0_, .ref q0_), (2, 1, a0_, .ref q1_), (2, 2, a0_, .ref q2_), (2, 3, a0_, .ref q3_), (0, 0, q2_, .ref q0_), (0, 1, q2_, .ref q1_), (5, 0, q1_, .ref q6_), (5, 1, q1_, .ref q7_)]) rfl (fun fr_725 H locs hp hMr_725 g => ?_)
                  rcases hp with ⟨x_726, h_727, hF_728⟩ | ⟨x_729, h_730, hF_731⟩
                  · have hG_732 := eOK.frame hMr_725 go_.2.2.2.1 mq2_ kq2_ (by decide) (by decide) hG_724
                    have g := g.more hF_728
                    refine lv_iload_n hx hb dX2_readArguments_180 rfl (lv_at hl 2 rfl) ?_
                    refine lv_aload_n hx hb dX2_readArguments_181 rfl (lv_at hl 4 rfl) ?_
                    refine g_getk (C := RX2) (T := TX2) (N := 16) hx hb hts (mc_ inX2) hown hK g rfl 14 (by decide) rfl (hts _ (List.mem_cons_of_mem _ t_430)) (fun _ h9 => h9) 2 rfl dX2_readArguments_182 ?_
                    refine lv_icmp_ge (tgt := 199) hx hb dX2_readArguments_185 (by decide) (fun c_733 => ?_) (fun c_733 => ?_)
                    · have fc_733 := le_f c_733
                      have b_734 : bd 0 2147483647 v69_2 := leR fc_733 b_558 (bdT v69_2) (by decide)
                      refine lv_aload_n hx hb dX2_readArguments_199 rfl (lv_at hl 4 rfl) ?_
                      refine g_getk (C := RX2) (T := TX2) (N := 16) hx hb hts (mc_ inX2) hown hK g rfl 3 (by decide) rfl (hts _ (List.mem_cons_of_mem _ t_419)) (fun _ h9 => h9) 6 rfl dX2_readArguments_200 ?_
                      refine lv_aload_n hx hb dX2_readArguments_203 rfl (lv_at hl 4 rfl) ?_
                      refine g_geti (C := RX2) (T := TX2) (N := 16) hx hb hts (mc_ inX2) hown hK g ma0_ ka0_ (by decide) rfl 12 (by decide) rfl (hts _ (List.mem_cons_of_mem _ t_428)) (fun _ h9 => h9) rfl dX2_readArguments_204 (fun x_735 bx_735 g => ?_)
                      refine lv_aload_n hx hb dX2_readArguments_207 rfl (lv_at hl 4 rfl) ?_
                      refine g_geti (C := RX2) (T := TX2) (N := 16) hx hb hts (mc_ inX2) hown hK g ma0_ ka0_ (by decide) rfl 13 (by decide) rfl (hts _ (List.mem_cons_of_mem _ t_429)) (fun _ h9 => h9) rfl dX2_readArguments_208 (fun x_736 bx_736 g => ?_)
                      have go_ := g
                      refine g_callv (va_runV (As := [.int x_735, .int x_736]) (rest := []) ⟨hx, hb, hml, hown, hts⟩ (r_X7_emit l dC dI L kd tys fr_725 H.size g.2.2.2.1 q3_ mq3_ kq3_ x_735 x_736) (cwV 2 hts (gV_ t_1301 t_1204 t_1205 t_191 t_1206) rfl rfl rfl (by decide +kernel) ⟨(Nat.le_of_ble_eq_true rfl), (Nat.le_of_ble_eq_true rfl)⟩) (pre3V g hK mq3_ kq3_ (by decide) (q := (RX7, TX7, 19)) rfl) rfl rfl hl.1 rfl (lv_room (Nat.le_of_ble_eq_true rfl)) dX2_readArguments_211 ⟨(Nat.le_of_ble_eq_true rfl), (Nat.le_of_ble_eq_true rfl)⟩) g hK (by decide) (by decide) (fx' := [(2, 13, a0_, .int x_736), (2, 12, a0_, .int x_735), (8, 6, q0_, .int x_726), (8, 8, q0_, .int y0_), (2, 14, a0_, .int x_11), (2, 0, a0_, .ref q0_), (2, 1, a0_, .ref q1_), (2, 2, a0_, .ref q2_), (2, 3, a0_, .ref q3_), (0, 0, q2_, .ref q0_), (0, 1, q2_, .ref q1_), (5, 0, q1_, .ref q6_), (5, 1, q1_, .ref q7_)]) rfl (fun fr_737 H locs hp hMr_737 g => ?_)
                      obtain ⟨x_738, h_739, hF_740⟩ := hp
                      have hG_741 := eOK.frame hMr_737 go_.2.2.2.1 mq2_ kq2_ (by decide) (by decide) hG_732
                      have g := g.more hF_740
                      refine lv_aload_n hx hb dX2_readArguments_214 rfl (lv_at hl 4 rfl) ?_
                      refine g_getk (C := RX2) (T := TX2) (N := 16) hx hb hts (mc_ inX2) hown hK g rfl 3 (by decide) rfl (hts _ (List.mem_cons_of_mem _ t_419)) (fun _ h9 => h9) 9 rfl dX2_readArguments_215 ?_
                      refine lv_bipush (v := 22) hx hb dX2_readArguments_218 (by decide) ?_
                      refine lv_iconst (v := 0) hx hb dX2_readArguments_220 (by decide) ?_
                      have go_ := g
                      refine g_callv (va_runV (As := [.int 22, .int 0]) (rest := []) ⟨hx, hb, hml, hown, hts⟩ (r_X7_emit l dC dI L kd tys fr_737 H.size g.2.2.2.1 q3_ mq3_ kq3_ 22 0) (cwV 2 hts (gV_ t_1301 t_1204 t_1205 t_191 t_1206) rfl rfl rfl (by decide +kernel) ⟨(Nat.le_of_ble_eq_true rfl), (Nat.le_of_ble_eq_true rfl)⟩) (pre3V g hK mq3_ kq3_ (by decide) (q := (RX7, TX7, 19)) rfl) rfl rfl hl.1 rfl (lv_room (Nat.le_of_ble_eq_true rfl)) dX2_readArguments_221 ⟨(Nat.le_of_ble_eq_true rfl), (Nat.le_of_ble_eq_true rfl)⟩) g hK (by decide) (by decide) (fx' := [(2, 13, a0_, .int x_736), (2, 12, a0_, .int x_735), (8, 6, q0_, .int x_726), (8, 8, q0_, .int y0_), (2, 14, a0_, .int x_11), (2, 0, a0_, .ref q0_), (2, 1, a0_, .ref q1_), (2, 2, a0_, .ref q2_), (2, 3, a0_, .ref q3_), (0, 0, q2_, .ref q0_), (0, 1, q2_, .ref q1_), (5, 0, q1_, .ref q6_), (5, 1, q1_, .ref q7_)]) rfl (fun fr_742 H locs hp hMr_742 g => ?_)
                      obtain ⟨x_743, h_744, hF_745⟩ := hp
                      have hG_746 := eOK.frame hMr_742 go_.2.2.2.1 mq2_ kq2_ (by decide) (by decide) hG_741
                      have g := g.more hF_745
                      refine lv_aload_n hx hb dX2_readArguments_224 rfl (lv_at hl 4 rfl) ?_
                      refine g_getk (C := RX2) (T := TX2) (N := 16) hx hb hts (mc_ inX2) hown hK g rfl 0 (by decide) rfl (hts _ (List.mem_cons_of_mem _ t_416)) (fun _ h9 => h9) 6 rfl dX2_readArguments_225 ?_
                      refine lv_bipush (v := 59) hx hb dX2_readArguments_228 (by decide) ?_
                      have go_ := g
                      refine g_callv (va_runV (As := [.int 59]) (rest := []) ⟨hx, hb, hml, hown, hts⟩ (r_X8_take l dC dI L kd tys fr_742 H.size g.2.2.2.1 q0_ mq0_ kq0_ 59 y0_ by0_ (g.fcts [4] rfl)) (cwV 1 hts (gV_ t_1098 t_1099 t_1100 t_184 t_1101) rfl rfl rfl (by decide +kernel) ⟨(Nat.le_of_ble_eq_true rfl), (Nat.le_of_ble_eq_true rfl)⟩) (pre3V g hK mq0_ kq0_ (by decide) (q := (RX8, TX8, 10)) rfl) rfl rfl hl.1 rfl (lv_room (Nat.le_of_ble_eq_true rfl)) dX2_readArguments_230 ⟨(Nat.le_of_ble_eq_true rfl), (Nat.le_of_ble_eq_true rfl)⟩) g hK (by decide) (by decide) (fx' := [(7, 6, q3_, .int x_743), (2, 13, a0_, .int x_736), (2, 12, a0_, .int x_735), (2, 14, a0_, .int x_11), (2, 0, a0_, .ref q0_), (2, 1, a0_, .ref q1_), (2, 2, a0_, .ref q2_), (2, 3, a0_, .ref q3_), (0, 0, q2_, .ref q0_), (0, 1, q2_, .ref q1_), (5, 0, q1_, .ref q6_), (5, 1, q1_, .ref q7_)]) rfl (fun fr_747 H locs hp hMr_747 g => ?_)
                      rcases hp with ⟨x_748, h_749, hF_750⟩ | ⟨x_751, h_752, hF_753⟩
                      · have hG_754 := eOK.frame hMr_747 go_.2.2.2.1 mq2_ kq2_ (by decide) (by decide) hG_746
                        have g := g.more hF_750
                        subst hQ
                        exact W.vret hx hb hr (fun t ht hW => ⟨⟨_, rfl, Or.inl ⟨hG_754, x_748, h_749, x_743, h_744, (g.fcts [0, 1, 2] rfl)⟩, q3_of g hK ht hW⟩, g.2.2.1.F ht⟩) g.2.2.1.2.2 dX2_readArguments_233
                      · have hG_755 := eOK.frame hMr_747 go_.2.2.2.1 mq2_ kq2_ (by decide) (by decide) hG_746
                        have g := g.more hF_753
                        have kb_1201 : bd 1201 1201 (1201 : Int32) := ⟨by decide, by decide⟩
                        subst hQ
                        exact W.vret hx hb hr (fun t ht hW => ⟨⟨_, rfl, Or.inr (⟨hG_755, 1201, kb_1201, x_751, h_752, x_743, h_744, (g.fcts [0, 1, 2] rfl)⟩), q3_of g hK ht hW⟩, g.2.2.1.F ht⟩) g.2.2.1.2.2 dX2_readArguments_233
                    · have fc_733 := nle_f c_733
                      have b_756 : bd (-2147483648) (-1) v69_2 := ltL fc_733 (bdT v69_2) b_558 (by decide)
                      refine lv_aload_n hx hb dX2_readArguments_188 rfl (lv_at hl 4 rfl) ?_
                      refine g_getk (C := RX2) (T := TX2) (N := 16) hx hb hts (mc_ inX2) hown hK g rfl 0 (by decide) rfl (hts _ (List.mem_cons_of_mem _ t_416)) (fun _ h9 => h9) 3 rfl dX2_readArguments_189 ?_
                      refine lv_bipush (v := 6) hx hb dX2_readArguments_192 (by decide) ?_
                      refine lv_iload hx hb dX2_readArguments_194 (lv_at hl 0 rfl) ?_
                      have kb_6 : bd 6 6 (6 : Int32) := ⟨by decide, by decide⟩
                      have go_ := g
                      refine g_callv (va_runV (As := [.int 6, .int r_723]) (rest := []) ⟨hx, hb, hml, hown, hts⟩ (r_X8_fail l dC dI L kd tys fr_725 H.size g.2.2.2.1 q0_ mq0_ kq0_ 6 (bd_sub kb_6 (by decide)) r_723 y0_ by0_ (g.fcts [1] rfl)) (cwV 2 hts (gV_ t_1122 t_1107 t_1108 t_184 t_1109) rfl rfl rfl (by decide +kernel) ⟨(Nat.le_of_ble_eq_true rfl), (Nat.le_of_ble_eq_true rfl)⟩) (pre3V g hK mq0_ kq0_ (by decide) (q := (RX8, TX8, 10)) rfl) rfl rfl hl.1 rfl (lv_room (Nat.le_of_ble_eq_true rfl)) dX2_readArguments_196 ⟨(Nat.le_of_ble_eq_true rfl), (Nat.le_of_ble_eq_true rfl)⟩) g hK (by decide) (by decide) (fx' := [(2, 14, a0_, .int x_11), (2, 0, a0_, .ref q0_), (2, 1, a0_, .ref q1_), (2, 2, a0_, .ref q2_), (2, 3, a0_, .ref q3_), (0, 0, q2_, .ref q0_), (0, 1, q2_, .ref q1_), (5, 0, q1_, .ref q6_), (5, 1, q1_, .ref q7_)]) rfl (fun fr_757 H locs hp hMr_757 g => ?_)
                      obtain ⟨x_758, h_759, hF_760⟩ := hp
                      have hG_761 := eOK.frame hMr_757 go_.2.2.2.1 mq2_ kq2_ (by decide) (by decide) hG_732
                      have g := g.more hF_760
                      refine lv_aload_n hx hb dX2_readArguments_199 rfl (lv_at hl 4 rfl) ?_
                      refine g_getk (C := RX2) (T := TX2) (N := 16) hx hb hts (mc_ inX2) hown hK g rfl 3 (by decide) rfl (hts _ (List.mem_cons_of_mem _ t_419)) (fun _ h9 => h9) 6 rfl dX2_readArguments_200 ?_
                      refine lv_aload_n hx hb dX2_readArguments_203 rfl (lv_at hl 4 rfl) ?_
                      refine g_geti (C := RX2) (T := TX2) (N := 16) hx hb hts (mc_ inX2) hown hK g ma0_ ka0_ (by decide) rfl 12 (by decide) rfl (hts _ (List.mem_cons_of_mem _ t_428)) (fun _ h9 => h9) rfl dX2_readArguments_204 (fun x_762 bx_762 g => ?_)
                      refine lv_aload_n hx hb dX2_readArguments_207 rfl (lv_at hl 4 rfl) ?_
                      refine g_geti (C := RX2) (T := TX2) (N := 16) hx hb hts (mc_ inX2) hown hK g ma0_ ka0_ (by decide) rfl 13 (by decide) rfl (hts _ (List.mem_cons_of_mem _ t_429)) (fun _ h9 => h9) rfl dX2_readArguments_208 (fun x_763 bx_763 g => ?_)
                      have go_ := g
                      refine g_callv (va_runV (As := [.int x_762, .int x_763]) (rest := []) ⟨hx, hb, hml, hown, hts⟩ (r_X7_emit l dC dI L kd tys fr_757 H.size g.2.2.2.1 q3_ mq3_ kq3_ x_762 x_763) (cwV 2 hts (gV_ t_1301 t_1204 t_1205 t_191 t_1206) rfl rfl rfl (by decide +kernel) ⟨(Nat.le_of_ble_eq_true rfl), (Nat.le_of_ble_eq_true rfl)⟩) (pre3V g hK mq3_ kq3_ (by decide) (q := (RX7, TX7, 19)) rfl) rfl rfl hl.1 rfl (lv_room (Nat.le_of_ble_eq_true rfl)) dX2_readArguments_211 ⟨(Nat.le_of_ble_eq_true rfl), (Nat.le_of_ble_eq_true rfl)⟩) g hK (by decide) (by decide) (fx' := [(2, 13, a0_, .int x_763), (2, 12, a0_, .int x_762), (8, 6, q0_, .int 1201), (8, 8, q0_, .int x_758), (2, 14, a0_, .int x_11), (2, 0, a0_, .ref q0_), (2, 1, a0_, .ref q1_), (2, 2, a0_, .ref q2_), (2, 3, a0_, .ref q3_), (0, 0, q2_, .ref q0_), (0, 1, q2_, .ref q1_), (5, 0, q1_, .ref q6_), (5, 1, q1_, .ref q7_)]) rfl (fun fr_764 H locs hp hMr_764 g => ?_)
                      obtain ⟨x_765, h_766, hF_767⟩ := hp
                      have hG_768 := eOK.frame hMr_764 go_.2.2.2.1 mq2_ kq2_ (by decide) (by decide) hG_761
                      have g := g.more hF_767
                      refine lv_aload_n hx hb dX2_readArguments_214 rfl (lv_at hl 4 rfl) ?_
                      refine g_getk (C := RX2) (T := TX2) (N := 16) hx hb hts (mc_ inX2) hown hK g rfl 3 (by decide) rfl (hts _ (List.mem_cons_of_mem _ t_419)) (fun _ h9 => h9) 9 rfl dX2_readArguments_215 ?_
                      refine lv_bipush (v := 22) hx hb dX2_readArguments_218 (by decide) ?_
                      refine lv_iconst (v := 0) hx hb dX2_readArguments_220 (by decide) ?_
                      have go_ := g
                      refine g_callv (va_runV (As := [.int 22, .int 0]) (rest := []) ⟨hx, hb, hml, hown, hts⟩ (r_X7_emit l dC dI L kd tys fr_764 H.size g.2.2.2.1 q3_ mq3_ kq3_ 22 0) (cwV 2 hts (gV_ t_1301 t_1204 t_1205 t_191 t_1206) rfl rfl rfl (by decide +kernel) ⟨(Nat.le_of_ble_eq_true rfl), (Nat.le_of_ble_eq_true rfl)⟩) (pre3V g hK mq3_ kq3_ (by decide) (q := (RX7, TX7, 19)) rfl) rfl rfl hl.1 rfl (lv_room (Nat.le_of_ble_eq_true rfl)) dX2_readArguments_221 ⟨(Nat.le_of_ble_eq_true rfl), (Nat.le_of_ble_eq_true rfl)⟩) g hK (by decide) (by decide) (fx' := [(2, 13, a0_, .int x_763), (2, 12, a0_, .int x_762), (8, 6, q0_, .int 1201), (8, 8, q0_, .int x_758), (2, 14, a0_, .int x_11), (2, 0, a0_, .ref q0_), (2, 1, a0_, .ref q1_), (2, 2, a0_, .ref q2_), (2, 3, a0_, .ref q3_), (0, 0, q2_, .ref q0_), (0, 1, q2_, .ref q1_), (5, 0, q1_, .ref q6_), (5, 1, q1_, .ref q7_)]) rfl (fun fr_769 H locs hp hMr_769 g => ?_)
                      obtain ⟨x_770, h_771, hF_772⟩ := hp
                      have hG_773 := eOK.frame hMr_769 go_.2.2.2.1 mq2_ kq2_ (by decide) (by decide) hG_768
                      have g := g.more hF_772
                      refine lv_aload_n hx hb dX2_readArguments_224 rfl (lv_at hl 4 rfl) ?_
                      refine g_getk (C := RX2) (T := TX2) (N := 16) hx hb hts (mc_ inX2) hown hK g rfl 0 (by decide) rfl (hts _ (List.mem_cons_of_mem _ t_416)) (fun _ h9 => h9) 6 rfl dX2_readArguments_225 ?_
                      refine lv_bipush (v := 59) hx hb dX2_readArguments_228 (by decide) ?_
                      have kb_1201 : bd 1201 1201 (1201 : Int32) := ⟨by decide, by decide⟩
                      have go_ := g
                      refine g_callv (va_runV (As := [.int 59]) (rest := []) ⟨hx, hb, hml, hown, hts⟩ (r_X8_take_2 l dC dI L kd tys fr_769 H.size g.2.2.2.1 q0_ mq0_ kq0_ 59 1201 kb_1201 x_758 h_759 (g.fcts [3, 4] rfl)) (cwV 1 hts (gV_ t_1098 t_1099 t_1100 t_184 t_1101) rfl rfl rfl (by decide +kernel) ⟨(Nat.le_of_ble_eq_true rfl), (Nat.le_of_ble_eq_true rfl)⟩) (pre3V g hK mq0_ kq0_ (by decide) (q := (RX8, TX8, 10)) rfl) rfl rfl hl.1 rfl (lv_room (Nat.le_of_ble_eq_true rfl)) dX2_readArguments_230 ⟨(Nat.le_of_ble_eq_true rfl), (Nat.le_of_ble_eq_true rfl)⟩) g hK (by decide) (by decide) (fx' := [(7, 6, q3_, .int x_770), (2, 13, a0_, .int x_763), (2, 12, a0_, .int x_762), (8, 8, q0_, .int x_758), (2, 14, a0_, .int x_11), (2, 0, a0_, .ref q0_), (2, 1, a0_, .ref q1_), (2, 2, a0_, .ref q2_), (2, 3, a0_, .ref q3_), (0, 0, q2_, .ref q0_), (0, 1, q2_, .ref q1_), (5, 0, q1_, .ref q6_), (5, 1, q1_, .ref q7_)]) rfl (fun fr_774 H locs hp hMr_774 g => ?_)
                      obtain ⟨x_775, h_776, hF_777⟩ := hp
                      have hG_778 := eOK.frame hMr_774 go_.2.2.2.1 mq2_ kq2_ (by decide) (by decide) hG_773
                      have g := g.more hF_777
                      subst hQ
                      exact W.vret hx hb hr (fun t ht hW => ⟨⟨_, rfl, Or.inr (⟨hG_778, x_775, h_776, x_758, h_759, x_770, h_771, (g.fcts [0, 4, 1] rfl)⟩), q3_of g hK ht hW⟩, g.2.2.1.F ht⟩) g.2.2.1.2.2 dX2_readArguments_233
                  · have hG_779 := eOK.frame hMr_725 go_.2.2.2.1 mq2_ kq2_ (by decide) (by decide) hG_724
                    have g := g.more hF_731
                    refine lv_iload_n hx hb dX2_readArguments_180 rfl (lv_at hl 2 rfl) ?_
                    refine lv_aload_n hx hb dX2_readArguments_181 rfl (lv_at hl 4 rfl) ?_
                    refine g_getk (C := RX2) (T := TX2) (N := 16) hx hb hts (mc_ inX2) hown hK g rfl 14 (by decide) rfl (hts _ (List.mem_cons_of_mem _ t_430)) (fun _ h9 => h9) 2 rfl dX2_readArguments_182 ?_
                    refine lv_icmp_ge (tgt := 199) hx hb dX2_readArguments_185 (by decide) (fun c_780 => ?_) (fun c_780 => ?_)
                    · have fc_780 := le_f c_780
                      have b_781 : bd 0 2147483647 v69_2 := leR fc_780 b_558 (bdT v69_2) (by decide)
                      refine lv_aload_n hx hb dX2_readArguments_199 rfl (lv_at hl 4 rfl) ?_
                      refine g_getk (C := RX2) (T := TX2) (N := 16) hx hb hts (mc_ inX2) hown hK g rfl 3 (by decide) rfl (hts _ (List.mem_cons_of_mem _ t_419)) (fun _ h9 => h9) 6 rfl dX2_readArguments_200 ?_
                      refine lv_aload_n hx hb dX2_readArguments_203 rfl (lv_at hl 4 rfl) ?_
                      refine g_geti (C := RX2) (T := TX2) (N := 16) hx hb hts (mc_ inX2) hown hK g ma0_ ka0_ (by decide) rfl 12 (by decide) rfl (hts _ (List.mem_cons_of_mem _ t_428)) (fun _ h9 => h9) rfl dX2_readArguments_204 (fun x_782 bx_782 g => ?_)
                      refine lv_aload_n hx hb dX2_readArguments_207 rfl (lv_at hl 4 rfl) ?_
                      refine g_geti (C := RX2) (T := TX2) (N := 16) hx hb hts (mc_ inX2) hown hK g ma0_ ka0_ (by decide) rfl 13 (by decide) rfl (hts _ (List.mem_cons_of_mem _ t_429)) (fun _ h9 => h9) rfl dX2_readArguments_208 (fun x_783 bx_783 g => ?_)
                      have go_ := g
                      refine g_callv (va_runV (As := [.int x_782, .int x_783]) (rest := []) ⟨hx, hb, hml, hown, hts⟩ (r_X7_emit l dC dI L kd tys fr_725 H.size g.2.2.2.1 q3_ mq3_ kq3_ x_782 x_783) (cwV 2 hts (gV_ t_1301 t_1204 t_1205 t_191 t_1206) rfl rfl rfl (by decide +kernel) ⟨(Nat.le_of_ble_eq_true rfl), (Nat.le_of_ble_eq_true rfl)⟩) (pre3V g hK mq3_ kq3_ (by decide) (q := (RX7, TX7, 19)) rfl) rfl rfl hl.1 rfl (lv_room (Nat.le_of_ble_eq_true rfl)) dX2_readArguments_211 ⟨(Nat.le_of_ble_eq_true rfl), (Nat.le_of_ble_eq_true rfl)⟩) g hK (by decide) (by decide) (fx' := [(2, 13, a0_, .int x_783), (2, 12, a0_, .int x_782), (8, 6, q0_, .int 1201), (8, 8, q0_, .int x_729), (2, 14, a0_, .int x_11), (2, 0, a0_, .ref q0_), (2, 1, a0_, .ref q1_), (2, 2, a0_, .ref q2_), (2, 3, a0_, .ref q3_), (0, 0, q2_, .ref q0_), (0, 1, q2_, .ref q1_), (5, 0, q1_, .ref q6_), (5, 1, q1_, .ref q7_)]) rfl (fun fr_784 H locs hp hMr_784 g => ?_)
                      obtain ⟨x_785, h_786, hF_787⟩ := hp
                      have hG_788 := eOK.frame hMr_784 go_.2.2.2.1 mq2_ kq2_ (by decide) (by decide) hG_779
                      have g := g.more hF_787
                      refine lv_aload_n hx hb dX2_readArguments_214 rfl (lv_at hl 4 rfl) ?_
                      refine g_getk (C := RX2) (T := TX2) (N := 16) hx hb hts (mc_ inX2) hown hK g rfl 3 (by decide) rfl (hts _ (List.mem_cons_of_mem _ t_419)) (fun _ h9 => h9) 9 rfl dX2_readArguments_215 ?_
                      refine lv_bipush (v := 22) hx hb dX2_readArguments_218 (by decide) ?_
                      refine lv_iconst (v := 0) hx hb dX2_readArguments_220 (by decide) ?_
                      have go_ := g
                      refine g_callv (va_runV (As := [.int 22, .int 0]) (rest := []) ⟨hx, hb, hml, hown, hts⟩ (r_X7_emit l dC dI L kd tys fr_784 H.size g.2.2.2.1 q3_ mq3_ kq3_ 22 0) (cwV 2 hts (gV_ t_1301 t_1204 t_1205 t_191 t_1206) rfl rfl rfl (by decide +kernel) ⟨(Nat.le_of_ble_eq_true rfl), (Nat.le_of_ble_eq_true rfl)⟩) (pre3V g hK mq3_ kq3_ (by decide) (q := (RX7, TX7, 19)) rfl) rfl rfl hl.1 rfl (lv_room (Nat.le_of_ble_eq_true rfl)) dX2_readArguments_221 ⟨(Nat.le_of_ble_eq_true rfl), (Nat.le_of_ble_eq_true rfl)⟩) g hK (by decide) (by decide) (fx' := [(2, 13, a0_, .int x_783), (2, 12, a0_, .int x_782), (8, 6, q0_, .int 1201), (8, 8, q0_, .int x_729), (2, 14, a0_, .int x_11), (2, 0, a0_, .ref q0_), (2, 1, a0_, .ref q1_), (2, 2, a0_, .ref q2_), (2, 3, a0_, .ref q3_), (0, 0, q2_, .ref q0_), (0, 1, q2_, .ref q1_), (5, 0, q1_, .ref q6_), (5, 1, q1_, .ref q7_)]) rfl (fun fr_789 H locs hp hMr_789 g => ?_)
                      obtain ⟨x_790, h_791, hF_792⟩ := hp
                      have hG_793 := eOK.frame hMr_789 go_.2.2.2.1 mq2_ kq2_ (by decide) (by decide) hG_788
                      have g := g.more hF_792
                      refine lv_aload_n hx hb dX2_readArguments_224 rfl (lv_at hl 4 rfl) ?_
                      refine g_getk (C := RX2) (T := TX2) (N := 16) hx hb hts (mc_ inX2) hown hK g rfl 0 (by decide) rfl (hts _ (List.mem_cons_of_mem _ t_416)) (fun _ h9 => h9) 6 rfl dX2_readArguments_225 ?_
                      refine lv_bipush (v := 59) hx hb dX2_readArguments_228 (by decide) ?_
                      have kb_1201 : bd 1201 1201 (1201 : Int32) := ⟨by decide, by decide⟩
                      have go_ := g
                      refine g_callv (va_runV (As := [.int 59]) (rest := []) ⟨hx, hb, hml, hown, hts⟩ (r_X8_take_2 l dC dI L kd tys fr_789 H.size g.2.2.2.1 q0_ mq0_ kq0_ 59 1201 kb_1201 x_729 h_730 (g.fcts [3, 4] rfl)) (cwV 1 hts (gV_ t_1098 t_1099 t_1100 t_184 t_1101) rfl rfl rfl (by decide +kernel) ⟨(Nat.le_of_ble_eq_true rfl), (Nat.le_of_ble_eq_true rfl)⟩) (pre3V g hK mq0_ kq0_ (by decide) (q := (RX8, TX8, 10)) rfl) rfl rfl hl.1 rfl (lv_room (Nat.le_of_ble_eq_true rfl)) dX2_readArguments_230 ⟨(Nat.le_of_ble_eq_true rfl), (Nat.le_of_ble_eq_true rfl)⟩) g hK (by decide) (by decide) (fx' := [(7, 6, q3_, .int x_790), (2, 13, a0_, .int x_783), (2, 12, a0_, .int x_782), (8, 8, q0_, .int x_729), (2, 14, a0_, .int x_11), (2, 0, a0_, .ref q0_), (2, 1, a0_, .ref q1_), (2, 2, a0_, .ref q2_), (2, 3, a0_, .ref q3_), (0, 0, q2_, .ref q0_), (0, 1, q2_, .ref q1_), (5, 0, q1_, .ref q6_), (5, 1, q1_, .ref q7_)]) rfl (fun fr_794 H locs hp hMr_794 g => ?_)
                      obtain ⟨x_795, h_796, hF_797⟩ := hp
                      have hG_798 := eOK.frame hMr_794 go_.2.2.2.1 mq2_ kq2_ (by decide) (by decide) hG_793
                      have g := g.more hF_797
                      subst hQ
                      exact W.vret hx hb hr (fun t ht hW => ⟨⟨_, rfl, Or.inr (⟨hG_798, x_795, h_796, x_729, h_730, x_790, h_791, (g.fcts [0, 4, 1] rfl)⟩), q3_of g hK ht hW⟩, g.2.2.1.F ht⟩) g.2.2.1.2.2 dX2_readArguments_233
                    · have fc_780 := nle_f c_780
                      have b_799 : bd (-2147483648) (-1) v69_2 := ltL fc_780 (bdT v69_2) b_558 (by decide)
                      refine lv_aload_n hx hb dX2_readArguments_188 rfl (lv_at hl 4 rfl) ?_
                      refine g_getk (C := RX2) (T := TX2) (N := 16) hx hb hts (mc_ inX2) hown hK g rfl 0 (by decide) rfl (hts _ (List.mem_cons_of_mem _ t_416)) (fun _ h9 => h9) 3 rfl dX2_readArguments_189 ?_
                      refine lv_bipush (v := 6) hx hb dX2_readArguments_192 (by decide) ?_
                      refine lv_iload hx hb dX2_readArguments_194 (lv_at hl 0 rfl) ?_
                      have kb_6 : bd 6 6 (6 : Int32) := ⟨by decide, by decide⟩
                      have go_ := g
                      refine g_callv (va_runV (As := [.int 6, .int r_723]) (rest := []) ⟨hx, hb, hml, hown, hts⟩ (r_X8_fail_2 l dC dI L kd tys fr_725 H.size g.2.2.2.1 q0_ mq0_ kq0_ 6 (bd_sub kb_6 (by decide)) r_723 x_729 h_730 (g.fcts [1] rfl)) (cwV 2 hts (gV_ t_1122 t_1107 t_1108 t_184 t_1109) rfl rfl rfl (by decide +kernel) ⟨(Nat.le_of_ble_eq_true rfl), (Nat.le_of_ble_eq_true rfl)⟩) (pre3V g hK mq0_ kq0_ (by decide) (q := (RX8, TX8, 10)) rfl) rfl rfl hl.1 rfl (lv_room (Nat.le_of_ble_eq_true rfl)) dX2_readArguments_196 ⟨(Nat.le_of_ble_eq_true rfl), (Nat.le_of_ble_eq_true rfl)⟩) g hK (by decide) (by decide) (fx' := [(8, 8, q0_, .int x_729), (2, 14, a0_, .int x_11), (2, 0, a0_, .ref q0_), (2, 1, a0_, .ref q1_), (2, 2, a0_, .ref q2_), (2, 3, a0_, .ref q3_), (0, 0, q2_, .ref q0_), (0, 1, q2_, .ref q1_), (5, 0, q1_, .ref q6_), (5, 1, q1_, .ref q7_)]) rfl (fun fr_800 H locs hp hMr_800 g => ?_)
                      have hF_801 := hp
                      have hG_802 := eOK.frame hMr_800 go_.2.2.2.1 mq2_ kq2_ (by decide) (by decide) hG_779
                      have g := g.more hF_801
                      refine lv_aload_n hx hb dX2_readArguments_199 rfl (lv_at hl 4 rfl) ?_
                      refine g_getk (C := RX2) (T := TX2) (N := 16) hx hb hts (mc_ inX2) hown hK g rfl 3 (by decide) rfl (hts _ (List.mem_cons_of_mem _ t_419)) (fun _ h9 => h9) 6 rfl dX2_readArguments_200 ?_
                      refine lv_aload_n hx hb dX2_readArguments_203 rfl (lv_at hl 4 rfl) ?_
                      refine g_geti (C := RX2) (T := TX2) (N := 16) hx hb hts (mc_ inX2) hown hK g ma0_ ka0_ (by decide) rfl 12 (by decide) rfl (hts _ (List.mem_cons_of_mem _ t_428)) (fun _ h9 => h9) rfl dX2_readArguments_204 (fun x_803 bx_803 g => ?_)
                      refine lv_aload_n hx hb dX2_readArguments_207 rfl (lv_at hl 4 rfl) ?_
                      refine g_geti (C := RX2) (T := TX2) (N := 16) hx hb hts (mc_ inX2) hown hK g ma0_ ka0_ (by decide) rfl 13 (by decide) rfl (hts _ (List.mem_cons_of_mem _ t_429)) (fun _ h9 => h9) rfl dX2_readArguments_208 (fun x_804 bx_804 g => ?_)
                      have go_ := g
                      refine g_callv (va_runV (As := [.int x_803, .int x_804]) (rest := []) ⟨hx, hb, hml, hown, hts⟩ (r_X7_emit l dC dI L kd tys fr_800 H.size g.2.2.2.1 q3_ mq3_ kq3_ x_803 x_804) (cwV 2 hts (gV_ t_1301 t_1204 t_1205 t_191 t_1206) rfl rfl rfl (by decide +kernel) ⟨(Nat.le_of_ble_eq_true rfl), (Nat.le_of_ble_eq_true rfl)⟩) (pre3V g hK mq3_ kq3_ (by decide) (q := (RX7, TX7, 19)) rfl) rfl rfl hl.1 rfl (lv_room (Nat.le_of_ble_eq_true rfl)) dX2_readArguments_211 ⟨(Nat.le_of_ble_eq_true rfl), (Nat.le_of_ble_eq_true rfl)⟩) g hK (by decide) (by decide) (fx' := [(2, 13, a0_, .int x_804), (2, 12, a0_, .int x_803), (8, 6, q0_, .int 1201), (8, 8, q0_, .int x_729), (2, 14, a0_, .int x_11), (2, 0, a0_, .ref q0_), (2, 1, a0_, .ref q1_), (2, 2, a0_, .ref q2_), (2, 3, a0_, .ref q3_), (0, 0, q2_, .ref q0_), (0, 1, q2_, .ref q1_), (5, 0, q1_, .ref q6_), (5, 1, q1_, .ref q7_)]) rfl (fun fr_805 H locs hp hMr_805 g => ?_)
                      obtain ⟨x_806, h_807, hF_808⟩ := hp
                      have hG_809 := eOK.frame hMr_805 go_.2.2.2.1 mq2_ kq2_ (by decide) (by decide) hG_802
                      have g := g.more hF_808
                      refine lv_aload_n hx hb dX2_readArguments_214 rfl (lv_at hl 4 rfl) ?_
                      refine g_getk (C := RX2) (T := TX2) (N := 16) hx hb hts (mc_ inX2) hown hK g rfl 3 (by decide) rfl (hts _ (List.mem_cons_of_mem _ t_419)) (fun _ h9 => h9) 9 rfl dX2_readArguments_215 ?_
                      refine lv_bipush (v := 22) hx hb dX2_readArguments_218 (by decide) ?_
                      refine lv_iconst (v := 0) hx hb dX2_readArguments_220 (by decide) ?_
                      have go_ := g
                      refine g_callv (va_runV (As := [.int 22, .int 0]) (rest := []) ⟨hx, hb, hml, hown, hts⟩ (r_X7_emit l dC dI L kd tys fr_805 H.size g.2.2.2.1 q3_ mq3_ kq3_ 22 0) (cwV 2 hts (gV_ t_1301 t_1204 t_1205 t_191 t_1206) rfl rfl rfl (by decide +kernel) ⟨(Nat.le_of_ble_eq_true rfl), (Nat.le_of_ble_eq_true rfl)⟩) (pre3V g hK mq3_ kq3_ (by decide) (q := (RX7, TX7, 19)) rfl) rfl rfl hl.1 rfl (lv_room (Nat.le_of_ble_eq_true rfl)) dX2_readArguments_221 ⟨(Nat.le_of_ble_eq_true rfl), (Nat.le_of_ble_eq_true rfl)⟩) g hK (by decide) (by decide) (fx' := [(2, 13, a0_, .int x_804), (2, 12, a0_, .int x_803), (8, 6, q0_, .int 1201), (8, 8, q0_, .int x_729), (2, 14, a0_, .int x_11), (2, 0, a0_, .ref q0_), (2, 1, a0_, .ref q1_), (2, 2, a0_, .ref q2_), (2, 3, a0_, .ref q3_), (0, 0, q2_, .ref q0_), (0, 1, q2_, .ref q1_), (5, 0, q1_, .ref q6_), (5, 1, q1_, .ref q7_)]) rfl (fun fr_810 H locs hp hMr_810 g => ?_)
                      obtain ⟨x_811, h_812, hF_813⟩ := hp
                      have hG_814 := eOK.frame hMr_810 go_.2.2.2.1 mq2_ kq2_ (by decide) (by decide) hG_809
                      have g := g.more hF_813
                      refine lv_aload_n hx hb dX2_readArguments_224 rfl (lv_at hl 4 rfl) ?_
                      refine g_getk (C := RX2) (T := TX2) (N := 16) hx hb hts (mc_ inX2) hown hK g rfl 0 (by decide) rfl (hts _ (List.mem_cons_of_mem _ t_416)) (fun _ h9 => h9) 6 rfl dX2_readArguments_225 ?_
                      refine lv_bipush (v := 59) hx hb dX2_readArguments_228 (by decide) ?_
                      have kb_1201 : bd 1201 1201 (1201 : Int32) := ⟨by decide, by decide⟩
                      have go_ := g
                      refine g_callv (va_runV (As := [.int 59]) (rest := []) ⟨hx, hb, hml, hown, hts⟩ (r_X8_take_2 l dC dI L kd tys fr_810 H.size g.2.2.2.1 q0_ mq0_ kq0_ 59 1201 kb_1201 x_729 h_730 (g.fcts [3, 4] rfl)) (cwV 1 hts (gV_ t_1098 t_1099 t_1100 t_184 t_1101) rfl rfl rfl (by decide +kernel) ⟨(Nat.le_of_ble_eq_true rfl), (Nat.le_of_ble_eq_true rfl)⟩) (pre3V g hK mq0_ kq0_ (by decide) (q := (RX8, TX8, 10)) rfl) rfl rfl hl.1 rfl (lv_room (Nat.le_of_ble_eq_true rfl)) dX2_readArguments_230 ⟨(Nat.le_of_ble_eq_true rfl), (Nat.le_of_ble_eq_true rfl)⟩) g hK (by decide) (by decide) (fx' := [(7, 6, q3_, .int x_811), (2, 13, a0_, .int x_804), (2, 12, a0_, .int x_803), (8, 8, q0_, .int x_729), (2, 14, a0_, .int x_11), (2, 0, a0_, .ref q0_), (2, 1, a0_, .ref q1_), (2, 2, a0_, .ref q2_), (2, 3, a0_, .ref q3_), (0, 0, q2_, .ref q0_), (0, 1, q2_, .ref q1_), (5, 0, q1_, .ref q6_), (5, 1, q1_, .ref q7_)]) rfl (fun fr_815 H locs hp hMr_815 g => ?_)
                      obtain ⟨x_816, h_817, hF_818⟩ := hp
                      have hG_819 := eOK.frame hMr_815 go_.2.2.2.1 mq2_ kq2_ (by decide) (by decide) hG_814
                      have g := g.more hF_818
                      subst hQ
                      exact W.vret hx hb hr (fun t ht hW => ⟨⟨_, rfl, Or.inr (⟨hG_819, x_816, h_817, x_729, h_730, x_811, h_812, (g.fcts [0, 4, 1] rfl)⟩), q3_of g hK ht hW⟩, g.2.2.1.F ht⟩) g.2.2.1.2.2 dX2_readArguments_233
                · have fc_721 := neq_f c_721
                  have b_820 : bd 1 1 v69_3 := neX fc_721 bv69_3 kb_0 (by decide)
                  refine lv_aload_n hx hb dX2_readArguments_79 rfl (lv_at hl 4 rfl) ?_
                  refine g_getk (C := RX2) (T := TX2) (N := 16) hx hb hts (mc_ inX2) hown hK g rfl 0 (by decide) rfl (hts _ (List.mem_cons_of_mem _ t_416)) (fun _ h9 => h9) 2 rfl dX2_readArguments_80 ?_
                  refine g_getk (C := RX8) (T := TX8) (N := 10) hx hb hts (mc_ inX8) hown hK g rfl 8 (by decide) rfl (hts _ (List.mem_cons_of_mem _ t_294)) (fun _ h9 => h9) 1 rfl dX2_readArguments_83 ?_
                  refine lv_if_ne (tgt := 162) hx hb dX2_readArguments_86 (by decide) (fun c_821 => ?_) (fun c_821 => ?_)
                  · have fc_821 := neq_f c_821
                    have b_822 : bd 1 (-1) y0_ := neX fc_821 by0_ kb_0 (by decide)
                    exact bd_no b_822 (by decide)
                  · have fc_821 := eq_f c_821
                    refine lv_aload_n hx hb dX2_readArguments_89 rfl (lv_at hl 4 rfl) ?_
                    refine g_getk (C := RX2) (T := TX2) (N := 16) hx hb hts (mc_ inX2) hown hK g rfl 2 (by decide) rfl (hts _ (List.mem_cons_of_mem _ t_418)) (fun _ h9 => h9) 4 rfl dX2_readArguments_90 ?_
                    have go_ := g
                    refine g_callv (va_runV (As := []) (rest := []) ⟨hx, hb, hml, hown, hts⟩ (r_X0_read l dC dI L kd tys f H.size g.2.2.2.1 q2_ mq2_ kq2_ q0_ mq0_ kq0_ q1_ mq1_ kq1_ q6_ mq6_ kq6_ q7_ mq7_ kq7_ y0_ by0_ hG69_e_q2_ (g.fcts [6, 7, 8, 9, 1] rfl)) (cwV 0 hts (gV_ t_1182 t_1183 t_1184 t_190 t_1185) rfl rfl rfl (by decide +kernel) ⟨(Nat.le_of_ble_eq_true rfl), (Nat.le_of_ble_eq_true rfl)⟩) (pre3V g hK mq2_ kq2_ (by decide) (q := (RX0, TX0, 14)) rfl) rfl rfl hl.1 rfl (lv_room (Nat.le_of_ble_eq_true rfl)) dX2_readArguments_93 ⟨(Nat.le_of_ble_eq_true rfl), (Nat.le_of_ble_eq_true rfl)⟩) g hK (by decide) (by decide) (fx' := [(2, 14, a0_, .int x_11), (2, 0, a0_, .ref q0_), (2, 1, a0_, .ref q1_), (2, 2, a0_, .ref q2_), (2, 3, a0_, .ref q3_), (0, 0, q2_, .ref q0_), (0, 1, q2_, .ref q1_), (5, 0, q1_, .ref q6_), (5, 1, q1_, .ref q7_)]) rfl (fun fr_823 H locs hp hMr_823 g => ?_)
                    rcases hp with ⟨hG_824, hF_825⟩ | ⟨hG_826, x_827, h_828, x_829, h_830, hF_831⟩
                    · have g := g.more hF_825
                      have kb_1 : bd 1 1 (1 : Int32) := ⟨by decide, by decide⟩
                      obtain ⟨y_832, ey_832⟩ : ∃ z : Int32, z = v69_2 + 1 := ⟨_, rfl⟩
                      refine lv_iinc (v := y_832) (lv' := [(2, .int y_832), (4, .int v69_4), (3, .int v69_3), (1, .int r_1), (0, .ref a0_)]) hx hb dX2_readArguments_96 hl (k := 2) rfl (by rw [ey_832]; rfl) (by decide) rfl (fun ls hl => ?_)
                      refine lv_aload_n hx hb dX2_readArguments_99 rfl (lv_at hl 4 rfl) ?_
                      refine g_getk (C := RX2) (T := TX2) (N := 16) hx hb hts (mc_ inX2) hown hK g rfl 0 (by decide) rfl (hts _ (List.mem_cons_of_mem _ t_416)) (fun _ h9 => h9) 3 rfl dX2_readArguments_100 ?_
                      have go_ := g
                      refine g_calli (va_runV (As := []) (rest := []) ⟨hx, hb, hml, hown, hts⟩ (r_X8_kind l dC dI L kd tys fr_823 H.size g.2.2.2.1 q0_ mq0_ kq0_) (cwV 0 hts (gV_ t_1118 t_1119 t_1120 t_184 t_1121) rfl rfl rfl (by decide +kernel) ⟨(Nat.le_of_ble_eq_true rfl), (Nat.le_of_ble_eq_true rfl)⟩) (pre3V g hK mq0_ kq0_ (by decide) (q := (RX8, TX8, 10)) rfl) rfl rfl hl.1 rfl (lv_room (Nat.le_of_ble_eq_true rfl)) dX2_readArguments_103 ⟨(Nat.le_of_ble_eq_true rfl), (Nat.le_of_ble_eq_true rfl)⟩) g hK (by decide) (by decide) (fx' := [(0, 2, q2_, .ref q6_), (8, 8, q0_, .int y0_), (2, 14, a0_, .int x_11), (2, 0, a0_, .ref q0_), (2, 1, a0_, .ref q1_), (2, 2, a0_, .ref q2_), (2, 3, a0_, .ref q3_), (0, 0, q2_, .ref q0_), (0, 1, q2_, .ref q1_), (5, 0, q1_, .ref q6_), (5, 1, q1_, .ref q7_)]) rfl (fun r_833 fr_833 H locs hp hMr_833 g => ?_)
                      have hG_834 := eOK.frame hMr_833 go_.2.2.2.1 mq2_ kq2_ (by decide) (by decide) hG_824
                      refine lv_bipush (v := 44) hx hb dX2_readArguments_106 (by decide) ?_
                      have kb_44 : bd 44 44 (44 : Int32) := ⟨by decide, by decide⟩
                      refine lv_icmp_ne (tgt := 115) hx hb dX2_readArguments_108 (by decide) (fun c_835 => ?_) (fun c_835 => ?_)
                      · have fc_835 := neq_f c_835
                        refine lv_iconst (v := 0) hx hb dX2_readArguments_115 (by decide) ?_
                        refine lv_istore_n (lv' := [(3, .int 0), (2, .int y_832), (4, .int v69_4), (1, .int r_1), (0, .ref a0_)]) hx hb dX2_readArguments_116 rfl hl (by decide) rfl (fun ls hl => ?_)
                        refine lv_iload_n hx hb dX2_readArguments_117 rfl (lv_at hl 0 rfl) ?_
                        refine lv_if_eq (tgt := 156) hx hb dX2_readArguments_118 (by decide) (fun c_ => ?_) (fun c_ => absurd (by decide) c_)
                        obtain ⟨y_836, ey_836⟩ : ∃ z : Int32, z = v69_4 + 1 := ⟨_, rfl⟩
                        refine lv_iinc (v := y_836) (lv' := [(4, .int y_836), (3, .int 0), (2, .int y_832), (1, .int r_1), (0, .ref a0_)]) hx hb dX2_readArguments_156 hl (k := 2) rfl (by rw [ey_836]; rfl) (by decide) rfl (fun ls hl => ?_)
                        have ty_836 := add_bd ey_836 b_720 kb_1 (by decide)
                        have b_837 : bd 1 4 y_836 := add_rg ty_836 b_720 kb_1 (by decide)
                        refine lv_goto (tgt := 69) hx hb dX2_readArguments_159 (by decide) ?_
                        have hl9 := lv_sub hl [0, 1, 2, 3, 4] (by rfl : lv_pick [(4, .int y_836), (3, .int 0), (2, .int y_832), (1, .int r_1), (0, .ref a0_)] [0, 1, 2, 3, 4] = [(4, .int y_836), (3, .int 0), (2, .int y_832), (1, .int r_1), (0, .ref a0_)])
                        have g9 := g.sub (fx' := [(2, 14, a0_, .int x_11), (8, 8, q0_, .int y0_), (2, 0, a0_, .ref q0_), (2, 1, a0_, .ref q1_), (2, 2, a0_, .ref q2_), (2, 3, a0_, .ref q3_), (0, 0, q2_, .ref q0_), (0, 1, q2_, .ref q1_), (5, 0, q1_, .ref q6_), (5, 1, q1_, .ref q7_)]) [2, 1, 3, 4, 5, 6, 7, 8, 9, 10] rfl
                        exact ih69  y_836 0 y_832 (bd_sub b_837 (by decide)) (bd_sub kb_0 (by decide)) (by have h9_0 := b_837; unfold bd at h9_0; have h9_1 := bdT v69_2; unfold bd at h9_1; have h9_2 := bdT y_832; unfold bd at h9_2; have h9_3 := bv69_3; unfold bd at h9_3; have h9_4 := bv69_4; unfold bd at h9_4; have h9_5 := kb_0; unfold bd at h9_5; have h9_6 := kb_1; unfold bd at h9_6; have h9_7 := kb_3; unfold bd at h9_7; have h9_8 := kb_41; unfold bd at h9_8; have h9_9 := kb_44; unfold bd at h9_9; omega) _ _ _ _ g9 hG_834 hl9
                      · have fc_835 := eq_f c_835
                        have b_838 : bd 44 44 r_833 := eqX fc_835 (bdT r_833) kb_44 (by decide)
                        refine lv_iconst (v := 1) hx hb dX2_readArguments_111 (by decide) ?_
                        refine lv_goto (tgt := 116) hx hb dX2_readArguments_112 (by decide) ?_
                        refine lv_istore_n (lv' := [(3, .int 1), (2, .int y_832), (4, .int v69_4), (1, .int r_1), (0, .ref a0_)]) hx hb dX2_readArguments_116 rfl hl (by decide) rfl (fun ls hl => ?_)
                        refine lv_iload_n hx hb dX2_readArguments_117 rfl (lv_at hl 0 rfl) ?_
                        refine lv_if_eq (tgt := 156) hx hb dX2_readArguments_118 (by decide) (fun c_ => absurd c_ (by decide)) (fun c_ => ?_)
                        refine lv_aload_n hx hb dX2_readArguments_121 rfl (lv_at hl 4 rfl) ?_
                        refine g_getk (C := RX2) (T := TX2) (N := 16) hx hb hts (mc_ inX2) hown hK g rfl 0 (by decide) rfl (hts _ (List.mem_cons_of_mem _ t_416)) (fun _ h9 => h9) 3 rfl dX2_readArguments_122 ?_
                        have go_ := g
                        refine g_calli (va_runV (As := []) (rest := []) ⟨hx, hb, hml, hown, hts⟩ (r_X8_place l dC dI L kd tys fr_833 H.size g.2.2.2.1 q0_ mq0_ kq0_) (cwV 0 hts (gV_ t_1110 t_1111 t_1112 t_184 t_1113) rfl rfl rfl (by decide +kernel) ⟨(Nat.le_of_ble_eq_true rfl), (Nat.le_of_ble_eq_true rfl)⟩) (pre3V g hK mq0_ kq0_ (by decide) (q := (RX8, TX8, 10)) rfl) rfl rfl hl.1 rfl (lv_room (Nat.le_of_ble_eq_true rfl)) dX2_readArguments_125 ⟨(Nat.le_of_ble_eq_true rfl), (Nat.le_of_ble_eq_true rfl)⟩) g hK (by decide) (by decide) (fx' := [(0, 2, q2_, .ref q6_), (8, 8, q0_, .int y0_), (2, 14, a0_, .int x_11), (2, 0, a0_, .ref q0_), (2, 1, a0_, .ref q1_), (2, 2, a0_, .ref q2_), (2, 3, a0_, .ref q3_), (0, 0, q2_, .ref q0_), (0, 1, q2_, .ref q1_), (5, 0, q1_, .ref q6_), (5, 1, q1_, .ref q7_)]) rfl (fun r_839 fr_839 H locs hp hMr_839 g => ?_)
                        have hG_840 := eOK.frame hMr_839 go_.2.2.2.1 mq2_ kq2_ (by decide) (by decide) hG_834
                        refine lv_istore (lv' := [(5, .int r_839), (3, .int 1), (2, .int y_832), (4, .int v69_4), (1, .int r_1), (0, .ref a0_)]) hx hb dX2_readArguments_128 hl (by decide) rfl (fun ls hl => ?_)
                        refine lv_aload_n hx hb dX2_readArguments_130 rfl (lv_at hl 5 rfl) ?_
                        refine g_getk (C := RX2) (T := TX2) (N := 16) hx hb hts (mc_ inX2) hown hK g rfl 0 (by decide) rfl (hts _ (List.mem_cons_of_mem _ t_416)) (fun _ h9 => h9) 3 rfl dX2_readArguments_131 ?_
                        have go_ := g
                        refine g_callv (va_runV (As := []) (rest := []) ⟨hx, hb, hml, hown, hts⟩ (r_X8_next l dC dI L kd tys fr_839 H.size g.2.2.2.1 q0_ mq0_ kq0_) (cwV 0 hts (gV_ t_1131 t_1103 t_1104 t_184 t_1105) rfl rfl rfl (by decide +kernel) ⟨(Nat.le_of_ble_eq_true rfl), (Nat.le_of_ble_eq_true rfl)⟩) (pre3V g hK mq0_ kq0_ (by decide) (q := (RX8, TX8, 10)) rfl) rfl rfl hl.1 rfl (lv_room (Nat.le_of_ble_eq_true rfl)) dX2_readArguments_134 ⟨(Nat.le_of_ble_eq_true rfl), (Nat.le_of_ble_eq_true rfl)⟩) g hK (by decide) (by decide) (fx' := [(0, 2, q2_, .ref q6_), (8, 8, q0_, .int y0_), (2, 14, a0_, .int x_11), (2, 0, a0_, .ref q0_), (2, 1, a0_, .ref q1_), (2, 2, a0_, .ref q2_), (2, 3, a0_, .ref q3_), (0, 0, q2_, .ref q0_), (0, 1, q2_, .ref q1_), (5, 0, q1_, .ref q6_), (5, 1, q1_, .ref q7_)]) rfl (fun fr_841 H locs hp hMr_841 g => ?_)
                        obtain ⟨x_842, h_843, hF_844⟩ := hp
                        have hG_845 := eOK.frame hMr_841 go_.2.2.2.1 mq2_ kq2_ (by decide) (by decide) hG_840
                        have g := g.more hF_844
                        refine lv_iload_n hx hb dX2_readArguments_137 rfl (lv_at hl 2 rfl) ?_
                        refine lv_aload_n hx hb dX2_readArguments_138 rfl (lv_at hl 5 rfl) ?_
                        refine g_getk (C := RX2) (T := TX2) (N := 16) hx hb hts (mc_ inX2) hown hK g rfl 14 (by decide) rfl (hts _ (List.mem_cons_of_mem _ t_430)) (fun _ h9 => h9) 3 rfl dX2_readArguments_139 ?_
                        refine lv_icmp_lt (tgt := 156) hx hb dX2_readArguments_142 (by decide) (fun c_846 => ?_) (fun c_846 => ?_)
                        · have fc_846 := lt_f c_846
                          have b_847 : bd (-2147483648) (-1) y_832 := ltL fc_846 (bdT y_832) b_558 (by decide)
                          obtain ⟨y_848, ey_848⟩ : ∃ z : Int32, z = v69_4 + 1 := ⟨_, rfl⟩
                          refine lv_iinc (v := y_848) (lv' := [(4, .int y_848), (5, .int r_839), (3, .int 1), (2, .int y_832), (1, .int r_1), (0, .ref a0_)]) hx hb dX2_readArguments_156 hl (k := 3) rfl (by rw [ey_848]; rfl) (by decide) rfl (fun ls hl => ?_)
                          have ty_848 := add_bd ey_848 b_720 kb_1 (by decide)
                          have b_849 : bd 1 4 y_848 := add_rg ty_848 b_720 kb_1 (by decide)
                          refine lv_goto (tgt := 69) hx hb dX2_readArguments_159 (by decide) ?_
                          have hl9 := lv_sub hl [0, 2, 3, 4, 5] (by rfl : lv_pick [(4, .int y_848), (5, .int r_839), (3, .int 1), (2, .int y_832), (1, .int r_1), (0, .ref a0_)] [0, 2, 3, 4, 5] = [(4, .int y_848), (3, .int 1), (2, .int y_832), (1, .int r_1), (0, .ref a0_)])
                          have g9 := g.sub (fx' := [(2, 14, a0_, .int x_11), (8, 8, q0_, .int y0_), (2, 0, a0_, .ref q0_), (2, 1, a0_, .ref q1_), (2, 2, a0_, .ref q2_), (2, 3, a0_, .ref q3_), (0, 0, q2_, .ref q0_), (0, 1, q2_, .ref q1_), (5, 0, q1_, .ref q6_), (5, 1, q1_, .ref q7_)]) [3, 2, 4, 5, 6, 7, 8, 9, 10, 11] rfl
                          exact ih69  y_848 1 y_832 (bd_sub b_849 (by decide)) (bd_sub kb_1 (by decide)) (by have h9_0 := b_847; unfold bd at h9_0; have h9_1 := b_849; unfold bd at h9_1; have h9_2 := bdT v69_2; unfold bd at h9_2; have h9_3 := bv69_3; unfold bd at h9_3; have h9_4 := bv69_4; unfold bd at h9_4; have h9_5 := kb_0; unfold bd at h9_5; have h9_6 := kb_1; unfold bd at h9_6; have h9_7 := kb_3; unfold bd at h9_7; have h9_8 := kb_41; unfold bd at h9_8; have h9_9 := kb_44; unfold bd at h9_9; omega) _ _ _ _ g9 hG_845 hl9
                        · have fc_846 := nlt_f c_846
                          have b_850 : bd 0 2147483647 y_832 := leR fc_846 b_558 (bdT y_832) (by decide)
                          refine lv_aload_n hx hb dX2_readArguments_145 rfl (lv_at hl 5 rfl) ?_
                          refine g_getk (C := RX2) (T := TX2) (N := 16) hx hb hts (mc_ inX2) hown hK g rfl 0 (by decide) rfl (hts _ (List.mem_cons_of_mem _ t_416)) (fun _ h9 => h9) 4 rfl dX2_readArguments_146 ?_
                          refine lv_bipush (v := 6) hx hb dX2_readArguments_149 (by decide) ?_
                          refine lv_iload hx hb dX2_readArguments_151 (lv_at hl 0 rfl) ?_
                          have kb_6 : bd 6 6 (6 : Int32) := ⟨by decide, by decide⟩
                          have go_ := g
                          refine g_callv (va_runV (As := [.int 6, .int r_839]) (rest := []) ⟨hx, hb, hml, hown, hts⟩ (r_X8_fail l dC dI L kd tys fr_841 H.size g.2.2.2.1 q0_ mq0_ kq0_ 6 (bd_sub kb_6 (by decide)) r_839 y0_ by0_ (g.fcts [2] rfl)) (cwV 2 hts (gV_ t_1122 t_1107 t_1108 t_184 t_1109) rfl rfl rfl (by decide +kernel) ⟨(Nat.le_of_ble_eq_true rfl), (Nat.le_of_ble_eq_true rfl)⟩) (pre3V g hK mq0_ kq0_ (by decide) (q := (RX8, TX8, 10)) rfl) rfl rfl hl.1 rfl (lv_room (Nat.le_of_ble_eq_true rfl)) dX2_readArguments_153 ⟨(Nat.le_of_ble_eq_true rfl), (Nat.le_of_ble_eq_true rfl)⟩) g hK (by decide) (by decide) (fx' := [(0, 2, q2_, .ref q6_), (2, 14, a0_, .int x_11), (2, 0, a0_, .ref q0_), (2, 1, a0_, .ref q1_), (2, 2, a0_, .ref q2_), (2, 3, a0_, .ref q3_), (0, 0, q2_, .ref q0_), (0, 1, q2_, .ref q1_), (5, 0, q1_, .ref q6_), (5, 1, q1_, .ref q7_)]) rfl (fun fr_851 H locs hp hMr_851 g => ?_)
                          obtain ⟨x_852, h_853, hF_854⟩ := hp
                          have hG_855 := eOK.frame hMr_851 go_.2.2.2.1 mq2_ kq2_ (by decide) (by decide) hG_845
                          have g := g.more hF_854
                          obtain ⟨y_856, ey_856⟩ : ∃ z : Int32, z = v69_4 + 1 := ⟨_, rfl⟩
                          refine lv_iinc (v := y_856) (lv' := [(4, .int y_856), (5, .int r_839), (3, .int 1), (2, .int y_832), (1, .int r_1), (0, .ref a0_)]) hx hb dX2_readArguments_156 hl (k := 3) rfl (by rw [ey_856]; rfl) (by decide) rfl (fun ls hl => ?_)
                          have ty_856 := add_bd ey_856 b_720 kb_1 (by decide)
                          have b_857 : bd 1 4 y_856 := add_rg ty_856 b_720 kb_1 (by decide)
                          refine lv_goto (tgt := 69) hx hb dX2_readArguments_159 (by decide) ?_
                          refine lv_iload hx hb dX2_readArguments_69 (lv_at hl 0 rfl) ?_
                          refine lv_iconst (v := 3) hx hb dX2_readArguments_71 (by decide) ?_
                          refine lv_icmp_gt (tgt := 162) hx hb dX2_readArguments_72 (by decide) (fun c_858 => ?_) (fun c_858 => ?_)
                          · have fc_858 := lt_f c_858
                            have b_859 : bd 4 4 y_856 := ltR fc_858 kb_3 b_857 (by decide)
                            have b_860 : bd 3 3 v69_4 := add_inv ty_856 b_859 b_720 kb_1 (by decide)
                            refine lv_aload_n hx hb dX2_readArguments_162 rfl (lv_at hl 5 rfl) ?_
                            refine g_getk (C := RX2) (T := TX2) (N := 16) hx hb hts (mc_ inX2) hown hK g rfl 0 (by decide) rfl (hts _ (List.mem_cons_of_mem _ t_416)) (fun _ h9 => h9) 4 rfl dX2_readArguments_163 ?_
                            have go_ := g
                            refine g_calli (va_runV (As := []) (rest := []) ⟨hx, hb, hml, hown, hts⟩ (r_X8_place l dC dI L kd tys fr_851 H.size g.2.2.2.1 q0_ mq0_ kq0_) (cwV 0 hts (gV_ t_1110 t_1111 t_1112 t_184 t_1113) rfl rfl rfl (by decide +kernel) ⟨(Nat.le_of_ble_eq_true rfl), (Nat.le_of_ble_eq_true rfl)⟩) (pre3V g hK mq0_ kq0_ (by decide) (q := (RX8, TX8, 10)) rfl) rfl rfl hl.1 rfl (lv_room (Nat.le_of_ble_eq_true rfl)) dX2_readArguments_166 ⟨(Nat.le_of_ble_eq_true rfl), (Nat.le_of_ble_eq_true rfl)⟩) g hK (by decide) (by decide) (fx' := [(8, 6, q0_, .int 1201), (8, 8, q0_, .int x_852), (0, 2, q2_, .ref q6_), (2, 14, a0_, .int x_11), (2, 0, a0_, .ref q0_), (2, 1, a0_, .ref q1_), (2, 2, a0_, .ref q2_), (2, 3, a0_, .ref q3_), (0, 0, q2_, .ref q0_), (0, 1, q2_, .ref q1_), (5, 0, q1_, .ref q6_), (5, 1, q1_, .ref q7_)]) rfl (fun r_861 fr_861 H locs hp hMr_861 g => ?_)
                            have hG_862 := eOK.frame hMr_861 go_.2.2.2.1 mq2_ kq2_ (by decide) (by decide) hG_855
                            refine lv_istore (lv' := [(4, .int r_861), (5, .int r_839), (3, .int 1), (2, .int y_832), (1, .int r_1), (0, .ref a0_)]) hx hb dX2_readArguments_169 hl (by decide) rfl (fun ls hl => ?_)
                            refine lv_aload_n hx hb dX2_readArguments_171 rfl (lv_at hl 5 rfl) ?_
                            refine g_getk (C := RX2) (T := TX2) (N := 16) hx hb hts (mc_ inX2) hown hK g rfl 0 (by decide) rfl (hts _ (List.mem_cons_of_mem _ t_416)) (fun _ h9 => h9) 4 rfl dX2_readArguments_172 ?_
                            refine lv_bipush (v := 41) hx hb dX2_readArguments_175 (by decide) ?_
                            have kb_1201 : bd 1201 1201 (1201 : Int32) := ⟨by decide, by decide⟩
                            have go_ := g
                            refine g_callv (va_runV (As := [.int 41]) (rest := []) ⟨hx, hb, hml, hown, hts⟩ (r_X8_take_2 l dC dI L kd tys fr_861 H.size g.2.2.2.1 q0_ mq0_ kq0_ 41 1201 kb_1201 x_852 h_853 (g.fcts [0, 1] rfl)) (cwV 1 hts (gV_ t_1098 t_1099 t_1100 t_184 t_1101) rfl rfl rfl (by decide +kernel) ⟨(Nat.le_of_ble_eq_true rfl), (Nat.le_of_ble_eq_true rfl)⟩) (pre3V g hK mq0_ kq0_ (by decide) (q := (RX8, TX8, 10)) rfl) rfl rfl hl.1 rfl (lv_room (Nat.le_of_ble_eq_true rfl)) dX2_readArguments_177 ⟨(Nat.le_of_ble_eq_true rfl), (Nat.le_of_ble_eq_true rfl)⟩) g hK (by decide) (by decide) (fx' := [(8, 8, q0_, .int x_852), (0, 2, q2_, .ref q6_), (2, 14, a0_, .int x_11), (2, 0, a0_, .ref q0_), (2, 1, a0_, .ref q1_), (2, 2, a0_, .ref q2_), (2, 3, a0_, .ref q3_), (0, 0, q2_, .ref q0_), (0, 1, q2_, .ref q1_), (5, 0, q1_, .ref q6_), (5, 1, q1_, .ref q7_)]) rfl (fun fr_863 H locs hp hMr_863 g => ?_)
                            obtain ⟨x_864, h_865, hF_866⟩ := hp
                            have hG_867 := eOK.frame hMr_863 go_.2.2.2.1 mq2_ kq2_ (by decide) (by decide) hG_862
                            have g := g.more hF_866
                            refine lv_iload_n hx hb dX2_readArguments_180 rfl (lv_at hl 3 rfl) ?_
                            refine lv_aload_n hx hb dX2_readArguments_181 rfl (lv_at hl 5 rfl) ?_
                            refine g_getk (C := RX2) (T := TX2) (N := 16) hx hb hts (mc_ inX2) hown hK g rfl 14 (by decide) rfl (hts _ (List.mem_cons_of_mem _ t_430)) (fun _ h9 => h9) 3 rfl dX2_readArguments_182 ?_
                            refine lv_icmp_ge (tgt := 199) hx hb dX2_readArguments_185 (by decide) (fun c_868 => ?_) (fun c_868 => ?_)
                            · have fc_868 := le_f c_868
                              refine lv_aload_n hx hb dX2_readArguments_199 rfl (lv_at hl 5 rfl) ?_
                              refine g_getk (C := RX2) (T := TX2) (N := 16) hx hb hts (mc_ inX2) hown hK g rfl 3 (by decide) rfl (hts _ (List.mem_cons_of_mem _ t_419)) (fun _ h9 => h9) 7 rfl dX2_readArguments_200 ?_
                              refine lv_aload_n hx hb dX2_readArguments_203 rfl (lv_at hl 5 rfl) ?_
                              refine g_geti (C := RX2) (T := TX2) (N := 16) hx hb hts (mc_ inX2) hown hK g ma0_ ka0_ (by decide) rfl 12 (by decide) rfl (hts _ (List.mem_cons_of_mem _ t_428)) (fun _ h9 => h9) rfl dX2_readArguments_204 (fun x_869 bx_869 g => ?_)
                              refine lv_aload_n hx hb dX2_readArguments_207 rfl (lv_at hl 5 rfl) ?_
                              refine g_geti (C := RX2) (T := TX2) (N := 16) hx hb hts (mc_ inX2) hown hK g ma0_ ka0_ (by decide) rfl 13 (by decide) rfl (hts _ (List.mem_cons_of_mem _ t_429)) (fun _ h9 => h9) rfl dX2_readArguments_208 (fun x_870 bx_870 g => ?_)
                              have go_ := g
                              refine g_callv (va_runV (As := [.int x_869, .int x_870]) (rest := []) ⟨hx, hb, hml, hown, hts⟩ (r_X7_emit l dC dI L kd tys fr_863 H.size g.2.2.2.1 q3_ mq3_ kq3_ x_869 x_870) (cwV 2 hts (gV_ t_1301 t_1204 t_1205 t_191 t_1206) rfl rfl rfl (by decide +kernel) ⟨(Nat.le_of_ble_eq_true rfl), (Nat.le_of_ble_eq_true rfl)⟩) (pre3V g hK mq3_ kq3_ (by decide) (q := (RX7, TX7, 19)) rfl) rfl rfl hl.1 rfl (lv_room (Nat.le_of_ble_eq_true rfl)) dX2_readArguments_211 ⟨(Nat.le_of_ble_eq_true rfl), (Nat.le_of_ble_eq_true rfl)⟩) g hK (by decide) (by decide) (fx' := [(2, 13, a0_, .int x_870), (2, 12, a0_, .int x_869), (8, 6, q0_, .int x_864), (8, 8, q0_, .int x_852), (0, 2, q2_, .ref q6_), (2, 14, a0_, .int x_11), (2, 0, a0_, .ref q0_), (2, 1, a0_, .ref q1_), (2, 2, a0_, .ref q2_), (2, 3, a0_, .ref q3_), (0, 0, q2_, .ref q0_), (0, 1, q2_, .ref q1_), (5, 0, q1_, .ref q6_), (5, 1, q1_, .ref q7_)]) rfl (fun fr_871 H locs hp hMr_871 g => ?_)
                              obtain ⟨x_872, h_873, hF_874⟩ := hp
                              have hG_875 := eOK.frame hMr_871 go_.2.2.2.1 mq2_ kq2_ (by decide) (by decide) hG_867
                              have g := g.more hF_874
                              refine lv_aload_n hx hb dX2_readArguments_214 rfl (lv_at hl 5 rfl) ?_
                              refine g_getk (C := RX2) (T := TX2) (N := 16) hx hb hts (mc_ inX2) hown hK g rfl 3 (by decide) rfl (hts _ (List.mem_cons_of_mem _ t_419)) (fun _ h9 => h9) 10 rfl dX2_readArguments_215 ?_
                              refine lv_bipush (v := 22) hx hb dX2_readArguments_218 (by decide) ?_
                              refine lv_iconst (v := 0) hx hb dX2_readArguments_220 (by decide) ?_
                              have go_ := g
                              refine g_callv (va_runV (As := [.int 22, .int 0]) (rest := []) ⟨hx, hb, hml, hown, hts⟩ (r_X7_emit l dC dI L kd tys fr_871 H.size g.2.2.2.1 q3_ mq3_ kq3_ 22 0) (cwV 2 hts (gV_ t_1301 t_1204 t_1205 t_191 t_1206) rfl rfl rfl (by decide +kernel) ⟨(Nat.le_of_ble_eq_true rfl), (Nat.le_of_ble_eq_true rfl)⟩) (pre3V g hK mq3_ kq3_ (by decide) (q := (RX7, TX7, 19)) rfl) rfl rfl hl.1 rfl (lv_room (Nat.le_of_ble_eq_true rfl)) dX2_readArguments_221 ⟨(Nat.le_of_ble_eq_true rfl), (Nat.le_of_ble_eq_true rfl)⟩) g hK (by decide) (by decide) (fx' := [(2, 13, a0_, .int x_870), (2, 12, a0_, .int x_869), (8, 6, q0_, .int x_864), (8, 8, q0_, .int x_852), (0, 2, q2_, .ref q6_), (2, 14, a0_, .int x_11), (2, 0, a0_, .ref q0_), (2, 1, a0_, .ref q1_), (2, 2, a0_, .ref q2_), (2, 3, a0_, .ref q3_), (0, 0, q2_, .ref q0_), (0, 1, q2_, .ref q1_), (5, 0, q1_, .ref q6_), (5, 1, q1_, .ref q7_)]) rfl (fun fr_876 H locs hp hMr_876 g => ?_)
                              obtain ⟨x_877, h_878, hF_879⟩ := hp
                              have hG_880 := eOK.frame hMr_876 go_.2.2.2.1 mq2_ kq2_ (by decide) (by decide) hG_875
                              have g := g.more hF_879
                              refine lv_aload_n hx hb dX2_readArguments_224 rfl (lv_at hl 5 rfl) ?_
                              refine g_getk (C := RX2) (T := TX2) (N := 16) hx hb hts (mc_ inX2) hown hK g rfl 0 (by decide) rfl (hts _ (List.mem_cons_of_mem _ t_416)) (fun _ h9 => h9) 7 rfl dX2_readArguments_225 ?_
                              refine lv_bipush (v := 59) hx hb dX2_readArguments_228 (by decide) ?_
                              have go_ := g
                              refine g_callv (va_runV (As := [.int 59]) (rest := []) ⟨hx, hb, hml, hown, hts⟩ (r_X8_take_2 l dC dI L kd tys fr_876 H.size g.2.2.2.1 q0_ mq0_ kq0_ 59 x_864 h_865 x_852 h_853 (g.fcts [3, 4] rfl)) (cwV 1 hts (gV_ t_1098 t_1099 t_1100 t_184 t_1101) rfl rfl rfl (by decide +kernel) ⟨(Nat.le_of_ble_eq_true rfl), (Nat.le_of_ble_eq_true rfl)⟩) (pre3V g hK mq0_ kq0_ (by decide) (q := (RX8, TX8, 10)) rfl) rfl rfl hl.1 rfl (lv_room (Nat.le_of_ble_eq_true rfl)) dX2_readArguments_230 ⟨(Nat.le_of_ble_eq_true rfl), (Nat.le_of_ble_eq_true rfl)⟩) g hK (by decide) (by decide) (fx' := [(7, 6, q3_, .int x_877), (2, 13, a0_, .int x_870), (2, 12, a0_, .int x_869), (8, 8, q0_, .int x_852), (0, 2, q2_, .ref q6_), (2, 14, a0_, .int x_11), (2, 0, a0_, .ref q0_), (2, 1, a0_, .ref q1_), (2, 2, a0_, .ref q2_), (2, 3, a0_, .ref q3_), (0, 0, q2_, .ref q0_), (0, 1, q2_, .ref q1_), (5, 0, q1_, .ref q6_), (5, 1, q1_, .ref q7_)]) rfl (fun fr_881 H locs hp hMr_881 g => ?_)
                              obtain ⟨x_882, h_883, hF_884⟩ := hp
                              have hG_885 := eOK.frame hMr_881 go_.2.2.2.1 mq2_ kq2_ (by decide) (by decide) hG_880
                              have g := g.more hF_884
                              subst hQ
                              exact W.vret hx hb hr (fun t ht hW => ⟨⟨_, rfl, Or.inr (⟨hG_885, x_882, h_883, x_852, h_853, x_877, h_878, (g.fcts [0, 4, 1] rfl)⟩), q3_of g hK ht hW⟩, g.2.2.1.F ht⟩) g.2.2.1.2.2 dX2_readArguments_233
                            · have fc_868 := nle_f c_868
                              have b_886 : bd 0 (-1) y_832 := ltL fc_868 b_850 b_558 (by decide)
                              exact bd_no b_886 (by decide)
                          · have fc_858 := nlt_f c_858
                            have b_887 : bd 1 3 y_856 := leL fc_858 b_857 kb_3 (by decide)
                            have b_888 : bd 0 2 v69_4 := add_inv ty_856 b_887 b_720 kb_1 (by decide)
                            refine lv_iload_n hx hb dX2_readArguments_75 rfl (lv_at hl 2 rfl) ?_
                            refine lv_if_eq (tgt := 162) hx hb dX2_readArguments_76 (by decide) (fun c_ => absurd c_ (by decide)) (fun c_ => ?_)
                            refine lv_aload_n hx hb dX2_readArguments_79 rfl (lv_at hl 5 rfl) ?_
                            refine g_getk (C := RX2) (T := TX2) (N := 16) hx hb hts (mc_ inX2) hown hK g rfl 0 (by decide) rfl (hts _ (List.mem_cons_of_mem _ t_416)) (fun _ h9 => h9) 4 rfl dX2_readArguments_80 ?_
                            refine g_getk (C := RX8) (T := TX8) (N := 10) hx hb hts (mc_ inX8) hown hK g rfl 8 (by decide) rfl (hts _ (List.mem_cons_of_mem _ t_294)) (fun _ h9 => h9) 1 rfl dX2_readArguments_83 ?_
                            refine lv_if_ne (tgt := 162) hx hb dX2_readArguments_86 (by decide) (fun c_889 => ?_) (fun c_889 => ?_)
                            · have fc_889 := neq_f c_889
                              refine lv_aload_n hx hb dX2_readArguments_162 rfl (lv_at hl 5 rfl) ?_
                              refine g_getk (C := RX2) (T := TX2) (N := 16) hx hb hts (mc_ inX2) hown hK g rfl 0 (by decide) rfl (hts _ (List.mem_cons_of_mem _ t_416)) (fun _ h9 => h9) 4 rfl dX2_readArguments_163 ?_
                              have go_ := g
                              refine g_calli (va_runV (As := []) (rest := []) ⟨hx, hb, hml, hown, hts⟩ (r_X8_place l dC dI L kd tys fr_851 H.size g.2.2.2.1 q0_ mq0_ kq0_) (cwV 0 hts (gV_ t_1110 t_1111 t_1112 t_184 t_1113) rfl rfl rfl (by decide +kernel) ⟨(Nat.le_of_ble_eq_true rfl), (Nat.le_of_ble_eq_true rfl)⟩) (pre3V g hK mq0_ kq0_ (by decide) (q := (RX8, TX8, 10)) rfl) rfl rfl hl.1 rfl (lv_room (Nat.le_of_ble_eq_true rfl)) dX2_readArguments_166 ⟨(Nat.le_of_ble_eq_true rfl), (Nat.le_of_ble_eq_true rfl)⟩) g hK (by decide) (by decide) (fx' := [(8, 6, q0_, .int 1201), (8, 8, q0_, .int x_852), (0, 2, q2_, .ref q6_), (2, 14, a0_, .int x_11), (2, 0, a0_, .ref q0_), (2, 1, a0_, .ref q1_), (2, 2, a0_, .ref q2_), (2, 3, a0_, .ref q3_), (0, 0, q2_, .ref q0_), (0, 1, q2_, .ref q1_), (5, 0, q1_, .ref q6_), (5, 1, q1_, .ref q7_)]) rfl (fun r_890 fr_890 H locs hp hMr_890 g => ?_)
                              have hG_891 := eOK.frame hMr_890 go_.2.2.2.1 mq2_ kq2_ (by decide) (by decide) hG_855
                              refine lv_istore (lv' := [(4, .int r_890), (5, .int r_839), (3, .int 1), (2, .int y_832), (1, .int r_1), (0, .ref a0_)]) hx hb dX2_readArguments_169 hl (by decide) rfl (fun ls hl => ?_)
                              refine lv_aload_n hx hb dX2_readArguments_171 rfl (lv_at hl 5 rfl) ?_
                              refine g_getk (C := RX2) (T := TX2) (N := 16) hx hb hts (mc_ inX2) hown hK g rfl 0 (by decide) rfl (hts _ (List.mem_cons_of_mem _ t_416)) (fun _ h9 => h9) 4 rfl dX2_readArguments_172 ?_
                              refine lv_bipush (v := 41) hx hb dX2_readArguments_175 (by decide) ?_
                              have kb_1201 : bd 1201 1201 (1201 : Int32) := ⟨by decide, by decide⟩
                              have go_ := g
                              refine g_callv (va_runV (As := [.int 41]) (rest := []) ⟨hx, hb, hml, hown, hts⟩ (r_X8_take_2 l dC dI L kd tys fr_890 H.size g.2.2.2.1 q0_ mq0_ kq0_ 41 1201 kb_1201 x_852 h_853 (g.fcts [0, 1] rfl)) (cwV 1 hts (gV_ t_1098 t_1099 t_1100 t_184 t_1101) rfl rfl rfl (by decide +kernel) ⟨(Nat.le_of_ble_eq_true rfl), (Nat.le_of_ble_eq_true rfl)⟩) (pre3V g hK mq0_ kq0_ (by decide) (q := (RX8, TX8, 10)) rfl) rfl rfl hl.1 rfl (lv_room (Nat.le_of_ble_eq_true rfl)) dX2_readArguments_177 ⟨(Nat.le_of_ble_eq_true rfl), (Nat.le_of_ble_eq_true rfl)⟩) g hK (by decide) (by decide) (fx' := [(8, 8, q0_, .int x_852), (0, 2, q2_, .ref q6_), (2, 14, a0_, .int x_11), (2, 0, a0_, .ref q0_), (2, 1, a0_, .ref q1_), (2, 2, a0_, .ref q2_), (2, 3, a0_, .ref q3_), (0, 0, q2_, .ref q0_), (0, 1, q2_, .ref q1_), (5, 0, q1_, .ref q6_), (5, 1, q1_, .ref q7_)]) rfl (fun fr_892 H locs hp hMr_892 g => ?_)
                              obtain ⟨x_893, h_894, hF_895⟩ := hp
                              have hG_896 := eOK.frame hMr_892 go_.2.2.2.1 mq2_ kq2_ (by decide) (by decide) hG_891
                              have g := g.more hF_895
                              refine lv_iload_n hx hb dX2_readArguments_180 rfl (lv_at hl 3 rfl) ?_
                              refine lv_aload_n hx hb dX2_readArguments_181 rfl (lv_at hl 5 rfl) ?_
                              refine g_getk (C := RX2) (T := TX2) (N := 16) hx hb hts (mc_ inX2) hown hK g rfl 14 (by decide) rfl (hts _ (List.mem_cons_of_mem _ t_430)) (fun _ h9 => h9) 3 rfl dX2_readArguments_182 ?_
                              refine lv_icmp_ge (tgt := 199) hx hb dX2_readArguments_185 (by decide) (fun c_897 => ?_) (fun c_897 => ?_)
                              · have fc_897 := le_f c_897
                                refine lv_aload_n hx hb dX2_readArguments_199 rfl (lv_at hl 5 rfl) ?_
                                refine g_getk (C := RX2) (T := TX2) (N := 16) hx hb hts (mc_ inX2) hown hK g rfl 3 (by decide) rfl (hts _ (List.mem_cons_of_mem _ t_419)) (fun _ h9 => h9) 7 rfl dX2_readArguments_200 ?_
                                refine lv_aload_n hx hb dX2_readArguments_203 rfl (lv_at hl 5 rfl) ?_
                                refine g_geti (C := RX2) (T := TX2) (N := 16) hx hb hts (mc_ inX2) hown hK g ma0_ ka0_ (by decide) rfl 12 (by decide) rfl (hts _ (List.mem_cons_of_mem _ t_428)) (fun _ h9 => h9) rfl dX2_readArguments_204 (fun x_898 bx_898 g => ?_)
                                refine lv_aload_n hx hb dX2_readArguments_207 rfl (lv_at hl 5 rfl) ?_
                                refine g_geti (C := RX2) (T := TX2) (N := 16) hx hb hts (mc_ inX2) hown hK g ma0_ ka0_ (by decide) rfl 13 (by decide) rfl (hts _ (List.mem_cons_of_mem _ t_429)) (fun _ h9 => h9) rfl dX2_readArguments_208 (fun x_899 bx_899 g => ?_)
                                have go_ := g
                                refine g_callv (va_runV (As := [.int x_898, .int x_899]) (rest := []) ⟨hx, hb, hml, hown, hts⟩ (r_X7_emit l dC dI L kd tys fr_892 H.size g.2.2.2.1 q3_ mq3_ kq3_ x_898 x_899) (cwV 2 hts (gV_ t_1301 t_1204 t_1205 t_191 t_1206) rfl rfl rfl (by decide +kernel) ⟨(Nat.le_of_ble_eq_true rfl), (Nat.le_of_ble_eq_true rfl)⟩) (pre3V g hK mq3_ kq3_ (by decide) (q := (RX7, TX7, 19)) rfl) rfl rfl hl.1 rfl (lv_room (Nat.le_of_ble_eq_true rfl)) dX2_readArguments_211 ⟨(Nat.le_of_ble_eq_true rfl), (Nat.le_of_ble_eq_true rfl)⟩) g hK (by decide) (by decide) (fx' := [(2, 13, a0_, .int x_899), (2, 12, a0_, .int x_898), (8, 6, q0_, .int x_893), (8, 8, q0_, .int x_852), (0, 2, q2_, .ref q6_), (2, 14, a0_, .int x_11), (2, 0, a0_, .ref q0_), (2, 1, a0_, .ref q1_), (2, 2, a0_, .ref q2_), (2, 3, a0_, .ref q3_), (0, 0, q2_, .ref q0_), (0, 1, q2_, .ref q1_), (5, 0, q1_, .ref q6_), (5, 1, q1_, .ref q7_)]) rfl (fun fr_900 H locs hp hMr_900 g => ?_)
                                obtain ⟨x_901, h_902, hF_903⟩ := hp
                                have hG_904 := eOK.frame hMr_900 go_.2.2.2.1 mq2_ kq2_ (by decide) (by decide) hG_896
                                have g := g.more hF_903
                                refine lv_aload_n hx hb dX2_readArguments_214 rfl (lv_at hl 5 rfl) ?_
                                refine g_getk (C := RX2) (T := TX2) (N := 16) hx hb hts (mc_ inX2) hown hK g rfl 3 (by decide) rfl (hts _ (List.mem_cons_of_mem _ t_419)) (fun _ h9 => h9) 10 rfl dX2_readArguments_215 ?_
                                refine lv_bipush (v := 22) hx hb dX2_readArguments_218 (by decide) ?_
                                refine lv_iconst (v := 0) hx hb dX2_readArguments_220 (by decide) ?_
                                have go_ := g
                                refine g_callv (va_runV (As := [.int 22, .int 0]) (rest := []) ⟨hx, hb, hml, hown, hts⟩ (r_X7_emit l dC dI L kd tys fr_900 H.size g.2.2.2.1 q3_ mq3_ kq3_ 22 0) (cwV 2 hts (gV_ t_1301 t_1204 t_1205 t_191 t_1206) rfl rfl rfl (by decide +kernel) ⟨(Nat.le_of_ble_eq_true rfl), (Nat.le_of_ble_eq_true rfl)⟩) (pre3V g hK mq3_ kq3_ (by decide) (q := (RX7, TX7, 19)) rfl) rfl rfl hl.1 rfl (lv_room (Nat.le_of_ble_eq_true rfl)) dX2_readArguments_221 ⟨(Nat.le_of_ble_eq_true rfl), (Nat.le_of_ble_eq_true rfl)⟩) g hK (by decide) (by decide) (fx' := [(2, 13, a0_, .int x_899), (2, 12, a0_, .int x_898), (8, 6, q0_, .int x_893), (8, 8, q0_, .int x_852), (0, 2, q2_, .ref q6_), (2, 14, a0_, .int x_11), (2, 0, a0_, .ref q0_), (2, 1, a0_, .ref q1_), (2, 2, a0_, .ref q2_), (2, 3, a0_, .ref q3_), (0, 0, q2_, .ref q0_), (0, 1, q2_, .ref q1_), (5, 0, q1_, .ref q6_), (5, 1, q1_, .ref q7_)]) rfl (fun fr_905 H locs hp hMr_905 g => ?_)
                                obtain ⟨x_906, h_907, hF_908⟩ := hp
                                have hG_909 := eOK.frame hMr_905 go_.2.2.2.1 mq2_ kq2_ (by decide) (by decide) hG_904
                                have g := g.more hF_908
                                refine lv_aload_n hx hb dX2_readArguments_224 rfl (lv_at hl 5 rfl) ?_
                                refine g_getk (C := RX2) (T := TX2) (N := 16) hx hb hts (mc_ inX2) hown hK g rfl 0 (by decide) rfl (hts _ (List.mem_cons_of_mem _ t_416)) (fun _ h9 => h9) 7 rfl dX2_readArguments_225 ?_
                                refine lv_bipush (v := 59) hx hb dX2_readArguments_228 (by decide) ?_
                                have go_ := g
                                refine g_callv (va_runV (As := [.int 59]) (rest := []) ⟨hx, hb, hml, hown, hts⟩ (r_X8_take_2 l dC dI L kd tys fr_905 H.size g.2.2.2.1 q0_ mq0_ kq0_ 59 x_893 h_894 x_852 h_853 (g.fcts [3, 4] rfl)) (cwV 1 hts (gV_ t_1098 t_1099 t_1100 t_184 t_1101) rfl rfl rfl (by decide +kernel) ⟨(Nat.le_of_ble_eq_true rfl), (Nat.le_of_ble_eq_true rfl)⟩) (pre3V g hK mq0_ kq0_ (by decide) (q := (RX8, TX8, 10)) rfl) rfl rfl hl.1 rfl (lv_room (Nat.le_of_ble_eq_true rfl)) dX2_readArguments_230 ⟨(Nat.le_of_ble_eq_true rfl), (Nat.le_of_ble_eq_true rfl)⟩) g hK (by decide) (by decide) (fx' := [(7, 6, q3_, .int x_906), (2, 13, a0_, .int x_899), (2, 12, a0_, .int x_898), (8, 8, q0_, .int x_852), (0, 2, q2_, .ref q6_), (2, 14, a0_, .int x_11), (2, 0, a0_, .ref q0_), (2, 1, a0_, .ref q1_), (2, 2, a0_, .ref q2_), (2, 3, a0_, .ref q3_), (0, 0, q2_, .ref q0_), (0, 1, q2_, .ref q1_), (5, 0, q1_, .ref q6_), (5, 1, q1_, .ref q7_)]) rfl (fun fr_910 H locs hp hMr_910 g => ?_)
                                obtain ⟨x_911, h_912, hF_913⟩ := hp
                                have hG_914 := eOK.frame hMr_910 go_.2.2.2.1 mq2_ kq2_ (by decide) (by decide) hG_909
                                have g := g.more hF_913
                                subst hQ
                                exact W.vret hx hb hr (fun t ht hW => ⟨⟨_, rfl, Or.inr (⟨hG_914, x_911, h_912, x_852, h_853, x_906, h_907, (g.fcts [0, 4, 1] rfl)⟩), q3_of g hK ht hW⟩, g.2.2.1.F ht⟩) g.2.2.1.2.2 dX2_readArguments_233
                              · have fc_897 := nle_f c_897
                                have b_915 : bd 0 (-1) y_832 := ltL fc_897 b_850 b_558 (by decide)
                                exact bd_no b_915 (by decide)
                            · have fc_889 := eq_f c_889
                              have b_916 : bd 1 0 x_852 := eqX fc_889 h_853 kb_0 (by decide)
                              exact bd_no b_916 (by decide)
                    · have g := g.more hF_831
                      have kb_1 : bd 1 1 (1 : Int32) := ⟨by decide, by decide⟩
                      obtain ⟨y_917, ey_917⟩ : ∃ z : Int32, z = v69_2 + 1 := ⟨_, rfl⟩
                      refine lv_iinc (v := y_917) (lv' := [(2, .int y_917), (4, .int v69_4), (3, .int v69_3), (1, .int r_1), (0, .ref a0_)]) hx hb dX2_readArguments_96 hl (k := 2) rfl (by rw [ey_917]; rfl) (by decide) rfl (fun ls hl => ?_)
                      refine lv_aload_n hx hb dX2_readArguments_99 rfl (lv_at hl 4 rfl) ?_
                      refine g_getk (C := RX2) (T := TX2) (N := 16) hx hb hts (mc_ inX2) hown hK g rfl 0 (by decide) rfl (hts _ (List.mem_cons_of_mem _ t_416)) (fun _ h9 => h9) 4 rfl dX2_readArguments_100 ?_
                      have go_ := g
                      refine g_calli (va_runV (As := []) (rest := []) ⟨hx, hb, hml, hown, hts⟩ (r_X8_kind_2 l dC dI L kd tys fr_823 H.size g.2.2.2.1 q0_ mq0_ kq0_ x_827 h_828 (g.fcts [0] rfl)) (cwV 0 hts (gV_ t_1118 t_1119 t_1120 t_184 t_1121) rfl rfl rfl (by decide +kernel) ⟨(Nat.le_of_ble_eq_true rfl), (Nat.le_of_ble_eq_true rfl)⟩) (pre3V g hK mq0_ kq0_ (by decide) (q := (RX8, TX8, 10)) rfl) rfl rfl hl.1 rfl (lv_room (Nat.le_of_ble_eq_true rfl)) dX2_readArguments_103 ⟨(Nat.le_of_ble_eq_true rfl), (Nat.le_of_ble_eq_true rfl)⟩) g hK (by decide) (by decide) (fx' := [(8, 6, q0_, .int x_827), (8, 8, q0_, .int x_829), (0, 2, q2_, .ref q6_), (2, 14, a0_, .int x_11), (2, 0, a0_, .ref q0_), (2, 1, a0_, .ref q1_), (2, 2, a0_, .ref q2_), (2, 3, a0_, .ref q3_), (0, 0, q2_, .ref q0_), (0, 1, q2_, .ref q1_), (5, 0, q1_, .ref q6_), (5, 1, q1_, .ref q7_)]) rfl (fun r_918 fr_918 H locs hp hMr_918 g => ?_)
                      obtain ⟨h_919, -⟩ := hp
                      have hG_920 := eOK.frame hMr_918 go_.2.2.2.1 mq2_ kq2_ (by decide) (by decide) hG_826
                      obtain rfl : r_918 = 0 := h_919
                      refine lv_bipush (v := 44) hx hb dX2_readArguments_106 (by decide) ?_
                      refine lv_icmp_ne (tgt := 115) hx hb dX2_readArguments_108 (by decide) (fun c_ => ?_) (fun c_ => absurd c_ (by decide))
                      refine lv_iconst (v := 0) hx hb dX2_readArguments_115 (by decide) ?_
                      refine lv_istore_n (lv' := [(3, .int 0), (2, .int y_917), (4, .int v69_4), (1, .int r_1), (0, .ref a0_)]) hx hb dX2_readArguments_116 rfl hl (by decide) rfl (fun ls hl => ?_)
                      refine lv_iload_n hx hb dX2_readArguments_117 rfl (lv_at hl 0 rfl) ?_
                      refine lv_if_eq (tgt := 156) hx hb dX2_readArguments_118 (by decide) (fun c_ => ?_) (fun c_ => absurd (by decide) c_)
                      obtain ⟨y_921, ey_921⟩ : ∃ z : Int32, z = v69_4 + 1 := ⟨_, rfl⟩
                      refine lv_iinc (v := y_921) (lv' := [(4, .int y_921), (3, .int 0), (2, .int y_917), (1, .int r_1), (0, .ref a0_)]) hx hb dX2_readArguments_156 hl (k := 2) rfl (by rw [ey_921]; rfl) (by decide) rfl (fun ls hl => ?_)
                      have ty_921 := add_bd ey_921 b_720 kb_1 (by decide)
                      have b_922 : bd 1 4 y_921 := add_rg ty_921 b_720 kb_1 (by decide)
                      refine lv_goto (tgt := 69) hx hb dX2_readArguments_159 (by decide) ?_
                      refine lv_iload hx hb dX2_readArguments_69 (lv_at hl 0 rfl) ?_
                      refine lv_iconst (v := 3) hx hb dX2_readArguments_71 (by decide) ?_
                      refine lv_icmp_gt (tgt := 162) hx hb dX2_readArguments_72 (by decide) (fun c_923 => ?_) (fun c_923 => ?_)
                      · have fc_923 := lt_f c_923
                        have b_924 : bd 4 4 y_921 := ltR fc_923 kb_3 b_922 (by decide)
                        have b_925 : bd 3 3 v69_4 := add_inv ty_921 b_924 b_720 kb_1 (by decide)
                        refine lv_aload_n hx hb dX2_readArguments_162 rfl (lv_at hl 4 rfl) ?_
                        refine g_getk (C := RX2) (T := TX2) (N := 16) hx hb hts (mc_ inX2) hown hK g rfl 0 (by decide) rfl (hts _ (List.mem_cons_of_mem _ t_416)) (fun _ h9 => h9) 4 rfl dX2_readArguments_163 ?_
                        have go_ := g
                        refine g_calli (va_runV (As := []) (rest := []) ⟨hx, hb, hml, hown, hts⟩ (r_X8_place l dC dI L kd tys fr_918 H.size g.2.2.2.1 q0_ mq0_ kq0_) (cwV 0 hts (gV_ t_1110 t_1111 t_1112 t_184 t_1113) rfl rfl rfl (by decide +kernel) ⟨(Nat.le_of_ble_eq_true rfl), (Nat.le_of_ble_eq_true rfl)⟩) (pre3V g hK mq0_ kq0_ (by decide) (q := (RX8, TX8, 10)) rfl) rfl rfl hl.1 rfl (lv_room (Nat.le_of_ble_eq_true rfl)) dX2_readArguments_166 ⟨(Nat.le_of_ble_eq_true rfl), (Nat.le_of_ble_eq_true rfl)⟩) g hK (by decide) (by decide) (fx' := [(8, 6, q0_, .int x_827), (8, 8, q0_, .int x_829), (0, 2, q2_, .ref q6_), (2, 14, a0_, .int x_11), (2, 0, a0_, .ref q0_), (2, 1, a0_, .ref q1_), (2, 2, a0_, .ref q2_), (2, 3, a0_, .ref q3_), (0, 0, q2_, .ref q0_), (0, 1, q2_, .ref q1_), (5, 0, q1_, .ref q6_), (5, 1, q1_, .ref q7_)]) rfl (fun r_926 fr_926 H locs hp hMr_926 g => ?_)
                        have hG_927 := eOK.frame hMr_926 go_.2.2.2.1 mq2_ kq2_ (by decide) (by decide) hG_920
                        refine lv_istore (lv' := [(4, .int r_926), (3, .int 0), (2, .int y_917), (1, .int r_1), (0, .ref a0_)]) hx hb dX2_readArguments_169 hl (by decide) rfl (fun ls hl => ?_)
                        refine lv_aload_n hx hb dX2_readArguments_171 rfl (lv_at hl 4 rfl) ?_
                        refine g_getk (C := RX2) (T := TX2) (N := 16) hx hb hts (mc_ inX2) hown hK g rfl 0 (by decide) rfl (hts _ (List.mem_cons_of_mem _ t_416)) (fun _ h9 => h9) 4 rfl dX2_readArguments_172 ?_
                        refine lv_bipush (v := 41) hx hb dX2_readArguments_175 (by decide) ?_
                        have go_ := g
                        refine g_callv (va_runV (As := [.int 41]) (rest := []) ⟨hx, hb, hml, hown, hts⟩ (r_X8_take_2 l dC dI L kd tys fr_926 H.size g.2.2.2.1 q0_ mq0_ kq0_ 41 x_827 h_828 x_829 h_830 (g.fcts [0, 1] rfl)) (cwV 1 hts (gV_ t_1098 t_1099 t_1100 t_184 t_1101) rfl rfl rfl (by decide +kernel) ⟨(Nat.le_of_ble_eq_true rfl), (Nat.le_of_ble_eq_true rfl)⟩) (pre3V g hK mq0_ kq0_ (by decide) (q := (RX8, TX8, 10)) rfl) rfl rfl hl.1 rfl (lv_room (Nat.le_of_ble_eq_true rfl)) dX2_readArguments_177 ⟨(Nat.le_of_ble_eq_true rfl), (Nat.le_of_ble_eq_true rfl)⟩) g hK (by decide) (by decide) (fx' := [(8, 8, q0_, .int x_829), (0, 2, q2_, .ref q6_), (2, 14, a0_, .int x_11), (2, 0, a0_, .ref q0_), (2, 1, a0_, .ref q1_), (2, 2, a0_, .ref q2_), (2, 3, a0_, .ref q3_), (0, 0, q2_, .ref q0_), (0, 1, q2_, .ref q1_), (5, 0, q1_, .ref q6_), (5, 1, q1_, .ref q7_)]) rfl (fun fr_928 H locs hp hMr_928 g => ?_)
                        obtain ⟨x_929, h_930, hF_931⟩ := hp
                        have hG_932 := eOK.frame hMr_928 go_.2.2.2.1 mq2_ kq2_ (by decide) (by decide) hG_927
                        have g := g.more hF_931
                        refine lv_iload_n hx hb dX2_readArguments_180 rfl (lv_at hl 2 rfl) ?_
                        refine lv_aload_n hx hb dX2_readArguments_181 rfl (lv_at hl 4 rfl) ?_
                        refine g_getk (C := RX2) (T := TX2) (N := 16) hx hb hts (mc_ inX2) hown hK g rfl 14 (by decide) rfl (hts _ (List.mem_cons_of_mem _ t_430)) (fun _ h9 => h9) 3 rfl dX2_readArguments_182 ?_
                        refine lv_icmp_ge (tgt := 199) hx hb dX2_readArguments_185 (by decide) (fun c_933 => ?_) (fun c_933 => ?_)
                        · have fc_933 := le_f c_933
                          have b_934 : bd 0 2147483647 y_917 := leR fc_933 b_558 (bdT y_917) (by decide)
                          refine lv_aload_n hx hb dX2_readArguments_199 rfl (lv_at hl 4 rfl) ?_
                          refine g_getk (C := RX2) (T := TX2) (N := 16) hx hb hts (mc_ inX2) hown hK g rfl 3 (by decide) rfl (hts _ (List.mem_cons_of_mem _ t_419)) (fun _ h9 => h9) 7 rfl dX2_readArguments_200 ?_
                          refine lv_aload_n hx hb dX2_readArguments_203 rfl (lv_at hl 4 rfl) ?_
                          refine g_geti (C := RX2) (T := TX2) (N := 16) hx hb hts (mc_ inX2) hown hK g ma0_ ka0_ (by decide) rfl 12 (by decide) rfl (hts _ (List.mem_cons_of_mem _ t_428)) (fun _ h9 => h9) rfl dX2_readArguments_204 (fun x_935 bx_935 g => ?_)
                          refine lv_aload_n hx hb dX2_readArguments_207 rfl (lv_at hl 4 rfl) ?_
                          refine g_geti (C := RX2) (T := TX2) (N := 16) hx hb hts (mc_ inX2) hown hK g ma0_ ka0_ (by decide) rfl 13 (by decide) rfl (hts _ (List.mem_cons_of_mem _ t_429)) (fun _ h9 => h9) rfl dX2_readArguments_208 (fun x_936 bx_936 g => ?_)
                          have go_ := g
                          refine g_callv (va_runV (As := [.int x_935, .int x_936]) (rest := []) ⟨hx, hb, hml, hown, hts⟩ (r_X7_emit l dC dI L kd tys fr_928 H.size g.2.2.2.1 q3_ mq3_ kq3_ x_935 x_936) (cwV 2 hts (gV_ t_1301 t_1204 t_1205 t_191 t_1206) rfl rfl rfl (by decide +kernel) ⟨(Nat.le_of_ble_eq_true rfl), (Nat.le_of_ble_eq_true rfl)⟩) (pre3V g hK mq3_ kq3_ (by decide) (q := (RX7, TX7, 19)) rfl) rfl rfl hl.1 rfl (lv_room (Nat.le_of_ble_eq_true rfl)) dX2_readArguments_211 ⟨(Nat.le_of_ble_eq_true rfl), (Nat.le_of_ble_eq_true rfl)⟩) g hK (by decide) (by decide) (fx' := [(2, 13, a0_, .int x_936), (2, 12, a0_, .int x_935), (8, 6, q0_, .int x_929), (8, 8, q0_, .int x_829), (0, 2, q2_, .ref q6_), (2, 14, a0_, .int x_11), (2, 0, a0_, .ref q0_), (2, 1, a0_, .ref q1_), (2, 2, a0_, .ref q2_), (2, 3, a0_, .ref q3_), (0, 0, q2_, .ref q0_), (0, 1, q2_, .ref q1_), (5, 0, q1_, .ref q6_), (5, 1, q1_, .ref q7_)]) rfl (fun fr_937 H locs hp hMr_937 g => ?_)
                          obtain ⟨x_938, h_939, hF_940⟩ := hp
                          have hG_941 := eOK.frame hMr_937 go_.2.2.2.1 mq2_ kq2_ (by decide) (by decide) hG_932
                          have g := g.more hF_940
                          refine lv_aload_n hx hb dX2_readArguments_214 rfl (lv_at hl 4 rfl) ?_
                          refine g_getk (C := RX2) (T := TX2) (N := 16) hx hb hts (mc_ inX2) hown hK g rfl 3 (by decide) rfl (hts _ (List.mem_cons_of_mem _ t_419)) (fun _ h9 => h9) 10 rfl dX2_readArguments_215 ?_
                          refine lv_bipush (v := 22) hx hb dX2_readArguments_218 (by decide) ?_
                          refine lv_iconst (v := 0) hx hb dX2_readArguments_220 (by decide) ?_
                          have go_ := g
                          refine g_callv (va_runV (As := [.int 22, .int 0]) (rest := []) ⟨hx, hb, hml, hown, hts⟩ (r_X7_emit l dC dI L kd tys fr_937 H.size g.2.2.2.1 q3_ mq3_ kq3_ 22 0) (cwV 2 hts (gV_ t_1301 t_1204 t_1205 t_191 t_1206) rfl rfl rfl (by decide +kernel) ⟨(Nat.le_of_ble_eq_true rfl), (Nat.le_of_ble_eq_true rfl)⟩) (pre3V g hK mq3_ kq3_ (by decide) (q := (RX7, TX7, 19)) rfl) rfl rfl hl.1 rfl (lv_room (Nat.le_of_ble_eq_true rfl)) dX2_readArguments_221 ⟨(Nat.le_of_ble_eq_true rfl), (Nat.le_of_ble_eq_true rfl)⟩) g hK (by decide) (by decide) (fx' := [(2, 13, a0_, .int x_936), (2, 12, a0_, .int x_935), (8, 6, q0_, .int x_929), (8, 8, q0_, .int x_829), (0, 2, q2_, .ref q6_), (2, 14, a0_, .int x_11), (2, 0, a0_, .ref q0_), (2, 1, a0_, .ref q1_), (2, 2, a0_, .ref q2_), (2, 3, a0_, .ref q3_), (0, 0, q2_, .ref q0_), (0, 1, q2_, .ref q1_), (5, 0, q1_, .ref q6_), (5, 1, q1_, .ref q7_)]) rfl (fun fr_942 H locs hp hMr_942 g => ?_)
                          obtain ⟨x_943, h_944, hF_945⟩ := hp
                          have hG_946 := eOK.frame hMr_942 go_.2.2.2.1 mq2_ kq2_ (by decide) (by decide) hG_941
                          have g := g.more hF_945
                          refine lv_aload_n hx hb dX2_readArguments_224 rfl (lv_at hl 4 rfl) ?_
                          refine g_getk (C := RX2) (T := TX2) (N := 16) hx hb hts (mc_ inX2) hown hK g rfl 0 (by decide) rfl (hts _ (List.mem_cons_of_mem _ t_416)) (fun _ h9 => h9) 7 rfl dX2_readArguments_225 ?_
                          refine lv_bipush (v := 59) hx hb dX2_readArguments_228 (by decide) ?_
                          have go_ := g
                          refine g_callv (va_runV (As := [.int 59]) (rest := []) ⟨hx, hb, hml, hown, hts⟩ (r_X8_take_2 l dC dI L kd tys fr_942 H.size g.2.2.2.1 q0_ mq0_ kq0_ 59 x_929 h_930 x_829 h_830 (g.fcts [3, 4] rfl)) (cwV 1 hts (gV_ t_1098 t_1099 t_1100 t_184 t_1101) rfl rfl rfl (by decide +kernel) ⟨(Nat.le_of_ble_eq_true rfl), (Nat.le_of_ble_eq_true rfl)⟩) (pre3V g hK mq0_ kq0_ (by decide) (q := (RX8, TX8, 10)) rfl) rfl rfl hl.1 rfl (lv_room (Nat.le_of_ble_eq_true rfl)) dX2_readArguments_230 ⟨(Nat.le_of_ble_eq_true rfl), (Nat.le_of_ble_eq_true rfl)⟩) g hK (by decide) (by decide) (fx' := [(7, 6, q3_, .int x_943), (2, 13, a0_, .int x_936), (2, 12, a0_, .int x_935), (8, 8, q0_, .int x_829), (0, 2, q2_, .ref q6_), (2, 14, a0_, .int x_11), (2, 0, a0_, .ref q0_), (2, 1, a0_, .ref q1_), (2, 2, a0_, .ref q2_), (2, 3, a0_, .ref q3_), (0, 0, q2_, .ref q0_), (0, 1, q2_, .ref q1_), (5, 0, q1_, .ref q6_), (5, 1, q1_, .ref q7_)]) rfl (fun fr_947 H locs hp hMr_947 g => ?_)
                          obtain ⟨x_948, h_949, hF_950⟩ := hp
                          have hG_951 := eOK.frame hMr_947 go_.2.2.2.1 mq2_ kq2_ (by decide) (by decide) hG_946
                          have g := g.more hF_950
                          subst hQ
                          exact W.vret hx hb hr (fun t ht hW => ⟨⟨_, rfl, Or.inr (⟨hG_951, x_948, h_949, x_829, h_830, x_943, h_944, (g.fcts [0, 4, 1] rfl)⟩), q3_of g hK ht hW⟩, g.2.2.1.F ht⟩) g.2.2.1.2.2 dX2_readArguments_233
                        · have fc_933 := nle_f c_933
                          have b_952 : bd (-2147483648) (-1) y_917 := ltL fc_933 (bdT y_917) b_558 (by decide)
                          refine lv_aload_n hx hb dX2_readArguments_188 rfl (lv_at hl 4 rfl) ?_
                          refine g_getk (C := RX2) (T := TX2) (N := 16) hx hb hts (mc_ inX2) hown hK g rfl 0 (by decide) rfl (hts _ (List.mem_cons_of_mem _ t_416)) (fun _ h9 => h9) 4 rfl dX2_readArguments_189 ?_
                          refine lv_bipush (v := 6) hx hb dX2_readArguments_192 (by decide) ?_
                          refine lv_iload hx hb dX2_readArguments_194 (lv_at hl 0 rfl) ?_
                          have kb_6 : bd 6 6 (6 : Int32) := ⟨by decide, by decide⟩
                          have go_ := g
                          refine g_callv (va_runV (As := [.int 6, .int r_926]) (rest := []) ⟨hx, hb, hml, hown, hts⟩ (r_X8_fail_2 l dC dI L kd tys fr_928 H.size g.2.2.2.1 q0_ mq0_ kq0_ 6 (bd_sub kb_6 (by decide)) r_926 x_829 h_830 (g.fcts [1] rfl)) (cwV 2 hts (gV_ t_1122 t_1107 t_1108 t_184 t_1109) rfl rfl rfl (by decide +kernel) ⟨(Nat.le_of_ble_eq_true rfl), (Nat.le_of_ble_eq_true rfl)⟩) (pre3V g hK mq0_ kq0_ (by decide) (q := (RX8, TX8, 10)) rfl) rfl rfl hl.1 rfl (lv_room (Nat.le_of_ble_eq_true rfl)) dX2_readArguments_196 ⟨(Nat.le_of_ble_eq_true rfl), (Nat.le_of_ble_eq_true rfl)⟩) g hK (by decide) (by decide) (fx' := [(8, 8, q0_, .int x_829), (0, 2, q2_, .ref q6_), (2, 14, a0_, .int x_11), (2, 0, a0_, .ref q0_), (2, 1, a0_, .ref q1_), (2, 2, a0_, .ref q2_), (2, 3, a0_, .ref q3_), (0, 0, q2_, .ref q0_), (0, 1, q2_, .ref q1_), (5, 0, q1_, .ref q6_), (5, 1, q1_, .ref q7_)]) rfl (fun fr_953 H locs hp hMr_953 g => ?_)
                          have hF_954 := hp
                          have hG_955 := eOK.frame hMr_953 go_.2.2.2.1 mq2_ kq2_ (by decide) (by decide) hG_932
                          have g := g.more hF_954
                          refine lv_aload_n hx hb dX2_readArguments_199 rfl (lv_at hl 4 rfl) ?_
                          refine g_getk (C := RX2) (T := TX2) (N := 16) hx hb hts (mc_ inX2) hown hK g rfl 3 (by decide) rfl (hts _ (List.mem_cons_of_mem _ t_419)) (fun _ h9 => h9) 7 rfl dX2_readArguments_200 ?_
                          refine lv_aload_n hx hb dX2_readArguments_203 rfl (lv_at hl 4 rfl) ?_
                          refine g_geti (C := RX2) (T := TX2) (N := 16) hx hb hts (mc_ inX2) hown hK g ma0_ ka0_ (by decide) rfl 12 (by decide) rfl (hts _ (List.mem_cons_of_mem _ t_428)) (fun _ h9 => h9) rfl dX2_readArguments_204 (fun x_956 bx_956 g => ?_)
                          refine lv_aload_n hx hb dX2_readArguments_207 rfl (lv_at hl 4 rfl) ?_
                          refine g_geti (C := RX2) (T := TX2) (N := 16) hx hb hts (mc_ inX2) hown hK g ma0_ ka0_ (by decide) rfl 13 (by decide) rfl (hts _ (List.mem_cons_of_mem _ t_429)) (fun _ h9 => h9) rfl dX2_readArguments_208 (fun x_957 bx_957 g => ?_)
                          have go_ := g
                          refine g_callv (va_runV (As := [.int x_956, .int x_957]) (rest := []) ⟨hx, hb, hml, hown, hts⟩ (r_X7_emit l dC dI L kd tys fr_953 H.size g.2.2.2.1 q3_ mq3_ kq3_ x_956 x_957) (cwV 2 hts (gV_ t_1301 t_1204 t_1205 t_191 t_1206) rfl rfl rfl (by decide +kernel) ⟨(Nat.le_of_ble_eq_true rfl), (Nat.le_of_ble_eq_true rfl)⟩) (pre3V g hK mq3_ kq3_ (by decide) (q := (RX7, TX7, 19)) rfl) rfl rfl hl.1 rfl (lv_room (Nat.le_of_ble_eq_true rfl)) dX2_readArguments_211 ⟨(Nat.le_of_ble_eq_true rfl), (Nat.le_of_ble_eq_true rfl)⟩) g hK (by decide) (by decide) (fx' := [(2, 13, a0_, .int x_957), (2, 12, a0_, .int x_956), (8, 6, q0_, .int 1201), (8, 8, q0_, .int x_829), (0, 2, q2_, .ref q6_), (2, 14, a0_, .int x_11), (2, 0, a0_, .ref q0_), (2, 1, a0_, .ref q1_), (2, 2, a0_, .ref q2_), (2, 3, a0_, .ref q3_), (0, 0, q2_, .ref q0_), (0, 1, q2_, .ref q1_), (5, 0, q1_, .ref q6_), (5, 1, q1_, .ref q7_)]) rfl (fun fr_958 H locs hp hMr_958 g => ?_)
                          obtain ⟨x_959, h_960, hF_961⟩ := hp
                          have hG_962 := eOK.frame hMr_958 go_.2.2.2.1 mq2_ kq2_ (by decide) (by decide) hG_955
                          have g := g.more hF_961
                          refine lv_aload_n hx hb dX2_readArguments_214 rfl (lv_at hl 4 rfl) ?_
                          refine g_getk (C := RX2) (T := TX2) (N := 16) hx hb hts (mc_ inX2) hown hK g rfl 3 (by decide) rfl (hts _ (List.mem_cons_of_mem _ t_419)) (fun _ h9 => h9) 10 rfl dX2_readArguments_215 ?_
                          refine lv_bipush (v := 22) hx hb dX2_readArguments_218 (by decide) ?_
                          refine lv_iconst (v := 0) hx hb dX2_readArguments_220 (by decide) ?_
                          have go_ := g
                          refine g_callv (va_runV (As := [.int 22, .int 0]) (rest := []) ⟨hx, hb, hml, hown, hts⟩ (r_X7_emit l dC dI L kd tys fr_958 H.size g.2.2.2.1 q3_ mq3_ kq3_ 22 0) (cwV 2 hts (gV_ t_1301 t_1204 t_1205 t_191 t_1206) rfl rfl rfl (by decide +kernel) ⟨(Nat.le_of_ble_eq_true rfl), (Nat.le_of_ble_eq_true rfl)⟩) (pre3V g hK mq3_ kq3_ (by decide) (q := (RX7, TX7, 19)) rfl) rfl rfl hl.1 rfl (lv_room (Nat.le_of_ble_eq_true rfl)) dX2_readArguments_221 ⟨(Nat.le_of_ble_eq_true rfl), (Nat.le_of_ble_eq_true rfl)⟩) g hK (by decide) (by decide) (fx' := [(2, 13, a0_, .int x_957), (2, 12, a0_, .int x_956), (8, 6, q0_, .int 1201), (8, 8, q0_, .int x_829), (0, 2, q2_, .ref q6_), (2, 14, a0_, .int x_11), (2, 0, a0_, .ref q0_), (2, 1, a0_, .ref q1_), (2, 2, a0_, .ref q2_), (2, 3, a0_, .ref q3_), (0, 0, q2_, .ref q0_), (0, 1, q2_, .ref q1_), (5, 0, q1_, .ref q6_), (5, 1, q1_, .ref q7_)]) rfl (fun fr_963 H locs hp hMr_963 g => ?_)
                          obtain ⟨x_964, h_965, hF_966⟩ := hp
                          have hG_967 := eOK.frame hMr_963 go_.2.2.2.1 mq2_ kq2_ (by decide) (by decide) hG_962
                          have g := g.more hF_966
                          refine lv_aload_n hx hb dX2_readArguments_224 rfl (lv_at hl 4 rfl) ?_
                          refine g_getk (C := RX2) (T := TX2) (N := 16) hx hb hts (mc_ inX2) hown hK g rfl 0 (by decide) rfl (hts _ (List.mem_cons_of_mem _ t_416)) (fun _ h9 => h9) 7 rfl dX2_readArguments_225 ?_
                          refine lv_bipush (v := 59) hx hb dX2_readArguments_228 (by decide) ?_
                          have kb_1201 : bd 1201 1201 (1201 : Int32) := ⟨by decide, by decide⟩
                          have go_ := g
                          refine g_callv (va_runV (As := [.int 59]) (rest := []) ⟨hx, hb, hml, hown, hts⟩ (r_X8_take_2 l dC dI L kd tys fr_963 H.size g.2.2.2.1 q0_ mq0_ kq0_ 59 1201 kb_1201 x_829 h_830 (g.fcts [3, 4] rfl)) (cwV 1 hts (gV_ t_1098 t_1099 t_1100 t_184 t_1101) rfl rfl rfl (by decide +kernel) ⟨(Nat.le_of_ble_eq_true rfl), (Nat.le_of_ble_eq_true rfl)⟩) (pre3V g hK mq0_ kq0_ (by decide) (q := (RX8, TX8, 10)) rfl) rfl rfl hl.1 rfl (lv_room (Nat.le_of_ble_eq_true rfl)) dX2_readArguments_230 ⟨(Nat.le_of_ble_eq_true rfl), (Nat.le_of_ble_eq_true rfl)⟩) g hK (by decide) (by decide) (fx' := [(7, 6, q3_, .int x_964), (2, 13, a0_, .int x_957), (2, 12, a0_, .int x_956), (8, 8, q0_, .int x_829), (0, 2, q2_, .ref q6_), (2, 14, a0_, .int x_11), (2, 0, a0_, .ref q0_), (2, 1, a0_, .ref q1_), (2, 2, a0_, .ref q2_), (2, 3, a0_, .ref q3_), (0, 0, q2_, .ref q0_), (0, 1, q2_, .ref q1_), (5, 0, q1_, .ref q6_), (5, 1, q1_, .ref q7_)]) rfl (fun fr_968 H locs hp hMr_968 g => ?_)
                          obtain ⟨x_969, h_970, hF_971⟩ := hp
                          have hG_972 := eOK.frame hMr_968 go_.2.2.2.1 mq2_ kq2_ (by decide) (by decide) hG_967
                          have g := g.more hF_971
                          subst hQ
                          exact W.vret hx hb hr (fun t ht hW => ⟨⟨_, rfl, Or.inr (⟨hG_972, x_969, h_970, x_829, h_830, x_964, h_965, (g.fcts [0, 4, 1] rfl)⟩), q3_of g hK ht hW⟩, g.2.2.1.F ht⟩) g.2.2.1.2.2 dX2_readArguments_233
                      · have fc_923 := nlt_f c_923
                        have b_973 : bd 1 3 y_921 := leL fc_923 b_922 kb_3 (by decide)
                        have b_974 : bd 0 2 v69_4 := add_inv ty_921 b_973 b_720 kb_1 (by decide)
                        refine lv_iload_n hx hb dX2_readArguments_75 rfl (lv_at hl 1 rfl) ?_
                        refine lv_if_eq (tgt := 162) hx hb dX2_readArguments_76 (by decide) (fun c_ => ?_) (fun c_ => absurd (by decide) c_)
                        refine lv_aload_n hx hb dX2_readArguments_162 rfl (lv_at hl 4 rfl) ?_
                        refine g_getk (C := RX2) (T := TX2) (N := 16) hx hb hts (mc_ inX2) hown hK g rfl 0 (by decide) rfl (hts _ (List.mem_cons_of_mem _ t_416)) (fun _ h9 => h9) 4 rfl dX2_readArguments_163 ?_
                        have go_ := g
                        refine g_calli (va_runV (As := []) (rest := []) ⟨hx, hb, hml, hown, hts⟩ (r_X8_place l dC dI L kd tys fr_918 H.size g.2.2.2.1 q0_ mq0_ kq0_) (cwV 0 hts (gV_ t_1110 t_1111 t_1112 t_184 t_1113) rfl rfl rfl (by decide +kernel) ⟨(Nat.le_of_ble_eq_true rfl), (Nat.le_of_ble_eq_true rfl)⟩) (pre3V g hK mq0_ kq0_ (by decide) (q := (RX8, TX8, 10)) rfl) rfl rfl hl.1 rfl (lv_room (Nat.le_of_ble_eq_true rfl)) dX2_readArguments_166 ⟨(Nat.le_of_ble_eq_true rfl), (Nat.le_of_ble_eq_true rfl)⟩) g hK (by decide) (by decide) (fx' := [(8, 6, q0_, .int x_827), (8, 8, q0_, .int x_829), (0, 2, q2_, .ref q6_), (2, 14, a0_, .int x_11), (2, 0, a0_, .ref q0_), (2, 1, a0_, .ref q1_), (2, 2, a0_, .ref q2_), (2, 3, a0_, .ref q3_), (0, 0, q2_, .ref q0_), (0, 1, q2_, .ref q1_), (5, 0, q1_, .ref q6_), (5, 1, q1_, .ref q7_)]) rfl (fun r_975 fr_975 H locs hp hMr_975 g => ?_)
                        have hG_976 := eOK.frame hMr_975 go_.2.2.2.1 mq2_ kq2_ (by decide) (by decide) hG_920
                        refine lv_istore (lv' := [(4, .int r_975), (3, .int 0), (2, .int y_917), (1, .int r_1), (0, .ref a0_)]) hx hb dX2_readArguments_169 hl (by decide) rfl (fun ls hl => ?_)
                        refine lv_aload_n hx hb dX2_readArguments_171 rfl (lv_at hl 4 rfl) ?_
                        refine g_getk (C := RX2) (T := TX2) (N := 16) hx hb hts (mc_ inX2) hown hK g rfl 0 (by decide) rfl (hts _ (List.mem_cons_of_mem _ t_416)) (fun _ h9 => h9) 4 rfl dX2_readArguments_172 ?_
                        refine lv_bipush (v := 41) hx hb dX2_readArguments_175 (by decide) ?_
                        have go_ := g
                        refine g_callv (va_runV (As := [.int 41]) (rest := []) ⟨hx, hb, hml, hown, hts⟩ (r_X8_take_2 l dC dI L kd tys fr_975 H.size g.2.2.2.1 q0_ mq0_ kq0_ 41 x_827 h_828 x_829 h_830 (g.fcts [0, 1] rfl)) (cwV 1 hts (gV_ t_1098 t_1099 t_1100 t_184 t_1101) rfl rfl rfl (by decide +kernel) ⟨(Nat.le_of_ble_eq_true rfl), (Nat.le_of_ble_eq_true rfl)⟩) (pre3V g hK mq0_ kq0_ (by decide) (q := (RX8, TX8, 10)) rfl) rfl rfl hl.1 rfl (lv_room (Nat.le_of_ble_eq_true rfl)) dX2_readArguments_177 ⟨(Nat.le_of_ble_eq_true rfl), (Nat.le_of_ble_eq_true rfl)⟩) g hK (by decide) (by decide) (fx' := [(8, 8, q0_, .int x_829), (0, 2, q2_, .ref q6_), (2, 14, a0_, .int x_11), (2, 0, a0_, .ref q0_), (2, 1, a0_, .ref q1_), (2, 2, a0_, .ref q2_), (2, 3, a0_, .ref q3_), (0, 0, q2_, .ref q0_), (0, 1, q2_, .ref q1_), (5, 0, q1_, .ref q6_), (5, 1, q1_, .ref q7_)]) rfl (fun fr_977 H locs hp hMr_977 g => ?_)
                        obtain ⟨x_978, h_979, hF_980⟩ := hp
                        have hG_981 := eOK.frame hMr_977 go_.2.2.2.1 mq2_ kq2_ (by decide) (by decide) hG_976
                        have g := g.more hF_980
                        refine lv_iload_n hx hb dX2_readArguments_180 rfl (lv_at hl 2 rfl) ?_
                        refine lv_aload_n hx hb dX2_readArguments_181 rfl (lv_at hl 4 rfl) ?_
                        refine g_getk (C := RX2) (T := TX2) (N := 16) hx hb hts (mc_ inX2) hown hK g rfl 14 (by decide) rfl (hts _ (List.mem_cons_of_mem _ t_430)) (fun _ h9 => h9) 3 rfl dX2_readArguments_182 ?_
                        refine lv_icmp_ge (tgt := 199) hx hb dX2_readArguments_185 (by decide) (fun c_982 => ?_) (fun c_982 => ?_)
                        · have fc_982 := le_f c_982
                          have b_983 : bd 0 2147483647 y_917 := leR fc_982 b_558 (bdT y_917) (by decide)
                          refine lv_aload_n hx hb dX2_readArguments_199 rfl (lv_at hl 4 rfl) ?_
                          refine g_getk (C := RX2) (T := TX2) (N := 16) hx hb hts (mc_ inX2) hown hK g rfl 3 (by decide) rfl (hts _ (List.mem_cons_of_mem _ t_419)) (fun _ h9 => h9) 7 rfl dX2_readArguments_200 ?_
                          refine lv_aload_n hx hb dX2_readArguments_203 rfl (lv_at hl 4 rfl) ?_
                          refine g_geti (C := RX2) (T := TX2) (N := 16) hx hb hts (mc_ inX2) hown hK g ma0_ ka0_ (by decide) rfl 12 (by decide) rfl (hts _ (List.mem_cons_of_mem _ t_428)) (fun _ h9 => h9) rfl dX2_readArguments_204 (fun x_984 bx_984 g => ?_)
                          refine lv_aload_n hx hb dX2_readArguments_207 rfl (lv_at hl 4 rfl) ?_
                          refine g_geti (C := RX2) (T := TX2) (N := 16) hx hb hts (mc_ inX2) hown hK g ma0_ ka0_ (by decide) rfl 13 (by decide) rfl (hts _ (List.mem_cons_of_mem _ t_429)) (fun _ h9 => h9) rfl dX2_readArguments_208 (fun x_985 bx_985 g => ?_)
                          have go_ := g
                          refine g_callv (va_runV (As := [.int x_984, .int x_985]) (rest := []) ⟨hx, hb, hml, hown, hts⟩ (r_X7_emit l dC dI L kd tys fr_977 H.size g.2.2.2.1 q3_ mq3_ kq3_ x_984 x_985) (cwV 2 hts (gV_ t_1301 t_1204 t_1205 t_191 t_1206) rfl rfl rfl (by decide +kernel) ⟨(Nat.le_of_ble_eq_true rfl), (Nat.le_of_ble_eq_true rfl)⟩) (pre3V g hK mq3_ kq3_ (by decide) (q := (RX7, TX7, 19)) rfl) rfl rfl hl.1 rfl (lv_room (Nat.le_of_ble_eq_true rfl)) dX2_readArguments_211 ⟨(Nat.le_of_ble_eq_true rfl), (Nat.le_of_ble_eq_true rfl)⟩) g hK (by decide) (by decide) (fx' := [(2, 13, a0_, .int x_985), (2, 12, a0_, .int x_984), (8, 6, q0_, .int x_978), (8, 8, q0_, .int x_829), (0, 2, q2_, .ref q6_), (2, 14, a0_, .int x_11), (2, 0, a0_, .ref q0_), (2, 1, a0_, .ref q1_), (2, 2, a0_, .ref q2_), (2, 3, a0_, .ref q3_), (0, 0, q2_, .ref q0_), (0, 1, q2_, .ref q1_), (5, 0, q1_, .ref q6_), (5, 1, q1_, .ref q7_)]) rfl (fun fr_986 H locs hp hMr_986 g => ?_)
                          obtain ⟨x_987, h_988, hF_989⟩ := hp
                          have hG_990 := eOK.frame hMr_986 go_.2.2.2.1 mq2_ kq2_ (by decide) (by decide) hG_981
                          have g := g.more hF_989
                          refine lv_aload_n hx hb dX2_readArguments_214 rfl (lv_at hl 4 rfl) ?_
                          refine g_getk (C := RX2) (T := TX2) (N := 16) hx hb hts (mc_ inX2) hown hK g rfl 3 (by decide) rfl (hts _ (List.mem_cons_of_mem _ t_419)) (fun _ h9 => h9) 10 rfl dX2_readArguments_215 ?_
                          refine lv_bipush (v := 22) hx hb dX2_readArguments_218 (by decide) ?_
                          refine lv_iconst (v := 0) hx hb dX2_readArguments_220 (by decide) ?_
                          have go_ := g
                          refine g_callv (va_runV (As := [.int 22, .int 0]) (rest := []) ⟨hx, hb, hml, hown, hts⟩ (r_X7_emit l dC dI L kd tys fr_986 H.size g.2.2.2.1 q3_ mq3_ kq3_ 22 0) (cwV 2 hts (gV_ t_1301 t_1204 t_1205 t_191 t_1206) rfl rfl rfl (by decide +kernel) ⟨(Nat.le_of_ble_eq_true rfl), (Nat.le_of_ble_eq_true rfl)⟩) (pre3V g hK mq3_ kq3_ (by decide) (q := (RX7, TX7, 19)) rfl) rfl rfl hl.1 rfl (lv_room (Nat.le_of_ble_eq_true rfl)) dX2_readArguments_221 ⟨(Nat.le_of_ble_eq_true rfl), (Nat.le_of_ble_eq_true rfl)⟩) g hK (by decide) (by decide) (fx' := [(2, 13, a0_, .int x_985), (2, 12, a0_, .int x_984), (8, 6, q0_, .int x_978), (8, 8, q0_, .int x_829), (0, 2, q2_, .ref q6_), (2, 14, a0_, .int x_11), (2, 0, a0_, .ref q0_), (2, 1, a0_, .ref q1_), (2, 2, a0_, .ref q2_), (2, 3, a0_, .ref q3_), (0, 0, q2_, .ref q0_), (0, 1, q2_, .ref q1_), (5, 0, q1_, .ref q6_), (5, 1, q1_, .ref q7_)]) rfl (fun fr_991 H locs hp hMr_991 g => ?_)
                          obtain ⟨x_992, h_993, hF_994⟩ := hp
                          have hG_995 := eOK.frame hMr_991 go_.2.2.2.1 mq2_ kq2_ (by decide) (by decide) hG_990
                          have g := g.more hF_994
                          refine lv_aload_n hx hb dX2_readArguments_224 rfl (lv_at hl 4 rfl) ?_
                          refine g_getk (C := RX2) (T := TX2) (N := 16) hx hb hts (mc_ inX2) hown hK g rfl 0 (by decide) rfl (hts _ (List.mem_cons_of_mem _ t_416)) (fun _ h9 => h9) 7 rfl dX2_readArguments_225 ?_
                          refine lv_bipush (v := 59) hx hb dX2_readArguments_228 (by decide) ?_
                          have go_ := g
                          refine g_callv (va_runV (As := [.int 59]) (rest := []) ⟨hx, hb, hml, hown, hts⟩ (r_X8_take_2 l dC dI L kd tys fr_991 H.size g.2.2.2.1 q0_ mq0_ kq0_ 59 x_978 h_979 x_829 h_830 (g.fcts [3, 4] rfl)) (cwV 1 hts (gV_ t_1098 t_1099 t_1100 t_184 t_1101) rfl rfl rfl (by decide +kernel) ⟨(Nat.le_of_ble_eq_true rfl), (Nat.le_of_ble_eq_true rfl)⟩) (pre3V g hK mq0_ kq0_ (by decide) (q := (RX8, TX8, 10)) rfl) rfl rfl hl.1 rfl (lv_room (Nat.le_of_ble_eq_true rfl)) dX2_readArguments_230 ⟨(Nat.le_of_ble_eq_true rfl), (Nat.le_of_ble_eq_true rfl)⟩) g hK (by decide) (by decide) (fx' := [(7, 6, q3_, .int x_992), (2, 13, a0_, .int x_985), (2, 12, a0_, .int x_984), (8, 8, q0_, .int x_829), (0, 2, q2_, .ref q6_), (2, 14, a0_, .int x_11), (2, 0, a0_, .ref q0_), (2, 1, a0_, .ref q1_), (2, 2, a0_, .ref q2_), (2, 3, a0_, .ref q3_), (0, 0, q2_, .ref q0_), (0, 1, q2_, .ref q1_), (5, 0, q1_, .ref q6_), (5, 1, q1_, .ref q7_)]) rfl (fun fr_996 H locs hp hMr_996 g => ?_)
                          obtain ⟨x_997, h_998, hF_999⟩ := hp
                          have hG_1000 := eOK.frame hMr_996 go_.2.2.2.1 mq2_ kq2_ (by decide) (by decide) hG_995
                          have g := g.more hF_999
                          subst hQ
                          exact W.vret hx hb hr (fun t ht hW => ⟨⟨_, rfl, Or.inr (⟨hG_1000, x_997, h_998, x_829, h_830, x_992, h_993, (g.fcts [0, 4, 1] rfl)⟩), q3_of g hK ht hW⟩, g.2.2.1.F ht⟩) g.2.2.1.2.2 dX2_readArguments_233
                        · have fc_982 := nle_f c_982
                          have b_1001 : bd (-2147483648) (-1) y_917 := ltL fc_982 (bdT y_917) b_558 (by decide)
                          refine lv_aload_n hx hb dX2_readArguments_188 rfl (lv_at hl 4 rfl) ?_
                          refine g_getk (C := RX2) (T := TX2) (N := 16) hx hb hts (mc_ inX2) hown hK g rfl 0 (by decide) rfl (hts _ (List.mem_cons_of_mem _ t_416)) (fun _ h9 => h9) 4 rfl dX2_readArguments_189 ?_
                          refine lv_bipush (v := 6) hx hb dX2_readArguments_192 (by decide) ?_
                          refine lv_iload hx hb dX2_readArguments_194 (lv_at hl 0 rfl) ?_
                          have kb_6 : bd 6 6 (6 : Int32) := ⟨by decide, by decide⟩
                          have go_ := g
                          refine g_callv (va_runV (As := [.int 6, .int r_975]) (rest := []) ⟨hx, hb, hml, hown, hts⟩ (r_X8_fail_2 l dC dI L kd tys fr_977 H.size g.2.2.2.1 q0_ mq0_ kq0_ 6 (bd_sub kb_6 (by decide)) r_975 x_829 h_830 (g.fcts [1] rfl)) (cwV 2 hts (gV_ t_1122 t_1107 t_1108 t_184 t_1109) rfl rfl rfl (by decide +kernel) ⟨(Nat.le_of_ble_eq_true rfl), (Nat.le_of_ble_eq_true rfl)⟩) (pre3V g hK mq0_ kq0_ (by decide) (q := (RX8, TX8, 10)) rfl) rfl rfl hl.1 rfl (lv_room (Nat.le_of_ble_eq_true rfl)) dX2_readArguments_196 ⟨(Nat.le_of_ble_eq_true rfl), (Nat.le_of_ble_eq_true rfl)⟩) g hK (by decide) (by decide) (fx' := [(8, 8, q0_, .int x_829), (0, 2, q2_, .ref q6_), (2, 14, a0_, .int x_11), (2, 0, a0_, .ref q0_), (2, 1, a0_, .ref q1_), (2, 2, a0_, .ref q2_), (2, 3, a0_, .ref q3_), (0, 0, q2_, .ref q0_), (0, 1, q2_, .ref q1_), (5, 0, q1_, .ref q6_), (5, 1, q1_, .ref q7_)]) rfl (fun fr_1002 H locs hp hMr_1002 g => ?_)
                          have hF_1003 := hp
                          have hG_1004 := eOK.frame hMr_1002 go_.2.2.2.1 mq2_ kq2_ (by decide) (by decide) hG_981
                          have g := g.more hF_1003
                          refine lv_aload_n hx hb dX2_readArguments_199 rfl (lv_at hl 4 rfl) ?_
                          refine g_getk (C := RX2) (T := TX2) (N := 16) hx hb hts (mc_ inX2) hown hK g rfl 3 (by decide) rfl (hts _ (List.mem_cons_of_mem _ t_419)) (fun _ h9 => h9) 7 rfl dX2_readArguments_200 ?_
                          refine lv_aload_n hx hb dX2_readArguments_203 rfl (lv_at hl 4 rfl) ?_
                          refine g_geti (C := RX2) (T := TX2) (N := 16) hx hb hts (mc_ inX2) hown hK g ma0_ ka0_ (by decide) rfl 12 (by decide) rfl (hts _ (List.mem_cons_of_mem _ t_428)) (fun _ h9 => h9) rfl dX2_readArguments_204 (fun x_1005 bx_1005 g => ?_)
                          refine lv_aload_n hx hb dX2_readArguments_207 rfl (lv_at hl 4 rfl) ?_
                          refine g_geti (C := RX2) (T := TX2) (N := 16) hx hb hts (mc_ inX2) hown hK g ma0_ ka0_ (by decide) rfl 13 (by decide) rfl (hts _ (List.mem_cons_of_mem _ t_429)) (fun _ h9 => h9) rfl dX2_readArguments_208 (fun x_1006 bx_1006 g => ?_)
                          have go_ := g
                          refine g_callv (va_runV (As := [.int x_1005, .int x_1006]) (rest := []) ⟨hx, hb, hml, hown, hts⟩ (r_X7_emit l dC dI L kd tys fr_1002 H.size g.2.2.2.1 q3_ mq3_ kq3_ x_1005 x_1006) (cwV 2 hts (gV_ t_1301 t_1204 t_1205 t_191 t_1206) rfl rfl rfl (by decide +kernel) ⟨(Nat.le_of_ble_eq_true rfl), (Nat.le_of_ble_eq_true rfl)⟩) (pre3V g hK mq3_ kq3_ (by decide) (q := (RX7, TX7, 19)) rfl) rfl rfl hl.1 rfl (lv_room (Nat.le_of_ble_eq_true rfl)) dX2_readArguments_211 ⟨(Nat.le_of_ble_eq_true rfl), (Nat.le_of_ble_eq_true rfl)⟩) g hK (by decide) (by decide) (fx' := [(2, 13, a0_, .int x_1006), (2, 12, a0_, .int x_1005), (8, 6, q0_, .int 1201), (8, 8, q0_, .int x_829), (0, 2, q2_, .ref q6_), (2, 14, a0_, .int x_11), (2, 0, a0_, .ref q0_), (2, 1, a0_, .ref q1_), (2, 2, a0_, .ref q2_), (2, 3, a0_, .ref q3_), (0, 0, q2_, .ref q0_), (0, 1, q2_, .ref q1_), (5, 0, q1_, .ref q6_), (5, 1, q1_, .ref q7_)]) rfl (fun fr_1007 H locs hp hMr_1007 g => ?_)
                          obtain ⟨x_1008, h_1009, hF_1010⟩ := hp
                          have hG_1011 := eOK.frame hMr_1007 go_.2.2.2.1 mq2_ kq2_ (by decide) (by decide) hG_1004
                          have g := g.more hF_1010
                          refine lv_aload_n hx hb dX2_readArguments_214 rfl (lv_at hl 4 rfl) ?_
                          refine g_getk (C := RX2) (T := TX2) (N := 16) hx hb hts (mc_ inX2) hown hK g rfl 3 (by decide) rfl (hts _ (List.mem_cons_of_mem _ t_419)) (fun _ h9 => h9) 10 rfl dX2_readArguments_215 ?_
                          refine lv_bipush (v := 22) hx hb dX2_readArguments_218 (by decide) ?_
                          refine lv_iconst (v := 0) hx hb dX2_readArguments_220 (by decide) ?_
                          have go_ := g
                          refine g_callv (va_runV (As := [.int 22, .int 0]) (rest := []) ⟨hx, hb, hml, hown, hts⟩ (r_X7_emit l dC dI L kd tys fr_1007 H.size g.2.2.2.1 q3_ mq3_ kq3_ 22 0) (cwV 2 hts (gV_ t_1301 t_1204 t_1205 t_191 t_1206) rfl rfl rfl (by decide +kernel) ⟨(Nat.le_of_ble_eq_true rfl), (Nat.le_of_ble_eq_true rfl)⟩) (pre3V g hK mq3_ kq3_ (by decide) (q := (RX7, TX7, 19)) rfl) rfl rfl hl.1 rfl (lv_room (Nat.le_of_ble_eq_true rfl)) dX2_readArguments_221 ⟨(Nat.le_of_ble_eq_true rfl), (Nat.le_of_ble_eq_true rfl)⟩) g hK (by decide) (by decide) (fx' := [(2, 13, a0_, .int x_1006), (2, 12, a0_, .int x_1005), (8, 6, q0_, .int 1201), (8, 8, q0_, .int x_829), (0, 2, q2_, .ref q6_), (2, 14, a0_, .int x_11), (2, 0, a0_, .ref q0_), (2, 1, a0_, .ref q1_), (2, 2, a0_, .ref q2_), (2, 3, a0_, .ref q3_), (0, 0, q2_, .ref q0_), (0, 1, q2_, .ref q1_), (5, 0, q1_, .ref q6_), (5, 1, q1_, .ref q7_)]) rfl (fun fr_1012 H locs hp hMr_1012 g => ?_)
                          obtain ⟨x_1013, h_1014, hF_1015⟩ := hp
                          have hG_1016 := eOK.frame hMr_1012 go_.2.2.2.1 mq2_ kq2_ (by decide) (by decide) hG_1011
                          have g := g.more hF_1015
                          refine lv_aload_n hx hb dX2_readArguments_224 rfl (lv_at hl 4 rfl) ?_
                          refine g_getk (C := RX2) (T := TX2) (N := 16) hx hb hts (mc_ inX2) hown hK g rfl 0 (by decide) rfl (hts _ (List.mem_cons_of_mem _ t_416)) (fun _ h9 => h9) 7 rfl dX2_readArguments_225 ?_
                          refine lv_bipush (v := 59) hx hb dX2_readArguments_228 (by decide) ?_
                          have kb_1201 : bd 1201 1201 (1201 : Int32) := ⟨by decide, by decide⟩
                          have go_ := g
                          refine g_callv (va_runV (As := [.int 59]) (rest := []) ⟨hx, hb, hml, hown, hts⟩ (r_X8_take_2 l dC dI L kd tys fr_1012 H.size g.2.2.2.1 q0_ mq0_ kq0_ 59 1201 kb_1201 x_829 h_830 (g.fcts [3, 4] rfl)) (cwV 1 hts (gV_ t_1098 t_1099 t_1100 t_184 t_1101) rfl rfl rfl (by decide +kernel) ⟨(Nat.le_of_ble_eq_true rfl), (Nat.le_of_ble_eq_true rfl)⟩) (pre3V g hK mq0_ kq0_ (by decide) (q := (RX8, TX8, 10)) rfl) rfl rfl hl.1 rfl (lv_room (Nat.le_of_ble_eq_true rfl)) dX2_readArguments_230 ⟨(Nat.le_of_ble_eq_true rfl), (Nat.le_of_ble_eq_true rfl)⟩) g hK (by decide) (by decide) (fx' := [(7, 6, q3_, .int x_1013), (2, 13, a0_, .int x_1006), (2, 12, a0_, .int x_1005), (8, 8, q0_, .int x_829), (0, 2, q2_, .ref q6_), (2, 14, a0_, .int x_11), (2, 0, a0_, .ref q0_), (2, 1, a0_, .ref q1_), (2, 2, a0_, .ref q2_), (2, 3, a0_, .ref q3_), (0, 0, q2_, .ref q0_), (0, 1, q2_, .ref q1_), (5, 0, q1_, .ref q6_), (5, 1, q1_, .ref q7_)]) rfl (fun fr_1017 H locs hp hMr_1017 g => ?_)
                          obtain ⟨x_1018, h_1019, hF_1020⟩ := hp
                          have hG_1021 := eOK.frame hMr_1017 go_.2.2.2.1 mq2_ kq2_ (by decide) (by decide) hG_1016
                          have g := g.more hF_1020
                          subst hQ
                          exact W.vret hx hb hr (fun t ht hW => ⟨⟨_, rfl, Or.inr (⟨hG_1021, x_1018, h_1019, x_829, h_830, x_1013, h_1014, (g.fcts [0, 4, 1] rfl)⟩), q3_of g hK ht hW⟩, g.2.2.1.F ht⟩) g.2.2.1.2.2 dX2_readArguments_233
          have kb_1 : bd 1 1 (1 : Int32) := ⟨by decide, by decide⟩
          have hl9 := lv_sub hl [0, 1, 2, 3, 4] (by rfl : lv_pick [(4, .int 0), (3, .int 1), (2, .int 0), (1, .int r_1), (0, .ref a0_)] [0, 1, 2, 3, 4] = [(4, .int 0), (3, .int 1), (2, .int 0), (1, .int r_1), (0, .ref a0_)])
          have g9 := g.sub (fx' := [(2, 14, a0_, .int x_11), (8, 8, q0_, .int y0_), (2, 0, a0_, .ref q0_), (2, 1, a0_, .ref q1_), (2, 2, a0_, .ref q2_), (2, 3, a0_, .ref q3_), (0, 0, q2_, .ref q0_), (0, 1, q2_, .ref q1_), (5, 0, q1_, .ref q6_), (5, 1, q1_, .ref q7_)]) [0, 2, 3, 4, 5, 6, 7, 8, 9, 10] rfl
          exact loop_620 (11) 0 1 0 (bd_sub kb_0 (by decide)) (bd_sub kb_1 (by decide)) (by have h9_0 := kb_0; unfold bd at h9_0; have h9_1 := kb_1; unfold bd at h9_1; have h9_2 := kb_41; unfold bd at h9_2; omega) _ _ _ _ g9 hG_564 hl9
      · have fc_561 := neq_f c_561
        refine lv_aload_n hx hb dX2_readArguments_36 rfl (lv_at hl 1 rfl) ?_
        refine g_getk (C := RX2) (T := TX2) (N := 16) hx hb hts (mc_ inX2) hown hK g rfl 0 (by decide) rfl (hts _ (List.mem_cons_of_mem _ t_416)) (fun _ h9 => h9) 3 rfl dX2_readArguments_37 ?_
        refine lv_bipush (v := 6) hx hb dX2_readArguments_40 (by decide) ?_
        refine lv_iload_n hx hb dX2_readArguments_42 rfl (lv_at hl 0 rfl) ?_
        have kb_6 : bd 6 6 (6 : Int32) := ⟨by decide, by decide⟩
        have go_ := g
        refine g_callv (va_runV (As := [.int 6, .int r_1]) (rest := []) ⟨hx, hb, hml, hown, hts⟩ (r_X8_fail l dC dI L kd tys fr_559 H.size g.2.2.2.1 q0_ mq0_ kq0_ 6 (bd_sub kb_6 (by decide)) r_1 y0_ by0_ (g.fcts [2] rfl)) (cwV 2 hts (gV_ t_1122 t_1107 t_1108 t_184 t_1109) rfl rfl rfl (by decide +kernel) ⟨(Nat.le_of_ble_eq_true rfl), (Nat.le_of_ble_eq_true rfl)⟩) (pre3V g hK mq0_ kq0_ (by decide) (q := (RX8, TX8, 10)) rfl) rfl rfl hl.1 rfl (lv_room (Nat.le_of_ble_eq_true rfl)) dX2_readArguments_43 ⟨(Nat.le_of_ble_eq_true rfl), (Nat.le_of_ble_eq_true rfl)⟩) g hK (by decide) (by decide) (fx' := [(2, 14, a0_, .int x_11), (2, 0, a0_, .ref q0_), (2, 1, a0_, .ref q1_), (2, 2, a0_, .ref q2_), (2, 3, a0_, .ref q3_), (0, 0, q2_, .ref q0_), (0, 1, q2_, .ref q1_), (5, 0, q1_, .ref q6_), (5, 1, q1_, .ref q7_)]) rfl (fun fr_1022 H locs hp hMr_1022 g => ?_)
        obtain ⟨x_1023, h_1024, hF_1025⟩ := hp
        have hG_1026 := eOK.frame hMr_1022 go_.2.2.2.1 mq2_ kq2_ (by decide) (by decide) hG_560
        have g := g.more hF_1025
        refine lv_iconst (v := 0) hx hb dX2_readArguments_46 (by decide) ?_
        refine lv_istore_n (lv' := [(2, .int 0), (1, .int r_1), (0, .ref a0_)]) hx hb dX2_readArguments_47 rfl hl (by decide) rfl (fun ls hl => ?_)
        refine lv_aload_n hx hb dX2_readArguments_48 rfl (lv_at hl 2 rfl) ?_
        refine g_getk (C := RX2) (T := TX2) (N := 16) hx hb hts (mc_ inX2) hown hK g rfl 0 (by decide) rfl (hts _ (List.mem_cons_of_mem _ t_416)) (fun _ h9 => h9) 3 rfl dX2_readArguments_49 ?_
        have kb_1201 : bd 1201 1201 (1201 : Int32) := ⟨by decide, by decide⟩
        have go_ := g
        refine g_calli (va_runV (As := []) (rest := []) ⟨hx, hb, hml, hown, hts⟩ (r_X8_kind_2 l dC dI L kd tys fr_1022 H.size g.2.2.2.1 q0_ mq0_ kq0_ 1201 kb_1201 (g.fcts [0] rfl)) (cwV 0 hts (gV_ t_1118 t_1119 t_1120 t_184 t_1121) rfl rfl rfl (by decide +kernel) ⟨(Nat.le_of_ble_eq_true rfl), (Nat.le_of_ble_eq_true rfl)⟩) (pre3V g hK mq0_ kq0_ (by decide) (q := (RX8, TX8, 10)) rfl) rfl rfl hl.1 rfl (lv_room (Nat.le_of_ble_eq_true rfl)) dX2_readArguments_52 ⟨(Nat.le_of_ble_eq_true rfl), (Nat.le_of_ble_eq_true rfl)⟩) g hK (by decide) (by decide) (fx' := [(8, 6, q0_, .int 1201), (8, 8, q0_, .int x_1023), (2, 14, a0_, .int x_11), (2, 0, a0_, .ref q0_), (2, 1, a0_, .ref q1_), (2, 2, a0_, .ref q2_), (2, 3, a0_, .ref q3_), (0, 0, q2_, .ref q0_), (0, 1, q2_, .ref q1_), (5, 0, q1_, .ref q6_), (5, 1, q1_, .ref q7_)]) rfl (fun r_1027 fr_1027 H locs hp hMr_1027 g => ?_)
        obtain ⟨h_1028, -⟩ := hp
        have hG_1029 := eOK.frame hMr_1027 go_.2.2.2.1 mq2_ kq2_ (by decide) (by decide) hG_1026
        obtain rfl : r_1027 = 0 := h_1028
        refine lv_bipush (v := 41) hx hb dX2_readArguments_55 (by decide) ?_
        refine lv_icmp_eq (tgt := 64) hx hb dX2_readArguments_57 (by decide) (fun c_ => absurd c_ (by decide)) (fun c_ => ?_)
        refine lv_iconst (v := 1) hx hb dX2_readArguments_60 (by decide) ?_
        refine lv_goto (tgt := 65) hx hb dX2_readArguments_61 (by decide) ?_
        refine lv_istore_n (lv' := [(3, .int 1), (2, .int 0), (1, .int r_1), (0, .ref a0_)]) hx hb dX2_readArguments_65 rfl hl (by decide) rfl (fun ls hl => ?_)
        refine lv_iconst (v := 0) hx hb dX2_readArguments_66 (by decide) ?_
        refine lv_istore (lv' := [(4, .int 0), (3, .int 1), (2, .int 0), (1, .int r_1), (0, .ref a0_)]) hx hb dX2_readArguments_67 hl (by decide) rfl (fun ls hl => ?_)
        refine lv_iload hx hb dX2_readArguments_69 (lv_at hl 0 rfl) ?_
        refine lv_iconst (v := 3) hx hb dX2_readArguments_71 (by decide) ?_
        refine lv_icmp_gt (tgt := 162) hx hb dX2_readArguments_72 (by decide) (fun c_ => absurd c_ (by decide)) (fun c_ => ?_)
        refine lv_iload_n hx hb dX2_readArguments_75 rfl (lv_at hl 1 rfl) ?_
        refine lv_if_eq (tgt := 162) hx hb dX2_readArguments_76 (by decide) (fun c_ => absurd c_ (by decide)) (fun c_ => ?_)
        refine lv_aload_n hx hb dX2_readArguments_79 rfl (lv_at hl 4 rfl) ?_
        refine g_getk (C := RX2) (T := TX2) (N := 16) hx hb hts (mc_ inX2) hown hK g rfl 0 (by decide) rfl (hts _ (List.mem_cons_of_mem _ t_416)) (fun _ h9 => h9) 3 rfl dX2_readArguments_80 ?_
        refine g_getk (C := RX8) (T := TX8) (N := 10) hx hb hts (mc_ inX8) hown hK g rfl 8 (by decide) rfl (hts _ (List.mem_cons_of_mem _ t_294)) (fun _ h9 => h9) 1 rfl dX2_readArguments_83 ?_
        refine lv_if_ne (tgt := 162) hx hb dX2_readArguments_86 (by decide) (fun c_1030 => ?_) (fun c_1030 => ?_)
        · have fc_1030 := neq_f c_1030
          refine lv_aload_n hx hb dX2_readArguments_162 rfl (lv_at hl 4 rfl) ?_
          refine g_getk (C := RX2) (T := TX2) (N := 16) hx hb hts (mc_ inX2) hown hK g rfl 0 (by decide) rfl (hts _ (List.mem_cons_of_mem _ t_416)) (fun _ h9 => h9) 3 rfl dX2_readArguments_163 ?_
          have go_ := g
          refine g_calli (va_runV (As := []) (rest := []) ⟨hx, hb, hml, hown, hts⟩ (r_X8_place l dC dI L kd tys fr_1027 H.size g.2.2.2.1 q0_ mq0_ kq0_) (cwV 0 hts (gV_ t_1110 t_1111 t_1112 t_184 t_1113) rfl rfl rfl (by decide +kernel) ⟨(Nat.le_of_ble_eq_true rfl), (Nat.le_of_ble_eq_true rfl)⟩) (pre3V g hK mq0_ kq0_ (by decide) (q := (RX8, TX8, 10)) rfl) rfl rfl hl.1 rfl (lv_room (Nat.le_of_ble_eq_true rfl)) dX2_readArguments_166 ⟨(Nat.le_of_ble_eq_true rfl), (Nat.le_of_ble_eq_true rfl)⟩) g hK (by decide) (by decide) (fx' := [(8, 6, q0_, .int 1201), (8, 8, q0_, .int x_1023), (2, 14, a0_, .int x_11), (2, 0, a0_, .ref q0_), (2, 1, a0_, .ref q1_), (2, 2, a0_, .ref q2_), (2, 3, a0_, .ref q3_), (0, 0, q2_, .ref q0_), (0, 1, q2_, .ref q1_), (5, 0, q1_, .ref q6_), (5, 1, q1_, .ref q7_)]) rfl (fun r_1031 fr_1031 H locs hp hMr_1031 g => ?_)
          have hG_1032 := eOK.frame hMr_1031 go_.2.2.2.1 mq2_ kq2_ (by decide) (by decide) hG_1029
          refine lv_istore (lv' := [(4, .int r_1031), (3, .int 1), (2, .int 0), (1, .int r_1), (0, .ref a0_)]) hx hb dX2_readArguments_169 hl (by decide) rfl (fun ls hl => ?_)
          refine lv_aload_n hx hb dX2_readArguments_171 rfl (lv_at hl 4 rfl) ?_
          refine g_getk (C := RX2) (T := TX2) (N := 16) hx hb hts (mc_ inX2) hown hK g rfl 0 (by decide) rfl (hts _ (List.mem_cons_of_mem _ t_416)) (fun _ h9 => h9) 3 rfl dX2_readArguments_172 ?_
          refine lv_bipush (v := 41) hx hb dX2_readArguments_175 (by decide) ?_
          have go_ := g
          refine g_callv (va_runV (As := [.int 41]) (rest := []) ⟨hx, hb, hml, hown, hts⟩ (r_X8_take_2 l dC dI L kd tys fr_1031 H.size g.2.2.2.1 q0_ mq0_ kq0_ 41 1201 kb_1201 x_1023 h_1024 (g.fcts [0, 1] rfl)) (cwV 1 hts (gV_ t_1098 t_1099 t_1100 t_184 t_1101) rfl rfl rfl (by decide +kernel) ⟨(Nat.le_of_ble_eq_true rfl), (Nat.le_of_ble_eq_true rfl)⟩) (pre3V g hK mq0_ kq0_ (by decide) (q := (RX8, TX8, 10)) rfl) rfl rfl hl.1 rfl (lv_room (Nat.le_of_ble_eq_true rfl)) dX2_readArguments_177 ⟨(Nat.le_of_ble_eq_true rfl), (Nat.le_of_ble_eq_true rfl)⟩) g hK (by decide) (by decide) (fx' := [(8, 8, q0_, .int x_1023), (2, 14, a0_, .int x_11), (2, 0, a0_, .ref q0_), (2, 1, a0_, .ref q1_), (2, 2, a0_, .ref q2_), (2, 3, a0_, .ref q3_), (0, 0, q2_, .ref q0_), (0, 1, q2_, .ref q1_), (5, 0, q1_, .ref q6_), (5, 1, q1_, .ref q7_)]) rfl (fun fr_1033 H locs hp hMr_1033 g => ?_)
          obtain ⟨x_1034, h_1035, hF_1036⟩ := hp
          have hG_1037 := eOK.frame hMr_1033 go_.2.2.2.1 mq2_ kq2_ (by decide) (by decide) hG_1032
          have g := g.more hF_1036
          refine lv_iload_n hx hb dX2_readArguments_180 rfl (lv_at hl 2 rfl) ?_
          refine lv_aload_n hx hb dX2_readArguments_181 rfl (lv_at hl 4 rfl) ?_
          refine g_getk (C := RX2) (T := TX2) (N := 16) hx hb hts (mc_ inX2) hown hK g rfl 14 (by decide) rfl (hts _ (List.mem_cons_of_mem _ t_430)) (fun _ h9 => h9) 2 rfl dX2_readArguments_182 ?_
          refine lv_icmp_ge (tgt := 199) hx hb dX2_readArguments_185 (by decide) (fun c_1038 => ?_) (fun c_1038 => ?_)
          · have fc_1038 := le_f c_1038
            refine lv_aload_n hx hb dX2_readArguments_199 rfl (lv_at hl 4 rfl) ?_
            refine g_getk (C := RX2) (T := TX2) (N := 16) hx hb hts (mc_ inX2) hown hK g rfl 3 (by decide) rfl (hts _ (List.mem_cons_of_mem _ t_419)) (fun _ h9 => h9) 6 rfl dX2_readArguments_200 ?_
            refine lv_aload_n hx hb dX2_readArguments_203 rfl (lv_at hl 4 rfl) ?_
            refine g_geti (C := RX2) (T := TX2) (N := 16) hx hb hts (mc_ inX2) hown hK g ma0_ ka0_ (by decide) rfl 12 (by decide) rfl (hts _ (List.mem_cons_of_mem _ t_428)) (fun _ h9 => h9) rfl dX2_readArguments_204 (fun x_1039 bx_1039 g => ?_)
            refine lv_aload_n hx hb dX2_readArguments_207 rfl (lv_at hl 4 rfl) ?_
            refine g_geti (C := RX2) (T := TX2) (N := 16) hx hb hts (mc_ inX2) hown hK g ma0_ ka0_ (by decide) rfl 13 (by decide) rfl (hts _ (List.mem_cons_of_mem _ t_429)) (fun _ h9 => h9) rfl dX2_readArguments_208 (fun x_1040 bx_1040 g => ?_)
            have go_ := g
            refine g_callv (va_runV (As := [.int x_1039, .int x_1040]) (rest := []) ⟨hx, hb, hml, hown, hts⟩ (r_X7_emit l dC dI L kd tys fr_1033 H.size g.2.2.2.1 q3_ mq3_ kq3_ x_1039 x_1040) (cwV 2 hts (gV_ t_1301 t_1204 t_1205 t_191 t_1206) rfl rfl rfl (by decide +kernel) ⟨(Nat.le_of_ble_eq_true rfl), (Nat.le_of_ble_eq_true rfl)⟩) (pre3V g hK mq3_ kq3_ (by decide) (q := (RX7, TX7, 19)) rfl) rfl rfl hl.1 rfl (lv_room (Nat.le_of_ble_eq_true rfl)) dX2_readArguments_211 ⟨(Nat.le_of_ble_eq_true rfl), (Nat.le_of_ble_eq_true rfl)⟩) g hK (by decide) (by decide) (fx' := [(2, 13, a0_, .int x_1040), (2, 12, a0_, .int x_1039), (8, 6, q0_, .int x_1034), (8, 8, q0_, .int x_1023), (2, 14, a0_, .int x_11), (2, 0, a0_, .ref q0_), (2, 1, a0_, .ref q1_), (2, 2, a0_, .ref q2_), (2, 3, a0_, .ref q3_), (0, 0, q2_, .ref q0_), (0, 1, q2_, .ref q1_), (5, 0, q1_, .ref q6_), (5, 1, q1_, .ref q7_)]) rfl (fun fr_1041 H locs hp hMr_1041 g => ?_)
            obtain ⟨x_1042, h_1043, hF_1044⟩ := hp
            have hG_1045 := eOK.frame hMr_1041 go_.2.2.2.1 mq2_ kq2_ (by decide) (by decide) hG_1037
            have g := g.more hF_1044
            refine lv_aload_n hx hb dX2_readArguments_214 rfl (lv_at hl 4 rfl) ?_
            refine g_getk (C := RX2) (T := TX2) (N := 16) hx hb hts (mc_ inX2) hown hK g rfl 3 (by decide) rfl (hts _ (List.mem_cons_of_mem _ t_419)) (fun _ h9 => h9) 9 rfl dX2_readArguments_215 ?_
            refine lv_bipush (v := 22) hx hb dX2_readArguments_218 (by decide) ?_
            refine lv_iconst (v := 0) hx hb dX2_readArguments_220 (by decide) ?_
            have go_ := g
            refine g_callv (va_runV (As := [.int 22, .int 0]) (rest := []) ⟨hx, hb, hml, hown, hts⟩ (r_X7_emit l dC dI L kd tys fr_1041 H.size g.2.2.2.1 q3_ mq3_ kq3_ 22 0) (cwV 2 hts (gV_ t_1301 t_1204 t_1205 t_191 t_1206) rfl rfl rfl (by decide +kernel) ⟨(Nat.le_of_ble_eq_true rfl), (Nat.le_of_ble_eq_true rfl)⟩) (pre3V g hK mq3_ kq3_ (by decide) (q := (RX7, TX7, 19)) rfl) rfl rfl hl.1 rfl (lv_room (Nat.le_of_ble_eq_true rfl)) dX2_readArguments_221 ⟨(Nat.le_of_ble_eq_true rfl), (Nat.le_of_ble_eq_true rfl)⟩) g hK (by decide) (by decide) (fx' := [(2, 13, a0_, .int x_1040), (2, 12, a0_, .int x_1039), (8, 6, q0_, .int x_1034), (8, 8, q0_, .int x_1023), (2, 14, a0_, .int x_11), (2, 0, a0_, .ref q0_), (2, 1, a0_, .ref q1_), (2, 2, a0_, .ref q2_), (2, 3, a0_, .ref q3_), (0, 0, q2_, .ref q0_), (0, 1, q2_, .ref q1_), (5, 0, q1_, .ref q6_), (5, 1, q1_, .ref q7_)]) rfl (fun fr_1046 H locs hp hMr_1046 g => ?_)
            obtain ⟨x_1047, h_1048, hF_1049⟩ := hp
            have hG_1050 := eOK.frame hMr_1046 go_.2.2.2.1 mq2_ kq2_ (by decide) (by decide) hG_1045
            have g := g.more hF_1049
            refine lv_aload_n hx hb dX2_readArguments_224 rfl (lv_at hl 4 rfl) ?_
            refine g_getk (C := RX2) (T := TX2) (N := 16) hx hb hts (mc_ inX2) hown hK g rfl 0 (by decide) rfl (hts _ (List.mem_cons_of_mem _ t_416)) (fun _ h9 => h9) 6 rfl dX2_readArguments_225 ?_
            refine lv_bipush (v := 59) hx hb dX2_readArguments_228 (by decide) ?_
            have go_ := g
            refine g_callv (va_runV (As := [.int 59]) (rest := []) ⟨hx, hb, hml, hown, hts⟩ (r_X8_take_2 l dC dI L kd tys fr_1046 H.size g.2.2.2.1 q0_ mq0_ kq0_ 59 x_1034 h_1035 x_1023 h_1024 (g.fcts [3, 4] rfl)) (cwV 1 hts (gV_ t_1098 t_1099 t_1100 t_184 t_1101) rfl rfl rfl (by decide +kernel) ⟨(Nat.le_of_ble_eq_true rfl), (Nat.le_of_ble_eq_true rfl)⟩) (pre3V g hK mq0_ kq0_ (by decide) (q := (RX8, TX8, 10)) rfl) rfl rfl hl.1 rfl (lv_room (Nat.le_of_ble_eq_true rfl)) dX2_readArguments_230 ⟨(Nat.le_of_ble_eq_true rfl), (Nat.le_of_ble_eq_true rfl)⟩) g hK (by decide) (by decide) (fx' := [(7, 6, q3_, .int x_1047), (2, 13, a0_, .int x_1040), (2, 12, a0_, .int x_1039), (8, 8, q0_, .int x_1023), (2, 14, a0_, .int x_11), (2, 0, a0_, .ref q0_), (2, 1, a0_, .ref q1_), (2, 2, a0_, .ref q2_), (2, 3, a0_, .ref q3_), (0, 0, q2_, .ref q0_), (0, 1, q2_, .ref q1_), (5, 0, q1_, .ref q6_), (5, 1, q1_, .ref q7_)]) rfl (fun fr_1051 H locs hp hMr_1051 g => ?_)
            obtain ⟨x_1052, h_1053, hF_1054⟩ := hp
            have hG_1055 := eOK.frame hMr_1051 go_.2.2.2.1 mq2_ kq2_ (by decide) (by decide) hG_1050
            have g := g.more hF_1054
            subst hQ
            exact W.vret hx hb hr (fun t ht hW => ⟨⟨_, rfl, Or.inr (⟨hG_1055, x_1052, h_1053, x_1023, h_1024, x_1047, h_1048, (g.fcts [0, 4, 1] rfl)⟩), q3_of g hK ht hW⟩, g.2.2.1.F ht⟩) g.2.2.1.2.2 dX2_readArguments_233
          · have fc_1038 := nle_f c_1038
            have b_1056 : bd 0 (-1) (0 : Int32) := ltL fc_1038 kb_0 b_558 (by decide)
            exact bd_no (eqX rfl b_1056 kb_0 (lo := 0) (hi := (-1)) (by decide)) (by decide)
        · have fc_1030 := eq_f c_1030
          have b_1057 : bd 1 0 x_1023 := eqX fc_1030 h_1024 kb_0 (by decide)
          exact bd_no b_1057 (by decide)
  · have hG_1058 := eOK.frame hMr_3 go_.2.2.2.1 mq2_ kq2_ (by decide) (by decide) hG_2
    have g := g.more hF_9
    refine lv_aload_n hx hb dX2_readArguments_17 rfl (lv_at hl 1 rfl) ?_
    refine g_geti (C := RX2) (T := TX2) (N := 16) hx hb hts (mc_ inX2) hown hK g ma0_ ka0_ (by decide) rfl 14 (by decide) rfl (hts _ (List.mem_cons_of_mem _ t_430)) (fun _ h9 => h9) rfl dX2_readArguments_18 (fun x_1059 bx_1059 g => ?_)
    have kb_0 : bd 0 0 (0 : Int32) := ⟨by decide, by decide⟩
    refine lv_if_ne (tgt := 46) hx hb dX2_readArguments_21 (by decide) (fun c_1060 => ?_) (fun c_1060 => ?_)
    · have fc_1060 := neq_f c_1060
      refine lv_iconst (v := 0) hx hb dX2_readArguments_46 (by decide) ?_
      refine lv_istore_n (lv' := [(2, .int 0), (1, .int r_1), (0, .ref a0_)]) hx hb dX2_readArguments_47 rfl hl (by decide) rfl (fun ls hl => ?_)
      refine lv_aload_n hx hb dX2_readArguments_48 rfl (lv_at hl 2 rfl) ?_
      refine g_getk (C := RX2) (T := TX2) (N := 16) hx hb hts (mc_ inX2) hown hK g rfl 0 (by decide) rfl (hts _ (List.mem_cons_of_mem _ t_416)) (fun _ h9 => h9) 3 rfl dX2_readArguments_49 ?_
      have kb_1201 : bd 1201 1201 (1201 : Int32) := ⟨by decide, by decide⟩
      have go_ := g
      refine g_calli (va_runV (As := []) (rest := []) ⟨hx, hb, hml, hown, hts⟩ (r_X8_kind_2 l dC dI L kd tys fr_3 H.size g.2.2.2.1 q0_ mq0_ kq0_ 1201 kb_1201 (g.fcts [1] rfl)) (cwV 0 hts (gV_ t_1118 t_1119 t_1120 t_184 t_1121) rfl rfl rfl (by decide +kernel) ⟨(Nat.le_of_ble_eq_true rfl), (Nat.le_of_ble_eq_true rfl)⟩) (pre3V g hK mq0_ kq0_ (by decide) (q := (RX8, TX8, 10)) rfl) rfl rfl hl.1 rfl (lv_room (Nat.le_of_ble_eq_true rfl)) dX2_readArguments_52 ⟨(Nat.le_of_ble_eq_true rfl), (Nat.le_of_ble_eq_true rfl)⟩) g hK (by decide) (by decide) (fx' := [(2, 14, a0_, .int x_1059), (8, 6, q0_, .int 1201), (8, 8, q0_, .int x_7), (2, 0, a0_, .ref q0_), (2, 1, a0_, .ref q1_), (2, 2, a0_, .ref q2_), (2, 3, a0_, .ref q3_), (0, 0, q2_, .ref q0_), (0, 1, q2_, .ref q1_), (5, 0, q1_, .ref q6_), (5, 1, q1_, .ref q7_)]) rfl (fun r_1061 fr_1061 H locs hp hMr_1061 g => ?_)
      obtain ⟨h_1062, -⟩ := hp
      have hG_1063 := eOK.frame hMr_1061 go_.2.2.2.1 mq2_ kq2_ (by decide) (by decide) hG_1058
      obtain rfl : r_1061 = 0 := h_1062
      refine lv_bipush (v := 41) hx hb dX2_readArguments_55 (by decide) ?_
      refine lv_icmp_eq (tgt := 64) hx hb dX2_readArguments_57 (by decide) (fun c_ => absurd c_ (by decide)) (fun c_ => ?_)
      refine lv_iconst (v := 1) hx hb dX2_readArguments_60 (by decide) ?_
      refine lv_goto (tgt := 65) hx hb dX2_readArguments_61 (by decide) ?_
      refine lv_istore_n (lv' := [(3, .int 1), (2, .int 0), (1, .int r_1), (0, .ref a0_)]) hx hb dX2_readArguments_65 rfl hl (by decide) rfl (fun ls hl => ?_)
      refine lv_iconst (v := 0) hx hb dX2_readArguments_66 (by decide) ?_
      refine lv_istore (lv' := [(4, .int 0), (3, .int 1), (2, .int 0), (1, .int r_1), (0, .ref a0_)]) hx hb dX2_readArguments_67 hl (by decide) rfl (fun ls hl => ?_)
      refine lv_iload hx hb dX2_readArguments_69 (lv_at hl 0 rfl) ?_
      refine lv_iconst (v := 3) hx hb dX2_readArguments_71 (by decide) ?_
      refine lv_icmp_gt (tgt := 162) hx hb dX2_readArguments_72 (by decide) (fun c_ => absurd c_ (by decide)) (fun c_ => ?_)
      refine lv_iload_n hx hb dX2_readArguments_75 rfl (lv_at hl 1 rfl) ?_
      refine lv_if_eq (tgt := 162) hx hb dX2_readArguments_76 (by decide) (fun c_ => absurd c_ (by decide)) (fun c_ => ?_)
      refine lv_aload_n hx hb dX2_readArguments_79 rfl (lv_at hl 4 rfl) ?_
      refine g_getk (C := RX2) (T := TX2) (N := 16) hx hb hts (mc_ inX2) hown hK g rfl 0 (by decide) rfl (hts _ (List.mem_cons_of_mem _ t_416)) (fun _ h9 => h9) 3 rfl dX2_readArguments_80 ?_
      refine g_getk (C := RX8) (T := TX8) (N := 10) hx hb hts (mc_ inX8) hown hK g rfl 8 (by decide) rfl (hts _ (List.mem_cons_of_mem _ t_294)) (fun _ h9 => h9) 2 rfl dX2_readArguments_83 ?_
      refine lv_if_ne (tgt := 162) hx hb dX2_readArguments_86 (by decide) (fun c_1064 => ?_) (fun c_1064 => ?_)
      · have fc_1064 := neq_f c_1064
        refine lv_aload_n hx hb dX2_readArguments_162 rfl (lv_at hl 4 rfl) ?_
        refine g_getk (C := RX2) (T := TX2) (N := 16) hx hb hts (mc_ inX2) hown hK g rfl 0 (by decide) rfl (hts _ (List.mem_cons_of_mem _ t_416)) (fun _ h9 => h9) 3 rfl dX2_readArguments_163 ?_
        have go_ := g
        refine g_calli (va_runV (As := []) (rest := []) ⟨hx, hb, hml, hown, hts⟩ (r_X8_place l dC dI L kd tys fr_1061 H.size g.2.2.2.1 q0_ mq0_ kq0_) (cwV 0 hts (gV_ t_1110 t_1111 t_1112 t_184 t_1113) rfl rfl rfl (by decide +kernel) ⟨(Nat.le_of_ble_eq_true rfl), (Nat.le_of_ble_eq_true rfl)⟩) (pre3V g hK mq0_ kq0_ (by decide) (q := (RX8, TX8, 10)) rfl) rfl rfl hl.1 rfl (lv_room (Nat.le_of_ble_eq_true rfl)) dX2_readArguments_166 ⟨(Nat.le_of_ble_eq_true rfl), (Nat.le_of_ble_eq_true rfl)⟩) g hK (by decide) (by decide) (fx' := [(2, 14, a0_, .int x_1059), (8, 6, q0_, .int 1201), (8, 8, q0_, .int x_7), (2, 0, a0_, .ref q0_), (2, 1, a0_, .ref q1_), (2, 2, a0_, .ref q2_), (2, 3, a0_, .ref q3_), (0, 0, q2_, .ref q0_), (0, 1, q2_, .ref q1_), (5, 0, q1_, .ref q6_), (5, 1, q1_, .ref q7_)]) rfl (fun r_1065 fr_1065 H locs hp hMr_1065 g => ?_)
        have hG_1066 := eOK.frame hMr_1065 go_.2.2.2.1 mq2_ kq2_ (by decide) (by decide) hG_1063
        refine lv_istore (lv' := [(4, .int r_1065), (3, .int 1), (2, .int 0), (1, .int r_1), (0, .ref a0_)]) hx hb dX2_readArguments_169 hl (by decide) rfl (fun ls hl => ?_)
        refine lv_aload_n hx hb dX2_readArguments_171 rfl (lv_at hl 4 rfl) ?_
        refine g_getk (C := RX2) (T := TX2) (N := 16) hx hb hts (mc_ inX2) hown hK g rfl 0 (by decide) rfl (hts _ (List.mem_cons_of_mem _ t_416)) (fun _ h9 => h9) 3 rfl dX2_readArguments_172 ?_
        refine lv_bipush (v := 41) hx hb dX2_readArguments_175 (by decide) ?_
        have go_ := g
        refine g_callv (va_runV (As := [.int 41]) (rest := []) ⟨hx, hb, hml, hown, hts⟩ (r_X8_take_2 l dC dI L kd tys fr_1065 H.size g.2.2.2.1 q0_ mq0_ kq0_ 41 1201 kb_1201 x_7 h_8 (g.fcts [1, 2] rfl)) (cwV 1 hts (gV_ t_1098 t_1099 t_1100 t_184 t_1101) rfl rfl rfl (by decide +kernel) ⟨(Nat.le_of_ble_eq_true rfl), (Nat.le_of_ble_eq_true rfl)⟩) (pre3V g hK mq0_ kq0_ (by decide) (q := (RX8, TX8, 10)) rfl) rfl rfl hl.1 rfl (lv_room (Nat.le_of_ble_eq_true rfl)) dX2_readArguments_177 ⟨(Nat.le_of_ble_eq_true rfl), (Nat.le_of_ble_eq_true rfl)⟩) g hK (by decide) (by decide) (fx' := [(2, 14, a0_, .int x_1059), (8, 8, q0_, .int x_7), (2, 0, a0_, .ref q0_), (2, 1, a0_, .ref q1_), (2, 2, a0_, .ref q2_), (2, 3, a0_, .ref q3_), (0, 0, q2_, .ref q0_), (0, 1, q2_, .ref q1_), (5, 0, q1_, .ref q6_), (5, 1, q1_, .ref q7_)]) rfl (fun fr_1067 H locs hp hMr_1067 g => ?_)
        obtain ⟨x_1068, h_1069, hF_1070⟩ := hp
        have hG_1071 := eOK.frame hMr_1067 go_.2.2.2.1 mq2_ kq2_ (by decide) (by decide) hG_1066
        have g := g.more hF_1070
        refine lv_iload_n hx hb dX2_readArguments_180 rfl (lv_at hl 2 rfl) ?_
        refine lv_aload_n hx hb dX2_readArguments_181 rfl (lv_at hl 4 rfl) ?_
        refine g_getk (C := RX2) (T := TX2) (N := 16) hx hb hts (mc_ inX2) hown hK g rfl 14 (by decide) rfl (hts _ (List.mem_cons_of_mem _ t_430)) (fun _ h9 => h9) 1 rfl dX2_readArguments_182 ?_
        refine lv_icmp_ge (tgt := 199) hx hb dX2_readArguments_185 (by decide) (fun c_1072 => ?_) (fun c_1072 => ?_)
        · have fc_1072 := le_f c_1072
          have b_1073 : bd (-2147483648) 0 x_1059 := leL fc_1072 (bdT x_1059) kb_0 (by decide)
          refine lv_aload_n hx hb dX2_readArguments_199 rfl (lv_at hl 4 rfl) ?_
          refine g_getk (C := RX2) (T := TX2) (N := 16) hx hb hts (mc_ inX2) hown hK g rfl 3 (by decide) rfl (hts _ (List.mem_cons_of_mem _ t_419)) (fun _ h9 => h9) 6 rfl dX2_readArguments_200 ?_
          refine lv_aload_n hx hb dX2_readArguments_203 rfl (lv_at hl 4 rfl) ?_
          refine g_geti (C := RX2) (T := TX2) (N := 16) hx hb hts (mc_ inX2) hown hK g ma0_ ka0_ (by decide) rfl 12 (by decide) rfl (hts _ (List.mem_cons_of_mem _ t_428)) (fun _ h9 => h9) rfl dX2_readArguments_204 (fun x_1074 bx_1074 g => ?_)
          refine lv_aload_n hx hb dX2_readArguments_207 rfl (lv_at hl 4 rfl) ?_
          refine g_geti (C := RX2) (T := TX2) (N := 16) hx hb hts (mc_ inX2) hown hK g ma0_ ka0_ (by decide) rfl 13 (by decide) rfl (hts _ (List.mem_cons_of_mem _ t_429)) (fun _ h9 => h9) rfl dX2_readArguments_208 (fun x_1075 bx_1075 g => ?_)
          have go_ := g
          refine g_callv (va_runV (As := [.int x_1074, .int x_1075]) (rest := []) ⟨hx, hb, hml, hown, hts⟩ (r_X7_emit l dC dI L kd tys fr_1067 H.size g.2.2.2.1 q3_ mq3_ kq3_ x_1074 x_1075) (cwV 2 hts (gV_ t_1301 t_1204 t_1205 t_191 t_1206) rfl rfl rfl (by decide +kernel) ⟨(Nat.le_of_ble_eq_true rfl), (Nat.le_of_ble_eq_true rfl)⟩) (pre3V g hK mq3_ kq3_ (by decide) (q := (RX7, TX7, 19)) rfl) rfl rfl hl.1 rfl (lv_room (Nat.le_of_ble_eq_true rfl)) dX2_readArguments_211 ⟨(Nat.le_of_ble_eq_true rfl), (Nat.le_of_ble_eq_true rfl)⟩) g hK (by decide) (by decide) (fx' := [(2, 13, a0_, .int x_1075), (2, 12, a0_, .int x_1074), (8, 6, q0_, .int x_1068), (2, 14, a0_, .int x_1059), (8, 8, q0_, .int x_7), (2, 0, a0_, .ref q0_), (2, 1, a0_, .ref q1_), (2, 2, a0_, .ref q2_), (2, 3, a0_, .ref q3_), (0, 0, q2_, .ref q0_), (0, 1, q2_, .ref q1_), (5, 0, q1_, .ref q6_), (5, 1, q1_, .ref q7_)]) rfl (fun fr_1076 H locs hp hMr_1076 g => ?_)
          obtain ⟨x_1077, h_1078, hF_1079⟩ := hp
          have hG_1080 := eOK.frame hMr_1076 go_.2.2.2.1 mq2_ kq2_ (by decide) (by decide) hG_1071
          have g := g.more hF_1079
          refine lv_aload_n hx hb dX2_readArguments_214 rfl (lv_at hl 4 rfl) ?_
          refine g_getk (C := RX2) (T := TX2) (N := 16) hx hb hts (mc_ inX2) hown hK g rfl 3 (by decide) rfl (hts _ (List.mem_cons_of_mem _ t_419)) (fun _ h9 => h9) 9 rfl dX2_readArguments_215 ?_
          refine lv_bipush (v := 22) hx hb dX2_readArguments_218 (by decide) ?_
          refine lv_iconst (v := 0) hx hb dX2_readArguments_220 (by decide) ?_
          have go_ := g
          refine g_callv (va_runV (As := [.int 22, .int 0]) (rest := []) ⟨hx, hb, hml, hown, hts⟩ (r_X7_emit l dC dI L kd tys fr_1076 H.size g.2.2.2.1 q3_ mq3_ kq3_ 22 0) (cwV 2 hts (gV_ t_1301 t_1204 t_1205 t_191 t_1206) rfl rfl rfl (by decide +kernel) ⟨(Nat.le_of_ble_eq_true rfl), (Nat.le_of_ble_eq_true rfl)⟩) (pre3V g hK mq3_ kq3_ (by decide) (q := (RX7, TX7, 19)) rfl) rfl rfl hl.1 rfl (lv_room (Nat.le_of_ble_eq_true rfl)) dX2_readArguments_221 ⟨(Nat.le_of_ble_eq_true rfl), (Nat.le_of_ble_eq_true rfl)⟩) g hK (by decide) (by decide) (fx' := [(2, 13, a0_, .int x_1075), (2, 12, a0_, .int x_1074), (8, 6, q0_, .int x_1068), (2, 14, a0_, .int x_1059), (8, 8, q0_, .int x_7), (2, 0, a0_, .ref q0_), (2, 1, a0_, .ref q1_), (2, 2, a0_, .ref q2_), (2, 3, a0_, .ref q3_), (0, 0, q2_, .ref q0_), (0, 1, q2_, .ref q1_), (5, 0, q1_, .ref q6_), (5, 1, q1_, .ref q7_)]) rfl (fun fr_1081 H locs hp hMr_1081 g => ?_)
          obtain ⟨x_1082, h_1083, hF_1084⟩ := hp
          have hG_1085 := eOK.frame hMr_1081 go_.2.2.2.1 mq2_ kq2_ (by decide) (by decide) hG_1080
          have g := g.more hF_1084
          refine lv_aload_n hx hb dX2_readArguments_224 rfl (lv_at hl 4 rfl) ?_
          refine g_getk (C := RX2) (T := TX2) (N := 16) hx hb hts (mc_ inX2) hown hK g rfl 0 (by decide) rfl (hts _ (List.mem_cons_of_mem _ t_416)) (fun _ h9 => h9) 6 rfl dX2_readArguments_225 ?_
          refine lv_bipush (v := 59) hx hb dX2_readArguments_228 (by decide) ?_
          have go_ := g
          refine g_callv (va_runV (As := [.int 59]) (rest := []) ⟨hx, hb, hml, hown, hts⟩ (r_X8_take_2 l dC dI L kd tys fr_1081 H.size g.2.2.2.1 q0_ mq0_ kq0_ 59 x_1068 h_1069 x_7 h_8 (g.fcts [3, 5] rfl)) (cwV 1 hts (gV_ t_1098 t_1099 t_1100 t_184 t_1101) rfl rfl rfl (by decide +kernel) ⟨(Nat.le_of_ble_eq_true rfl), (Nat.le_of_ble_eq_true rfl)⟩) (pre3V g hK mq0_ kq0_ (by decide) (q := (RX8, TX8, 10)) rfl) rfl rfl hl.1 rfl (lv_room (Nat.le_of_ble_eq_true rfl)) dX2_readArguments_230 ⟨(Nat.le_of_ble_eq_true rfl), (Nat.le_of_ble_eq_true rfl)⟩) g hK (by decide) (by decide) (fx' := [(7, 6, q3_, .int x_1082), (2, 13, a0_, .int x_1075), (2, 12, a0_, .int x_1074), (2, 14, a0_, .int x_1059), (8, 8, q0_, .int x_7), (2, 0, a0_, .ref q0_), (2, 1, a0_, .ref q1_), (2, 2, a0_, .ref q2_), (2, 3, a0_, .ref q3_), (0, 0, q2_, .ref q0_), (0, 1, q2_, .ref q1_), (5, 0, q1_, .ref q6_), (5, 1, q1_, .ref q7_)]) rfl (fun fr_1086 H locs hp hMr_1086 g => ?_)
          obtain ⟨x_1087, h_1088, hF_1089⟩ := hp
          have hG_1090 := eOK.frame hMr_1086 go_.2.2.2.1 mq2_ kq2_ (by decide) (by decide) hG_1085
          have g := g.more hF_1089
          subst hQ
          exact W.vret hx hb hr (fun t ht hW => ⟨⟨_, rfl, Or.inr (⟨hG_1090, x_1087, h_1088, x_7, h_8, x_1082, h_1083, (g.fcts [0, 5, 1] rfl)⟩), q3_of g hK ht hW⟩, g.2.2.1.F ht⟩) g.2.2.1.2.2 dX2_readArguments_233
        · have fc_1072 := nle_f c_1072
          have b_1091 : bd 1 2147483647 x_1059 := ltR fc_1072 kb_0 (bdT x_1059) (by decide)
          refine lv_aload_n hx hb dX2_readArguments_188 rfl (lv_at hl 4 rfl) ?_
          refine g_getk (C := RX2) (T := TX2) (N := 16) hx hb hts (mc_ inX2) hown hK g rfl 0 (by decide) rfl (hts _ (List.mem_cons_of_mem _ t_416)) (fun _ h9 => h9) 3 rfl dX2_readArguments_189 ?_
          refine lv_bipush (v := 6) hx hb dX2_readArguments_192 (by decide) ?_
          refine lv_iload hx hb dX2_readArguments_194 (lv_at hl 0 rfl) ?_
          have kb_6 : bd 6 6 (6 : Int32) := ⟨by decide, by decide⟩
          have go_ := g
          refine g_callv (va_runV (As := [.int 6, .int r_1065]) (rest := []) ⟨hx, hb, hml, hown, hts⟩ (r_X8_fail_2 l dC dI L kd tys fr_1067 H.size g.2.2.2.1 q0_ mq0_ kq0_ 6 (bd_sub kb_6 (by decide)) r_1065 x_7 h_8 (g.fcts [2] rfl)) (cwV 2 hts (gV_ t_1122 t_1107 t_1108 t_184 t_1109) rfl rfl rfl (by decide +kernel) ⟨(Nat.le_of_ble_eq_true rfl), (Nat.le_of_ble_eq_true rfl)⟩) (pre3V g hK mq0_ kq0_ (by decide) (q := (RX8, TX8, 10)) rfl) rfl rfl hl.1 rfl (lv_room (Nat.le_of_ble_eq_true rfl)) dX2_readArguments_196 ⟨(Nat.le_of_ble_eq_true rfl), (Nat.le_of_ble_eq_true rfl)⟩) g hK (by decide) (by decide) (fx' := [(2, 14, a0_, .int x_1059), (8, 8, q0_, .int x_7), (2, 0, a0_, .ref q0_), (2, 1, a0_, .ref q1_), (2, 2, a0_, .ref q2_), (2, 3, a0_, .ref q3_), (0, 0, q2_, .ref q0_), (0, 1, q2_, .ref q1_), (5, 0, q1_, .ref q6_), (5, 1, q1_, .ref q7_)]) rfl (fun fr_1092 H locs hp hMr_1092 g => ?_)
          have hF_1093 := hp
          have hG_1094 := eOK.frame hMr_1092 go_.2.2.2.1 mq2_ kq2_ (by decide) (by decide) hG_1071
          have g := g.more hF_1093
          refine lv_aload_n hx hb dX2_readArguments_199 rfl (lv_at hl 4 rfl) ?_
          refine g_getk (C := RX2) (T := TX2) (N := 16) hx hb hts (mc_ inX2) hown hK g rfl 3 (by decide) rfl (hts _ (List.mem_cons_of_mem _ t_419)) (fun _ h9 => h9) 6 rfl dX2_readArguments_200 ?_
          refine lv_aload_n hx hb dX2_readArguments_203 rfl (lv_at hl 4 rfl) ?_
          refine g_geti (C := RX2) (T := TX2) (N := 16) hx hb hts (mc_ inX2) hown hK g ma0_ ka0_ (by decide) rfl 12 (by decide) rfl (hts _ (List.mem_cons_of_mem _ t_428)) (fun _ h9 => h9) rfl dX2_readArguments_204 (fun x_1095 bx_1095 g => ?_)
          refine lv_aload_n hx hb dX2_readArguments_207 rfl (lv_at hl 4 rfl) ?_
          refine g_geti (C := RX2) (T := TX2) (N := 16) hx hb hts (mc_ inX2) hown hK g ma0_ ka0_ (by decide) rfl 13 (by decide) rfl (hts _ (List.mem_cons_of_mem _ t_429)) (fun _ h9 => h9) rfl dX2_readArguments_208 (fun x_1096 bx_1096 g => ?_)
          have go_ := g
          refine g_callv (va_runV (As := [.int x_1095, .int x_1096]) (rest := []) ⟨hx, hb, hml, hown, hts⟩ (r_X7_emit l dC dI L kd tys fr_1092 H.size g.2.2.2.1 q3_ mq3_ kq3_ x_1095 x_1096) (cwV 2 hts (gV_ t_1301 t_1204 t_1205 t_191 t_1206) rfl rfl rfl (by decide +kernel) ⟨(Nat.le_of_ble_eq_true rfl), (Nat.le_of_ble_eq_true rfl)⟩) (pre3V g hK mq3_ kq3_ (by decide) (q := (RX7, TX7, 19)) rfl) rfl rfl hl.1 rfl (lv_room (Nat.le_of_ble_eq_true rfl)) dX2_readArguments_211 ⟨(Nat.le_of_ble_eq_true rfl), (Nat.le_of_ble_eq_true rfl)⟩) g hK (by decide) (by decide) (fx' := [(2, 13, a0_, .int x_1096), (2, 12, a0_, .int x_1095), (8, 6, q0_, .int 1201), (2, 14, a0_, .int x_1059), (8, 8, q0_, .int x_7), (2, 0, a0_, .ref q0_), (2, 1, a0_, .ref q1_), (2, 2, a0_, .ref q2_), (2, 3, a0_, .ref q3_), (0, 0, q2_, .ref q0_), (0, 1, q2_, .ref q1_), (5, 0, q1_, .ref q6_), (5, 1, q1_, .ref q7_)]) rfl (fun fr_1097 H locs hp hMr_1097 g => ?_)
          obtain ⟨x_1098, h_1099, hF_1100⟩ := hp
          have hG_1101 := eOK.frame hMr_1097 go_.2.2.2.1 mq2_ kq2_ (by decide) (by decide) hG_1094
          have g := g.more hF_1100
          refine lv_aload_n hx hb dX2_readArguments_214 rfl (lv_at hl 4 rfl) ?_
          refine g_getk (C := RX2) (T := TX2) (N := 16) hx hb hts (mc_ inX2) hown hK g rfl 3 (by decide) rfl (hts _ (List.mem_cons_of_mem _ t_419)) (fun _ h9 => h9) 9 rfl dX2_readArguments_215 ?_
          refine lv_bipush (v := 22) hx hb dX2_readArguments_218 (by decide) ?_
          refine lv_iconst (v := 0) hx hb dX2_readArguments_220 (by decide) ?_
          have go_ := g
          refine g_callv (va_runV (As := [.int 22, .int 0]) (rest := []) ⟨hx, hb, hml, hown, hts⟩ (r_X7_emit l dC dI L kd tys fr_1097 H.size g.2.2.2.1 q3_ mq3_ kq3_ 22 0) (cwV 2 hts (gV_ t_1301 t_1204 t_1205 t_191 t_1206) rfl rfl rfl (by decide +kernel) ⟨(Nat.le_of_ble_eq_true rfl), (Nat.le_of_ble_eq_true rfl)⟩) (pre3V g hK mq3_ kq3_ (by decide) (q := (RX7, TX7, 19)) rfl) rfl rfl hl.1 rfl (lv_room (Nat.le_of_ble_eq_true rfl)) dX2_readArguments_221 ⟨(Nat.le_of_ble_eq_true rfl), (Nat.le_of_ble_eq_true rfl)⟩) g hK (by decide) (by decide) (fx' := [(2, 13, a0_, .int x_1096), (2, 12, a0_, .int x_1095), (8, 6, q0_, .int 1201), (2, 14, a0_, .int x_1059), (8, 8, q0_, .int x_7), (2, 0, a0_, .ref q0_), (2, 1, a0_, .ref q1_), (2, 2, a0_, .ref q2_), (2, 3, a0_, .ref q3_), (0, 0, q2_, .ref q0_), (0, 1, q2_, .ref q1_), (5, 0, q1_, .ref q6_), (5, 1, q1_, .ref q7_)]) rfl (fun fr_1102 H locs hp hMr_1102 g => ?_)
          obtain ⟨x_1103, h_1104, hF_1105⟩ := hp
          have hG_1106 := eOK.frame hMr_1102 go_.2.2.2.1 mq2_ kq2_ (by decide) (by decide) hG_1101
          have g := g.more hF_1105
          refine lv_aload_n hx hb dX2_readArguments_224 rfl (lv_at hl 4 rfl) ?_
          refine g_getk (C := RX2) (T := TX2) (N := 16) hx hb hts (mc_ inX2) hown hK g rfl 0 (by decide) rfl (hts _ (List.mem_cons_of_mem _ t_416)) (fun _ h9 => h9) 6 rfl dX2_readArguments_225 ?_
          refine lv_bipush (v := 59) hx hb dX2_readArguments_228 (by decide) ?_
          have go_ := g
          refine g_callv (va_runV (As := [.int 59]) (rest := []) ⟨hx, hb, hml, hown, hts⟩ (r_X8_take_2 l dC dI L kd tys fr_1102 H.size g.2.2.2.1 q0_ mq0_ kq0_ 59 1201 kb_1201 x_7 h_8 (g.fcts [3, 5] rfl)) (cwV 1 hts (gV_ t_1098 t_1099 t_1100 t_184 t_1101) rfl rfl rfl (by decide +kernel) ⟨(Nat.le_of_ble_eq_true rfl), (Nat.le_of_ble_eq_true rfl)⟩) (pre3V g hK mq0_ kq0_ (by decide) (q := (RX8, TX8, 10)) rfl) rfl rfl hl.1 rfl (lv_room (Nat.le_of_ble_eq_true rfl)) dX2_readArguments_230 ⟨(Nat.le_of_ble_eq_true rfl), (Nat.le_of_ble_eq_true rfl)⟩) g hK (by decide) (by decide) (fx' := [(7, 6, q3_, .int x_1103), (2, 13, a0_, .int x_1096), (2, 12, a0_, .int x_1095), (2, 14, a0_, .int x_1059), (8, 8, q0_, .int x_7), (2, 0, a0_, .ref q0_), (2, 1, a0_, .ref q1_), (2, 2, a0_, .ref q2_), (2, 3, a0_, .ref q3_), (0, 0, q2_, .ref q0_), (0, 1, q2_, .ref q1_), (5, 0, q1_, .ref q6_), (5, 1, q1_, .ref q7_)]) rfl (fun fr_1107 H locs hp hMr_1107 g => ?_)
          obtain ⟨x_1108, h_1109, hF_1110⟩ := hp
          have hG_1111 := eOK.frame hMr_1107 go_.2.2.2.1 mq2_ kq2_ (by decide) (by decide) hG_1106
          have g := g.more hF_1110
          subst hQ
          exact W.vret hx hb hr (fun t ht hW => ⟨⟨_, rfl, Or.inr (⟨hG_1111, x_1108, h_1109, x_7, h_8, x_1103, h_1104, (g.fcts [0, 5, 1] rfl)⟩), q3_of g hK ht hW⟩, g.2.2.1.F ht⟩) g.2.2.1.2.2 dX2_readArguments_233
      · have fc_1064 := eq_f c_1064
        have b_1112 : bd 1 0 x_7 := eqX fc_1064 h_8 kb_0 (by decide)
        exact bd_no b_1112 (by decide)
    · have fc_1060 := eq_f c_1060
      have b_1113 : bd 0 0 x_1059 := eqX fc_1060 (bdT x_1059) kb_0 (by decide)
      refine lv_aload_n hx hb dX2_readArguments_24 rfl (lv_at hl 1 rfl) ?_
      refine g_getk (C := RX2) (T := TX2) (N := 16) hx hb hts (mc_ inX2) hown hK g rfl 0 (by decide) rfl (hts _ (List.mem_cons_of_mem _ t_416)) (fun _ h9 => h9) 3 rfl dX2_readArguments_25 ?_
      have kb_1201 : bd 1201 1201 (1201 : Int32) := ⟨by decide, by decide⟩
      have go_ := g
      refine g_calli (va_runV (As := []) (rest := []) ⟨hx, hb, hml, hown, hts⟩ (r_X8_kind_2 l dC dI L kd tys fr_3 H.size g.2.2.2.1 q0_ mq0_ kq0_ 1201 kb_1201 (g.fcts [1] rfl)) (cwV 0 hts (gV_ t_1118 t_1119 t_1120 t_184 t_1121) rfl rfl rfl (by decide +kernel) ⟨(Nat.le_of_ble_eq_true rfl), (Nat.le_of_ble_eq_true rfl)⟩) (pre3V g hK mq0_ kq0_ (by decide) (q := (RX8, TX8, 10)) rfl) rfl rfl hl.1 rfl (lv_room (Nat.le_of_ble_eq_true rfl)) dX2_readArguments_28 ⟨(Nat.le_of_ble_eq_true rfl), (Nat.le_of_ble_eq_true rfl)⟩) g hK (by decide) (by decide) (fx' := [(2, 14, a0_, .int x_1059), (8, 6, q0_, .int 1201), (8, 8, q0_, .int x_7), (2, 0, a0_, .ref q0_), (2, 1, a0_, .ref q1_), (2, 2, a0_, .ref q2_), (2, 3, a0_, .ref q3_), (0, 0, q2_, .ref q0_), (0, 1, q2_, .ref q1_), (5, 0, q1_, .ref q6_), (5, 1, q1_, .ref q7_)]) rfl (fun r_1114 fr_1114 H locs hp hMr_1114 g => ?_)
      obtain ⟨h_1115, -⟩ := hp
      have hG_1116 := eOK.frame hMr_1114 go_.2.2.2.1 mq2_ kq2_ (by decide) (by decide) hG_1058
      obtain rfl : r_1114 = 0 := h_1115
      refine lv_bipush (v := 41) hx hb dX2_readArguments_31 (by decide) ?_
      refine lv_icmp_eq (tgt := 46) hx hb dX2_readArguments_33 (by decide) (fun c_ => absurd c_ (by decide)) (fun c_ => ?_)
      refine lv_aload_n hx hb dX2_readArguments_36 rfl (lv_at hl 1 rfl) ?_
      refine g_getk (C := RX2) (T := TX2) (N := 16) hx hb hts (mc_ inX2) hown hK g rfl 0 (by decide) rfl (hts _ (List.mem_cons_of_mem _ t_416)) (fun _ h9 => h9) 3 rfl dX2_readArguments_37 ?_
      refine lv_bipush (v := 6) hx hb dX2_readArguments_40 (by decide) ?_
      refine lv_iload_n hx hb dX2_readArguments_42 rfl (lv_at hl 0 rfl) ?_
      have kb_6 : bd 6 6 (6 : Int32) := ⟨by decide, by decide⟩
      have go_ := g
      refine g_callv (va_runV (As := [.int 6, .int r_1]) (rest := []) ⟨hx, hb, hml, hown, hts⟩ (r_X8_fail_2 l dC dI L kd tys fr_1114 H.size g.2.2.2.1 q0_ mq0_ kq0_ 6 (bd_sub kb_6 (by decide)) r_1 x_7 h_8 (g.fcts [2] rfl)) (cwV 2 hts (gV_ t_1122 t_1107 t_1108 t_184 t_1109) rfl rfl rfl (by decide +kernel) ⟨(Nat.le_of_ble_eq_true rfl), (Nat.le_of_ble_eq_true rfl)⟩) (pre3V g hK mq0_ kq0_ (by decide) (q := (RX8, TX8, 10)) rfl) rfl rfl hl.1 rfl (lv_room (Nat.le_of_ble_eq_true rfl)) dX2_readArguments_43 ⟨(Nat.le_of_ble_eq_true rfl), (Nat.le_of_ble_eq_true rfl)⟩) g hK (by decide) (by decide) (fx' := [(2, 14, a0_, .int x_1059), (8, 8, q0_, .int x_7), (2, 0, a0_, .ref q0_), (2, 1, a0_, .ref q1_), (2, 2, a0_, .ref q2_), (2, 3, a0_, .ref q3_), (0, 0, q2_, .ref q0_), (0, 1, q2_, .ref q1_), (5, 0, q1_, .ref q6_), (5, 1, q1_, .ref q7_)]) rfl (fun fr_1117 H locs hp hMr_1117 g => ?_)
      have hF_1118 := hp
      have hG_1119 := eOK.frame hMr_1117 go_.2.2.2.1 mq2_ kq2_ (by decide) (by decide) hG_1116
      have g := g.more hF_1118
      refine lv_iconst (v := 0) hx hb dX2_readArguments_46 (by decide) ?_
      refine lv_istore_n (lv' := [(2, .int 0), (1, .int r_1), (0, .ref a0_)]) hx hb dX2_readArguments_47 rfl hl (by decide) rfl (fun ls hl => ?_)
      refine lv_aload_n hx hb dX2_readArguments_48 rfl (lv_at hl 2 rfl) ?_
      refine g_getk (C := RX2) (T := TX2) (N := 16) hx hb hts (mc_ inX2) hown hK g rfl 0 (by decide) rfl (hts _ (List.mem_cons_of_mem _ t_416)) (fun _ h9 => h9) 3 rfl dX2_readArguments_49 ?_
      have go_ := g
      refine g_calli (va_runV (As := []) (rest := []) ⟨hx, hb, hml, hown, hts⟩ (r_X8_kind_2 l dC dI L kd tys fr_1117 H.size g.2.2.2.1 q0_ mq0_ kq0_ 1201 kb_1201 (g.fcts [0] rfl)) (cwV 0 hts (gV_ t_1118 t_1119 t_1120 t_184 t_1121) rfl rfl rfl (by decide +kernel) ⟨(Nat.le_of_ble_eq_true rfl), (Nat.le_of_ble_eq_true rfl)⟩) (pre3V g hK mq0_ kq0_ (by decide) (q := (RX8, TX8, 10)) rfl) rfl rfl hl.1 rfl (lv_room (Nat.le_of_ble_eq_true rfl)) dX2_readArguments_52 ⟨(Nat.le_of_ble_eq_true rfl), (Nat.le_of_ble_eq_true rfl)⟩) g hK (by decide) (by decide) (fx' := [(8, 6, q0_, .int 1201), (2, 14, a0_, .int x_1059), (8, 8, q0_, .int x_7), (2, 0, a0_, .ref q0_), (2, 1, a0_, .ref q1_), (2, 2, a0_, .ref q2_), (2, 3, a0_, .ref q3_), (0, 0, q2_, .ref q0_), (0, 1, q2_, .ref q1_), (5, 0, q1_, .ref q6_), (5, 1, q1_, .ref q7_)]) rfl (fun r_1120 fr_1120 H locs hp hMr_1120 g => ?_)
      obtain ⟨h_1121, -⟩ := hp
      have hG_1122 := eOK.frame hMr_1120 go_.2.2.2.1 mq2_ kq2_ (by decide) (by decide) hG_1119
      obtain rfl : r_1120 = 0 := h_1121
      refine lv_bipush (v := 41) hx hb dX2_readArguments_55 (by decide) ?_
      refine lv_icmp_eq (tgt := 64) hx hb dX2_readArguments_57 (by decide) (fun c_ => absurd c_ (by decide)) (fun c_ => ?_)
      refine lv_iconst (v := 1) hx hb dX2_readArguments_60 (by decide) ?_
      refine lv_goto (tgt := 65) hx hb dX2_readArguments_61 (by decide) ?_
      refine lv_istore_n (lv' := [(3, .int 1), (2, .int 0), (1, .int r_1), (0, .ref a0_)]) hx hb dX2_readArguments_65 rfl hl (by decide) rfl (fun ls hl => ?_)
      refine lv_iconst (v := 0) hx hb dX2_readArguments_66 (by decide) ?_
      refine lv_istore (lv' := [(4, .int 0), (3, .int 1), (2, .int 0), (1, .int r_1), (0, .ref a0_)]) hx hb dX2_readArguments_67 hl (by decide) rfl (fun ls hl => ?_)
      refine lv_iload hx hb dX2_readArguments_69 (lv_at hl 0 rfl) ?_
      refine lv_iconst (v := 3) hx hb dX2_readArguments_71 (by decide) ?_
      refine lv_icmp_gt (tgt := 162) hx hb dX2_readArguments_72 (by decide) (fun c_ => absurd c_ (by decide)) (fun c_ => ?_)
      refine lv_iload_n hx hb dX2_readArguments_75 rfl (lv_at hl 1 rfl) ?_
      refine lv_if_eq (tgt := 162) hx hb dX2_readArguments_76 (by decide) (fun c_ => absurd c_ (by decide)) (fun c_ => ?_)
      refine lv_aload_n hx hb dX2_readArguments_79 rfl (lv_at hl 4 rfl) ?_
      refine g_getk (C := RX2) (T := TX2) (N := 16) hx hb hts (mc_ inX2) hown hK g rfl 0 (by decide) rfl (hts _ (List.mem_cons_of_mem _ t_416)) (fun _ h9 => h9) 3 rfl dX2_readArguments_80 ?_
      refine g_getk (C := RX8) (T := TX8) (N := 10) hx hb hts (mc_ inX8) hown hK g rfl 8 (by decide) rfl (hts _ (List.mem_cons_of_mem _ t_294)) (fun _ h9 => h9) 2 rfl dX2_readArguments_83 ?_
      refine lv_if_ne (tgt := 162) hx hb dX2_readArguments_86 (by decide) (fun c_1123 => ?_) (fun c_1123 => ?_)
      · have fc_1123 := neq_f c_1123
        refine lv_aload_n hx hb dX2_readArguments_162 rfl (lv_at hl 4 rfl) ?_
        refine g_getk (C := RX2) (T := TX2) (N := 16) hx hb hts (mc_ inX2) hown hK g rfl 0 (by decide) rfl (hts _ (List.mem_cons_of_mem _ t_416)) (fun _ h9 => h9) 3 rfl dX2_readArguments_163 ?_
        have go_ := g
        refine g_calli (va_runV (As := []) (rest := []) ⟨hx, hb, hml, hown, hts⟩ (r_X8_place l dC dI L kd tys fr_1120 H.size g.2.2.2.1 q0_ mq0_ kq0_) (cwV 0 hts (gV_ t_1110 t_1111 t_1112 t_184 t_1113) rfl rfl rfl (by decide +kernel) ⟨(Nat.le_of_ble_eq_true rfl), (Nat.le_of_ble_eq_true rfl)⟩) (pre3V g hK mq0_ kq0_ (by decide) (q := (RX8, TX8, 10)) rfl) rfl rfl hl.1 rfl (lv_room (Nat.le_of_ble_eq_true rfl)) dX2_readArguments_166 ⟨(Nat.le_of_ble_eq_true rfl), (Nat.le_of_ble_eq_true rfl)⟩) g hK (by decide) (by decide) (fx' := [(8, 6, q0_, .int 1201), (2, 14, a0_, .int x_1059), (8, 8, q0_, .int x_7), (2, 0, a0_, .ref q0_), (2, 1, a0_, .ref q1_), (2, 2, a0_, .ref q2_), (2, 3, a0_, .ref q3_), (0, 0, q2_, .ref q0_), (0, 1, q2_, .ref q1_), (5, 0, q1_, .ref q6_), (5, 1, q1_, .ref q7_)]) rfl (fun r_1124 fr_1124 H locs hp hMr_1124 g => ?_)
        have hG_1125 := eOK.frame hMr_1124 go_.2.2.2.1 mq2_ kq2_ (by decide) (by decide) hG_1122
        refine lv_istore (lv' := [(4, .int r_1124), (3, .int 1), (2, .int 0), (1, .int r_1), (0, .ref a0_)]) hx hb dX2_readArguments_169 hl (by decide) rfl (fun ls hl => ?_)
        refine lv_aload_n hx hb dX2_readArguments_171 rfl (lv_at hl 4 rfl) ?_
        refine g_getk (C := RX2) (T := TX2) (N := 16) hx hb hts (mc_ inX2) hown hK g rfl 0 (by decide) rfl (hts _ (List.mem_cons_of_mem _ t_416)) (fun _ h9 => h9) 3 rfl dX2_readArguments_172 ?_
        refine lv_bipush (v := 41) hx hb dX2_readArguments_175 (by decide) ?_
        have go_ := g
        refine g_callv (va_runV (As := [.int 41]) (rest := []) ⟨hx, hb, hml, hown, hts⟩ (r_X8_take_2 l dC dI L kd tys fr_1124 H.size g.2.2.2.1 q0_ mq0_ kq0_ 41 1201 kb_1201 x_7 h_8 (g.fcts [0, 2] rfl)) (cwV 1 hts (gV_ t_1098 t_1099 t_1100 t_184 t_1101) rfl rfl rfl (by decide +kernel) ⟨(Nat.le_of_ble_eq_true rfl), (Nat.le_of_ble_eq_true rfl)⟩) (pre3V g hK mq0_ kq0_ (by decide) (q := (RX8, TX8, 10)) rfl) rfl rfl hl.1 rfl (lv_room (Nat.le_of_ble_eq_true rfl)) dX2_readArguments_177 ⟨(Nat.le_of_ble_eq_true rfl), (Nat.le_of_ble_eq_true rfl)⟩) g hK (by decide) (by decide) (fx' := [(2, 14, a0_, .int x_1059), (8, 8, q0_, .int x_7), (2, 0, a0_, .ref q0_), (2, 1, a0_, .ref q1_), (2, 2, a0_, .ref q2_), (2, 3, a0_, .ref q3_), (0, 0, q2_, .ref q0_), (0, 1, q2_, .ref q1_), (5, 0, q1_, .ref q6_), (5, 1, q1_, .ref q7_)]) rfl (fun fr_1126 H locs hp hMr_1126 g => ?_)
        obtain ⟨x_1127, h_1128, hF_1129⟩ := hp
        have hG_1130 := eOK.frame hMr_1126 go_.2.2.2.1 mq2_ kq2_ (by decide) (by decide) hG_1125
        have g := g.more hF_1129
        refine lv_iload_n hx hb dX2_readArguments_180 rfl (lv_at hl 2 rfl) ?_
        refine lv_aload_n hx hb dX2_readArguments_181 rfl (lv_at hl 4 rfl) ?_
        refine g_getk (C := RX2) (T := TX2) (N := 16) hx hb hts (mc_ inX2) hown hK g rfl 14 (by decide) rfl (hts _ (List.mem_cons_of_mem _ t_430)) (fun _ h9 => h9) 1 rfl dX2_readArguments_182 ?_
        refine lv_icmp_ge (tgt := 199) hx hb dX2_readArguments_185 (by decide) (fun c_1131 => ?_) (fun c_1131 => ?_)
        · have fc_1131 := le_f c_1131
          refine lv_aload_n hx hb dX2_readArguments_199 rfl (lv_at hl 4 rfl) ?_
          refine g_getk (C := RX2) (T := TX2) (N := 16) hx hb hts (mc_ inX2) hown hK g rfl 3 (by decide) rfl (hts _ (List.mem_cons_of_mem _ t_419)) (fun _ h9 => h9) 6 rfl dX2_readArguments_200 ?_
          refine lv_aload_n hx hb dX2_readArguments_203 rfl (lv_at hl 4 rfl) ?_
          refine g_geti (C := RX2) (T := TX2) (N := 16) hx hb hts (mc_ inX2) hown hK g ma0_ ka0_ (by decide) rfl 12 (by decide) rfl (hts _ (List.mem_cons_of_mem _ t_428)) (fun _ h9 => h9) rfl dX2_readArguments_204 (fun x_1132 bx_1132 g => ?_)
          refine lv_aload_n hx hb dX2_readArguments_207 rfl (lv_at hl 4 rfl) ?_
          refine g_geti (C := RX2) (T := TX2) (N := 16) hx hb hts (mc_ inX2) hown hK g ma0_ ka0_ (by decide) rfl 13 (by decide) rfl (hts _ (List.mem_cons_of_mem _ t_429)) (fun _ h9 => h9) rfl dX2_readArguments_208 (fun x_1133 bx_1133 g => ?_)
          have go_ := g
          refine g_callv (va_runV (As := [.int x_1132, .int x_1133]) (rest := []) ⟨hx, hb, hml, hown, hts⟩ (r_X7_emit l dC dI L kd tys fr_1126 H.size g.2.2.2.1 q3_ mq3_ kq3_ x_1132 x_1133) (cwV 2 hts (gV_ t_1301 t_1204 t_1205 t_191 t_1206) rfl rfl rfl (by decide +kernel) ⟨(Nat.le_of_ble_eq_true rfl), (Nat.le_of_ble_eq_true rfl)⟩) (pre3V g hK mq3_ kq3_ (by decide) (q := (RX7, TX7, 19)) rfl) rfl rfl hl.1 rfl (lv_room (Nat.le_of_ble_eq_true rfl)) dX2_readArguments_211 ⟨(Nat.le_of_ble_eq_true rfl), (Nat.le_of_ble_eq_true rfl)⟩) g hK (by decide) (by decide) (fx' := [(2, 13, a0_, .int x_1133), (2, 12, a0_, .int x_1132), (8, 6, q0_, .int x_1127), (2, 14, a0_, .int x_1059), (8, 8, q0_, .int x_7), (2, 0, a0_, .ref q0_), (2, 1, a0_, .ref q1_), (2, 2, a0_, .ref q2_), (2, 3, a0_, .ref q3_), (0, 0, q2_, .ref q0_), (0, 1, q2_, .ref q1_), (5, 0, q1_, .ref q6_), (5, 1, q1_, .ref q7_)]) rfl (fun fr_1134 H locs hp hMr_1134 g => ?_)
          obtain ⟨x_1135, h_1136, hF_1137⟩ := hp
          have hG_1138 := eOK.frame hMr_1134 go_.2.2.2.1 mq2_ kq2_ (by decide) (by decide) hG_1130
          have g := g.more hF_1137
          refine lv_aload_n hx hb dX2_readArguments_214 rfl (lv_at hl 4 rfl) ?_
          refine g_getk (C := RX2) (T := TX2) (N := 16) hx hb hts (mc_ inX2) hown hK g rfl 3 (by decide) rfl (hts _ (List.mem_cons_of_mem _ t_419)) (fun _ h9 => h9) 9 rfl dX2_readArguments_215 ?_
          refine lv_bipush (v := 22) hx hb dX2_readArguments_218 (by decide) ?_
          refine lv_iconst (v := 0) hx hb dX2_readArguments_220 (by decide) ?_
          have go_ := g
          refine g_callv (va_runV (As := [.int 22, .int 0]) (rest := []) ⟨hx, hb, hml, hown, hts⟩ (r_X7_emit l dC dI L kd tys fr_1134 H.size g.2.2.2.1 q3_ mq3_ kq3_ 22 0) (cwV 2 hts (gV_ t_1301 t_1204 t_1205 t_191 t_1206) rfl rfl rfl (by decide +kernel) ⟨(Nat.le_of_ble_eq_true rfl), (Nat.le_of_ble_eq_true rfl)⟩) (pre3V g hK mq3_ kq3_ (by decide) (q := (RX7, TX7, 19)) rfl) rfl rfl hl.1 rfl (lv_room (Nat.le_of_ble_eq_true rfl)) dX2_readArguments_221 ⟨(Nat.le_of_ble_eq_true rfl), (Nat.le_of_ble_eq_true rfl)⟩) g hK (by decide) (by decide) (fx' := [(2, 13, a0_, .int x_1133), (2, 12, a0_, .int x_1132), (8, 6, q0_, .int x_1127), (2, 14, a0_, .int x_1059), (8, 8, q0_, .int x_7), (2, 0, a0_, .ref q0_), (2, 1, a0_, .ref q1_), (2, 2, a0_, .ref q2_), (2, 3, a0_, .ref q3_), (0, 0, q2_, .ref q0_), (0, 1, q2_, .ref q1_), (5, 0, q1_, .ref q6_), (5, 1, q1_, .ref q7_)]) rfl (fun fr_1139 H locs hp hMr_1139 g => ?_)
          obtain ⟨x_1140, h_1141, hF_1142⟩ := hp
          have hG_1143 := eOK.frame hMr_1139 go_.2.2.2.1 mq2_ kq2_ (by decide) (by decide) hG_1138
          have g := g.more hF_1142
          refine lv_aload_n hx hb dX2_readArguments_224 rfl (lv_at hl 4 rfl) ?_
          refine g_getk (C := RX2) (T := TX2) (N := 16) hx hb hts (mc_ inX2) hown hK g rfl 0 (by decide) rfl (hts _ (List.mem_cons_of_mem _ t_416)) (fun _ h9 => h9) 6 rfl dX2_readArguments_225 ?_
          refine lv_bipush (v := 59) hx hb dX2_readArguments_228 (by decide) ?_
          have go_ := g
          refine g_callv (va_runV (As := [.int 59]) (rest := []) ⟨hx, hb, hml, hown, hts⟩ (r_X8_take_2 l dC dI L kd tys fr_1139 H.size g.2.2.2.1 q0_ mq0_ kq0_ 59 x_1127 h_1128 x_7 h_8 (g.fcts [3, 5] rfl)) (cwV 1 hts (gV_ t_1098 t_1099 t_1100 t_184 t_1101) rfl rfl rfl (by decide +kernel) ⟨(Nat.le_of_ble_eq_true rfl), (Nat.le_of_ble_eq_true rfl)⟩) (pre3V g hK mq0_ kq0_ (by decide) (q := (RX8, TX8, 10)) rfl) rfl rfl hl.1 rfl (lv_room (Nat.le_of_ble_eq_true rfl)) dX2_readArguments_230 ⟨(Nat.le_of_ble_eq_true rfl), (Nat.le_of_ble_eq_true rfl)⟩) g hK (by decide) (by decide) (fx' := [(7, 6, q3_, .int x_1140), (2, 13, a0_, .int x_1133), (2, 12, a0_, .int x_1132), (2, 14, a0_, .int x_1059), (8, 8, q0_, .int x_7), (2, 0, a0_, .ref q0_), (2, 1, a0_, .ref q1_), (2, 2, a0_, .ref q2_), (2, 3, a0_, .ref q3_), (0, 0, q2_, .ref q0_), (0, 1, q2_, .ref q1_), (5, 0, q1_, .ref q6_), (5, 1, q1_, .ref q7_)]) rfl (fun fr_1144 H locs hp hMr_1144 g => ?_)
          obtain ⟨x_1145, h_1146, hF_1147⟩ := hp
          have hG_1148 := eOK.frame hMr_1144 go_.2.2.2.1 mq2_ kq2_ (by decide) (by decide) hG_1143
          have g := g.more hF_1147
          subst hQ
          exact W.vret hx hb hr (fun t ht hW => ⟨⟨_, rfl, Or.inr (⟨hG_1148, x_1145, h_1146, x_7, h_8, x_1140, h_1141, (g.fcts [0, 5, 1] rfl)⟩), q3_of g hK ht hW⟩, g.2.2.1.F ht⟩) g.2.2.1.2.2 dX2_readArguments_233
        · have fc_1131 := nle_f c_1131
          have b_1149 : bd 0 (-1) (0 : Int32) := ltL fc_1131 kb_0 b_1113 (by decide)
          exact bd_no (eqX rfl b_1149 kb_0 (lo := 0) (hi := (-1)) (by decide)) (by decide)
      · have fc_1123 := eq_f c_1123
        have b_1150 : bd 1 0 x_7 := eqX fc_1123 h_8 kb_0 (by decide)
        exact bd_no b_1150 (by decide)
