set_option maxHeartbeats 4000000 in
set_option maxRecDepth 100000 in
theorem r_X2_readArguments_3 (l : Launch) (dC : Nat → ClassId) (dI : Nat → Nat → Nat) (L : List Nat) (kd : Nat → Nat) (tys : List (ClassId × FieldType)) (f0 : Nat → va_E) (sz : Nat) (hWT : WT L kd tys f0) (a0_ : Nat) (ma0_ : a0_ ∈ L) (ka0_ : kd a0_ = 2) (q0_ : Nat) (mq0_ : q0_ ∈ L) (kq0_ : kd q0_ = 8) (q1_ : Nat) (mq1_ : q1_ ∈ L) (kq1_ : kd q1_ = 5) (q2_ : Nat) (mq2_ : q2_ ∈ L) (kq2_ : kd q2_ = 0) (q3_ : Nat) (mq3_ : q3_ ∈ L) (kq3_ : kd q3_ = 7) (q6_ : Nat) (mq6_ : q6_ ∈ L) (kq6_ : kd q6_ = 7) (q7_ : Nat) (mq7_ : q7_ ∈ L) (kq7_ : kd q7_ = 9) (y0_ : Int32) (by0_ : bd 1201 1201 y0_) (y1_ : Int32) (by1_ : bd 1 7 y1_) (hGeq2_ : eOK f0 q2_) (hfx : Fs L kd f0 [(2, 0, a0_, .ref q0_), (2, 1, a0_, .ref q1_), (2, 2, a0_, .ref q2_), (2, 3, a0_, .ref q3_), (0, 0, q2_, .ref q0_), (0, 1, q2_, .ref q1_), (5, 0, q1_, .ref q6_), (5, 1, q1_, .ref q7_), (8, 6, q0_, .int y0_), (8, 8, q0_, .int y1_)]) : Met l yX2_readArguments (.code yX2_readArguments cX2_readArguments 6 none :: lw_g) ({ frames := 2, cells := 0, slots := 0, locals := 44 }) (va_Pc [.ref a0_] (P3 (dC, dI) L tys f0 sz)) (va_Qv (fun (f : Nat → va_E) => (∃ z0_ : Int32, bd 1201 1201 z0_ ∧ ∃ z1_ : Int32, bd 1 2000 z1_ ∧ Fs L kd f [(8, 6, q0_, .int z0_), (7, 6, q3_, .int z1_)])) (Q3 (dC, dI) L kd tys [(7, 6), (8, 6)] [138, 139] f0 sz) (pA L sz)) 0 0 (pA L sz) := by
  refine Met.ofW (cc := cX2_readArguments) (maxL := 6) (ret := none) (by decide) rfl ?_
  intro p e s m args below meth c s₁ B hml hv
  obtain ⟨rfl, hsz, hP, hK, hD0⟩ := hv
  have hx := B.exec
  have hb := B.bytes
  have hr := B.returns
  have hts := atoms_spec (ws := (.code yX2_readArguments cX2_readArguments 6 none :: lw_g)) B.pre
  have hown : s.vm.findClass RX2 = some m.cls := findClass_of_methodNamed B.named
  have hlocks := B.notSynchronized
  subst hsz
  have g : G3 (dC, dI) L kd tys s f0 [(7, 6), (8, 6)] [138, 139] f0 s.heap [] [(2, 0, a0_, .ref q0_), (2, 1, a0_, .ref q1_), (2, 2, a0_, .ref q2_), (2, 3, a0_, .ref q3_), (0, 0, q2_, .ref q0_), (0, 1, q2_, .ref q1_), (5, 0, q1_, .ref q6_), (5, 1, q1_, .ref q7_), (8, 6, q0_, .int y0_), (8, 8, q0_, .int y1_)] := G3.start hP hD0 hWT hfx
  have hl := lv_entry ([.ref a0_]) (n := 6) (Nat.le_of_ble_eq_true rfl)
  rw [lg_entry_eq]
  generalize (lg_sl ([.ref a0_]) ++ List.replicate (6 - (lg_sl ([.ref a0_])).length) Slot.unset).toArray = ls at hl ⊢
  have hl : lv_has ls 6 [(0, .ref a0_)] := hl
  refine W_q (fun Q hQ => ?_)
  refine lv_aload_n hx hb dX2_readArguments_0 rfl (lv_at hl 0 rfl) ?_
  refine g_getk (C := RX2) (T := TX2) (N := 16) hx hb hts (mc_ inX2) hown hK g rfl 0 (by decide) rfl (hts _ (List.mem_cons_of_mem _ t_416)) (fun _ h9 => h9) 0 rfl dX2_readArguments_1 ?_
  have go_ := g
  refine g_calli (va_runV (As := []) (rest := []) ⟨hx, hb, hml, hown, hts⟩ (r_X8_place l dC dI L kd tys f0 s.heap.size g.2.2.2.1 q0_ mq0_ kq0_) (cwV 0 hts (gV_ t_1110 t_1111 t_1112 t_184 t_1113) rfl rfl rfl (by decide +kernel) ⟨(Nat.le_of_ble_eq_true rfl), (Nat.le_of_ble_eq_true rfl)⟩) (pre3V g hK mq0_ kq0_ (by decide) (q := (RX8, TX8, 10)) rfl) rfl rfl hl.1 rfl (lv_room (Nat.le_of_ble_eq_true rfl)) dX2_readArguments_4 ⟨(Nat.le_of_ble_eq_true rfl), (Nat.le_of_ble_eq_true rfl)⟩) g hK (by decide) (by decide) (fx' := [(2, 0, a0_, .ref q0_), (2, 1, a0_, .ref q1_), (2, 2, a0_, .ref q2_), (2, 3, a0_, .ref q3_), (0, 0, q2_, .ref q0_), (0, 1, q2_, .ref q1_), (5, 0, q1_, .ref q6_), (5, 1, q1_, .ref q7_), (8, 6, q0_, .int y0_), (8, 8, q0_, .int y1_)]) rfl (fun r_1 fr_1 H locs hp hMr_1 g => ?_)
  have hG_2 := eOK.frame hMr_1 go_.2.2.2.1 mq2_ kq2_ (by decide) (by decide) hGeq2_
  refine lv_istore_n (lv' := [(1, .int r_1), (0, .ref a0_)]) hx hb dX2_readArguments_7 rfl hl (by decide) rfl (fun ls hl => ?_)
  refine lv_aload_n hx hb dX2_readArguments_8 rfl (lv_at hl 1 rfl) ?_
  refine g_getk (C := RX2) (T := TX2) (N := 16) hx hb hts (mc_ inX2) hown hK g rfl 0 (by decide) rfl (hts _ (List.mem_cons_of_mem _ t_416)) (fun _ h9 => h9) 0 rfl dX2_readArguments_9 ?_
  refine lv_bipush (v := 40) hx hb dX2_readArguments_12 (by decide) ?_
  have go_ := g
  refine g_callv (va_runV (As := [.int 40]) (rest := []) ⟨hx, hb, hml, hown, hts⟩ (r_X8_take_2 l dC dI L kd tys fr_1 H.size g.2.2.2.1 q0_ mq0_ kq0_ 40 y0_ by0_ y1_ by1_ (g.fcts [8, 9] rfl)) (cwV 1 hts (gV_ t_1098 t_1099 t_1100 t_184 t_1101) rfl rfl rfl (by decide +kernel) ⟨(Nat.le_of_ble_eq_true rfl), (Nat.le_of_ble_eq_true rfl)⟩) (pre3V g hK mq0_ kq0_ (by decide) (q := (RX8, TX8, 10)) rfl) rfl rfl hl.1 rfl (lv_room (Nat.le_of_ble_eq_true rfl)) dX2_readArguments_14 ⟨(Nat.le_of_ble_eq_true rfl), (Nat.le_of_ble_eq_true rfl)⟩) g hK (by decide) (by decide) (fx' := [(2, 0, a0_, .ref q0_), (2, 1, a0_, .ref q1_), (2, 2, a0_, .ref q2_), (2, 3, a0_, .ref q3_), (0, 0, q2_, .ref q0_), (0, 1, q2_, .ref q1_), (5, 0, q1_, .ref q6_), (5, 1, q1_, .ref q7_), (8, 8, q0_, .int y1_)]) rfl (fun fr_3 H locs hp hMr_3 g => ?_)
  obtain ⟨x_4, h_5, hF_6⟩ := hp
  have hG_7 := eOK.frame hMr_3 go_.2.2.2.1 mq2_ kq2_ (by decide) (by decide) hG_2
  have g := g.more hF_6
  refine lv_aload_n hx hb dX2_readArguments_17 rfl (lv_at hl 1 rfl) ?_
  refine g_geti (C := RX2) (T := TX2) (N := 16) hx hb hts (mc_ inX2) hown hK g ma0_ ka0_ (by decide) rfl 14 (by decide) rfl (hts _ (List.mem_cons_of_mem _ t_430)) (fun _ h9 => h9) rfl dX2_readArguments_18 (fun x_8 bx_8 g => ?_)
  have kb_0 : bd 0 0 (0 : Int32) := ⟨by decide, by decide⟩
  refine lv_if_ne (tgt := 46) hx hb dX2_readArguments_21 (by decide) (fun c_9 => ?_) (fun c_9 => ?_)
  · have fc_9 := neq_f c_9
    refine lv_iconst (v := 0) hx hb dX2_readArguments_46 (by decide) ?_
    refine lv_istore_n (lv' := [(2, .int 0), (1, .int r_1), (0, .ref a0_)]) hx hb dX2_readArguments_47 rfl hl (by decide) rfl (fun ls hl => ?_)
    refine lv_aload_n hx hb dX2_readArguments_48 rfl (lv_at hl 2 rfl) ?_
    refine g_getk (C := RX2) (T := TX2) (N := 16) hx hb hts (mc_ inX2) hown hK g rfl 0 (by decide) rfl (hts _ (List.mem_cons_of_mem _ t_416)) (fun _ h9 => h9) 2 rfl dX2_readArguments_49 ?_
    have go_ := g
    refine g_calli (va_runV (As := []) (rest := []) ⟨hx, hb, hml, hown, hts⟩ (r_X8_kind_2 l dC dI L kd tys fr_3 H.size g.2.2.2.1 q0_ mq0_ kq0_ x_4 h_5 (g.fcts [1] rfl)) (cwV 0 hts (gV_ t_1118 t_1119 t_1120 t_184 t_1121) rfl rfl rfl (by decide +kernel) ⟨(Nat.le_of_ble_eq_true rfl), (Nat.le_of_ble_eq_true rfl)⟩) (pre3V g hK mq0_ kq0_ (by decide) (q := (RX8, TX8, 10)) rfl) rfl rfl hl.1 rfl (lv_room (Nat.le_of_ble_eq_true rfl)) dX2_readArguments_52 ⟨(Nat.le_of_ble_eq_true rfl), (Nat.le_of_ble_eq_true rfl)⟩) g hK (by decide) (by decide) (fx' := [(2, 14, a0_, .int x_8), (8, 6, q0_, .int x_4), (2, 0, a0_, .ref q0_), (2, 1, a0_, .ref q1_), (2, 2, a0_, .ref q2_), (2, 3, a0_, .ref q3_), (0, 0, q2_, .ref q0_), (0, 1, q2_, .ref q1_), (5, 0, q1_, .ref q6_), (5, 1, q1_, .ref q7_), (8, 8, q0_, .int y1_)]) rfl (fun r_10 fr_10 H locs hp hMr_10 g => ?_)
    obtain ⟨h_11, -⟩ := hp
    have hG_12 := eOK.frame hMr_10 go_.2.2.2.1 mq2_ kq2_ (by decide) (by decide) hG_7
    obtain rfl : r_10 = 0 := h_11
    refine lv_bipush (v := 41) hx hb dX2_readArguments_55 (by decide) ?_
    refine lv_icmp_eq (tgt := 64) hx hb dX2_readArguments_57 (by decide) (fun c_ => absurd c_ (by decide)) (fun c_ => ?_)
    refine lv_iconst (v := 1) hx hb dX2_readArguments_60 (by decide) ?_
    refine lv_goto (tgt := 65) hx hb dX2_readArguments_61 (by decide) ?_
    refine lv_istore_n (lv' := [(3, .int 1), (2, .int 0), (1, .int r_1), (0, .ref a0_)]) hx hb dX2_readArguments_65 rfl hl (by decide) rfl (fun ls hl => ?_)
    refine lv_iconst (v := 0) hx hb dX2_readArguments_66 (by decide) ?_
    refine lv_istore (lv' := [(4, .int 0), (3, .int 1), (2, .int 0), (1, .int r_1), (0, .ref a0_)]) hx hb dX2_readArguments_67 hl (by decide) rfl (fun ls hl => ?_)
    refine lv_iload hx hb dX2_readArguments_69 (lv_at hl 0 rfl) ?_
    refine lv_iconst (v := 3) hx hb dX2_readArguments_71 (by decide) ?_
    refine lv_icmp_gt (tgt := 162) hx hb dX2_readArguments_72 (by decide) (fun c_ => absurd c_ (by decide)) (fun c_ => ?_)
    refine lv_iload_n hx hb dX2_readArguments_75 rfl (lv_at hl 1 rfl) ?_
    refine lv_if_eq (tgt := 162) hx hb dX2_readArguments_76 (by decide) (fun c_ => absurd c_ (by decide)) (fun c_ => ?_)
    refine lv_aload_n hx hb dX2_readArguments_79 rfl (lv_at hl 4 rfl) ?_
    refine g_getk (C := RX2) (T := TX2) (N := 16) hx hb hts (mc_ inX2) hown hK g rfl 0 (by decide) rfl (hts _ (List.mem_cons_of_mem _ t_416)) (fun _ h9 => h9) 2 rfl dX2_readArguments_80 ?_
    refine g_getk (C := RX8) (T := TX8) (N := 10) hx hb hts (mc_ inX8) hown hK g rfl 8 (by decide) rfl (hts _ (List.mem_cons_of_mem _ t_294)) (fun _ h9 => h9) 10 rfl dX2_readArguments_83 ?_
    refine lv_if_ne (tgt := 162) hx hb dX2_readArguments_86 (by decide) (fun c_13 => ?_) (fun c_13 => ?_)
    · have fc_13 := neq_f c_13
      refine lv_aload_n hx hb dX2_readArguments_162 rfl (lv_at hl 4 rfl) ?_
      refine g_getk (C := RX2) (T := TX2) (N := 16) hx hb hts (mc_ inX2) hown hK g rfl 0 (by decide) rfl (hts _ (List.mem_cons_of_mem _ t_416)) (fun _ h9 => h9) 2 rfl dX2_readArguments_163 ?_
      have go_ := g
      refine g_calli (va_runV (As := []) (rest := []) ⟨hx, hb, hml, hown, hts⟩ (r_X8_place l dC dI L kd tys fr_10 H.size g.2.2.2.1 q0_ mq0_ kq0_) (cwV 0 hts (gV_ t_1110 t_1111 t_1112 t_184 t_1113) rfl rfl rfl (by decide +kernel) ⟨(Nat.le_of_ble_eq_true rfl), (Nat.le_of_ble_eq_true rfl)⟩) (pre3V g hK mq0_ kq0_ (by decide) (q := (RX8, TX8, 10)) rfl) rfl rfl hl.1 rfl (lv_room (Nat.le_of_ble_eq_true rfl)) dX2_readArguments_166 ⟨(Nat.le_of_ble_eq_true rfl), (Nat.le_of_ble_eq_true rfl)⟩) g hK (by decide) (by decide) (fx' := [(2, 14, a0_, .int x_8), (8, 6, q0_, .int x_4), (2, 0, a0_, .ref q0_), (2, 1, a0_, .ref q1_), (2, 2, a0_, .ref q2_), (2, 3, a0_, .ref q3_), (0, 0, q2_, .ref q0_), (0, 1, q2_, .ref q1_), (5, 0, q1_, .ref q6_), (5, 1, q1_, .ref q7_), (8, 8, q0_, .int y1_)]) rfl (fun r_14 fr_14 H locs hp hMr_14 g => ?_)
      have hG_15 := eOK.frame hMr_14 go_.2.2.2.1 mq2_ kq2_ (by decide) (by decide) hG_12
      refine lv_istore (lv' := [(4, .int r_14), (3, .int 1), (2, .int 0), (1, .int r_1), (0, .ref a0_)]) hx hb dX2_readArguments_169 hl (by decide) rfl (fun ls hl => ?_)
      refine lv_aload_n hx hb dX2_readArguments_171 rfl (lv_at hl 4 rfl) ?_
      refine g_getk (C := RX2) (T := TX2) (N := 16) hx hb hts (mc_ inX2) hown hK g rfl 0 (by decide) rfl (hts _ (List.mem_cons_of_mem _ t_416)) (fun _ h9 => h9) 2 rfl dX2_readArguments_172 ?_
      refine lv_bipush (v := 41) hx hb dX2_readArguments_175 (by decide) ?_
      have go_ := g
      refine g_callv (va_runV (As := [.int 41]) (rest := []) ⟨hx, hb, hml, hown, hts⟩ (r_X8_take_2 l dC dI L kd tys fr_14 H.size g.2.2.2.1 q0_ mq0_ kq0_ 41 x_4 h_5 y1_ by1_ (g.fcts [1, 10] rfl)) (cwV 1 hts (gV_ t_1098 t_1099 t_1100 t_184 t_1101) rfl rfl rfl (by decide +kernel) ⟨(Nat.le_of_ble_eq_true rfl), (Nat.le_of_ble_eq_true rfl)⟩) (pre3V g hK mq0_ kq0_ (by decide) (q := (RX8, TX8, 10)) rfl) rfl rfl hl.1 rfl (lv_room (Nat.le_of_ble_eq_true rfl)) dX2_readArguments_177 ⟨(Nat.le_of_ble_eq_true rfl), (Nat.le_of_ble_eq_true rfl)⟩) g hK (by decide) (by decide) (fx' := [(2, 14, a0_, .int x_8), (2, 0, a0_, .ref q0_), (2, 1, a0_, .ref q1_), (2, 2, a0_, .ref q2_), (2, 3, a0_, .ref q3_), (0, 0, q2_, .ref q0_), (0, 1, q2_, .ref q1_), (5, 0, q1_, .ref q6_), (5, 1, q1_, .ref q7_), (8, 8, q0_, .int y1_)]) rfl (fun fr_16 H locs hp hMr_16 g => ?_)
      obtain ⟨x_17, h_18, hF_19⟩ := hp
      have hG_20 := eOK.frame hMr_16 go_.2.2.2.1 mq2_ kq2_ (by decide) (by decide) hG_15
      have g := g.more hF_19
      refine lv_iload_n hx hb dX2_readArguments_180 rfl (lv_at hl 2 rfl) ?_
      refine lv_aload_n hx hb dX2_readArguments_181 rfl (lv_at hl 4 rfl) ?_
      refine g_getk (C := RX2) (T := TX2) (N := 16) hx hb hts (mc_ inX2) hown hK g rfl 14 (by decide) rfl (hts _ (List.mem_cons_of_mem _ t_430)) (fun _ h9 => h9) 1 rfl dX2_readArguments_182 ?_
      refine lv_icmp_ge (tgt := 199) hx hb dX2_readArguments_185 (by decide) (fun c_21 => ?_) (fun c_21 => ?_)
      · have fc_21 := le_f c_21
        have b_22 : bd (-2147483648) 0 x_8 := leL fc_21 (bdT x_8) kb_0 (by decide)
        refine lv_aload_n hx hb dX2_readArguments_199 rfl (lv_at hl 4 rfl) ?_
        refine g_getk (C := RX2) (T := TX2) (N := 16) hx hb hts (mc_ inX2) hown hK g rfl 3 (by decide) rfl (hts _ (List.mem_cons_of_mem _ t_419)) (fun _ h9 => h9) 5 rfl dX2_readArguments_200 ?_
        refine lv_aload_n hx hb dX2_readArguments_203 rfl (lv_at hl 4 rfl) ?_
        refine g_geti (C := RX2) (T := TX2) (N := 16) hx hb hts (mc_ inX2) hown hK g ma0_ ka0_ (by decide) rfl 12 (by decide) rfl (hts _ (List.mem_cons_of_mem _ t_428)) (fun _ h9 => h9) rfl dX2_readArguments_204 (fun x_23 bx_23 g => ?_)
        refine lv_aload_n hx hb dX2_readArguments_207 rfl (lv_at hl 4 rfl) ?_
        refine g_geti (C := RX2) (T := TX2) (N := 16) hx hb hts (mc_ inX2) hown hK g ma0_ ka0_ (by decide) rfl 13 (by decide) rfl (hts _ (List.mem_cons_of_mem _ t_429)) (fun _ h9 => h9) rfl dX2_readArguments_208 (fun x_24 bx_24 g => ?_)
        have go_ := g
        refine g_callv (va_runV (As := [.int x_23, .int x_24]) (rest := []) ⟨hx, hb, hml, hown, hts⟩ (r_X7_emit l dC dI L kd tys fr_16 H.size g.2.2.2.1 q3_ mq3_ kq3_ x_23 x_24) (cwV 2 hts (gV_ t_1301 t_1204 t_1205 t_191 t_1206) rfl rfl rfl (by decide +kernel) ⟨(Nat.le_of_ble_eq_true rfl), (Nat.le_of_ble_eq_true rfl)⟩) (pre3V g hK mq3_ kq3_ (by decide) (q := (RX7, TX7, 19)) rfl) rfl rfl hl.1 rfl (lv_room (Nat.le_of_ble_eq_true rfl)) dX2_readArguments_211 ⟨(Nat.le_of_ble_eq_true rfl), (Nat.le_of_ble_eq_true rfl)⟩) g hK (by decide) (by decide) (fx' := [(2, 13, a0_, .int x_24), (2, 12, a0_, .int x_23), (8, 6, q0_, .int x_17), (2, 14, a0_, .int x_8), (2, 0, a0_, .ref q0_), (2, 1, a0_, .ref q1_), (2, 2, a0_, .ref q2_), (2, 3, a0_, .ref q3_), (0, 0, q2_, .ref q0_), (0, 1, q2_, .ref q1_), (5, 0, q1_, .ref q6_), (5, 1, q1_, .ref q7_), (8, 8, q0_, .int y1_)]) rfl (fun fr_25 H locs hp hMr_25 g => ?_)
        obtain ⟨x_26, h_27, hF_28⟩ := hp
        have hG_29 := eOK.frame hMr_25 go_.2.2.2.1 mq2_ kq2_ (by decide) (by decide) hG_20
        have g := g.more hF_28
        refine lv_aload_n hx hb dX2_readArguments_214 rfl (lv_at hl 4 rfl) ?_
        refine g_getk (C := RX2) (T := TX2) (N := 16) hx hb hts (mc_ inX2) hown hK g rfl 3 (by decide) rfl (hts _ (List.mem_cons_of_mem _ t_419)) (fun _ h9 => h9) 8 rfl dX2_readArguments_215 ?_
        refine lv_bipush (v := 22) hx hb dX2_readArguments_218 (by decide) ?_
        refine lv_iconst (v := 0) hx hb dX2_readArguments_220 (by decide) ?_
        have go_ := g
        refine g_callv (va_runV (As := [.int 22, .int 0]) (rest := []) ⟨hx, hb, hml, hown, hts⟩ (r_X7_emit l dC dI L kd tys fr_25 H.size g.2.2.2.1 q3_ mq3_ kq3_ 22 0) (cwV 2 hts (gV_ t_1301 t_1204 t_1205 t_191 t_1206) rfl rfl rfl (by decide +kernel) ⟨(Nat.le_of_ble_eq_true rfl), (Nat.le_of_ble_eq_true rfl)⟩) (pre3V g hK mq3_ kq3_ (by decide) (q := (RX7, TX7, 19)) rfl) rfl rfl hl.1 rfl (lv_room (Nat.le_of_ble_eq_true rfl)) dX2_readArguments_221 ⟨(Nat.le_of_ble_eq_true rfl), (Nat.le_of_ble_eq_true rfl)⟩) g hK (by decide) (by decide) (fx' := [(2, 13, a0_, .int x_24), (2, 12, a0_, .int x_23), (8, 6, q0_, .int x_17), (2, 14, a0_, .int x_8), (2, 0, a0_, .ref q0_), (2, 1, a0_, .ref q1_), (2, 2, a0_, .ref q2_), (2, 3, a0_, .ref q3_), (0, 0, q2_, .ref q0_), (0, 1, q2_, .ref q1_), (5, 0, q1_, .ref q6_), (5, 1, q1_, .ref q7_), (8, 8, q0_, .int y1_)]) rfl (fun fr_30 H locs hp hMr_30 g => ?_)
        obtain ⟨x_31, h_32, hF_33⟩ := hp
        have hG_34 := eOK.frame hMr_30 go_.2.2.2.1 mq2_ kq2_ (by decide) (by decide) hG_29
        have g := g.more hF_33
        refine lv_aload_n hx hb dX2_readArguments_224 rfl (lv_at hl 4 rfl) ?_
        refine g_getk (C := RX2) (T := TX2) (N := 16) hx hb hts (mc_ inX2) hown hK g rfl 0 (by decide) rfl (hts _ (List.mem_cons_of_mem _ t_416)) (fun _ h9 => h9) 5 rfl dX2_readArguments_225 ?_
        refine lv_bipush (v := 59) hx hb dX2_readArguments_228 (by decide) ?_
        have go_ := g
        refine g_callv (va_runV (As := [.int 59]) (rest := []) ⟨hx, hb, hml, hown, hts⟩ (r_X8_take_2 l dC dI L kd tys fr_30 H.size g.2.2.2.1 q0_ mq0_ kq0_ 59 x_17 h_18 y1_ by1_ (g.fcts [3, 13] rfl)) (cwV 1 hts (gV_ t_1098 t_1099 t_1100 t_184 t_1101) rfl rfl rfl (by decide +kernel) ⟨(Nat.le_of_ble_eq_true rfl), (Nat.le_of_ble_eq_true rfl)⟩) (pre3V g hK mq0_ kq0_ (by decide) (q := (RX8, TX8, 10)) rfl) rfl rfl hl.1 rfl (lv_room (Nat.le_of_ble_eq_true rfl)) dX2_readArguments_230 ⟨(Nat.le_of_ble_eq_true rfl), (Nat.le_of_ble_eq_true rfl)⟩) g hK (by decide) (by decide) (fx' := [(7, 6, q3_, .int x_31), (2, 13, a0_, .int x_24), (2, 12, a0_, .int x_23), (2, 14, a0_, .int x_8), (2, 0, a0_, .ref q0_), (2, 1, a0_, .ref q1_), (2, 2, a0_, .ref q2_), (2, 3, a0_, .ref q3_), (0, 0, q2_, .ref q0_), (0, 1, q2_, .ref q1_), (5, 0, q1_, .ref q6_), (5, 1, q1_, .ref q7_), (8, 8, q0_, .int y1_)]) rfl (fun fr_35 H locs hp hMr_35 g => ?_)
        obtain ⟨x_36, h_37, hF_38⟩ := hp
        have hG_39 := eOK.frame hMr_35 go_.2.2.2.1 mq2_ kq2_ (by decide) (by decide) hG_34
        have g := g.more hF_38
        subst hQ
        exact W.vret hx hb hr (fun t ht hW => ⟨⟨_, rfl, ⟨x_36, h_37, x_31, h_32, (g.fcts [0, 1] rfl)⟩, q3_of g hK ht hW⟩, g.2.2.1.F ht⟩) g.2.2.1.2.2 dX2_readArguments_233
      · have fc_21 := nle_f c_21
        have b_40 : bd 1 2147483647 x_8 := ltR fc_21 kb_0 (bdT x_8) (by decide)
        refine lv_aload_n hx hb dX2_readArguments_188 rfl (lv_at hl 4 rfl) ?_
        refine g_getk (C := RX2) (T := TX2) (N := 16) hx hb hts (mc_ inX2) hown hK g rfl 0 (by decide) rfl (hts _ (List.mem_cons_of_mem _ t_416)) (fun _ h9 => h9) 2 rfl dX2_readArguments_189 ?_
        refine lv_bipush (v := 6) hx hb dX2_readArguments_192 (by decide) ?_
        refine lv_iload hx hb dX2_readArguments_194 (lv_at hl 0 rfl) ?_
        have kb_6 : bd 6 6 (6 : Int32) := ⟨by decide, by decide⟩
        have go_ := g
        refine g_callv (va_runV (As := [.int 6, .int r_14]) (rest := []) ⟨hx, hb, hml, hown, hts⟩ (r_X8_fail_2 l dC dI L kd tys fr_16 H.size g.2.2.2.1 q0_ mq0_ kq0_ 6 (bd_sub kb_6 (by decide)) r_14 y1_ by1_ (g.fcts [10] rfl)) (cwV 2 hts (gV_ t_1122 t_1107 t_1108 t_184 t_1109) rfl rfl rfl (by decide +kernel) ⟨(Nat.le_of_ble_eq_true rfl), (Nat.le_of_ble_eq_true rfl)⟩) (pre3V g hK mq0_ kq0_ (by decide) (q := (RX8, TX8, 10)) rfl) rfl rfl hl.1 rfl (lv_room (Nat.le_of_ble_eq_true rfl)) dX2_readArguments_196 ⟨(Nat.le_of_ble_eq_true rfl), (Nat.le_of_ble_eq_true rfl)⟩) g hK (by decide) (by decide) (fx' := [(2, 14, a0_, .int x_8), (2, 0, a0_, .ref q0_), (2, 1, a0_, .ref q1_), (2, 2, a0_, .ref q2_), (2, 3, a0_, .ref q3_), (0, 0, q2_, .ref q0_), (0, 1, q2_, .ref q1_), (5, 0, q1_, .ref q6_), (5, 1, q1_, .ref q7_), (8, 8, q0_, .int y1_)]) rfl (fun fr_41 H locs hp hMr_41 g => ?_)
        have hF_42 := hp
        have hG_43 := eOK.frame hMr_41 go_.2.2.2.1 mq2_ kq2_ (by decide) (by decide) hG_20
        have g := g.more hF_42
        refine lv_aload_n hx hb dX2_readArguments_199 rfl (lv_at hl 4 rfl) ?_
        refine g_getk (C := RX2) (T := TX2) (N := 16) hx hb hts (mc_ inX2) hown hK g rfl 3 (by decide) rfl (hts _ (List.mem_cons_of_mem _ t_419)) (fun _ h9 => h9) 5 rfl dX2_readArguments_200 ?_
        refine lv_aload_n hx hb dX2_readArguments_203 rfl (lv_at hl 4 rfl) ?_
        refine g_geti (C := RX2) (T := TX2) (N := 16) hx hb hts (mc_ inX2) hown hK g ma0_ ka0_ (by decide) rfl 12 (by decide) rfl (hts _ (List.mem_cons_of_mem _ t_428)) (fun _ h9 => h9) rfl dX2_readArguments_204 (fun x_44 bx_44 g => ?_)
        refine lv_aload_n hx hb dX2_readArguments_207 rfl (lv_at hl 4 rfl) ?_
        refine g_geti (C := RX2) (T := TX2) (N := 16) hx hb hts (mc_ inX2) hown hK g ma0_ ka0_ (by decide) rfl 13 (by decide) rfl (hts _ (List.mem_cons_of_mem _ t_429)) (fun _ h9 => h9) rfl dX2_readArguments_208 (fun x_45 bx_45 g => ?_)
        have go_ := g
        refine g_callv (va_runV (As := [.int x_44, .int x_45]) (rest := []) ⟨hx, hb, hml, hown, hts⟩ (r_X7_emit l dC dI L kd tys fr_41 H.size g.2.2.2.1 q3_ mq3_ kq3_ x_44 x_45) (cwV 2 hts (gV_ t_1301 t_1204 t_1205 t_191 t_1206) rfl rfl rfl (by decide +kernel) ⟨(Nat.le_of_ble_eq_true rfl), (Nat.le_of_ble_eq_true rfl)⟩) (pre3V g hK mq3_ kq3_ (by decide) (q := (RX7, TX7, 19)) rfl) rfl rfl hl.1 rfl (lv_room (Nat.le_of_ble_eq_true rfl)) dX2_readArguments_211 ⟨(Nat.le_of_ble_eq_true rfl), (Nat.le_of_ble_eq_true rfl)⟩) g hK (by decide) (by decide) (fx' := [(2, 13, a0_, .int x_45), (2, 12, a0_, .int x_44), (8, 6, q0_, .int 1201), (2, 14, a0_, .int x_8), (2, 0, a0_, .ref q0_), (2, 1, a0_, .ref q1_), (2, 2, a0_, .ref q2_), (2, 3, a0_, .ref q3_), (0, 0, q2_, .ref q0_), (0, 1, q2_, .ref q1_), (5, 0, q1_, .ref q6_), (5, 1, q1_, .ref q7_), (8, 8, q0_, .int y1_)]) rfl (fun fr_46 H locs hp hMr_46 g => ?_)
        obtain ⟨x_47, h_48, hF_49⟩ := hp
        have hG_50 := eOK.frame hMr_46 go_.2.2.2.1 mq2_ kq2_ (by decide) (by decide) hG_43
        have g := g.more hF_49
        refine lv_aload_n hx hb dX2_readArguments_214 rfl (lv_at hl 4 rfl) ?_
        refine g_getk (C := RX2) (T := TX2) (N := 16) hx hb hts (mc_ inX2) hown hK g rfl 3 (by decide) rfl (hts _ (List.mem_cons_of_mem _ t_419)) (fun _ h9 => h9) 8 rfl dX2_readArguments_215 ?_
        refine lv_bipush (v := 22) hx hb dX2_readArguments_218 (by decide) ?_
        refine lv_iconst (v := 0) hx hb dX2_readArguments_220 (by decide) ?_
        have go_ := g
        refine g_callv (va_runV (As := [.int 22, .int 0]) (rest := []) ⟨hx, hb, hml, hown, hts⟩ (r_X7_emit l dC dI L kd tys fr_46 H.size g.2.2.2.1 q3_ mq3_ kq3_ 22 0) (cwV 2 hts (gV_ t_1301 t_1204 t_1205 t_191 t_1206) rfl rfl rfl (by decide +kernel) ⟨(Nat.le_of_ble_eq_true rfl), (Nat.le_of_ble_eq_true rfl)⟩) (pre3V g hK mq3_ kq3_ (by decide) (q := (RX7, TX7, 19)) rfl) rfl rfl hl.1 rfl (lv_room (Nat.le_of_ble_eq_true rfl)) dX2_readArguments_221 ⟨(Nat.le_of_ble_eq_true rfl), (Nat.le_of_ble_eq_true rfl)⟩) g hK (by decide) (by decide) (fx' := [(2, 13, a0_, .int x_45), (2, 12, a0_, .int x_44), (8, 6, q0_, .int 1201), (2, 14, a0_, .int x_8), (2, 0, a0_, .ref q0_), (2, 1, a0_, .ref q1_), (2, 2, a0_, .ref q2_), (2, 3, a0_, .ref q3_), (0, 0, q2_, .ref q0_), (0, 1, q2_, .ref q1_), (5, 0, q1_, .ref q6_), (5, 1, q1_, .ref q7_), (8, 8, q0_, .int y1_)]) rfl (fun fr_51 H locs hp hMr_51 g => ?_)
        obtain ⟨x_52, h_53, hF_54⟩ := hp
        have hG_55 := eOK.frame hMr_51 go_.2.2.2.1 mq2_ kq2_ (by decide) (by decide) hG_50
        have g := g.more hF_54
        refine lv_aload_n hx hb dX2_readArguments_224 rfl (lv_at hl 4 rfl) ?_
        refine g_getk (C := RX2) (T := TX2) (N := 16) hx hb hts (mc_ inX2) hown hK g rfl 0 (by decide) rfl (hts _ (List.mem_cons_of_mem _ t_416)) (fun _ h9 => h9) 5 rfl dX2_readArguments_225 ?_
        refine lv_bipush (v := 59) hx hb dX2_readArguments_228 (by decide) ?_
        have kb_1201 : bd 1201 1201 (1201 : Int32) := ⟨by decide, by decide⟩
        have go_ := g
        refine g_callv (va_runV (As := [.int 59]) (rest := []) ⟨hx, hb, hml, hown, hts⟩ (r_X8_take_2 l dC dI L kd tys fr_51 H.size g.2.2.2.1 q0_ mq0_ kq0_ 59 1201 kb_1201 y1_ by1_ (g.fcts [3, 13] rfl)) (cwV 1 hts (gV_ t_1098 t_1099 t_1100 t_184 t_1101) rfl rfl rfl (by decide +kernel) ⟨(Nat.le_of_ble_eq_true rfl), (Nat.le_of_ble_eq_true rfl)⟩) (pre3V g hK mq0_ kq0_ (by decide) (q := (RX8, TX8, 10)) rfl) rfl rfl hl.1 rfl (lv_room (Nat.le_of_ble_eq_true rfl)) dX2_readArguments_230 ⟨(Nat.le_of_ble_eq_true rfl), (Nat.le_of_ble_eq_true rfl)⟩) g hK (by decide) (by decide) (fx' := [(7, 6, q3_, .int x_52), (2, 13, a0_, .int x_45), (2, 12, a0_, .int x_44), (2, 14, a0_, .int x_8), (2, 0, a0_, .ref q0_), (2, 1, a0_, .ref q1_), (2, 2, a0_, .ref q2_), (2, 3, a0_, .ref q3_), (0, 0, q2_, .ref q0_), (0, 1, q2_, .ref q1_), (5, 0, q1_, .ref q6_), (5, 1, q1_, .ref q7_), (8, 8, q0_, .int y1_)]) rfl (fun fr_56 H locs hp hMr_56 g => ?_)
        obtain ⟨x_57, h_58, hF_59⟩ := hp
        have hG_60 := eOK.frame hMr_56 go_.2.2.2.1 mq2_ kq2_ (by decide) (by decide) hG_55
        have g := g.more hF_59
        subst hQ
        exact W.vret hx hb hr (fun t ht hW => ⟨⟨_, rfl, ⟨x_57, h_58, x_52, h_53, (g.fcts [0, 1] rfl)⟩, q3_of g hK ht hW⟩, g.2.2.1.F ht⟩) g.2.2.1.2.2 dX2_readArguments_233
    · have fc_13 := eq_f c_13
      have b_61 : bd 1 0 y1_ := eqX fc_13 by1_ kb_0 (by decide)
      exact bd_no b_61 (by decide)
  · have fc_9 := eq_f c_9
    have b_62 : bd 0 0 x_8 := eqX fc_9 (bdT x_8) kb_0 (by decide)
    refine lv_aload_n hx hb dX2_readArguments_24 rfl (lv_at hl 1 rfl) ?_
    refine g_getk (C := RX2) (T := TX2) (N := 16) hx hb hts (mc_ inX2) hown hK g rfl 0 (by decide) rfl (hts _ (List.mem_cons_of_mem _ t_416)) (fun _ h9 => h9) 2 rfl dX2_readArguments_25 ?_
    have go_ := g
    refine g_calli (va_runV (As := []) (rest := []) ⟨hx, hb, hml, hown, hts⟩ (r_X8_kind_2 l dC dI L kd tys fr_3 H.size g.2.2.2.1 q0_ mq0_ kq0_ x_4 h_5 (g.fcts [1] rfl)) (cwV 0 hts (gV_ t_1118 t_1119 t_1120 t_184 t_1121) rfl rfl rfl (by decide +kernel) ⟨(Nat.le_of_ble_eq_true rfl), (Nat.le_of_ble_eq_true rfl)⟩) (pre3V g hK mq0_ kq0_ (by decide) (q := (RX8, TX8, 10)) rfl) rfl rfl hl.1 rfl (lv_room (Nat.le_of_ble_eq_true rfl)) dX2_readArguments_28 ⟨(Nat.le_of_ble_eq_true rfl), (Nat.le_of_ble_eq_true rfl)⟩) g hK (by decide) (by decide) (fx' := [(2, 14, a0_, .int x_8), (8, 6, q0_, .int x_4), (2, 0, a0_, .ref q0_), (2, 1, a0_, .ref q1_), (2, 2, a0_, .ref q2_), (2, 3, a0_, .ref q3_), (0, 0, q2_, .ref q0_), (0, 1, q2_, .ref q1_), (5, 0, q1_, .ref q6_), (5, 1, q1_, .ref q7_), (8, 8, q0_, .int y1_)]) rfl (fun r_63 fr_63 H locs hp hMr_63 g => ?_)
    obtain ⟨h_64, -⟩ := hp
    have hG_65 := eOK.frame hMr_63 go_.2.2.2.1 mq2_ kq2_ (by decide) (by decide) hG_7
    obtain rfl : r_63 = 0 := h_64
    refine lv_bipush (v := 41) hx hb dX2_readArguments_31 (by decide) ?_
    refine lv_icmp_eq (tgt := 46) hx hb dX2_readArguments_33 (by decide) (fun c_ => absurd c_ (by decide)) (fun c_ => ?_)
    refine lv_aload_n hx hb dX2_readArguments_36 rfl (lv_at hl 1 rfl) ?_
    refine g_getk (C := RX2) (T := TX2) (N := 16) hx hb hts (mc_ inX2) hown hK g rfl 0 (by decide) rfl (hts _ (List.mem_cons_of_mem _ t_416)) (fun _ h9 => h9) 2 rfl dX2_readArguments_37 ?_
    refine lv_bipush (v := 6) hx hb dX2_readArguments_40 (by decide) ?_
    refine lv_iload_n hx hb dX2_readArguments_42 rfl (lv_at hl 0 rfl) ?_
    have kb_6 : bd 6 6 (6 : Int32) := ⟨by decide, by decide⟩
    have go_ := g
    refine g_callv (va_runV (As := [.int 6, .int r_1]) (rest := []) ⟨hx, hb, hml, hown, hts⟩ (r_X8_fail_2 l dC dI L kd tys fr_63 H.size g.2.2.2.1 q0_ mq0_ kq0_ 6 (bd_sub kb_6 (by decide)) r_1 y1_ by1_ (g.fcts [10] rfl)) (cwV 2 hts (gV_ t_1122 t_1107 t_1108 t_184 t_1109) rfl rfl rfl (by decide +kernel) ⟨(Nat.le_of_ble_eq_true rfl), (Nat.le_of_ble_eq_true rfl)⟩) (pre3V g hK mq0_ kq0_ (by decide) (q := (RX8, TX8, 10)) rfl) rfl rfl hl.1 rfl (lv_room (Nat.le_of_ble_eq_true rfl)) dX2_readArguments_43 ⟨(Nat.le_of_ble_eq_true rfl), (Nat.le_of_ble_eq_true rfl)⟩) g hK (by decide) (by decide) (fx' := [(2, 14, a0_, .int x_8), (2, 0, a0_, .ref q0_), (2, 1, a0_, .ref q1_), (2, 2, a0_, .ref q2_), (2, 3, a0_, .ref q3_), (0, 0, q2_, .ref q0_), (0, 1, q2_, .ref q1_), (5, 0, q1_, .ref q6_), (5, 1, q1_, .ref q7_), (8, 8, q0_, .int y1_)]) rfl (fun fr_66 H locs hp hMr_66 g => ?_)
    have hF_67 := hp
    have hG_68 := eOK.frame hMr_66 go_.2.2.2.1 mq2_ kq2_ (by decide) (by decide) hG_65
    have g := g.more hF_67
    refine lv_iconst (v := 0) hx hb dX2_readArguments_46 (by decide) ?_
    refine lv_istore_n (lv' := [(2, .int 0), (1, .int r_1), (0, .ref a0_)]) hx hb dX2_readArguments_47 rfl hl (by decide) rfl (fun ls hl => ?_)
    refine lv_aload_n hx hb dX2_readArguments_48 rfl (lv_at hl 2 rfl) ?_
    refine g_getk (C := RX2) (T := TX2) (N := 16) hx hb hts (mc_ inX2) hown hK g rfl 0 (by decide) rfl (hts _ (List.mem_cons_of_mem _ t_416)) (fun _ h9 => h9) 2 rfl dX2_readArguments_49 ?_
    have kb_1201 : bd 1201 1201 (1201 : Int32) := ⟨by decide, by decide⟩
    have go_ := g
    refine g_calli (va_runV (As := []) (rest := []) ⟨hx, hb, hml, hown, hts⟩ (r_X8_kind_2 l dC dI L kd tys fr_66 H.size g.2.2.2.1 q0_ mq0_ kq0_ 1201 kb_1201 (g.fcts [0] rfl)) (cwV 0 hts (gV_ t_1118 t_1119 t_1120 t_184 t_1121) rfl rfl rfl (by decide +kernel) ⟨(Nat.le_of_ble_eq_true rfl), (Nat.le_of_ble_eq_true rfl)⟩) (pre3V g hK mq0_ kq0_ (by decide) (q := (RX8, TX8, 10)) rfl) rfl rfl hl.1 rfl (lv_room (Nat.le_of_ble_eq_true rfl)) dX2_readArguments_52 ⟨(Nat.le_of_ble_eq_true rfl), (Nat.le_of_ble_eq_true rfl)⟩) g hK (by decide) (by decide) (fx' := [(8, 6, q0_, .int 1201), (2, 14, a0_, .int x_8), (2, 0, a0_, .ref q0_), (2, 1, a0_, .ref q1_), (2, 2, a0_, .ref q2_), (2, 3, a0_, .ref q3_), (0, 0, q2_, .ref q0_), (0, 1, q2_, .ref q1_), (5, 0, q1_, .ref q6_), (5, 1, q1_, .ref q7_), (8, 8, q0_, .int y1_)]) rfl (fun r_69 fr_69 H locs hp hMr_69 g => ?_)
    obtain ⟨h_70, -⟩ := hp
    have hG_71 := eOK.frame hMr_69 go_.2.2.2.1 mq2_ kq2_ (by decide) (by decide) hG_68
    obtain rfl : r_69 = 0 := h_70
    refine lv_bipush (v := 41) hx hb dX2_readArguments_55 (by decide) ?_
    refine lv_icmp_eq (tgt := 64) hx hb dX2_readArguments_57 (by decide) (fun c_ => absurd c_ (by decide)) (fun c_ => ?_)
    refine lv_iconst (v := 1) hx hb dX2_readArguments_60 (by decide) ?_
    refine lv_goto (tgt := 65) hx hb dX2_readArguments_61 (by decide) ?_
    refine lv_istore_n (lv' := [(3, .int 1), (2, .int 0), (1, .int r_1), (0, .ref a0_)]) hx hb dX2_readArguments_65 rfl hl (by decide) rfl (fun ls hl => ?_)
    refine lv_iconst (v := 0) hx hb dX2_readArguments_66 (by decide) ?_
    refine lv_istore (lv' := [(4, .int 0), (3, .int 1), (2, .int 0), (1, .int r_1), (0, .ref a0_)]) hx hb dX2_readArguments_67 hl (by decide) rfl (fun ls hl => ?_)
    refine lv_iload hx hb dX2_readArguments_69 (lv_at hl 0 rfl) ?_
    refine lv_iconst (v := 3) hx hb dX2_readArguments_71 (by decide) ?_
    refine lv_icmp_gt (tgt := 162) hx hb dX2_readArguments_72 (by decide) (fun c_ => absurd c_ (by decide)) (fun c_ => ?_)
    refine lv_iload_n hx hb dX2_readArguments_75 rfl (lv_at hl 1 rfl) ?_
    refine lv_if_eq (tgt := 162) hx hb dX2_readArguments_76 (by decide) (fun c_ => absurd c_ (by decide)) (fun c_ => ?_)
    refine lv_aload_n hx hb dX2_readArguments_79 rfl (lv_at hl 4 rfl) ?_
    refine g_getk (C := RX2) (T := TX2) (N := 16) hx hb hts (mc_ inX2) hown hK g rfl 0 (by decide) rfl (hts _ (List.mem_cons_of_mem _ t_416)) (fun _ h9 => h9) 2 rfl dX2_readArguments_80 ?_
    refine g_getk (C := RX8) (T := TX8) (N := 10) hx hb hts (mc_ inX8) hown hK g rfl 8 (by decide) rfl (hts _ (List.mem_cons_of_mem _ t_294)) (fun _ h9 => h9) 10 rfl dX2_readArguments_83 ?_
    refine lv_if_ne (tgt := 162) hx hb dX2_readArguments_86 (by decide) (fun c_72 => ?_) (fun c_72 => ?_)
    · have fc_72 := neq_f c_72
      refine lv_aload_n hx hb dX2_readArguments_162 rfl (lv_at hl 4 rfl) ?_
      refine g_getk (C := RX2) (T := TX2) (N := 16) hx hb hts (mc_ inX2) hown hK g rfl 0 (by decide) rfl (hts _ (List.mem_cons_of_mem _ t_416)) (fun _ h9 => h9) 2 rfl dX2_readArguments_163 ?_
      have go_ := g
      refine g_calli (va_runV (As := []) (rest := []) ⟨hx, hb, hml, hown, hts⟩ (r_X8_place l dC dI L kd tys fr_69 H.size g.2.2.2.1 q0_ mq0_ kq0_) (cwV 0 hts (gV_ t_1110 t_1111 t_1112 t_184 t_1113) rfl rfl rfl (by decide +kernel) ⟨(Nat.le_of_ble_eq_true rfl), (Nat.le_of_ble_eq_true rfl)⟩) (pre3V g hK mq0_ kq0_ (by decide) (q := (RX8, TX8, 10)) rfl) rfl rfl hl.1 rfl (lv_room (Nat.le_of_ble_eq_true rfl)) dX2_readArguments_166 ⟨(Nat.le_of_ble_eq_true rfl), (Nat.le_of_ble_eq_true rfl)⟩) g hK (by decide) (by decide) (fx' := [(8, 6, q0_, .int 1201), (2, 14, a0_, .int x_8), (2, 0, a0_, .ref q0_), (2, 1, a0_, .ref q1_), (2, 2, a0_, .ref q2_), (2, 3, a0_, .ref q3_), (0, 0, q2_, .ref q0_), (0, 1, q2_, .ref q1_), (5, 0, q1_, .ref q6_), (5, 1, q1_, .ref q7_), (8, 8, q0_, .int y1_)]) rfl (fun r_73 fr_73 H locs hp hMr_73 g => ?_)
      have hG_74 := eOK.frame hMr_73 go_.2.2.2.1 mq2_ kq2_ (by decide) (by decide) hG_71
      refine lv_istore (lv' := [(4, .int r_73), (3, .int 1), (2, .int 0), (1, .int r_1), (0, .ref a0_)]) hx hb dX2_readArguments_169 hl (by decide) rfl (fun ls hl => ?_)
      refine lv_aload_n hx hb dX2_readArguments_171 rfl (lv_at hl 4 rfl) ?_
      refine g_getk (C := RX2) (T := TX2) (N := 16) hx hb hts (mc_ inX2) hown hK g rfl 0 (by decide) rfl (hts _ (List.mem_cons_of_mem _ t_416)) (fun _ h9 => h9) 2 rfl dX2_readArguments_172 ?_
      refine lv_bipush (v := 41) hx hb dX2_readArguments_175 (by decide) ?_
      have go_ := g
      refine g_callv (va_runV (As := [.int 41]) (rest := []) ⟨hx, hb, hml, hown, hts⟩ (r_X8_take_2 l dC dI L kd tys fr_73 H.size g.2.2.2.1 q0_ mq0_ kq0_ 41 1201 kb_1201 y1_ by1_ (g.fcts [0, 10] rfl)) (cwV 1 hts (gV_ t_1098 t_1099 t_1100 t_184 t_1101) rfl rfl rfl (by decide +kernel) ⟨(Nat.le_of_ble_eq_true rfl), (Nat.le_of_ble_eq_true rfl)⟩) (pre3V g hK mq0_ kq0_ (by decide) (q := (RX8, TX8, 10)) rfl) rfl rfl hl.1 rfl (lv_room (Nat.le_of_ble_eq_true rfl)) dX2_readArguments_177 ⟨(Nat.le_of_ble_eq_true rfl), (Nat.le_of_ble_eq_true rfl)⟩) g hK (by decide) (by decide) (fx' := [(2, 14, a0_, .int x_8), (2, 0, a0_, .ref q0_), (2, 1, a0_, .ref q1_), (2, 2, a0_, .ref q2_), (2, 3, a0_, .ref q3_), (0, 0, q2_, .ref q0_), (0, 1, q2_, .ref q1_), (5, 0, q1_, .ref q6_), (5, 1, q1_, .ref q7_), (8, 8, q0_, .int y1_)]) rfl (fun fr_75 H locs hp hMr_75 g => ?_)
      obtain ⟨x_76, h_77, hF_78⟩ := hp
      have hG_79 := eOK.frame hMr_75 go_.2.2.2.1 mq2_ kq2_ (by decide) (by decide) hG_74
      have g := g.more hF_78
      refine lv_iload_n hx hb dX2_readArguments_180 rfl (lv_at hl 2 rfl) ?_
      refine lv_aload_n hx hb dX2_readArguments_181 rfl (lv_at hl 4 rfl) ?_
      refine g_getk (C := RX2) (T := TX2) (N := 16) hx hb hts (mc_ inX2) hown hK g rfl 14 (by decide) rfl (hts _ (List.mem_cons_of_mem _ t_430)) (fun _ h9 => h9) 1 rfl dX2_readArguments_182 ?_
      refine lv_icmp_ge (tgt := 199) hx hb dX2_readArguments_185 (by decide) (fun c_80 => ?_) (fun c_80 => ?_)
      · have fc_80 := le_f c_80
        refine lv_aload_n hx hb dX2_readArguments_199 rfl (lv_at hl 4 rfl) ?_
        refine g_getk (C := RX2) (T := TX2) (N := 16) hx hb hts (mc_ inX2) hown hK g rfl 3 (by decide) rfl (hts _ (List.mem_cons_of_mem _ t_419)) (fun _ h9 => h9) 5 rfl dX2_readArguments_200 ?_
        refine lv_aload_n hx hb dX2_readArguments_203 rfl (lv_at hl 4 rfl) ?_
        refine g_geti (C := RX2) (T := TX2) (N := 16) hx hb hts (mc_ inX2) hown hK g ma0_ ka0_ (by decide) rfl 12 (by decide) rfl (hts _ (List.mem_cons_of_mem _ t_428)) (fun _ h9 => h9) rfl dX2_readArguments_204 (fun x_81 bx_81 g => ?_)
        refine lv_aload_n hx hb dX2_readArguments_207 rfl (lv_at hl 4 rfl) ?_
        refine g_geti (C := RX2) (T := TX2) (N := 16) hx hb hts (mc_ inX2) hown hK g ma0_ ka0_ (by decide) rfl 13 (by decide) rfl (hts _ (List.mem_cons_of_mem _ t_429)) (fun _ h9 => h9) rfl dX2_readArguments_208 (fun x_82 bx_82 g => ?_)
        have go_ := g
        refine g_callv (va_runV (As := [.int x_81, .int x_82]) (rest := []) ⟨hx, hb, hml, hown, hts⟩ (r_X7_emit l dC dI L kd tys fr_75 H.size g.2.2.2.1 q3_ mq3_ kq3_ x_81 x_82) (cwV 2 hts (gV_ t_1301 t_1204 t_1205 t_191 t_1206) rfl rfl rfl (by decide +kernel) ⟨(Nat.le_of_ble_eq_true rfl), (Nat.le_of_ble_eq_true rfl)⟩) (pre3V g hK mq3_ kq3_ (by decide) (q := (RX7, TX7, 19)) rfl) rfl rfl hl.1 rfl (lv_room (Nat.le_of_ble_eq_true rfl)) dX2_readArguments_211 ⟨(Nat.le_of_ble_eq_true rfl), (Nat.le_of_ble_eq_true rfl)⟩) g hK (by decide) (by decide) (fx' := [(2, 13, a0_, .int x_82), (2, 12, a0_, .int x_81), (8, 6, q0_, .int x_76), (2, 14, a0_, .int x_8), (2, 0, a0_, .ref q0_), (2, 1, a0_, .ref q1_), (2, 2, a0_, .ref q2_), (2, 3, a0_, .ref q3_), (0, 0, q2_, .ref q0_), (0, 1, q2_, .ref q1_), (5, 0, q1_, .ref q6_), (5, 1, q1_, .ref q7_), (8, 8, q0_, .int y1_)]) rfl (fun fr_83 H locs hp hMr_83 g => ?_)
        obtain ⟨x_84, h_85, hF_86⟩ := hp
        have hG_87 := eOK.frame hMr_83 go_.2.2.2.1 mq2_ kq2_ (by decide) (by decide) hG_79
        have g := g.more hF_86
        refine lv_aload_n hx hb dX2_readArguments_214 rfl (lv_at hl 4 rfl) ?_
        refine g_getk (C := RX2) (T := TX2) (N := 16) hx hb hts (mc_ inX2) hown hK g rfl 3 (by decide) rfl (hts _ (List.mem_cons_of_mem _ t_419)) (fun _ h9 => h9) 8 rfl dX2_readArguments_215 ?_
        refine lv_bipush (v := 22) hx hb dX2_readArguments_218 (by decide) ?_
        refine lv_iconst (v := 0) hx hb dX2_readArguments_220 (by decide) ?_
        have go_ := g
        refine g_callv (va_runV (As := [.int 22, .int 0]) (rest := []) ⟨hx, hb, hml, hown, hts⟩ (r_X7_emit l dC dI L kd tys fr_83 H.size g.2.2.2.1 q3_ mq3_ kq3_ 22 0) (cwV 2 hts (gV_ t_1301 t_1204 t_1205 t_191 t_1206) rfl rfl rfl (by decide +kernel) ⟨(Nat.le_of_ble_eq_true rfl), (Nat.le_of_ble_eq_true rfl)⟩) (pre3V g hK mq3_ kq3_ (by decide) (q := (RX7, TX7, 19)) rfl) rfl rfl hl.1 rfl (lv_room (Nat.le_of_ble_eq_true rfl)) dX2_readArguments_221 ⟨(Nat.le_of_ble_eq_true rfl), (Nat.le_of_ble_eq_true rfl)⟩) g hK (by decide) (by decide) (fx' := [(2, 13, a0_, .int x_82), (2, 12, a0_, .int x_81), (8, 6, q0_, .int x_76), (2, 14, a0_, .int x_8), (2, 0, a0_, .ref q0_), (2, 1, a0_, .ref q1_), (2, 2, a0_, .ref q2_), (2, 3, a0_, .ref q3_), (0, 0, q2_, .ref q0_), (0, 1, q2_, .ref q1_), (5, 0, q1_, .ref q6_), (5, 1, q1_, .ref q7_), (8, 8, q0_, .int y1_)]) rfl (fun fr_88 H locs hp hMr_88 g => ?_)
        obtain ⟨x_89, h_90, hF_91⟩ := hp
        have hG_92 := eOK.frame hMr_88 go_.2.2.2.1 mq2_ kq2_ (by decide) (by decide) hG_87
        have g := g.more hF_91
        refine lv_aload_n hx hb dX2_readArguments_224 rfl (lv_at hl 4 rfl) ?_
        refine g_getk (C := RX2) (T := TX2) (N := 16) hx hb hts (mc_ inX2) hown hK g rfl 0 (by decide) rfl (hts _ (List.mem_cons_of_mem _ t_416)) (fun _ h9 => h9) 5 rfl dX2_readArguments_225 ?_
        refine lv_bipush (v := 59) hx hb dX2_readArguments_228 (by decide) ?_
        have go_ := g
        refine g_callv (va_runV (As := [.int 59]) (rest := []) ⟨hx, hb, hml, hown, hts⟩ (r_X8_take_2 l dC dI L kd tys fr_88 H.size g.2.2.2.1 q0_ mq0_ kq0_ 59 x_76 h_77 y1_ by1_ (g.fcts [3, 13] rfl)) (cwV 1 hts (gV_ t_1098 t_1099 t_1100 t_184 t_1101) rfl rfl rfl (by decide +kernel) ⟨(Nat.le_of_ble_eq_true rfl), (Nat.le_of_ble_eq_true rfl)⟩) (pre3V g hK mq0_ kq0_ (by decide) (q := (RX8, TX8, 10)) rfl) rfl rfl hl.1 rfl (lv_room (Nat.le_of_ble_eq_true rfl)) dX2_readArguments_230 ⟨(Nat.le_of_ble_eq_true rfl), (Nat.le_of_ble_eq_true rfl)⟩) g hK (by decide) (by decide) (fx' := [(7, 6, q3_, .int x_89), (2, 13, a0_, .int x_82), (2, 12, a0_, .int x_81), (2, 14, a0_, .int x_8), (2, 0, a0_, .ref q0_), (2, 1, a0_, .ref q1_), (2, 2, a0_, .ref q2_), (2, 3, a0_, .ref q3_), (0, 0, q2_, .ref q0_), (0, 1, q2_, .ref q1_), (5, 0, q1_, .ref q6_), (5, 1, q1_, .ref q7_), (8, 8, q0_, .int y1_)]) rfl (fun fr_93 H locs hp hMr_93 g => ?_)
        obtain ⟨x_94, h_95, hF_96⟩ := hp
        have hG_97 := eOK.frame hMr_93 go_.2.2.2.1 mq2_ kq2_ (by decide) (by decide) hG_92
        have g := g.more hF_96
        subst hQ
        exact W.vret hx hb hr (fun t ht hW => ⟨⟨_, rfl, ⟨x_94, h_95, x_89, h_90, (g.fcts [0, 1] rfl)⟩, q3_of g hK ht hW⟩, g.2.2.1.F ht⟩) g.2.2.1.2.2 dX2_readArguments_233
      · have fc_80 := nle_f c_80
        have b_98 : bd 0 (-1) (0 : Int32) := ltL fc_80 kb_0 b_62 (by decide)
        exact bd_no (eqX rfl b_98 kb_0 (lo := 0) (hi := (-1)) (by decide)) (by decide)
    · have fc_72 := eq_f c_72
      have b_99 : bd 1 0 y1_ := eqX fc_72 by1_ kb_0 (by decide)
      exact bd_no b_99 (by decide)
set_option maxHeartbeats 4000000 in
set_option maxRecDepth 100000 in
theorem r_X2_readReturn_2 (l : Launch) (dC : Nat → ClassId) (dI : Nat → Nat → Nat) (L : List Nat) (kd : Nat → Nat) (tys : List (ClassId × FieldType)) (f0 : Nat → va_E) (sz : Nat) (hWT : WT L kd tys f0) (a0_ : Nat) (ma0_ : a0_ ∈ L) (ka0_ : kd a0_ = 2) (q0_ : Nat) (mq0_ : q0_ ∈ L) (kq0_ : kd q0_ = 8) (q1_ : Nat) (mq1_ : q1_ ∈ L) (kq1_ : kd q1_ = 5) (q2_ : Nat) (mq2_ : q2_ ∈ L) (kq2_ : kd q2_ = 0) (q3_ : Nat) (mq3_ : q3_ ∈ L) (kq3_ : kd q3_ = 7) (q6_ : Nat) (mq6_ : q6_ ∈ L) (kq6_ : kd q6_ = 7) (q7_ : Nat) (mq7_ : q7_ ∈ L) (kq7_ : kd q7_ = 9) (y0_ : Int32) (by0_ : bd 0 0 y0_) (hGeq2_ : eOK f0 q2_) (hfx : Fs L kd f0 [(2, 0, a0_, .ref q0_), (2, 1, a0_, .ref q1_), (2, 2, a0_, .ref q2_), (2, 3, a0_, .ref q3_), (0, 0, q2_, .ref q0_), (0, 1, q2_, .ref q1_), (5, 0, q1_, .ref q6_), (5, 1, q1_, .ref q7_), (8, 8, q0_, .int y0_)]) : Met l yX2_readReturn (.code yX2_readReturn cX2_readReturn 1 none :: lw_g) ({ frames := 4, cells := 0, slots := 0, locals := 97 }) (va_Pc [.ref a0_] (P3 (dC, dI) L tys f0 sz)) (va_Qv (fun (f : Nat → va_E) => (eOK f q2_ ∧ ∃ z0_ : Int32, bd 1 1201 z0_ ∧ ∃ z2_ : Int32, bd 1 2000 z2_ ∧ Fs L kd f [(8, 6, q0_, .int z0_), (8, 8, q0_, .int y0_), (7, 6, q3_, .int z2_), (0, 2, q2_, .ref q6_)]) ∨ (eOK f q2_ ∧ ∃ z0_ : Int32, bd 1201 1201 z0_ ∧ ∃ z1_ : Int32, bd 1 7 z1_ ∧ ∃ z2_ : Int32, bd 1 2000 z2_ ∧ Fs L kd f [(8, 6, q0_, .int z0_), (8, 8, q0_, .int z1_), (7, 6, q3_, .int z2_), (0, 2, q2_, .ref q6_)])) (Q3 (dC, dI) L kd tys [(0, 2), (0, 8), (0, 10), (0, 11), (0, 12), (0, 13), (7, 6), (7, 18), (8, 6), (8, 8), (8, 9)] [110, 111, 112, 113, 114, 115, 138, 139] f0 sz) (pA L sz)) 0 0 (pA L sz) := by
  refine Met.ofW (cc := cX2_readReturn) (maxL := 1) (ret := none) (by decide) rfl ?_
  intro p e s m args below meth c s₁ B hml hv
  obtain ⟨rfl, hsz, hP, hK, hD0⟩ := hv
  have hx := B.exec
  have hb := B.bytes
  have hr := B.returns
  have hts := atoms_spec (ws := (.code yX2_readReturn cX2_readReturn 1 none :: lw_g)) B.pre
  have hown : s.vm.findClass RX2 = some m.cls := findClass_of_methodNamed B.named
  have hlocks := B.notSynchronized
  subst hsz
  have g : G3 (dC, dI) L kd tys s f0 [(0, 2), (0, 8), (0, 10), (0, 11), (0, 12), (0, 13), (7, 6), (7, 18), (8, 6), (8, 8), (8, 9)] [110, 111, 112, 113, 114, 115, 138, 139] f0 s.heap [] [(2, 0, a0_, .ref q0_), (2, 1, a0_, .ref q1_), (2, 2, a0_, .ref q2_), (2, 3, a0_, .ref q3_), (0, 0, q2_, .ref q0_), (0, 1, q2_, .ref q1_), (5, 0, q1_, .ref q6_), (5, 1, q1_, .ref q7_), (8, 8, q0_, .int y0_)] := G3.start hP hD0 hWT hfx
  have hl := lv_entry ([.ref a0_]) (n := 1) (Nat.le_of_ble_eq_true rfl)
  rw [lg_entry_eq]
  generalize (lg_sl ([.ref a0_]) ++ List.replicate (1 - (lg_sl ([.ref a0_])).length) Slot.unset).toArray = ls at hl ⊢
  have hl : lv_has ls 1 [(0, .ref a0_)] := hl
  refine W_q (fun Q hQ => ?_)
  refine lv_aload_n hx hb dX2_readReturn_0 rfl (lv_at hl 0 rfl) ?_
  refine g_getk (C := RX2) (T := TX2) (N := 16) hx hb hts (mc_ inX2) hown hK g rfl 0 (by decide) rfl (hts _ (List.mem_cons_of_mem _ t_416)) (fun _ h9 => h9) 0 rfl dX2_readReturn_1 ?_
  have go_ := g
  refine g_callv (va_runV (As := []) (rest := []) ⟨hx, hb, hml, hown, hts⟩ (r_X8_next l dC dI L kd tys f0 s.heap.size g.2.2.2.1 q0_ mq0_ kq0_) (cwV 0 hts (gV_ t_1131 t_1103 t_1104 t_184 t_1105) rfl rfl rfl (by decide +kernel) ⟨(Nat.le_of_ble_eq_true rfl), (Nat.le_of_ble_eq_true rfl)⟩) (pre3V g hK mq0_ kq0_ (by decide) (q := (RX8, TX8, 10)) rfl) rfl rfl hl.1 rfl (lv_room (Nat.le_of_ble_eq_true rfl)) dX2_readReturn_4 ⟨(Nat.le_of_ble_eq_true rfl), (Nat.le_of_ble_eq_true rfl)⟩) g hK (by decide) (by decide) (fx' := [(2, 0, a0_, .ref q0_), (2, 1, a0_, .ref q1_), (2, 2, a0_, .ref q2_), (2, 3, a0_, .ref q3_), (0, 0, q2_, .ref q0_), (0, 1, q2_, .ref q1_), (5, 0, q1_, .ref q6_), (5, 1, q1_, .ref q7_), (8, 8, q0_, .int y0_)]) rfl (fun fr_1 H locs hp hMr_1 g => ?_)
  obtain ⟨x_2, h_3, hF_4⟩ := hp
  have hG_5 := eOK.frame hMr_1 go_.2.2.2.1 mq2_ kq2_ (by decide) (by decide) hGeq2_
  have g := g.more hF_4
  refine lv_aload_n hx hb dX2_readReturn_7 rfl (lv_at hl 0 rfl) ?_
  refine g_getk (C := RX2) (T := TX2) (N := 16) hx hb hts (mc_ inX2) hown hK g rfl 2 (by decide) rfl (hts _ (List.mem_cons_of_mem _ t_418)) (fun _ h9 => h9) 3 rfl dX2_readReturn_8 ?_
  have go_ := g
  refine g_callv (va_runV (As := []) (rest := []) ⟨hx, hb, hml, hown, hts⟩ (r_X0_read l dC dI L kd tys fr_1 H.size g.2.2.2.1 q2_ mq2_ kq2_ q0_ mq0_ kq0_ q1_ mq1_ kq1_ q6_ mq6_ kq6_ q7_ mq7_ kq7_ y0_ by0_ hG_5 (g.fcts [5, 6, 7, 8, 9] rfl)) (cwV 0 hts (gV_ t_1182 t_1183 t_1184 t_190 t_1185) rfl rfl rfl (by decide +kernel) ⟨(Nat.le_of_ble_eq_true rfl), (Nat.le_of_ble_eq_true rfl)⟩) (pre3V g hK mq2_ kq2_ (by decide) (q := (RX0, TX0, 14)) rfl) rfl rfl hl.1 rfl (lv_room (Nat.le_of_ble_eq_true rfl)) dX2_readReturn_11 ⟨(Nat.le_of_ble_eq_true rfl), (Nat.le_of_ble_eq_true rfl)⟩) g hK (by decide) (by decide) (fx' := [(2, 0, a0_, .ref q0_), (2, 1, a0_, .ref q1_), (2, 2, a0_, .ref q2_), (2, 3, a0_, .ref q3_), (0, 0, q2_, .ref q0_), (0, 1, q2_, .ref q1_), (5, 0, q1_, .ref q6_), (5, 1, q1_, .ref q7_)]) rfl (fun fr_6 H locs hp hMr_6 g => ?_)
  rcases hp with ⟨hG_7, hF_8⟩ | ⟨hG_9, x_10, h_11, x_12, h_13, hF_14⟩
  · have g := g.more hF_8
    refine lv_aload_n hx hb dX2_readReturn_14 rfl (lv_at hl 0 rfl) ?_
    refine g_getk (C := RX2) (T := TX2) (N := 16) hx hb hts (mc_ inX2) hown hK g rfl 3 (by decide) rfl (hts _ (List.mem_cons_of_mem _ t_419)) (fun _ h9 => h9) 5 rfl dX2_readReturn_15 ?_
    refine lv_bipush (v := 26) hx hb dX2_readReturn_18 (by decide) ?_
    refine lv_iconst (v := 0) hx hb dX2_readReturn_20 (by decide) ?_
    have go_ := g
    refine g_callv (va_runV (As := [.int 26, .int 0]) (rest := []) ⟨hx, hb, hml, hown, hts⟩ (r_X7_emit l dC dI L kd tys fr_6 H.size g.2.2.2.1 q3_ mq3_ kq3_ 26 0) (cwV 2 hts (gV_ t_1301 t_1204 t_1205 t_191 t_1206) rfl rfl rfl (by decide +kernel) ⟨(Nat.le_of_ble_eq_true rfl), (Nat.le_of_ble_eq_true rfl)⟩) (pre3V g hK mq3_ kq3_ (by decide) (q := (RX7, TX7, 19)) rfl) rfl rfl hl.1 rfl (lv_room (Nat.le_of_ble_eq_true rfl)) dX2_readReturn_21 ⟨(Nat.le_of_ble_eq_true rfl), (Nat.le_of_ble_eq_true rfl)⟩) g hK (by decide) (by decide) (fx' := [(0, 2, q2_, .ref q6_), (8, 8, q0_, .int y0_), (2, 0, a0_, .ref q0_), (2, 1, a0_, .ref q1_), (2, 2, a0_, .ref q2_), (2, 3, a0_, .ref q3_), (0, 0, q2_, .ref q0_), (0, 1, q2_, .ref q1_), (5, 0, q1_, .ref q6_), (5, 1, q1_, .ref q7_)]) rfl (fun fr_15 H locs hp hMr_15 g => ?_)
    obtain ⟨x_16, h_17, hF_18⟩ := hp
    have hG_19 := eOK.frame hMr_15 go_.2.2.2.1 mq2_ kq2_ (by decide) (by decide) hG_7
    have g := g.more hF_18
    refine lv_aload_n hx hb dX2_readReturn_24 rfl (lv_at hl 0 rfl) ?_
    refine g_getk (C := RX2) (T := TX2) (N := 16) hx hb hts (mc_ inX2) hown hK g rfl 0 (by decide) rfl (hts _ (List.mem_cons_of_mem _ t_416)) (fun _ h9 => h9) 3 rfl dX2_readReturn_25 ?_
    refine lv_bipush (v := 59) hx hb dX2_readReturn_28 (by decide) ?_
    have go_ := g
    refine g_callv (va_runV (As := [.int 59]) (rest := []) ⟨hx, hb, hml, hown, hts⟩ (r_X8_take l dC dI L kd tys fr_15 H.size g.2.2.2.1 q0_ mq0_ kq0_ 59 y0_ by0_ (g.fcts [2] rfl)) (cwV 1 hts (gV_ t_1098 t_1099 t_1100 t_184 t_1101) rfl rfl rfl (by decide +kernel) ⟨(Nat.le_of_ble_eq_true rfl), (Nat.le_of_ble_eq_true rfl)⟩) (pre3V g hK mq0_ kq0_ (by decide) (q := (RX8, TX8, 10)) rfl) rfl rfl hl.1 rfl (lv_room (Nat.le_of_ble_eq_true rfl)) dX2_readReturn_30 ⟨(Nat.le_of_ble_eq_true rfl), (Nat.le_of_ble_eq_true rfl)⟩) g hK (by decide) (by decide) (fx' := [(7, 6, q3_, .int x_16), (0, 2, q2_, .ref q6_), (2, 0, a0_, .ref q0_), (2, 1, a0_, .ref q1_), (2, 2, a0_, .ref q2_), (2, 3, a0_, .ref q3_), (0, 0, q2_, .ref q0_), (0, 1, q2_, .ref q1_), (5, 0, q1_, .ref q6_), (5, 1, q1_, .ref q7_)]) rfl (fun fr_20 H locs hp hMr_20 g => ?_)
    rcases hp with ⟨x_21, h_22, hF_23⟩ | ⟨x_24, h_25, hF_26⟩
    · have hG_27 := eOK.frame hMr_20 go_.2.2.2.1 mq2_ kq2_ (by decide) (by decide) hG_19
      have g := g.more hF_23
      subst hQ
      exact W.vret hx hb hr (fun t ht hW => ⟨⟨_, rfl, Or.inl ⟨hG_27, x_21, h_22, x_16, h_17, (g.fcts [0, 1, 2, 3] rfl)⟩, q3_of g hK ht hW⟩, g.2.2.1.F ht⟩) g.2.2.1.2.2 dX2_readReturn_33
    · have hG_28 := eOK.frame hMr_20 go_.2.2.2.1 mq2_ kq2_ (by decide) (by decide) hG_19
      have g := g.more hF_26
      have kb_1201 : bd 1201 1201 (1201 : Int32) := ⟨by decide, by decide⟩
      subst hQ
      exact W.vret hx hb hr (fun t ht hW => ⟨⟨_, rfl, Or.inr (⟨hG_28, 1201, kb_1201, x_24, h_25, x_16, h_17, (g.fcts [0, 1, 2, 3] rfl)⟩), q3_of g hK ht hW⟩, g.2.2.1.F ht⟩) g.2.2.1.2.2 dX2_readReturn_33
  · have g := g.more hF_14
    refine lv_aload_n hx hb dX2_readReturn_14 rfl (lv_at hl 0 rfl) ?_
    refine g_getk (C := RX2) (T := TX2) (N := 16) hx hb hts (mc_ inX2) hown hK g rfl 3 (by decide) rfl (hts _ (List.mem_cons_of_mem _ t_419)) (fun _ h9 => h9) 6 rfl dX2_readReturn_15 ?_
    refine lv_bipush (v := 26) hx hb dX2_readReturn_18 (by decide) ?_
    refine lv_iconst (v := 0) hx hb dX2_readReturn_20 (by decide) ?_
    have go_ := g
    refine g_callv (va_runV (As := [.int 26, .int 0]) (rest := []) ⟨hx, hb, hml, hown, hts⟩ (r_X7_emit l dC dI L kd tys fr_6 H.size g.2.2.2.1 q3_ mq3_ kq3_ 26 0) (cwV 2 hts (gV_ t_1301 t_1204 t_1205 t_191 t_1206) rfl rfl rfl (by decide +kernel) ⟨(Nat.le_of_ble_eq_true rfl), (Nat.le_of_ble_eq_true rfl)⟩) (pre3V g hK mq3_ kq3_ (by decide) (q := (RX7, TX7, 19)) rfl) rfl rfl hl.1 rfl (lv_room (Nat.le_of_ble_eq_true rfl)) dX2_readReturn_21 ⟨(Nat.le_of_ble_eq_true rfl), (Nat.le_of_ble_eq_true rfl)⟩) g hK (by decide) (by decide) (fx' := [(8, 6, q0_, .int x_10), (8, 8, q0_, .int x_12), (0, 2, q2_, .ref q6_), (2, 0, a0_, .ref q0_), (2, 1, a0_, .ref q1_), (2, 2, a0_, .ref q2_), (2, 3, a0_, .ref q3_), (0, 0, q2_, .ref q0_), (0, 1, q2_, .ref q1_), (5, 0, q1_, .ref q6_), (5, 1, q1_, .ref q7_)]) rfl (fun fr_29 H locs hp hMr_29 g => ?_)
    obtain ⟨x_30, h_31, hF_32⟩ := hp
    have hG_33 := eOK.frame hMr_29 go_.2.2.2.1 mq2_ kq2_ (by decide) (by decide) hG_9
    have g := g.more hF_32
    refine lv_aload_n hx hb dX2_readReturn_24 rfl (lv_at hl 0 rfl) ?_
    refine g_getk (C := RX2) (T := TX2) (N := 16) hx hb hts (mc_ inX2) hown hK g rfl 0 (by decide) rfl (hts _ (List.mem_cons_of_mem _ t_416)) (fun _ h9 => h9) 4 rfl dX2_readReturn_25 ?_
    refine lv_bipush (v := 59) hx hb dX2_readReturn_28 (by decide) ?_
    have go_ := g
    refine g_callv (va_runV (As := [.int 59]) (rest := []) ⟨hx, hb, hml, hown, hts⟩ (r_X8_take_2 l dC dI L kd tys fr_29 H.size g.2.2.2.1 q0_ mq0_ kq0_ 59 x_10 h_11 x_12 h_13 (g.fcts [1, 2] rfl)) (cwV 1 hts (gV_ t_1098 t_1099 t_1100 t_184 t_1101) rfl rfl rfl (by decide +kernel) ⟨(Nat.le_of_ble_eq_true rfl), (Nat.le_of_ble_eq_true rfl)⟩) (pre3V g hK mq0_ kq0_ (by decide) (q := (RX8, TX8, 10)) rfl) rfl rfl hl.1 rfl (lv_room (Nat.le_of_ble_eq_true rfl)) dX2_readReturn_30 ⟨(Nat.le_of_ble_eq_true rfl), (Nat.le_of_ble_eq_true rfl)⟩) g hK (by decide) (by decide) (fx' := [(7, 6, q3_, .int x_30), (8, 8, q0_, .int x_12), (0, 2, q2_, .ref q6_), (2, 0, a0_, .ref q0_), (2, 1, a0_, .ref q1_), (2, 2, a0_, .ref q2_), (2, 3, a0_, .ref q3_), (0, 0, q2_, .ref q0_), (0, 1, q2_, .ref q1_), (5, 0, q1_, .ref q6_), (5, 1, q1_, .ref q7_)]) rfl (fun fr_34 H locs hp hMr_34 g => ?_)
    obtain ⟨x_35, h_36, hF_37⟩ := hp
    have hG_38 := eOK.frame hMr_34 go_.2.2.2.1 mq2_ kq2_ (by decide) (by decide) hG_33
    have g := g.more hF_37
    subst hQ
    exact W.vret hx hb hr (fun t ht hW => ⟨⟨_, rfl, Or.inr (⟨hG_38, x_35, h_36, x_12, h_13, x_30, h_31, (g.fcts [0, 2, 1, 3] rfl)⟩), q3_of g hK ht hW⟩, g.2.2.1.F ht⟩) g.2.2.1.2.2 dX2_readReturn_33
set_option maxHeartbeats 4000000 in
set_option maxRecDepth 100000 in
theorem r_X2_readThrow_2 (l : Launch) (dC : Nat → ClassId) (dI : Nat → Nat → Nat) (L : List Nat) (kd : Nat → Nat) (tys : List (ClassId × FieldType)) (f0 : Nat → va_E) (sz : Nat) (hWT : WT L kd tys f0) (a0_ : Nat) (ma0_ : a0_ ∈ L) (ka0_ : kd a0_ = 2) (q0_ : Nat) (mq0_ : q0_ ∈ L) (kq0_ : kd q0_ = 8) (q1_ : Nat) (mq1_ : q1_ ∈ L) (kq1_ : kd q1_ = 7) (y0_ : Int32) (by0_ : bd 0 0 y0_) (hfx : Fs L kd f0 [(2, 0, a0_, .ref q0_), (2, 3, a0_, .ref q1_), (8, 8, q0_, .int y0_)]) : Met l yX2_readThrow (.code yX2_readThrow cX2_readThrow 1 none :: lw_g) ({ frames := 2, cells := 0, slots := 0, locals := 44 }) (va_Pc [.ref a0_] (P3 (dC, dI) L tys f0 sz)) (va_Qv (fun (f : Nat → va_E) => (∃ z0_ : Int32, bd 1 1201 z0_ ∧ ∃ z2_ : Int32, bd 1 2000 z2_ ∧ ∃ z3_ : Int32, bd 1 420 z3_ ∧ Fs L kd f [(8, 6, q0_, .int z0_), (8, 8, q0_, .int y0_), (7, 6, q1_, .int z2_), (7, 17, q1_, .int z3_)]) ∨ (∃ z0_ : Int32, bd 1201 1201 z0_ ∧ ∃ z1_ : Int32, bd 1 7 z1_ ∧ ∃ z2_ : Int32, bd 1 2000 z2_ ∧ ∃ z3_ : Int32, bd 1 420 z3_ ∧ Fs L kd f [(8, 6, q0_, .int z0_), (8, 8, q0_, .int z1_), (7, 6, q1_, .int z2_), (7, 17, q1_, .int z3_)])) (Q3 (dC, dI) L kd tys [(7, 6), (7, 17), (8, 6), (8, 8), (8, 9)] [138, 139, 147] f0 sz) (pA L sz)) 0 0 (pA L sz) := by
  refine Met.ofW (cc := cX2_readThrow) (maxL := 1) (ret := none) (by decide) rfl ?_
  intro p e s m args below meth c s₁ B hml hv
  obtain ⟨rfl, hsz, hP, hK, hD0⟩ := hv
  have hx := B.exec
  have hb := B.bytes
  have hr := B.returns
  have hts := atoms_spec (ws := (.code yX2_readThrow cX2_readThrow 1 none :: lw_g)) B.pre
  have hown : s.vm.findClass RX2 = some m.cls := findClass_of_methodNamed B.named
  have hlocks := B.notSynchronized
  subst hsz
  have g : G3 (dC, dI) L kd tys s f0 [(7, 6), (7, 17), (8, 6), (8, 8), (8, 9)] [138, 139, 147] f0 s.heap [] [(2, 0, a0_, .ref q0_), (2, 3, a0_, .ref q1_), (8, 8, q0_, .int y0_)] := G3.start hP hD0 hWT hfx
  have hl := lv_entry ([.ref a0_]) (n := 1) (Nat.le_of_ble_eq_true rfl)
  rw [lg_entry_eq]
  generalize (lg_sl ([.ref a0_]) ++ List.replicate (1 - (lg_sl ([.ref a0_])).length) Slot.unset).toArray = ls at hl ⊢
  have hl : lv_has ls 1 [(0, .ref a0_)] := hl
  refine W_q (fun Q hQ => ?_)
  refine lv_aload_n hx hb dX2_readThrow_0 rfl (lv_at hl 0 rfl) ?_
  refine g_getk (C := RX2) (T := TX2) (N := 16) hx hb hts (mc_ inX2) hown hK g rfl 0 (by decide) rfl (hts _ (List.mem_cons_of_mem _ t_416)) (fun _ h9 => h9) 0 rfl dX2_readThrow_1 ?_
  refine g_callv (va_runV (As := []) (rest := []) ⟨hx, hb, hml, hown, hts⟩ (r_X8_next l dC dI L kd tys f0 s.heap.size g.2.2.2.1 q0_ mq0_ kq0_) (cwV 0 hts (gV_ t_1131 t_1103 t_1104 t_184 t_1105) rfl rfl rfl (by decide +kernel) ⟨(Nat.le_of_ble_eq_true rfl), (Nat.le_of_ble_eq_true rfl)⟩) (pre3V g hK mq0_ kq0_ (by decide) (q := (RX8, TX8, 10)) rfl) rfl rfl hl.1 rfl (lv_room (Nat.le_of_ble_eq_true rfl)) dX2_readThrow_4 ⟨(Nat.le_of_ble_eq_true rfl), (Nat.le_of_ble_eq_true rfl)⟩) g hK (by decide) (by decide) (fx' := [(2, 0, a0_, .ref q0_), (2, 3, a0_, .ref q1_), (8, 8, q0_, .int y0_)]) rfl (fun fr_1 H locs hp hMr_1 g => ?_)
  obtain ⟨x_2, h_3, hF_4⟩ := hp
  have g := g.more hF_4
  refine lv_aload_n hx hb dX2_readThrow_7 rfl (lv_at hl 0 rfl) ?_
  refine g_getk (C := RX2) (T := TX2) (N := 16) hx hb hts (mc_ inX2) hown hK g rfl 3 (by decide) rfl (hts _ (List.mem_cons_of_mem _ t_419)) (fun _ h9 => h9) 2 rfl dX2_readThrow_8 ?_
  refine lv_bipush (v := 16) hx hb dX2_readThrow_11 (by decide) ?_
  refine lv_aload_n hx hb dX2_readThrow_13 rfl (lv_at hl 0 rfl) ?_
  refine g_getk (C := RX2) (T := TX2) (N := 16) hx hb hts (mc_ inX2) hown hK g rfl 3 (by decide) rfl (hts _ (List.mem_cons_of_mem _ t_419)) (fun _ h9 => h9) 2 rfl dX2_readThrow_14 ?_
  refine lv_aload_n hx hb dX2_readThrow_17 rfl (lv_at hl 0 rfl) ?_
  refine g_getk (C := RX2) (T := TX2) (N := 16) hx hb hts (mc_ inX2) hown hK g rfl 0 (by decide) rfl (hts _ (List.mem_cons_of_mem _ t_416)) (fun _ h9 => h9) 1 rfl dX2_readThrow_18 ?_
  refine g_calll (va_runV (As := []) (rest := [.ref q1_, .int 16, .ref q1_]) ⟨hx, hb, hml, hown, hts⟩ (r_X8_value l dC dI L kd tys fr_1 H.size g.2.2.2.1 q0_ mq0_ kq0_) (cwV 0 hts (gV_ t_1114 t_1115 t_1116 t_184 t_1117) rfl rfl rfl (by decide +kernel) ⟨(Nat.le_of_ble_eq_true rfl), (Nat.le_of_ble_eq_true rfl)⟩) (pre3V g hK mq0_ kq0_ (by decide) (q := (RX8, TX8, 10)) rfl) rfl rfl hl.1 rfl (lv_room (Nat.le_of_ble_eq_true rfl)) dX2_readThrow_21 ⟨(Nat.le_of_ble_eq_true rfl), (Nat.le_of_ble_eq_true rfl)⟩) g hK (by decide) (by decide) (fx' := [(8, 6, q0_, .int x_2), (2, 0, a0_, .ref q0_), (2, 3, a0_, .ref q1_), (8, 8, q0_, .int y0_)]) rfl (fun r_5 fr_5 H locs hp hMr_5 g => ?_)
  refine g_calli (va_runV (As := [.long r_5]) (rest := [.int 16, .ref q1_]) ⟨hx, hb, hml, hown, hts⟩ (r_X7_addWord l dC dI L kd tys fr_5 H.size g.2.2.2.1 q1_ mq1_ kq1_ r_5) (cwV 1 hts (gV_ t_1379 t_1380 t_1381 t_191 t_1382) rfl rfl rfl (by decide +kernel) ⟨(Nat.le_of_ble_eq_true rfl), (Nat.le_of_ble_eq_true rfl)⟩) (pre3V g hK mq1_ kq1_ (by decide) (q := (RX7, TX7, 19)) rfl) rfl rfl hl.1 rfl (lv_room (Nat.le_of_ble_eq_true rfl)) dX2_readThrow_24 ⟨(Nat.le_of_ble_eq_true rfl), (Nat.le_of_ble_eq_true rfl)⟩) g hK (by decide) (by decide) (fx' := [(8, 6, q0_, .int x_2), (2, 0, a0_, .ref q0_), (2, 3, a0_, .ref q1_), (8, 8, q0_, .int y0_)]) rfl (fun r_6 fr_6 H locs hp hMr_6 g => ?_)
  obtain ⟨h_7, x_8, h_9, hF_10⟩ := hp
  have g := g.more hF_10
  refine g_callv (va_runV (As := [.int 16, .int r_6]) (rest := []) ⟨hx, hb, hml, hown, hts⟩ (r_X7_emit l dC dI L kd tys fr_6 H.size g.2.2.2.1 q1_ mq1_ kq1_ 16 r_6) (cwV 2 hts (gV_ t_1301 t_1204 t_1205 t_191 t_1206) rfl rfl rfl (by decide +kernel) ⟨(Nat.le_of_ble_eq_true rfl), (Nat.le_of_ble_eq_true rfl)⟩) (pre3V g hK mq1_ kq1_ (by decide) (q := (RX7, TX7, 19)) rfl) rfl rfl hl.1 rfl (lv_room (Nat.le_of_ble_eq_true rfl)) dX2_readThrow_27 ⟨(Nat.le_of_ble_eq_true rfl), (Nat.le_of_ble_eq_true rfl)⟩) g hK (by decide) (by decide) (fx' := [(7, 17, q1_, .int x_8), (8, 6, q0_, .int x_2), (2, 0, a0_, .ref q0_), (2, 3, a0_, .ref q1_), (8, 8, q0_, .int y0_)]) rfl (fun fr_11 H locs hp hMr_11 g => ?_)
  obtain ⟨x_12, h_13, hF_14⟩ := hp
  have g := g.more hF_14
  refine lv_aload_n hx hb dX2_readThrow_30 rfl (lv_at hl 0 rfl) ?_
  refine g_getk (C := RX2) (T := TX2) (N := 16) hx hb hts (mc_ inX2) hown hK g rfl 0 (by decide) rfl (hts _ (List.mem_cons_of_mem _ t_416)) (fun _ h9 => h9) 3 rfl dX2_readThrow_31 ?_
  refine lv_iconst (v := 3) hx hb dX2_readThrow_34 (by decide) ?_
  refine g_callv (va_runV (As := [.int 3]) (rest := []) ⟨hx, hb, hml, hown, hts⟩ (r_X8_take l dC dI L kd tys fr_11 H.size g.2.2.2.1 q0_ mq0_ kq0_ 3 y0_ by0_ (g.fcts [5] rfl)) (cwV 1 hts (gV_ t_1098 t_1099 t_1100 t_184 t_1101) rfl rfl rfl (by decide +kernel) ⟨(Nat.le_of_ble_eq_true rfl), (Nat.le_of_ble_eq_true rfl)⟩) (pre3V g hK mq0_ kq0_ (by decide) (q := (RX8, TX8, 10)) rfl) rfl rfl hl.1 rfl (lv_room (Nat.le_of_ble_eq_true rfl)) dX2_readThrow_35 ⟨(Nat.le_of_ble_eq_true rfl), (Nat.le_of_ble_eq_true rfl)⟩) g hK (by decide) (by decide) (fx' := [(7, 6, q1_, .int x_12), (7, 17, q1_, .int x_8), (2, 0, a0_, .ref q0_), (2, 3, a0_, .ref q1_)]) rfl (fun fr_15 H locs hp hMr_15 g => ?_)
  rcases hp with ⟨x_16, h_17, hF_18⟩ | ⟨x_19, h_20, hF_21⟩
  · have g := g.more hF_18
    refine lv_aload_n hx hb dX2_readThrow_38 rfl (lv_at hl 0 rfl) ?_
    refine g_getk (C := RX2) (T := TX2) (N := 16) hx hb hts (mc_ inX2) hown hK g rfl 0 (by decide) rfl (hts _ (List.mem_cons_of_mem _ t_416)) (fun _ h9 => h9) 4 rfl dX2_readThrow_39 ?_
    refine lv_bipush (v := 59) hx hb dX2_readThrow_42 (by decide) ?_
    refine g_callv (va_runV (As := [.int 59]) (rest := []) ⟨hx, hb, hml, hown, hts⟩ (r_X8_take l dC dI L kd tys fr_15 H.size g.2.2.2.1 q0_ mq0_ kq0_ 59 y0_ by0_ (g.fcts [1] rfl)) (cwV 1 hts (gV_ t_1098 t_1099 t_1100 t_184 t_1101) rfl rfl rfl (by decide +kernel) ⟨(Nat.le_of_ble_eq_true rfl), (Nat.le_of_ble_eq_true rfl)⟩) (pre3V g hK mq0_ kq0_ (by decide) (q := (RX8, TX8, 10)) rfl) rfl rfl hl.1 rfl (lv_room (Nat.le_of_ble_eq_true rfl)) dX2_readThrow_44 ⟨(Nat.le_of_ble_eq_true rfl), (Nat.le_of_ble_eq_true rfl)⟩) g hK (by decide) (by decide) (fx' := [(7, 6, q1_, .int x_12), (7, 17, q1_, .int x_8), (2, 0, a0_, .ref q0_), (2, 3, a0_, .ref q1_)]) rfl (fun fr_22 H locs hp hMr_22 g => ?_)
    rcases hp with ⟨x_23, h_24, hF_25⟩ | ⟨x_26, h_27, hF_28⟩
    · have g := g.more hF_25
      subst hQ
      exact W.vret hx hb hr (fun t ht hW => ⟨⟨_, rfl, Or.inl ⟨x_23, h_24, x_12, h_13, x_8, h_9, (g.fcts [0, 1, 2, 3] rfl)⟩, q3_of g hK ht hW⟩, g.2.2.1.F ht⟩) g.2.2.1.2.2 dX2_readThrow_47
    · have g := g.more hF_28
      have kb_1201 : bd 1201 1201 (1201 : Int32) := ⟨by decide, by decide⟩
      subst hQ
      exact W.vret hx hb hr (fun t ht hW => ⟨⟨_, rfl, Or.inr (⟨1201, kb_1201, x_26, h_27, x_12, h_13, x_8, h_9, (g.fcts [0, 1, 2, 3] rfl)⟩), q3_of g hK ht hW⟩, g.2.2.1.F ht⟩) g.2.2.1.2.2 dX2_readThrow_47
  · have g := g.more hF_21
    refine lv_aload_n hx hb dX2_readThrow_38 rfl (lv_at hl 0 rfl) ?_
    refine g_getk (C := RX2) (T := TX2) (N := 16) hx hb hts (mc_ inX2) hown hK g rfl 0 (by decide) rfl (hts _ (List.mem_cons_of_mem _ t_416)) (fun _ h9 => h9) 4 rfl dX2_readThrow_39 ?_
    refine lv_bipush (v := 59) hx hb dX2_readThrow_42 (by decide) ?_
    have kb_1201 : bd 1201 1201 (1201 : Int32) := ⟨by decide, by decide⟩
    refine g_callv (va_runV (As := [.int 59]) (rest := []) ⟨hx, hb, hml, hown, hts⟩ (r_X8_take_2 l dC dI L kd tys fr_15 H.size g.2.2.2.1 q0_ mq0_ kq0_ 59 1201 kb_1201 x_19 h_20 (g.fcts [0, 1] rfl)) (cwV 1 hts (gV_ t_1098 t_1099 t_1100 t_184 t_1101) rfl rfl rfl (by decide +kernel) ⟨(Nat.le_of_ble_eq_true rfl), (Nat.le_of_ble_eq_true rfl)⟩) (pre3V g hK mq0_ kq0_ (by decide) (q := (RX8, TX8, 10)) rfl) rfl rfl hl.1 rfl (lv_room (Nat.le_of_ble_eq_true rfl)) dX2_readThrow_44 ⟨(Nat.le_of_ble_eq_true rfl), (Nat.le_of_ble_eq_true rfl)⟩) g hK (by decide) (by decide) (fx' := [(8, 8, q0_, .int x_19), (7, 6, q1_, .int x_12), (7, 17, q1_, .int x_8), (2, 0, a0_, .ref q0_), (2, 3, a0_, .ref q1_)]) rfl (fun fr_29 H locs hp hMr_29 g => ?_)
    obtain ⟨x_30, h_31, hF_32⟩ := hp
    have g := g.more hF_32
    subst hQ
    exact W.vret hx hb hr (fun t ht hW => ⟨⟨_, rfl, Or.inr (⟨x_30, h_31, x_19, h_20, x_12, h_13, x_8, h_9, (g.fcts [0, 1, 2, 3] rfl)⟩), q3_of g hK ht hW⟩, g.2.2.1.F ht⟩) g.2.2.1.2.2 dX2_readThrow_47
set_option maxHeartbeats 4000000 in
set_option maxRecDepth 100000 in
theorem r_X2_findAbove_2 (l : Launch) (dC : Nat → ClassId) (dI : Nat → Nat → Nat) (L : List Nat) (kd : Nat → Nat) (tys : List (ClassId × FieldType)) (f0 : Nat → va_E) (sz : Nat) (hWT : WT L kd tys f0) (a0_ : Nat) (ma0_ : a0_ ∈ L) (ka0_ : kd a0_ = 2) (q0_ : Nat) (mq0_ : q0_ ∈ L) (kq0_ : kd q0_ = 8) (q1_ : Nat) (mq1_ : q1_ ∈ L) (kq1_ : kd q1_ = 7) (q2_ : Nat) (mq2_ : q2_ ∈ L) (kq2_ : kd q2_ = 9) (y0_ : Int32) (by0_ : bd 0 0 y0_) (hfx : Fs L kd f0 [(2, 0, a0_, .ref q0_), (2, 3, a0_, .ref q1_), (2, 4, a0_, .ref q2_), (8, 8, q0_, .int y0_)]) : Met l yX2_findAbove (.code yX2_findAbove cX2_findAbove 4 (some .boolean) :: lw_g) ({ frames := 2, cells := 0, slots := 0, locals := 44 }) (va_Pc [.ref a0_] (P3 (dC, dI) L tys f0 sz)) (va_Qi (fun (r : Int32) (f : Nat → va_E) => (r = 1 ∧ ∃ z0_ : Int32, bd 1 1201 z0_ ∧ ∃ z1_ : Int32, bd 0 3 z1_ ∧ ∃ z4_ : Int32, bd 1 8 z4_ ∧ ∃ z5_ : Int32, bd 0 7 z5_ ∧ Fs L kd f [(8, 6, q0_, .int z0_), (2, 14, a0_, .int z1_), (2, 12, a0_, .int 18), (8, 8, q0_, .int y0_), (7, 1, q1_, .int z4_), (9, 1, q2_, .int z5_)]) ∨ (r = 1 ∧ ∃ z1_ : Int32, bd 1 7 z1_ ∧ Fs L kd f [(8, 6, q0_, .int 1201), (8, 8, q0_, .int z1_)])) (Q3 (dC, dI) L kd tys [(2, 12), (2, 13), (2, 14), (8, 6), (8, 8), (8, 9)] [] f0 sz) (pA L sz)) 0 0 (pA L sz) := by
  refine Met.ofW (cc := cX2_findAbove) (maxL := 4) (ret := (some .boolean)) (by decide) rfl ?_
  intro p e s m args below meth c s₁ B hml hv
  obtain ⟨rfl, hsz, hP, hK, hD0⟩ := hv
  have hx := B.exec
  have hb := B.bytes
  have hr := B.returns
  have hts := atoms_spec (ws := (.code yX2_findAbove cX2_findAbove 4 (some .boolean) :: lw_g)) B.pre
  have hown : s.vm.findClass RX2 = some m.cls := findClass_of_methodNamed B.named
  have hlocks := B.notSynchronized
  subst hsz
  have g : G3 (dC, dI) L kd tys s f0 [(2, 12), (2, 13), (2, 14), (8, 6), (8, 8), (8, 9)] [] f0 s.heap [] [(2, 0, a0_, .ref q0_), (2, 3, a0_, .ref q1_), (2, 4, a0_, .ref q2_), (8, 8, q0_, .int y0_)] := G3.start hP hD0 hWT hfx
  have hl := lv_entry ([.ref a0_]) (n := 4) (Nat.le_of_ble_eq_true rfl)
  rw [lg_entry_eq]
  generalize (lg_sl ([.ref a0_]) ++ List.replicate (4 - (lg_sl ([.ref a0_])).length) Slot.unset).toArray = ls at hl ⊢
  have hl : lv_has ls 4 [(0, .ref a0_)] := hl
  refine W_q (fun Q hQ => ?_)
  refine lv_aload_n hx hb dX2_findAbove_0 rfl (lv_at hl 0 rfl) ?_
  refine g_getk (C := RX2) (T := TX2) (N := 16) hx hb hts (mc_ inX2) hown hK g rfl 0 (by decide) rfl (hts _ (List.mem_cons_of_mem _ t_416)) (fun _ h9 => h9) 0 rfl dX2_findAbove_1 ?_
  refine g_calli (va_runV (As := []) (rest := []) ⟨hx, hb, hml, hown, hts⟩ (r_X8_place l dC dI L kd tys f0 s.heap.size g.2.2.2.1 q0_ mq0_ kq0_) (cwV 0 hts (gV_ t_1110 t_1111 t_1112 t_184 t_1113) rfl rfl rfl (by decide +kernel) ⟨(Nat.le_of_ble_eq_true rfl), (Nat.le_of_ble_eq_true rfl)⟩) (pre3V g hK mq0_ kq0_ (by decide) (q := (RX8, TX8, 10)) rfl) rfl rfl hl.1 rfl (lv_room (Nat.le_of_ble_eq_true rfl)) dX2_findAbove_4 ⟨(Nat.le_of_ble_eq_true rfl), (Nat.le_of_ble_eq_true rfl)⟩) g hK (by decide) (by decide) (fx' := [(2, 0, a0_, .ref q0_), (2, 3, a0_, .ref q1_), (2, 4, a0_, .ref q2_), (8, 8, q0_, .int y0_)]) rfl (fun r_1 fr_1 H locs hp hMr_1 g => ?_)
  refine lv_istore_n (lv' := [(1, .int r_1), (0, .ref a0_)]) hx hb dX2_findAbove_7 rfl hl (by decide) rfl (fun ls hl => ?_)
  refine lv_aload_n hx hb dX2_findAbove_8 rfl (lv_at hl 1 rfl) ?_
  refine g_getk (C := RX2) (T := TX2) (N := 16) hx hb hts (mc_ inX2) hown hK g rfl 0 (by decide) rfl (hts _ (List.mem_cons_of_mem _ t_416)) (fun _ h9 => h9) 0 rfl dX2_findAbove_9 ?_
  refine g_callv (va_runV (As := []) (rest := []) ⟨hx, hb, hml, hown, hts⟩ (r_X8_next l dC dI L kd tys fr_1 H.size g.2.2.2.1 q0_ mq0_ kq0_) (cwV 0 hts (gV_ t_1131 t_1103 t_1104 t_184 t_1105) rfl rfl rfl (by decide +kernel) ⟨(Nat.le_of_ble_eq_true rfl), (Nat.le_of_ble_eq_true rfl)⟩) (pre3V g hK mq0_ kq0_ (by decide) (q := (RX8, TX8, 10)) rfl) rfl rfl hl.1 rfl (lv_room (Nat.le_of_ble_eq_true rfl)) dX2_findAbove_12 ⟨(Nat.le_of_ble_eq_true rfl), (Nat.le_of_ble_eq_true rfl)⟩) g hK (by decide) (by decide) (fx' := [(2, 0, a0_, .ref q0_), (2, 3, a0_, .ref q1_), (2, 4, a0_, .ref q2_), (8, 8, q0_, .int y0_)]) rfl (fun fr_2 H locs hp hMr_2 g => ?_)
  obtain ⟨x_3, h_4, hF_5⟩ := hp
  have g := g.more hF_5
  refine lv_aload_n hx hb dX2_findAbove_15 rfl (lv_at hl 1 rfl) ?_
  refine g_getk (C := RX2) (T := TX2) (N := 16) hx hb hts (mc_ inX2) hown hK g rfl 3 (by decide) rfl (hts _ (List.mem_cons_of_mem _ t_419)) (fun _ h9 => h9) 2 rfl dX2_findAbove_16 ?_
  refine lv_aload_n hx hb dX2_findAbove_19 rfl (lv_at hl 1 rfl) ?_
  refine g_getk (C := RX2) (T := TX2) (N := 16) hx hb hts (mc_ inX2) hown hK g rfl 4 (by decide) rfl (hts _ (List.mem_cons_of_mem _ t_420)) (fun _ h9 => h9) 3 rfl dX2_findAbove_20 ?_
  refine g_geti (C := RX9) (T := TX9) (N := 13) hx hb hts (mc_ inX9) hown hK g mq2_ kq2_ (by decide) rfl 1 (by decide) rfl (hts _ (List.mem_cons_of_mem _ t_484)) (fun _ h9 => h9) rfl dX2_findAbove_23 (fun x_6 bx_6 g => ?_)
  refine g_calli (va_runV (As := [.int x_6]) (rest := []) ⟨hx, hb, hml, hown, hts⟩ (r_X7_hasClass l dC dI L kd tys fr_2 H.size g.2.2.2.1 q1_ mq1_ kq1_ x_6) (cwV 1 hts (gV_ t_1387 t_1281 t_1282 t_191 t_1283) rfl rfl rfl (by decide +kernel) ⟨(Nat.le_of_ble_eq_true rfl), (Nat.le_of_ble_eq_true rfl)⟩) (pre3V g hK mq1_ kq1_ (by decide) (q := (RX7, TX7, 19)) rfl) rfl rfl hl.1 rfl (lv_room (Nat.le_of_ble_eq_true rfl)) dX2_findAbove_26 ⟨(Nat.le_of_ble_eq_true rfl), (Nat.le_of_ble_eq_true rfl)⟩) g hK (by decide) (by decide) (fx' := [(9, 1, q2_, .int x_6), (8, 6, q0_, .int x_3), (2, 0, a0_, .ref q0_), (2, 3, a0_, .ref q1_), (2, 4, a0_, .ref q2_), (8, 8, q0_, .int y0_)]) rfl (fun r_7 fr_7 H locs hp hMr_7 g => ?_)
  rcases hp with ⟨h_8, -⟩ | ⟨h_9, h_10, x_11, h_12, hF_13⟩
  · obtain rfl : r_7 = 0 := h_8
    refine lv_if_ne (tgt := 43) hx hb dX2_findAbove_29 (by decide) (fun c_ => absurd c_ (by decide)) (fun c_ => ?_)
    refine lv_aload_n hx hb dX2_findAbove_32 rfl (lv_at hl 1 rfl) ?_
    refine g_getk (C := RX2) (T := TX2) (N := 16) hx hb hts (mc_ inX2) hown hK g rfl 0 (by decide) rfl (hts _ (List.mem_cons_of_mem _ t_416)) (fun _ h9 => h9) 2 rfl dX2_findAbove_33 ?_
    refine lv_iconst (v := 5) hx hb dX2_findAbove_36 (by decide) ?_
    refine lv_iload_n hx hb dX2_findAbove_37 rfl (lv_at hl 0 rfl) ?_
    have kb_5 : bd 5 5 (5 : Int32) := ⟨by decide, by decide⟩
    refine g_callv (va_runV (As := [.int 5, .int r_1]) (rest := []) ⟨hx, hb, hml, hown, hts⟩ (r_X8_fail l dC dI L kd tys fr_7 H.size g.2.2.2.1 q0_ mq0_ kq0_ 5 (bd_sub kb_5 (by decide)) r_1 y0_ by0_ (g.fcts [5] rfl)) (cwV 2 hts (gV_ t_1122 t_1107 t_1108 t_184 t_1109) rfl rfl rfl (by decide +kernel) ⟨(Nat.le_of_ble_eq_true rfl), (Nat.le_of_ble_eq_true rfl)⟩) (pre3V g hK mq0_ kq0_ (by decide) (q := (RX8, TX8, 10)) rfl) rfl rfl hl.1 rfl (lv_room (Nat.le_of_ble_eq_true rfl)) dX2_findAbove_38 ⟨(Nat.le_of_ble_eq_true rfl), (Nat.le_of_ble_eq_true rfl)⟩) g hK (by decide) (by decide) (fx' := [(9, 1, q2_, .int x_6), (2, 0, a0_, .ref q0_), (2, 3, a0_, .ref q1_), (2, 4, a0_, .ref q2_)]) rfl (fun fr_14 H locs hp hMr_14 g => ?_)
    obtain ⟨x_15, h_16, hF_17⟩ := hp
    have g := g.more hF_17
    refine lv_iconst (v := 1) hx hb dX2_findAbove_41 (by decide) ?_
    subst hQ
    have kb_1 : bd 1 1 (1 : Int32) := ⟨by decide, by decide⟩
    exact W.zret (v := 1) hx hb hr (nar_z (bd_sub kb_1 (by decide) : bd 0 1 _).1 (bd_sub kb_1 (by decide) : bd 0 1 _).2) (fun t ht hW => ⟨⟨_, _, rfl, Or.inr (⟨rfl, x_15, h_16, (g.fcts [0, 1] rfl)⟩), q3_of g hK ht hW⟩, g.2.2.1.F ht⟩) g.2.2.1.2.2 dX2_findAbove_42
  · obtain rfl : r_7 = 1 := h_9
    have b_18 : bd 0 7 x_6 := eqX rfl (bdT x_6) h_10 (by decide)
    have g := g.more hF_13
    refine lv_if_ne (tgt := 43) hx hb dX2_findAbove_29 (by decide) (fun c_ => ?_) (fun c_ => absurd c_ (by decide))
    refine lv_aload_n hx hb dX2_findAbove_43 rfl (lv_at hl 1 rfl) ?_
    refine g_getk (C := RX2) (T := TX2) (N := 16) hx hb hts (mc_ inX2) hown hK g rfl 3 (by decide) rfl (hts _ (List.mem_cons_of_mem _ t_419)) (fun _ h9 => h9) 4 rfl dX2_findAbove_44 ?_
    refine g_getr (K := 136) (C := RX7) (T := TX7) (N := 19) hx hb hts (mc_ inX7) hown hK g mq1_ kq1_ (by decide) rfl 0 (by decide) rfl (hts _ (List.mem_cons_of_mem _ t_621)) (fun _ h9 => h9) rfl dX2_findAbove_47 (fun a_19 ma_19 ka_19 g => ?_)
    refine lv_aload_n hx hb dX2_findAbove_50 rfl (lv_at hl 1 rfl) ?_
    refine g_getk (C := RX2) (T := TX2) (N := 16) hx hb hts (mc_ inX2) hown hK g rfl 4 (by decide) rfl (hts _ (List.mem_cons_of_mem _ t_420)) (fun _ h9 => h9) 6 rfl dX2_findAbove_51 ?_
    refine g_getk (C := RX9) (T := TX9) (N := 13) hx hb hts (mc_ inX9) hown hK g rfl 1 (by decide) rfl (hts _ (List.mem_cons_of_mem _ t_484)) (fun _ h9 => h9) 2 rfl dX2_findAbove_54 ?_
    refine g_aald hx hb hK g ma_19 ka_19 (by decide) rfl (by decide) (in_bd b_18 (by decide)) dX2_findAbove_57 (fun a_20 ma_20 ua_20 wa_20 => ?_)
    have ka_20 : kd a_20 = 9 := by omega
    refine lv_astore_n (lv' := [(2, .ref a_20), (1, .int r_1), (0, .ref a0_)]) hx hb dX2_findAbove_58 rfl hl (by decide) rfl (fun ls hl => ?_)
    refine lv_aload_n hx hb dX2_findAbove_59 rfl (lv_at hl 2 rfl) ?_
    refine g_getk (C := RX2) (T := TX2) (N := 16) hx hb hts (mc_ inX2) hown hK g rfl 0 (by decide) rfl (hts _ (List.mem_cons_of_mem _ t_416)) (fun _ h9 => h9) 4 rfl dX2_findAbove_60 ?_
    refine lv_bipush (v := 46) hx hb dX2_findAbove_63 (by decide) ?_
    refine g_callv (va_runV (As := [.int 46]) (rest := []) ⟨hx, hb, hml, hown, hts⟩ (r_X8_take l dC dI L kd tys fr_7 H.size g.2.2.2.1 q0_ mq0_ kq0_ 46 y0_ by0_ (g.fcts [7] rfl)) (cwV 1 hts (gV_ t_1098 t_1099 t_1100 t_184 t_1101) rfl rfl rfl (by decide +kernel) ⟨(Nat.le_of_ble_eq_true rfl), (Nat.le_of_ble_eq_true rfl)⟩) (pre3V g hK mq0_ kq0_ (by decide) (q := (RX8, TX8, 10)) rfl) rfl rfl hl.1 rfl (lv_room (Nat.le_of_ble_eq_true rfl)) dX2_findAbove_65 ⟨(Nat.le_of_ble_eq_true rfl), (Nat.le_of_ble_eq_true rfl)⟩) g hK (by decide) (by decide) (fx' := [(7, 0, q1_, .ref a_19), (7, 1, q1_, .int x_11), (9, 1, q2_, .int x_6), (2, 0, a0_, .ref q0_), (2, 3, a0_, .ref q1_), (2, 4, a0_, .ref q2_)]) rfl (fun fr_21 H locs hp hMr_21 g => ?_)
    rcases hp with ⟨x_22, h_23, hF_24⟩ | ⟨x_25, h_26, hF_27⟩
    · have g := g.more hF_24
      refine lv_aload_n hx hb dX2_findAbove_68 rfl (lv_at hl 2 rfl) ?_
      refine g_getk (C := RX2) (T := TX2) (N := 16) hx hb hts (mc_ inX2) hown hK g rfl 3 (by decide) rfl (hts _ (List.mem_cons_of_mem _ t_419)) (fun _ h9 => h9) 6 rfl dX2_findAbove_69 ?_
      refine lv_aload_n hx hb dX2_findAbove_72 rfl (lv_at hl 0 rfl) ?_
      refine lv_aload_n hx hb dX2_findAbove_73 rfl (lv_at hl 2 rfl) ?_
      refine g_getk (C := RX2) (T := TX2) (N := 16) hx hb hts (mc_ inX2) hown hK g rfl 0 (by decide) rfl (hts _ (List.mem_cons_of_mem _ t_416)) (fun _ h9 => h9) 5 rfl dX2_findAbove_74 ?_
      refine g_calll (va_runV (As := []) (rest := [.ref a_20, .ref q1_]) ⟨hx, hb, hml, hown, hts⟩ (r_X8_value l dC dI L kd tys fr_21 H.size g.2.2.2.1 q0_ mq0_ kq0_) (cwV 0 hts (gV_ t_1114 t_1115 t_1116 t_184 t_1117) rfl rfl rfl (by decide +kernel) ⟨(Nat.le_of_ble_eq_true rfl), (Nat.le_of_ble_eq_true rfl)⟩) (pre3V g hK mq0_ kq0_ (by decide) (q := (RX8, TX8, 10)) rfl) rfl rfl hl.1 rfl (lv_room (Nat.le_of_ble_eq_true rfl)) dX2_findAbove_77 ⟨(Nat.le_of_ble_eq_true rfl), (Nat.le_of_ble_eq_true rfl)⟩) g hK (by decide) (by decide) (fx' := [(8, 6, q0_, .int x_22), (8, 8, q0_, .int y0_), (7, 0, q1_, .ref a_19), (7, 1, q1_, .int x_11), (9, 1, q2_, .int x_6), (2, 0, a0_, .ref q0_), (2, 3, a0_, .ref q1_), (2, 4, a0_, .ref q2_)]) rfl (fun r_28 fr_28 H locs hp hMr_28 g => ?_)
      refine g_calli (va_runV (As := [.ref a_20, .long r_28]) (rest := []) ⟨hx, hb, hml, hown, hts⟩ (r_X7_memberNamed l dC dI L kd tys fr_28 H.size g.2.2.2.1 q1_ mq1_ kq1_ a_20 ma_20 ka_20 r_28) (cwV 2 hts (gV_ t_1306 t_1244 t_1245 t_191 t_1246) rfl rfl rfl (by decide +kernel) ⟨(Nat.le_of_ble_eq_true rfl), (Nat.le_of_ble_eq_true rfl)⟩) (pre3V g hK mq1_ kq1_ (by decide) (q := (RX7, TX7, 19)) rfl) rfl rfl hl.1 rfl (lv_room (Nat.le_of_ble_eq_true rfl)) dX2_findAbove_80 ⟨(Nat.le_of_ble_eq_true rfl), (Nat.le_of_ble_eq_true rfl)⟩) g hK (by decide) (by decide) (fx' := [(8, 6, q0_, .int x_22), (8, 8, q0_, .int y0_), (7, 0, q1_, .ref a_19), (7, 1, q1_, .int x_11), (9, 1, q2_, .int x_6), (2, 0, a0_, .ref q0_), (2, 3, a0_, .ref q1_), (2, 4, a0_, .ref q2_)]) rfl (fun r_29 fr_29 H locs hp hMr_29 g => ?_)
      obtain ⟨h_30, -⟩ := hp
      refine lv_istore_n (lv' := [(3, .int r_29), (2, .ref a_20), (1, .int r_1), (0, .ref a0_)]) hx hb dX2_findAbove_83 rfl hl (by decide) rfl (fun ls hl => ?_)
      refine lv_aload_n hx hb dX2_findAbove_84 rfl (lv_at hl 3 rfl) ?_
      refine g_getk (C := RX2) (T := TX2) (N := 16) hx hb hts (mc_ inX2) hown hK g rfl 0 (by decide) rfl (hts _ (List.mem_cons_of_mem _ t_416)) (fun _ h9 => h9) 5 rfl dX2_findAbove_85 ?_
      refine g_calli (va_runV (As := []) (rest := []) ⟨hx, hb, hml, hown, hts⟩ (r_X8_kind l dC dI L kd tys fr_29 H.size g.2.2.2.1 q0_ mq0_ kq0_) (cwV 0 hts (gV_ t_1118 t_1119 t_1120 t_184 t_1121) rfl rfl rfl (by decide +kernel) ⟨(Nat.le_of_ble_eq_true rfl), (Nat.le_of_ble_eq_true rfl)⟩) (pre3V g hK mq0_ kq0_ (by decide) (q := (RX8, TX8, 10)) rfl) rfl rfl hl.1 rfl (lv_room (Nat.le_of_ble_eq_true rfl)) dX2_findAbove_88 ⟨(Nat.le_of_ble_eq_true rfl), (Nat.le_of_ble_eq_true rfl)⟩) g hK (by decide) (by decide) (fx' := [(8, 6, q0_, .int x_22), (8, 8, q0_, .int y0_), (7, 0, q1_, .ref a_19), (7, 1, q1_, .int x_11), (9, 1, q2_, .int x_6), (2, 0, a0_, .ref q0_), (2, 3, a0_, .ref q1_), (2, 4, a0_, .ref q2_)]) rfl (fun r_31 fr_31 H locs hp hMr_31 g => ?_)
      refine lv_iconst (v := 3) hx hb dX2_findAbove_91 (by decide) ?_
      have kb_3 : bd 3 3 (3 : Int32) := ⟨by decide, by decide⟩
      refine lv_icmp_eq (tgt := 113) hx hb dX2_findAbove_92 (by decide) (fun c_32 => ?_) (fun c_32 => ?_)
      · have fc_32 := eq_f c_32
        have b_33 : bd 3 3 r_31 := eqX fc_32 (bdT r_31) kb_3 (by decide)
        refine lv_iload_n hx hb dX2_findAbove_113 rfl (lv_at hl 0 rfl) ?_
        refine lv_iconst (v := (-1)) hx hb dX2_findAbove_114 (by decide) ?_
        have kb_m1 : bd (-1) (-1) ((-1) : Int32) := ⟨by decide, by decide⟩
        refine lv_icmp_ne (tgt := 136) hx hb dX2_findAbove_115 (by decide) (fun c_34 => ?_) (fun c_34 => ?_)
        · have fc_34 := neq_f c_34
          have b_35 : bd 0 11 r_29 := neX fc_34 h_30 kb_m1 (by decide)
          refine lv_aload_n hx hb dX2_findAbove_136 rfl (lv_at hl 3 rfl) ?_
          refine lv_bipush (v := 18) hx hb dX2_findAbove_137 (by decide) ?_
          have kb_18 : bd 18 18 (18 : Int32) := ⟨by decide, by decide⟩
          refine g_put (C := RX2) (T := TX2) (N := 16) hx hb hts (mc_ inX2) tyX2 tyX2_ok nmX2 hown hK g ma0_ ka0_ (by decide) rfl 12 (by decide) (hts _ (List.mem_cons_of_mem _ t_428)) (fun _ h9 => h9) rfl rfl (okV_i (bd_sub kb_18 (by decide))) rfl rfl (by decide) (Or.inr (Or.inl (by decide))) (fx' := [(8, 6, q0_, .int x_22), (8, 8, q0_, .int y0_), (7, 0, q1_, .ref a_19), (7, 1, q1_, .int x_11), (9, 1, q2_, .int x_6), (2, 0, a0_, .ref q0_), (2, 3, a0_, .ref q1_), (2, 4, a0_, .ref q2_)]) rfl dX2_findAbove_139 (fun f H locs hM_36 g => ?_)
          refine lv_aload_n hx hb dX2_findAbove_142 rfl (lv_at hl 3 rfl) ?_
          refine lv_aload_n hx hb dX2_findAbove_143 rfl (lv_at hl 1 rfl) ?_
          refine g_getr (K := 156) (C := RX9) (T := TX9) (N := 13) hx hb hts (mc_ inX9) hown hK g ma_20 ka_20 (by decide) rfl 9 (by decide) rfl (hts _ (List.mem_cons_of_mem _ t_510)) (fun _ h9 => h9) rfl dX2_findAbove_144 (fun a_37 ma_37 ka_37 g => ?_)
          refine lv_iload_n hx hb dX2_findAbove_147 rfl (lv_at hl 0 rfl) ?_
          refine g_iald hx hb hK g ma_37 ka_37 (by decide) rfl (in_bd b_35 (by decide)) dX2_findAbove_148 (fun x_38 bx_38 cx_38 => ?_)
          refine g_put (C := RX2) (T := TX2) (N := 16) hx hb hts (mc_ inX2) tyX2 tyX2_ok nmX2 hown hK g ma0_ ka0_ (by decide) rfl 13 (by decide) (hts _ (List.mem_cons_of_mem _ t_429)) (fun _ h9 => h9) rfl rfl (okV_i bx_38) rfl rfl (by decide) (Or.inr (Or.inl (by decide))) (fx' := [(9, 9, a_20, .ref a_37), (2, 12, a0_, .int 18), (8, 6, q0_, .int x_22), (8, 8, q0_, .int y0_), (7, 0, q1_, .ref a_19), (7, 1, q1_, .int x_11), (9, 1, q2_, .int x_6), (2, 0, a0_, .ref q0_), (2, 3, a0_, .ref q1_), (2, 4, a0_, .ref q2_)]) rfl dX2_findAbove_149 (fun f H locs hM_39 g => ?_)
          refine lv_aload_n hx hb dX2_findAbove_152 rfl (lv_at hl 3 rfl) ?_
          refine lv_aload_n hx hb dX2_findAbove_153 rfl (lv_at hl 3 rfl) ?_
          refine g_getk (C := RX2) (T := TX2) (N := 16) hx hb hts (mc_ inX2) hown hK g rfl 3 (by decide) rfl (hts _ (List.mem_cons_of_mem _ t_419)) (fun _ h9 => h9) 9 rfl dX2_findAbove_154 ?_
          refine g_getr (K := 137) (C := RX7) (T := TX7) (N := 19) hx hb hts (mc_ inX7) hown hK g mq1_ kq1_ (by decide) rfl 2 (by decide) rfl (hts _ (List.mem_cons_of_mem _ t_630)) (fun _ h9 => h9) rfl dX2_findAbove_157 (fun a_40 ma_40 ka_40 g => ?_)
          refine lv_aload_n hx hb dX2_findAbove_160 rfl (lv_at hl 3 rfl) ?_
          refine g_getk (C := RX2) (T := TX2) (N := 16) hx hb hts (mc_ inX2) hown hK g rfl 13 (by decide) rfl (hts _ (List.mem_cons_of_mem _ t_429)) (fun _ h9 => h9) 1 rfl dX2_findAbove_161 ?_
          refine g_aald hx hb hK g ma_40 ka_40 (by decide) rfl (by decide) (in_bd bx_38 (by decide)) dX2_findAbove_164 (fun a_41 ma_41 ua_41 wa_41 => ?_)
          have ka_41 : kd a_41 = 6 := by omega
          refine g_geti (C := RX6) (T := TX6) (N := 13) hx hb hts (mc_ inX6) hown hK g ma_41 ka_41 (by decide) rfl 3 (by decide) rfl (hts _ (List.mem_cons_of_mem _ t_568)) (fun _ h9 => h9) rfl dX2_findAbove_165 (fun x_42 bx_42 g => ?_)
          refine g_put (C := RX2) (T := TX2) (N := 16) hx hb hts (mc_ inX2) tyX2 tyX2_ok nmX2 hown hK g ma0_ ka0_ (by decide) rfl 14 (by decide) (hts _ (List.mem_cons_of_mem _ t_430)) (fun _ h9 => h9) rfl rfl (okV_i (bd_sub bx_42 (by decide))) rfl rfl (by decide) (Or.inr (Or.inl (by decide))) (fx' := [(6, 3, a_41, .int x_42), (7, 2, q1_, .ref a_40), (2, 13, a0_, .int x_38), (9, 9, a_20, .ref a_37), (2, 12, a0_, .int 18), (8, 6, q0_, .int x_22), (8, 8, q0_, .int y0_), (7, 0, q1_, .ref a_19), (7, 1, q1_, .int x_11), (9, 1, q2_, .int x_6), (2, 0, a0_, .ref q0_), (2, 3, a0_, .ref q1_), (2, 4, a0_, .ref q2_)]) rfl dX2_findAbove_168 (fun f H locs hM_43 g => ?_)
          refine lv_aload_n hx hb dX2_findAbove_171 rfl (lv_at hl 3 rfl) ?_
          refine g_getk (C := RX2) (T := TX2) (N := 16) hx hb hts (mc_ inX2) hown hK g rfl 0 (by decide) rfl (hts _ (List.mem_cons_of_mem _ t_416)) (fun _ h9 => h9) 11 rfl dX2_findAbove_172 ?_
          refine g_callv (va_runV (As := []) (rest := []) ⟨hx, hb, hml, hown, hts⟩ (r_X8_next l dC dI L kd tys f H.size g.2.2.2.1 q0_ mq0_ kq0_) (cwV 0 hts (gV_ t_1131 t_1103 t_1104 t_184 t_1105) rfl rfl rfl (by decide +kernel) ⟨(Nat.le_of_ble_eq_true rfl), (Nat.le_of_ble_eq_true rfl)⟩) (pre3V g hK mq0_ kq0_ (by decide) (q := (RX8, TX8, 10)) rfl) rfl rfl hl.1 rfl (lv_room (Nat.le_of_ble_eq_true rfl)) dX2_findAbove_175 ⟨(Nat.le_of_ble_eq_true rfl), (Nat.le_of_ble_eq_true rfl)⟩) g hK (by decide) (by decide) (fx' := [(2, 14, a0_, .int x_42), (6, 3, a_41, .int x_42), (7, 2, q1_, .ref a_40), (2, 13, a0_, .int x_38), (9, 9, a_20, .ref a_37), (2, 12, a0_, .int 18), (8, 8, q0_, .int y0_), (7, 0, q1_, .ref a_19), (7, 1, q1_, .int x_11), (9, 1, q2_, .int x_6), (2, 0, a0_, .ref q0_), (2, 3, a0_, .ref q1_), (2, 4, a0_, .ref q2_)]) rfl (fun fr_44 H locs hp hMr_44 g => ?_)
          obtain ⟨x_45, h_46, hF_47⟩ := hp
          have g := g.more hF_47
          refine lv_iconst (v := 1) hx hb dX2_findAbove_178 (by decide) ?_
          subst hQ
          have kb_1 : bd 1 1 (1 : Int32) := ⟨by decide, by decide⟩
          exact W.zret (v := 1) hx hb hr (nar_z (bd_sub kb_1 (by decide) : bd 0 1 _).1 (bd_sub kb_1 (by decide) : bd 0 1 _).2) (fun t ht hW => ⟨⟨_, _, rfl, Or.inl ⟨rfl, x_45, h_46, x_42, bx_42, x_11, h_12, x_6, b_18, (g.fcts [0, 1, 6, 7, 9, 10] rfl)⟩, q3_of g hK ht hW⟩, g.2.2.1.F ht⟩) g.2.2.1.2.2 dX2_findAbove_179
        · have fc_34 := eq_f c_34
          have b_48 : bd (-1) (-1) r_29 := eqX fc_34 h_30 kb_m1 (by decide)
          refine lv_aload_n hx hb dX2_findAbove_118 rfl (lv_at hl 3 rfl) ?_
          refine g_getk (C := RX2) (T := TX2) (N := 16) hx hb hts (mc_ inX2) hown hK g rfl 0 (by decide) rfl (hts _ (List.mem_cons_of_mem _ t_416)) (fun _ h9 => h9) 5 rfl dX2_findAbove_119 ?_
          refine lv_iconst (v := 2) hx hb dX2_findAbove_122 (by decide) ?_
          refine lv_aload_n hx hb dX2_findAbove_123 rfl (lv_at hl 3 rfl) ?_
          refine g_getk (C := RX2) (T := TX2) (N := 16) hx hb hts (mc_ inX2) hown hK g rfl 0 (by decide) rfl (hts _ (List.mem_cons_of_mem _ t_416)) (fun _ h9 => h9) 5 rfl dX2_findAbove_124 ?_
          refine g_calli (va_runV (As := []) (rest := [.int 2, .ref q0_]) ⟨hx, hb, hml, hown, hts⟩ (r_X8_place l dC dI L kd tys fr_31 H.size g.2.2.2.1 q0_ mq0_ kq0_) (cwV 0 hts (gV_ t_1110 t_1111 t_1112 t_184 t_1113) rfl rfl rfl (by decide +kernel) ⟨(Nat.le_of_ble_eq_true rfl), (Nat.le_of_ble_eq_true rfl)⟩) (pre3V g hK mq0_ kq0_ (by decide) (q := (RX8, TX8, 10)) rfl) rfl rfl hl.1 rfl (lv_room (Nat.le_of_ble_eq_true rfl)) dX2_findAbove_127 ⟨(Nat.le_of_ble_eq_true rfl), (Nat.le_of_ble_eq_true rfl)⟩) g hK (by decide) (by decide) (fx' := [(8, 6, q0_, .int x_22), (8, 8, q0_, .int y0_), (7, 0, q1_, .ref a_19), (7, 1, q1_, .int x_11), (9, 1, q2_, .int x_6), (2, 0, a0_, .ref q0_), (2, 3, a0_, .ref q1_), (2, 4, a0_, .ref q2_)]) rfl (fun r_49 fr_49 H locs hp hMr_49 g => ?_)
          have kb_2 : bd 2 2 (2 : Int32) := ⟨by decide, by decide⟩
          refine g_callv (va_runV (As := [.int 2, .int r_49]) (rest := []) ⟨hx, hb, hml, hown, hts⟩ (r_X8_fail l dC dI L kd tys fr_49 H.size g.2.2.2.1 q0_ mq0_ kq0_ 2 (bd_sub kb_2 (by decide)) r_49 y0_ by0_ (g.fcts [1] rfl)) (cwV 2 hts (gV_ t_1122 t_1107 t_1108 t_184 t_1109) rfl rfl rfl (by decide +kernel) ⟨(Nat.le_of_ble_eq_true rfl), (Nat.le_of_ble_eq_true rfl)⟩) (pre3V g hK mq0_ kq0_ (by decide) (q := (RX8, TX8, 10)) rfl) rfl rfl hl.1 rfl (lv_room (Nat.le_of_ble_eq_true rfl)) dX2_findAbove_130 ⟨(Nat.le_of_ble_eq_true rfl), (Nat.le_of_ble_eq_true rfl)⟩) g hK (by decide) (by decide) (fx' := [(7, 0, q1_, .ref a_19), (7, 1, q1_, .int x_11), (9, 1, q2_, .int x_6), (2, 0, a0_, .ref q0_), (2, 3, a0_, .ref q1_), (2, 4, a0_, .ref q2_)]) rfl (fun fr_50 H locs hp hMr_50 g => ?_)
          obtain ⟨x_51, h_52, hF_53⟩ := hp
          have g := g.more hF_53
          refine lv_goto (tgt := 171) hx hb dX2_findAbove_133 (by decide) ?_
          refine lv_aload_n hx hb dX2_findAbove_171 rfl (lv_at hl 3 rfl) ?_
          refine g_getk (C := RX2) (T := TX2) (N := 16) hx hb hts (mc_ inX2) hown hK g rfl 0 (by decide) rfl (hts _ (List.mem_cons_of_mem _ t_416)) (fun _ h9 => h9) 5 rfl dX2_findAbove_172 ?_
          have kb_1201 : bd 1201 1201 (1201 : Int32) := ⟨by decide, by decide⟩
          refine g_callv (va_runV (As := []) (rest := []) ⟨hx, hb, hml, hown, hts⟩ (r_X8_next_2 l dC dI L kd tys fr_50 H.size g.2.2.2.1 q0_ mq0_ kq0_ 1201 kb_1201 (g.fcts [0] rfl)) (cwV 0 hts (gV_ t_1131 t_1103 t_1104 t_184 t_1105) rfl rfl rfl (by decide +kernel) ⟨(Nat.le_of_ble_eq_true rfl), (Nat.le_of_ble_eq_true rfl)⟩) (pre3V g hK mq0_ kq0_ (by decide) (q := (RX8, TX8, 10)) rfl) rfl rfl hl.1 rfl (lv_room (Nat.le_of_ble_eq_true rfl)) dX2_findAbove_175 ⟨(Nat.le_of_ble_eq_true rfl), (Nat.le_of_ble_eq_true rfl)⟩) g hK (by decide) (by decide) (fx' := [(8, 6, q0_, .int 1201), (8, 8, q0_, .int x_51), (7, 0, q1_, .ref a_19), (7, 1, q1_, .int x_11), (9, 1, q2_, .int x_6), (2, 0, a0_, .ref q0_), (2, 3, a0_, .ref q1_), (2, 4, a0_, .ref q2_)]) rfl (fun fr_54 H locs hp hMr_54 g => ?_)
          refine lv_iconst (v := 1) hx hb dX2_findAbove_178 (by decide) ?_
          subst hQ
          have kb_1 : bd 1 1 (1 : Int32) := ⟨by decide, by decide⟩
          exact W.zret (v := 1) hx hb hr (nar_z (bd_sub kb_1 (by decide) : bd 0 1 _).1 (bd_sub kb_1 (by decide) : bd 0 1 _).2) (fun t ht hW => ⟨⟨_, _, rfl, Or.inr (⟨rfl, x_51, h_52, (g.fcts [0, 1] rfl)⟩), q3_of g hK ht hW⟩, g.2.2.1.F ht⟩) g.2.2.1.2.2 dX2_findAbove_179
      · have fc_32 := neq_f c_32
        refine lv_aload_n hx hb dX2_findAbove_95 rfl (lv_at hl 3 rfl) ?_
        refine g_getk (C := RX2) (T := TX2) (N := 16) hx hb hts (mc_ inX2) hown hK g rfl 0 (by decide) rfl (hts _ (List.mem_cons_of_mem _ t_416)) (fun _ h9 => h9) 5 rfl dX2_findAbove_96 ?_
        refine lv_iconst (v := 1) hx hb dX2_findAbove_99 (by decide) ?_
        refine lv_aload_n hx hb dX2_findAbove_100 rfl (lv_at hl 3 rfl) ?_
        refine g_getk (C := RX2) (T := TX2) (N := 16) hx hb hts (mc_ inX2) hown hK g rfl 0 (by decide) rfl (hts _ (List.mem_cons_of_mem _ t_416)) (fun _ h9 => h9) 5 rfl dX2_findAbove_101 ?_
        refine g_calli (va_runV (As := []) (rest := [.int 1, .ref q0_]) ⟨hx, hb, hml, hown, hts⟩ (r_X8_place l dC dI L kd tys fr_31 H.size g.2.2.2.1 q0_ mq0_ kq0_) (cwV 0 hts (gV_ t_1110 t_1111 t_1112 t_184 t_1113) rfl rfl rfl (by decide +kernel) ⟨(Nat.le_of_ble_eq_true rfl), (Nat.le_of_ble_eq_true rfl)⟩) (pre3V g hK mq0_ kq0_ (by decide) (q := (RX8, TX8, 10)) rfl) rfl rfl hl.1 rfl (lv_room (Nat.le_of_ble_eq_true rfl)) dX2_findAbove_104 ⟨(Nat.le_of_ble_eq_true rfl), (Nat.le_of_ble_eq_true rfl)⟩) g hK (by decide) (by decide) (fx' := [(8, 6, q0_, .int x_22), (8, 8, q0_, .int y0_), (7, 0, q1_, .ref a_19), (7, 1, q1_, .int x_11), (9, 1, q2_, .int x_6), (2, 0, a0_, .ref q0_), (2, 3, a0_, .ref q1_), (2, 4, a0_, .ref q2_)]) rfl (fun r_55 fr_55 H locs hp hMr_55 g => ?_)
        have kb_1 : bd 1 1 (1 : Int32) := ⟨by decide, by decide⟩
        refine g_callv (va_runV (As := [.int 1, .int r_55]) (rest := []) ⟨hx, hb, hml, hown, hts⟩ (r_X8_fail l dC dI L kd tys fr_55 H.size g.2.2.2.1 q0_ mq0_ kq0_ 1 (bd_sub kb_1 (by decide)) r_55 y0_ by0_ (g.fcts [1] rfl)) (cwV 2 hts (gV_ t_1122 t_1107 t_1108 t_184 t_1109) rfl rfl rfl (by decide +kernel) ⟨(Nat.le_of_ble_eq_true rfl), (Nat.le_of_ble_eq_true rfl)⟩) (pre3V g hK mq0_ kq0_ (by decide) (q := (RX8, TX8, 10)) rfl) rfl rfl hl.1 rfl (lv_room (Nat.le_of_ble_eq_true rfl)) dX2_findAbove_107 ⟨(Nat.le_of_ble_eq_true rfl), (Nat.le_of_ble_eq_true rfl)⟩) g hK (by decide) (by decide) (fx' := [(7, 0, q1_, .ref a_19), (7, 1, q1_, .int x_11), (9, 1, q2_, .int x_6), (2, 0, a0_, .ref q0_), (2, 3, a0_, .ref q1_), (2, 4, a0_, .ref q2_)]) rfl (fun fr_56 H locs hp hMr_56 g => ?_)
        obtain ⟨x_57, h_58, hF_59⟩ := hp
        have g := g.more hF_59
        refine lv_goto (tgt := 171) hx hb dX2_findAbove_110 (by decide) ?_
        refine lv_aload_n hx hb dX2_findAbove_171 rfl (lv_at hl 3 rfl) ?_
        refine g_getk (C := RX2) (T := TX2) (N := 16) hx hb hts (mc_ inX2) hown hK g rfl 0 (by decide) rfl (hts _ (List.mem_cons_of_mem _ t_416)) (fun _ h9 => h9) 5 rfl dX2_findAbove_172 ?_
        have kb_1201 : bd 1201 1201 (1201 : Int32) := ⟨by decide, by decide⟩
        refine g_callv (va_runV (As := []) (rest := []) ⟨hx, hb, hml, hown, hts⟩ (r_X8_next_2 l dC dI L kd tys fr_56 H.size g.2.2.2.1 q0_ mq0_ kq0_ 1201 kb_1201 (g.fcts [0] rfl)) (cwV 0 hts (gV_ t_1131 t_1103 t_1104 t_184 t_1105) rfl rfl rfl (by decide +kernel) ⟨(Nat.le_of_ble_eq_true rfl), (Nat.le_of_ble_eq_true rfl)⟩) (pre3V g hK mq0_ kq0_ (by decide) (q := (RX8, TX8, 10)) rfl) rfl rfl hl.1 rfl (lv_room (Nat.le_of_ble_eq_true rfl)) dX2_findAbove_175 ⟨(Nat.le_of_ble_eq_true rfl), (Nat.le_of_ble_eq_true rfl)⟩) g hK (by decide) (by decide) (fx' := [(8, 6, q0_, .int 1201), (8, 8, q0_, .int x_57), (7, 0, q1_, .ref a_19), (7, 1, q1_, .int x_11), (9, 1, q2_, .int x_6), (2, 0, a0_, .ref q0_), (2, 3, a0_, .ref q1_), (2, 4, a0_, .ref q2_)]) rfl (fun fr_60 H locs hp hMr_60 g => ?_)
        refine lv_iconst (v := 1) hx hb dX2_findAbove_178 (by decide) ?_
        subst hQ
        exact W.zret (v := 1) hx hb hr (nar_z (bd_sub kb_1 (by decide) : bd 0 1 _).1 (bd_sub kb_1 (by decide) : bd 0 1 _).2) (fun t ht hW => ⟨⟨_, _, rfl, Or.inr (⟨rfl, x_57, h_58, (g.fcts [0, 1] rfl)⟩), q3_of g hK ht hW⟩, g.2.2.1.F ht⟩) g.2.2.1.2.2 dX2_findAbove_179
    · have g := g.more hF_27
      refine lv_aload_n hx hb dX2_findAbove_68 rfl (lv_at hl 2 rfl) ?_
      refine g_getk (C := RX2) (T := TX2) (N := 16) hx hb hts (mc_ inX2) hown hK g rfl 3 (by decide) rfl (hts _ (List.mem_cons_of_mem _ t_419)) (fun _ h9 => h9) 6 rfl dX2_findAbove_69 ?_
      refine lv_aload_n hx hb dX2_findAbove_72 rfl (lv_at hl 0 rfl) ?_
      refine lv_aload_n hx hb dX2_findAbove_73 rfl (lv_at hl 2 rfl) ?_
      refine g_getk (C := RX2) (T := TX2) (N := 16) hx hb hts (mc_ inX2) hown hK g rfl 0 (by decide) rfl (hts _ (List.mem_cons_of_mem _ t_416)) (fun _ h9 => h9) 5 rfl dX2_findAbove_74 ?_
      refine g_calll (va_runV (As := []) (rest := [.ref a_20, .ref q1_]) ⟨hx, hb, hml, hown, hts⟩ (r_X8_value l dC dI L kd tys fr_21 H.size g.2.2.2.1 q0_ mq0_ kq0_) (cwV 0 hts (gV_ t_1114 t_1115 t_1116 t_184 t_1117) rfl rfl rfl (by decide +kernel) ⟨(Nat.le_of_ble_eq_true rfl), (Nat.le_of_ble_eq_true rfl)⟩) (pre3V g hK mq0_ kq0_ (by decide) (q := (RX8, TX8, 10)) rfl) rfl rfl hl.1 rfl (lv_room (Nat.le_of_ble_eq_true rfl)) dX2_findAbove_77 ⟨(Nat.le_of_ble_eq_true rfl), (Nat.le_of_ble_eq_true rfl)⟩) g hK (by decide) (by decide) (fx' := [(8, 6, q0_, .int 1201), (8, 8, q0_, .int x_25), (7, 0, q1_, .ref a_19), (7, 1, q1_, .int x_11), (9, 1, q2_, .int x_6), (2, 0, a0_, .ref q0_), (2, 3, a0_, .ref q1_), (2, 4, a0_, .ref q2_)]) rfl (fun r_61 fr_61 H locs hp hMr_61 g => ?_)
      refine g_calli (va_runV (As := [.ref a_20, .long r_61]) (rest := []) ⟨hx, hb, hml, hown, hts⟩ (r_X7_memberNamed l dC dI L kd tys fr_61 H.size g.2.2.2.1 q1_ mq1_ kq1_ a_20 ma_20 ka_20 r_61) (cwV 2 hts (gV_ t_1306 t_1244 t_1245 t_191 t_1246) rfl rfl rfl (by decide +kernel) ⟨(Nat.le_of_ble_eq_true rfl), (Nat.le_of_ble_eq_true rfl)⟩) (pre3V g hK mq1_ kq1_ (by decide) (q := (RX7, TX7, 19)) rfl) rfl rfl hl.1 rfl (lv_room (Nat.le_of_ble_eq_true rfl)) dX2_findAbove_80 ⟨(Nat.le_of_ble_eq_true rfl), (Nat.le_of_ble_eq_true rfl)⟩) g hK (by decide) (by decide) (fx' := [(8, 6, q0_, .int 1201), (8, 8, q0_, .int x_25), (7, 0, q1_, .ref a_19), (7, 1, q1_, .int x_11), (9, 1, q2_, .int x_6), (2, 0, a0_, .ref q0_), (2, 3, a0_, .ref q1_), (2, 4, a0_, .ref q2_)]) rfl (fun r_62 fr_62 H locs hp hMr_62 g => ?_)
      obtain ⟨h_63, -⟩ := hp
      refine lv_istore_n (lv' := [(3, .int r_62), (2, .ref a_20), (1, .int r_1), (0, .ref a0_)]) hx hb dX2_findAbove_83 rfl hl (by decide) rfl (fun ls hl => ?_)
      refine lv_aload_n hx hb dX2_findAbove_84 rfl (lv_at hl 3 rfl) ?_
      refine g_getk (C := RX2) (T := TX2) (N := 16) hx hb hts (mc_ inX2) hown hK g rfl 0 (by decide) rfl (hts _ (List.mem_cons_of_mem _ t_416)) (fun _ h9 => h9) 5 rfl dX2_findAbove_85 ?_
      have kb_1201 : bd 1201 1201 (1201 : Int32) := ⟨by decide, by decide⟩
      refine g_calli (va_runV (As := []) (rest := []) ⟨hx, hb, hml, hown, hts⟩ (r_X8_kind_2 l dC dI L kd tys fr_62 H.size g.2.2.2.1 q0_ mq0_ kq0_ 1201 kb_1201 (g.fcts [0] rfl)) (cwV 0 hts (gV_ t_1118 t_1119 t_1120 t_184 t_1121) rfl rfl rfl (by decide +kernel) ⟨(Nat.le_of_ble_eq_true rfl), (Nat.le_of_ble_eq_true rfl)⟩) (pre3V g hK mq0_ kq0_ (by decide) (q := (RX8, TX8, 10)) rfl) rfl rfl hl.1 rfl (lv_room (Nat.le_of_ble_eq_true rfl)) dX2_findAbove_88 ⟨(Nat.le_of_ble_eq_true rfl), (Nat.le_of_ble_eq_true rfl)⟩) g hK (by decide) (by decide) (fx' := [(8, 6, q0_, .int 1201), (8, 8, q0_, .int x_25), (7, 0, q1_, .ref a_19), (7, 1, q1_, .int x_11), (9, 1, q2_, .int x_6), (2, 0, a0_, .ref q0_), (2, 3, a0_, .ref q1_), (2, 4, a0_, .ref q2_)]) rfl (fun r_64 fr_64 H locs hp hMr_64 g => ?_)
      obtain ⟨h_65, -⟩ := hp
      obtain rfl : r_64 = 0 := h_65
      refine lv_iconst (v := 3) hx hb dX2_findAbove_91 (by decide) ?_
      refine lv_icmp_eq (tgt := 113) hx hb dX2_findAbove_92 (by decide) (fun c_ => absurd c_ (by decide)) (fun c_ => ?_)
      refine lv_aload_n hx hb dX2_findAbove_95 rfl (lv_at hl 3 rfl) ?_
      refine g_getk (C := RX2) (T := TX2) (N := 16) hx hb hts (mc_ inX2) hown hK g rfl 0 (by decide) rfl (hts _ (List.mem_cons_of_mem _ t_416)) (fun _ h9 => h9) 5 rfl dX2_findAbove_96 ?_
      refine lv_iconst (v := 1) hx hb dX2_findAbove_99 (by decide) ?_
      refine lv_aload_n hx hb dX2_findAbove_100 rfl (lv_at hl 3 rfl) ?_
      refine g_getk (C := RX2) (T := TX2) (N := 16) hx hb hts (mc_ inX2) hown hK g rfl 0 (by decide) rfl (hts _ (List.mem_cons_of_mem _ t_416)) (fun _ h9 => h9) 5 rfl dX2_findAbove_101 ?_
      refine g_calli (va_runV (As := []) (rest := [.int 1, .ref q0_]) ⟨hx, hb, hml, hown, hts⟩ (r_X8_place l dC dI L kd tys fr_64 H.size g.2.2.2.1 q0_ mq0_ kq0_) (cwV 0 hts (gV_ t_1110 t_1111 t_1112 t_184 t_1113) rfl rfl rfl (by decide +kernel) ⟨(Nat.le_of_ble_eq_true rfl), (Nat.le_of_ble_eq_true rfl)⟩) (pre3V g hK mq0_ kq0_ (by decide) (q := (RX8, TX8, 10)) rfl) rfl rfl hl.1 rfl (lv_room (Nat.le_of_ble_eq_true rfl)) dX2_findAbove_104 ⟨(Nat.le_of_ble_eq_true rfl), (Nat.le_of_ble_eq_true rfl)⟩) g hK (by decide) (by decide) (fx' := [(8, 6, q0_, .int 1201), (8, 8, q0_, .int x_25), (7, 0, q1_, .ref a_19), (7, 1, q1_, .int x_11), (9, 1, q2_, .int x_6), (2, 0, a0_, .ref q0_), (2, 3, a0_, .ref q1_), (2, 4, a0_, .ref q2_)]) rfl (fun r_66 fr_66 H locs hp hMr_66 g => ?_)
      have kb_1 : bd 1 1 (1 : Int32) := ⟨by decide, by decide⟩
      refine g_callv (va_runV (As := [.int 1, .int r_66]) (rest := []) ⟨hx, hb, hml, hown, hts⟩ (r_X8_fail_2 l dC dI L kd tys fr_66 H.size g.2.2.2.1 q0_ mq0_ kq0_ 1 (bd_sub kb_1 (by decide)) r_66 x_25 h_26 (g.fcts [1] rfl)) (cwV 2 hts (gV_ t_1122 t_1107 t_1108 t_184 t_1109) rfl rfl rfl (by decide +kernel) ⟨(Nat.le_of_ble_eq_true rfl), (Nat.le_of_ble_eq_true rfl)⟩) (pre3V g hK mq0_ kq0_ (by decide) (q := (RX8, TX8, 10)) rfl) rfl rfl hl.1 rfl (lv_room (Nat.le_of_ble_eq_true rfl)) dX2_findAbove_107 ⟨(Nat.le_of_ble_eq_true rfl), (Nat.le_of_ble_eq_true rfl)⟩) g hK (by decide) (by decide) (fx' := [(8, 8, q0_, .int x_25), (7, 0, q1_, .ref a_19), (7, 1, q1_, .int x_11), (9, 1, q2_, .int x_6), (2, 0, a0_, .ref q0_), (2, 3, a0_, .ref q1_), (2, 4, a0_, .ref q2_)]) rfl (fun fr_67 H locs hp hMr_67 g => ?_)
      have hF_68 := hp
      have g := g.more hF_68
      refine lv_goto (tgt := 171) hx hb dX2_findAbove_110 (by decide) ?_
      refine lv_aload_n hx hb dX2_findAbove_171 rfl (lv_at hl 3 rfl) ?_
      refine g_getk (C := RX2) (T := TX2) (N := 16) hx hb hts (mc_ inX2) hown hK g rfl 0 (by decide) rfl (hts _ (List.mem_cons_of_mem _ t_416)) (fun _ h9 => h9) 5 rfl dX2_findAbove_172 ?_
      refine g_callv (va_runV (As := []) (rest := []) ⟨hx, hb, hml, hown, hts⟩ (r_X8_next_2 l dC dI L kd tys fr_67 H.size g.2.2.2.1 q0_ mq0_ kq0_ 1201 kb_1201 (g.fcts [0] rfl)) (cwV 0 hts (gV_ t_1131 t_1103 t_1104 t_184 t_1105) rfl rfl rfl (by decide +kernel) ⟨(Nat.le_of_ble_eq_true rfl), (Nat.le_of_ble_eq_true rfl)⟩) (pre3V g hK mq0_ kq0_ (by decide) (q := (RX8, TX8, 10)) rfl) rfl rfl hl.1 rfl (lv_room (Nat.le_of_ble_eq_true rfl)) dX2_findAbove_175 ⟨(Nat.le_of_ble_eq_true rfl), (Nat.le_of_ble_eq_true rfl)⟩) g hK (by decide) (by decide) (fx' := [(8, 6, q0_, .int 1201), (8, 8, q0_, .int x_25), (7, 0, q1_, .ref a_19), (7, 1, q1_, .int x_11), (9, 1, q2_, .int x_6), (2, 0, a0_, .ref q0_), (2, 3, a0_, .ref q1_), (2, 4, a0_, .ref q2_)]) rfl (fun fr_69 H locs hp hMr_69 g => ?_)
      refine lv_iconst (v := 1) hx hb dX2_findAbove_178 (by decide) ?_
      subst hQ
      exact W.zret (v := 1) hx hb hr (nar_z (bd_sub kb_1 (by decide) : bd 0 1 _).1 (bd_sub kb_1 (by decide) : bd 0 1 _).2) (fun t ht hW => ⟨⟨_, _, rfl, Or.inr (⟨rfl, x_25, h_26, (g.fcts [0, 1] rfl)⟩), q3_of g hK ht hW⟩, g.2.2.1.F ht⟩) g.2.2.1.2.2 dX2_findAbove_179
set_option maxHeartbeats 4000000 in
set_option maxRecDepth 100000 in
theorem r_X2_refuseStatement (l : Launch) (dC : Nat → ClassId) (dI : Nat → Nat → Nat) (L : List Nat) (kd : Nat → Nat) (tys : List (ClassId × FieldType)) (f0 : Nat → va_E) (sz : Nat) (hWT : WT L kd tys f0) (a0_ : Nat) (ma0_ : a0_ ∈ L) (ka0_ : kd a0_ = 2) (q0_ : Nat) (mq0_ : q0_ ∈ L) (kq0_ : kd q0_ = 8) (q1_ : Nat) (mq1_ : q1_ ∈ L) (kq1_ : kd q1_ = 5) (q2_ : Nat) (mq2_ : q2_ ∈ L) (kq2_ : kd q2_ = 7) (q3_ : Nat) (mq3_ : q3_ ∈ L) (kq3_ : kd q3_ = 9) (q4_ : Nat) (mq4_ : q4_ ∈ L) (kq4_ : kd q4_ = 9) (y0_ : Int32) (by0_ : bd 0 0 y0_) (hfx : Fs L kd f0 [(2, 0, a0_, .ref q0_), (2, 1, a0_, .ref q1_), (2, 3, a0_, .ref q2_), (2, 4, a0_, .ref q3_), (5, 1, q1_, .ref q4_), (8, 8, q0_, .int y0_)]) : Met l yX2_refuseStatement (.code yX2_refuseStatement cX2_refuseStatement 5 none :: lw_g) ({ frames := 2, cells := 0, slots := 0, locals := 46 }) (va_Pc [.ref a0_] (P3 (dC, dI) L tys f0 sz)) (va_Qv (fun (f : Nat → va_E) => (∃ z1_ : Int32, bd 1 7 z1_ ∧ Fs L kd f [(8, 6, q0_, .int 1201), (8, 8, q0_, .int z1_)])) (Q3 (dC, dI) L kd tys [(8, 6), (8, 8), (8, 9)] [] f0 sz) (pA L sz)) 0 0 (pA L sz) := by
  refine Met.ofW (cc := cX2_refuseStatement) (maxL := 5) (ret := none) (by decide) rfl ?_
  intro p e s m args below meth c s₁ B hml hv
  obtain ⟨rfl, hsz, hP, hK, hD0⟩ := hv
  have hx := B.exec
  have hb := B.bytes
  have hr := B.returns
  have hts := atoms_spec (ws := (.code yX2_refuseStatement cX2_refuseStatement 5 none :: lw_g)) B.pre
  have hown : s.vm.findClass RX2 = some m.cls := findClass_of_methodNamed B.named
  have hlocks := B.notSynchronized
  subst hsz
  have g : G3 (dC, dI) L kd tys s f0 [(8, 6), (8, 8), (8, 9)] [] f0 s.heap [] [(2, 0, a0_, .ref q0_), (2, 1, a0_, .ref q1_), (2, 3, a0_, .ref q2_), (2, 4, a0_, .ref q3_), (5, 1, q1_, .ref q4_), (8, 8, q0_, .int y0_)] := G3.start hP hD0 hWT hfx
  have hl := lv_entry ([.ref a0_]) (n := 5) (Nat.le_of_ble_eq_true rfl)
  rw [lg_entry_eq]
  generalize (lg_sl ([.ref a0_]) ++ List.replicate (5 - (lg_sl ([.ref a0_])).length) Slot.unset).toArray = ls at hl ⊢
  have hl : lv_has ls 5 [(0, .ref a0_)] := hl
  refine W_q (fun Q hQ => ?_)
  refine lv_aload_n hx hb dX2_refuseStatement_0 rfl (lv_at hl 0 rfl) ?_
  refine g_getk (C := RX2) (T := TX2) (N := 16) hx hb hts (mc_ inX2) hown hK g rfl 0 (by decide) rfl (hts _ (List.mem_cons_of_mem _ t_416)) (fun _ h9 => h9) 0 rfl dX2_refuseStatement_1 ?_
  refine g_calli (va_runV (As := []) (rest := []) ⟨hx, hb, hml, hown, hts⟩ (r_X8_place l dC dI L kd tys f0 s.heap.size g.2.2.2.1 q0_ mq0_ kq0_) (cwV 0 hts (gV_ t_1110 t_1111 t_1112 t_184 t_1113) rfl rfl rfl (by decide +kernel) ⟨(Nat.le_of_ble_eq_true rfl), (Nat.le_of_ble_eq_true rfl)⟩) (pre3V g hK mq0_ kq0_ (by decide) (q := (RX8, TX8, 10)) rfl) rfl rfl hl.1 rfl (lv_room (Nat.le_of_ble_eq_true rfl)) dX2_refuseStatement_4 ⟨(Nat.le_of_ble_eq_true rfl), (Nat.le_of_ble_eq_true rfl)⟩) g hK (by decide) (by decide) (fx' := [(2, 0, a0_, .ref q0_), (2, 1, a0_, .ref q1_), (2, 3, a0_, .ref q2_), (2, 4, a0_, .ref q3_), (5, 1, q1_, .ref q4_), (8, 8, q0_, .int y0_)]) rfl (fun r_1 fr_1 H locs hp hMr_1 g => ?_)
  refine lv_istore_n (lv' := [(1, .int r_1), (0, .ref a0_)]) hx hb dX2_refuseStatement_7 rfl hl (by decide) rfl (fun ls hl => ?_)
  refine lv_aload_n hx hb dX2_refuseStatement_8 rfl (lv_at hl 1 rfl) ?_
  refine g_getk (C := RX2) (T := TX2) (N := 16) hx hb hts (mc_ inX2) hown hK g rfl 0 (by decide) rfl (hts _ (List.mem_cons_of_mem _ t_416)) (fun _ h9 => h9) 0 rfl dX2_refuseStatement_9 ?_
  refine g_calli (va_runV (As := []) (rest := []) ⟨hx, hb, hml, hown, hts⟩ (r_X8_kind l dC dI L kd tys fr_1 H.size g.2.2.2.1 q0_ mq0_ kq0_) (cwV 0 hts (gV_ t_1118 t_1119 t_1120 t_184 t_1121) rfl rfl rfl (by decide +kernel) ⟨(Nat.le_of_ble_eq_true rfl), (Nat.le_of_ble_eq_true rfl)⟩) (pre3V g hK mq0_ kq0_ (by decide) (q := (RX8, TX8, 10)) rfl) rfl rfl hl.1 rfl (lv_room (Nat.le_of_ble_eq_true rfl)) dX2_refuseStatement_12 ⟨(Nat.le_of_ble_eq_true rfl), (Nat.le_of_ble_eq_true rfl)⟩) g hK (by decide) (by decide) (fx' := [(2, 0, a0_, .ref q0_), (2, 1, a0_, .ref q1_), (2, 3, a0_, .ref q2_), (2, 4, a0_, .ref q3_), (5, 1, q1_, .ref q4_), (8, 8, q0_, .int y0_)]) rfl (fun r_2 fr_2 H locs hp hMr_2 g => ?_)
  refine lv_iconst (v := 3) hx hb dX2_refuseStatement_15 (by decide) ?_
  have kb_3 : bd 3 3 (3 : Int32) := ⟨by decide, by decide⟩
  refine lv_icmp_ne (tgt := 91) hx hb dX2_refuseStatement_16 (by decide) (fun c_3 => ?_) (fun c_3 => ?_)
  · have fc_3 := neq_f c_3
    refine lv_aload_n hx hb dX2_refuseStatement_91 rfl (lv_at hl 1 rfl) ?_
    refine g_getk (C := RX2) (T := TX2) (N := 16) hx hb hts (mc_ inX2) hown hK g rfl 0 (by decide) rfl (hts _ (List.mem_cons_of_mem _ t_416)) (fun _ h9 => h9) 0 rfl dX2_refuseStatement_92 ?_
    refine lv_iconst (v := 4) hx hb dX2_refuseStatement_95 (by decide) ?_
    refine lv_iload_n hx hb dX2_refuseStatement_96 rfl (lv_at hl 0 rfl) ?_
    have kb_4 : bd 4 4 (4 : Int32) := ⟨by decide, by decide⟩
    refine g_callv (va_runV (As := [.int 4, .int r_1]) (rest := []) ⟨hx, hb, hml, hown, hts⟩ (r_X8_fail l dC dI L kd tys fr_2 H.size g.2.2.2.1 q0_ mq0_ kq0_ 4 (bd_sub kb_4 (by decide)) r_1 y0_ by0_ (g.fcts [5] rfl)) (cwV 2 hts (gV_ t_1122 t_1107 t_1108 t_184 t_1109) rfl rfl rfl (by decide +kernel) ⟨(Nat.le_of_ble_eq_true rfl), (Nat.le_of_ble_eq_true rfl)⟩) (pre3V g hK mq0_ kq0_ (by decide) (q := (RX8, TX8, 10)) rfl) rfl rfl hl.1 rfl (lv_room (Nat.le_of_ble_eq_true rfl)) dX2_refuseStatement_97 ⟨(Nat.le_of_ble_eq_true rfl), (Nat.le_of_ble_eq_true rfl)⟩) g hK (by decide) (by decide) (fx' := [(2, 0, a0_, .ref q0_), (2, 1, a0_, .ref q1_), (2, 3, a0_, .ref q2_), (2, 4, a0_, .ref q3_), (5, 1, q1_, .ref q4_)]) rfl (fun fr_4 H locs hp hMr_4 g => ?_)
    obtain ⟨x_5, h_6, hF_7⟩ := hp
    have g := g.more hF_7
    subst hQ
    exact W.vret hx hb hr (fun t ht hW => ⟨⟨_, rfl, ⟨x_5, h_6, (g.fcts [0, 1] rfl)⟩, q3_of g hK ht hW⟩, g.2.2.1.F ht⟩) g.2.2.1.2.2 dX2_refuseStatement_100
  · have fc_3 := eq_f c_3
    have b_8 : bd 3 3 r_2 := eqX fc_3 (bdT r_2) kb_3 (by decide)
    refine lv_aload_n hx hb dX2_refuseStatement_19 rfl (lv_at hl 1 rfl) ?_
    refine g_getk (C := RX2) (T := TX2) (N := 16) hx hb hts (mc_ inX2) hown hK g rfl 0 (by decide) rfl (hts _ (List.mem_cons_of_mem _ t_416)) (fun _ h9 => h9) 0 rfl dX2_refuseStatement_20 ?_
    refine g_calll (va_runV (As := []) (rest := []) ⟨hx, hb, hml, hown, hts⟩ (r_X8_value l dC dI L kd tys fr_2 H.size g.2.2.2.1 q0_ mq0_ kq0_) (cwV 0 hts (gV_ t_1114 t_1115 t_1116 t_184 t_1117) rfl rfl rfl (by decide +kernel) ⟨(Nat.le_of_ble_eq_true rfl), (Nat.le_of_ble_eq_true rfl)⟩) (pre3V g hK mq0_ kq0_ (by decide) (q := (RX8, TX8, 10)) rfl) rfl rfl hl.1 rfl (lv_room (Nat.le_of_ble_eq_true rfl)) dX2_refuseStatement_23 ⟨(Nat.le_of_ble_eq_true rfl), (Nat.le_of_ble_eq_true rfl)⟩) g hK (by decide) (by decide) (fx' := [(2, 0, a0_, .ref q0_), (2, 1, a0_, .ref q1_), (2, 3, a0_, .ref q2_), (2, 4, a0_, .ref q3_), (5, 1, q1_, .ref q4_), (8, 8, q0_, .int y0_)]) rfl (fun r_9 fr_9 H locs hp hMr_9 g => ?_)
    refine lv_lstore_n (lv' := [(2, .long r_9), (1, .int r_1), (0, .ref a0_)]) hx hb dX2_refuseStatement_26 rfl hl (by decide) rfl (fun ls hl => ?_)
    refine lv_aload_n hx hb dX2_refuseStatement_27 rfl (lv_at hl 2 rfl) ?_
    refine g_getk (C := RX2) (T := TX2) (N := 16) hx hb hts (mc_ inX2) hown hK g rfl 0 (by decide) rfl (hts _ (List.mem_cons_of_mem _ t_416)) (fun _ h9 => h9) 0 rfl dX2_refuseStatement_28 ?_
    refine g_callv (va_runV (As := []) (rest := []) ⟨hx, hb, hml, hown, hts⟩ (r_X8_next l dC dI L kd tys fr_9 H.size g.2.2.2.1 q0_ mq0_ kq0_) (cwV 0 hts (gV_ t_1131 t_1103 t_1104 t_184 t_1105) rfl rfl rfl (by decide +kernel) ⟨(Nat.le_of_ble_eq_true rfl), (Nat.le_of_ble_eq_true rfl)⟩) (pre3V g hK mq0_ kq0_ (by decide) (q := (RX8, TX8, 10)) rfl) rfl rfl hl.1 rfl (lv_room (Nat.le_of_ble_eq_true rfl)) dX2_refuseStatement_31 ⟨(Nat.le_of_ble_eq_true rfl), (Nat.le_of_ble_eq_true rfl)⟩) g hK (by decide) (by decide) (fx' := [(2, 0, a0_, .ref q0_), (2, 1, a0_, .ref q1_), (2, 3, a0_, .ref q2_), (2, 4, a0_, .ref q3_), (5, 1, q1_, .ref q4_), (8, 8, q0_, .int y0_)]) rfl (fun fr_10 H locs hp hMr_10 g => ?_)
    obtain ⟨x_11, h_12, hF_13⟩ := hp
    have g := g.more hF_13
    refine lv_aload_n hx hb dX2_refuseStatement_34 rfl (lv_at hl 2 rfl) ?_
    refine g_getk (C := RX2) (T := TX2) (N := 16) hx hb hts (mc_ inX2) hown hK g rfl 0 (by decide) rfl (hts _ (List.mem_cons_of_mem _ t_416)) (fun _ h9 => h9) 1 rfl dX2_refuseStatement_35 ?_
    refine g_calli (va_runV (As := []) (rest := []) ⟨hx, hb, hml, hown, hts⟩ (r_X8_atBracket l dC dI L kd tys fr_10 H.size g.2.2.2.1 q0_ mq0_ kq0_) (cwV 0 hts (gV_ t_1358 t_1240 t_1241 t_184 t_1242) rfl rfl rfl (by decide +kernel) ⟨(Nat.le_of_ble_eq_true rfl), (Nat.le_of_ble_eq_true rfl)⟩) (pre3V g hK mq0_ kq0_ (by decide) (q := (RX8, TX8, 10)) rfl) rfl rfl hl.1 rfl (lv_room (Nat.le_of_ble_eq_true rfl)) dX2_refuseStatement_38 ⟨(Nat.le_of_ble_eq_true rfl), (Nat.le_of_ble_eq_true rfl)⟩) g hK (by decide) (by decide) (fx' := [(8, 6, q0_, .int x_11), (2, 0, a0_, .ref q0_), (2, 1, a0_, .ref q1_), (2, 3, a0_, .ref q2_), (2, 4, a0_, .ref q3_), (5, 1, q1_, .ref q4_), (8, 8, q0_, .int y0_)]) rfl (fun r_14 fr_14 H locs hp hMr_14 g => ?_)
    obtain ⟨h_15, -⟩ := hp
    have kb_0 : bd 0 0 (0 : Int32) := ⟨by decide, by decide⟩
    refine lv_if_eq (tgt := 59) hx hb dX2_refuseStatement_41 (by decide) (fun c_16 => ?_) (fun c_16 => ?_)
    · have fc_16 := eq_f c_16
      have b_17 : bd 0 0 r_14 := eqX fc_16 h_15 kb_0 (by decide)
      refine lv_aload_n hx hb dX2_refuseStatement_59 rfl (lv_at hl 2 rfl) ?_
      refine g_getk (C := RX2) (T := TX2) (N := 16) hx hb hts (mc_ inX2) hown hK g rfl 1 (by decide) rfl (hts _ (List.mem_cons_of_mem _ t_417)) (fun _ h9 => h9) 2 rfl dX2_refuseStatement_60 ?_
      refine lv_lload_n hx hb dX2_refuseStatement_63 rfl (lv_at hl 0 rfl) ?_
      refine g_calli (va_runV (As := [.long r_9]) (rest := []) ⟨hx, hb, hml, hown, hts⟩ (r_X5_placeNamed l dC dI L kd tys fr_14 H.size g.2.2.2.1 q1_ mq1_ kq1_ r_9 q4_ mq4_ kq4_ (g.fcts [5] rfl)) (cwV 1 hts (gV_ t_1317 t_1252 t_1253 t_189 t_1254) rfl rfl rfl (by decide +kernel) ⟨(Nat.le_of_ble_eq_true rfl), (Nat.le_of_ble_eq_true rfl)⟩) (pre3V g hK mq1_ kq1_ (by decide) (q := (RX5, TX5, 9)) rfl) rfl rfl hl.1 rfl (lv_room (Nat.le_of_ble_eq_true rfl)) dX2_refuseStatement_64 ⟨(Nat.le_of_ble_eq_true rfl), (Nat.le_of_ble_eq_true rfl)⟩) g hK (by decide) (by decide) (fx' := [(8, 6, q0_, .int x_11), (2, 0, a0_, .ref q0_), (2, 1, a0_, .ref q1_), (2, 3, a0_, .ref q2_), (2, 4, a0_, .ref q3_), (5, 1, q1_, .ref q4_), (8, 8, q0_, .int y0_)]) rfl (fun r_18 fr_18 H locs hp hMr_18 g => ?_)
      obtain ⟨h_19, -⟩ := hp
      refine lv_istore (lv' := [(4, .int r_18), (2, .long r_9), (1, .int r_1), (0, .ref a0_)]) hx hb dX2_refuseStatement_67 hl (by decide) rfl (fun ls hl => ?_)
      refine lv_aload_n hx hb dX2_refuseStatement_69 rfl (lv_at hl 3 rfl) ?_
      refine g_getk (C := RX2) (T := TX2) (N := 16) hx hb hts (mc_ inX2) hown hK g rfl 0 (by decide) rfl (hts _ (List.mem_cons_of_mem _ t_416)) (fun _ h9 => h9) 1 rfl dX2_refuseStatement_70 ?_
      refine lv_iload hx hb dX2_refuseStatement_73 (lv_at hl 0 rfl) ?_
      refine lv_iconst (v := (-1)) hx hb dX2_refuseStatement_75 (by decide) ?_
      have kb_m1 : bd (-1) (-1) ((-1) : Int32) := ⟨by decide, by decide⟩
      refine lv_icmp_ne (tgt := 83) hx hb dX2_refuseStatement_76 (by decide) (fun c_20 => ?_) (fun c_20 => ?_)
      · have fc_20 := neq_f c_20
        have b_21 : bd 0 26 r_18 := neX fc_20 h_19 kb_m1 (by decide)
        refine lv_iconst (v := 4) hx hb dX2_refuseStatement_83 (by decide) ?_
        refine lv_iload_n hx hb dX2_refuseStatement_84 rfl (lv_at hl 2 rfl) ?_
        have kb_4 : bd 4 4 (4 : Int32) := ⟨by decide, by decide⟩
        refine g_callv (va_runV (As := [.int 4, .int r_1]) (rest := []) ⟨hx, hb, hml, hown, hts⟩ (r_X8_fail l dC dI L kd tys fr_18 H.size g.2.2.2.1 q0_ mq0_ kq0_ 4 (bd_sub kb_4 (by decide)) r_1 y0_ by0_ (g.fcts [6] rfl)) (cwV 2 hts (gV_ t_1122 t_1107 t_1108 t_184 t_1109) rfl rfl rfl (by decide +kernel) ⟨(Nat.le_of_ble_eq_true rfl), (Nat.le_of_ble_eq_true rfl)⟩) (pre3V g hK mq0_ kq0_ (by decide) (q := (RX8, TX8, 10)) rfl) rfl rfl hl.1 rfl (lv_room (Nat.le_of_ble_eq_true rfl)) dX2_refuseStatement_85 ⟨(Nat.le_of_ble_eq_true rfl), (Nat.le_of_ble_eq_true rfl)⟩) g hK (by decide) (by decide) (fx' := [(2, 0, a0_, .ref q0_), (2, 1, a0_, .ref q1_), (2, 3, a0_, .ref q2_), (2, 4, a0_, .ref q3_), (5, 1, q1_, .ref q4_)]) rfl (fun fr_22 H locs hp hMr_22 g => ?_)
        obtain ⟨x_23, h_24, hF_25⟩ := hp
        have g := g.more hF_25
        refine lv_goto (tgt := 100) hx hb dX2_refuseStatement_88 (by decide) ?_
        subst hQ
        exact W.vret hx hb hr (fun t ht hW => ⟨⟨_, rfl, ⟨x_23, h_24, (g.fcts [0, 1] rfl)⟩, q3_of g hK ht hW⟩, g.2.2.1.F ht⟩) g.2.2.1.2.2 dX2_refuseStatement_100
      · have fc_20 := eq_f c_20
        have b_26 : bd (-1) (-1) r_18 := eqX fc_20 h_19 kb_m1 (by decide)
        refine lv_iconst (v := 2) hx hb dX2_refuseStatement_79 (by decide) ?_
        refine lv_goto (tgt := 84) hx hb dX2_refuseStatement_80 (by decide) ?_
        refine lv_iload_n hx hb dX2_refuseStatement_84 rfl (lv_at hl 2 rfl) ?_
        have kb_2 : bd 2 2 (2 : Int32) := ⟨by decide, by decide⟩
        refine g_callv (va_runV (As := [.int 2, .int r_1]) (rest := []) ⟨hx, hb, hml, hown, hts⟩ (r_X8_fail l dC dI L kd tys fr_18 H.size g.2.2.2.1 q0_ mq0_ kq0_ 2 (bd_sub kb_2 (by decide)) r_1 y0_ by0_ (g.fcts [6] rfl)) (cwV 2 hts (gV_ t_1122 t_1107 t_1108 t_184 t_1109) rfl rfl rfl (by decide +kernel) ⟨(Nat.le_of_ble_eq_true rfl), (Nat.le_of_ble_eq_true rfl)⟩) (pre3V g hK mq0_ kq0_ (by decide) (q := (RX8, TX8, 10)) rfl) rfl rfl hl.1 rfl (lv_room (Nat.le_of_ble_eq_true rfl)) dX2_refuseStatement_85 ⟨(Nat.le_of_ble_eq_true rfl), (Nat.le_of_ble_eq_true rfl)⟩) g hK (by decide) (by decide) (fx' := [(2, 0, a0_, .ref q0_), (2, 1, a0_, .ref q1_), (2, 3, a0_, .ref q2_), (2, 4, a0_, .ref q3_), (5, 1, q1_, .ref q4_)]) rfl (fun fr_27 H locs hp hMr_27 g => ?_)
        obtain ⟨x_28, h_29, hF_30⟩ := hp
        have g := g.more hF_30
        refine lv_goto (tgt := 100) hx hb dX2_refuseStatement_88 (by decide) ?_
        subst hQ
        exact W.vret hx hb hr (fun t ht hW => ⟨⟨_, rfl, ⟨x_28, h_29, (g.fcts [0, 1] rfl)⟩, q3_of g hK ht hW⟩, g.2.2.1.F ht⟩) g.2.2.1.2.2 dX2_refuseStatement_100
    · have fc_16 := neq_f c_16
      have b_31 : bd 1 1 r_14 := neX fc_16 h_15 kb_0 (by decide)
      refine lv_aload_n hx hb dX2_refuseStatement_44 rfl (lv_at hl 2 rfl) ?_
      refine g_getk (C := RX2) (T := TX2) (N := 16) hx hb hts (mc_ inX2) hown hK g rfl 3 (by decide) rfl (hts _ (List.mem_cons_of_mem _ t_419)) (fun _ h9 => h9) 3 rfl dX2_refuseStatement_45 ?_
      refine lv_aload_n hx hb dX2_refuseStatement_48 rfl (lv_at hl 2 rfl) ?_
      refine g_getk (C := RX2) (T := TX2) (N := 16) hx hb hts (mc_ inX2) hown hK g rfl 4 (by decide) rfl (hts _ (List.mem_cons_of_mem _ t_420)) (fun _ h9 => h9) 4 rfl dX2_refuseStatement_49 ?_
      refine lv_lload_n hx hb dX2_refuseStatement_52 rfl (lv_at hl 0 rfl) ?_
      refine g_calli (va_runV (As := [.ref q3_, .long r_9]) (rest := []) ⟨hx, hb, hml, hown, hts⟩ (r_X7_memberNamed l dC dI L kd tys fr_14 H.size g.2.2.2.1 q2_ mq2_ kq2_ q3_ mq3_ kq3_ r_9) (cwV 2 hts (gV_ t_1306 t_1244 t_1245 t_191 t_1246) rfl rfl rfl (by decide +kernel) ⟨(Nat.le_of_ble_eq_true rfl), (Nat.le_of_ble_eq_true rfl)⟩) (pre3V g hK mq2_ kq2_ (by decide) (q := (RX7, TX7, 19)) rfl) rfl rfl hl.1 rfl (lv_room (Nat.le_of_ble_eq_true rfl)) dX2_refuseStatement_53 ⟨(Nat.le_of_ble_eq_true rfl), (Nat.le_of_ble_eq_true rfl)⟩) g hK (by decide) (by decide) (fx' := [(8, 6, q0_, .int x_11), (2, 0, a0_, .ref q0_), (2, 1, a0_, .ref q1_), (2, 3, a0_, .ref q2_), (2, 4, a0_, .ref q3_), (5, 1, q1_, .ref q4_), (8, 8, q0_, .int y0_)]) rfl (fun r_32 fr_32 H locs hp hMr_32 g => ?_)
      obtain ⟨h_33, -⟩ := hp
      refine lv_goto (tgt := 67) hx hb dX2_refuseStatement_56 (by decide) ?_
      refine lv_istore (lv' := [(4, .int r_32), (2, .long r_9), (1, .int r_1), (0, .ref a0_)]) hx hb dX2_refuseStatement_67 hl (by decide) rfl (fun ls hl => ?_)
      refine lv_aload_n hx hb dX2_refuseStatement_69 rfl (lv_at hl 3 rfl) ?_
      refine g_getk (C := RX2) (T := TX2) (N := 16) hx hb hts (mc_ inX2) hown hK g rfl 0 (by decide) rfl (hts _ (List.mem_cons_of_mem _ t_416)) (fun _ h9 => h9) 1 rfl dX2_refuseStatement_70 ?_
      refine lv_iload hx hb dX2_refuseStatement_73 (lv_at hl 0 rfl) ?_
      refine lv_iconst (v := (-1)) hx hb dX2_refuseStatement_75 (by decide) ?_
      have kb_m1 : bd (-1) (-1) ((-1) : Int32) := ⟨by decide, by decide⟩
      refine lv_icmp_ne (tgt := 83) hx hb dX2_refuseStatement_76 (by decide) (fun c_34 => ?_) (fun c_34 => ?_)
      · have fc_34 := neq_f c_34
        have b_35 : bd 0 11 r_32 := neX fc_34 h_33 kb_m1 (by decide)
        refine lv_iconst (v := 4) hx hb dX2_refuseStatement_83 (by decide) ?_
        refine lv_iload_n hx hb dX2_refuseStatement_84 rfl (lv_at hl 2 rfl) ?_
        have kb_4 : bd 4 4 (4 : Int32) := ⟨by decide, by decide⟩
        refine g_callv (va_runV (As := [.int 4, .int r_1]) (rest := []) ⟨hx, hb, hml, hown, hts⟩ (r_X8_fail l dC dI L kd tys fr_32 H.size g.2.2.2.1 q0_ mq0_ kq0_ 4 (bd_sub kb_4 (by decide)) r_1 y0_ by0_ (g.fcts [6] rfl)) (cwV 2 hts (gV_ t_1122 t_1107 t_1108 t_184 t_1109) rfl rfl rfl (by decide +kernel) ⟨(Nat.le_of_ble_eq_true rfl), (Nat.le_of_ble_eq_true rfl)⟩) (pre3V g hK mq0_ kq0_ (by decide) (q := (RX8, TX8, 10)) rfl) rfl rfl hl.1 rfl (lv_room (Nat.le_of_ble_eq_true rfl)) dX2_refuseStatement_85 ⟨(Nat.le_of_ble_eq_true rfl), (Nat.le_of_ble_eq_true rfl)⟩) g hK (by decide) (by decide) (fx' := [(2, 0, a0_, .ref q0_), (2, 1, a0_, .ref q1_), (2, 3, a0_, .ref q2_), (2, 4, a0_, .ref q3_), (5, 1, q1_, .ref q4_)]) rfl (fun fr_36 H locs hp hMr_36 g => ?_)
        obtain ⟨x_37, h_38, hF_39⟩ := hp
        have g := g.more hF_39
        refine lv_goto (tgt := 100) hx hb dX2_refuseStatement_88 (by decide) ?_
        subst hQ
        exact W.vret hx hb hr (fun t ht hW => ⟨⟨_, rfl, ⟨x_37, h_38, (g.fcts [0, 1] rfl)⟩, q3_of g hK ht hW⟩, g.2.2.1.F ht⟩) g.2.2.1.2.2 dX2_refuseStatement_100
      · have fc_34 := eq_f c_34
        have b_40 : bd (-1) (-1) r_32 := eqX fc_34 h_33 kb_m1 (by decide)
        refine lv_iconst (v := 2) hx hb dX2_refuseStatement_79 (by decide) ?_
        refine lv_goto (tgt := 84) hx hb dX2_refuseStatement_80 (by decide) ?_
        refine lv_iload_n hx hb dX2_refuseStatement_84 rfl (lv_at hl 2 rfl) ?_
        have kb_2 : bd 2 2 (2 : Int32) := ⟨by decide, by decide⟩
        refine g_callv (va_runV (As := [.int 2, .int r_1]) (rest := []) ⟨hx, hb, hml, hown, hts⟩ (r_X8_fail l dC dI L kd tys fr_32 H.size g.2.2.2.1 q0_ mq0_ kq0_ 2 (bd_sub kb_2 (by decide)) r_1 y0_ by0_ (g.fcts [6] rfl)) (cwV 2 hts (gV_ t_1122 t_1107 t_1108 t_184 t_1109) rfl rfl rfl (by decide +kernel) ⟨(Nat.le_of_ble_eq_true rfl), (Nat.le_of_ble_eq_true rfl)⟩) (pre3V g hK mq0_ kq0_ (by decide) (q := (RX8, TX8, 10)) rfl) rfl rfl hl.1 rfl (lv_room (Nat.le_of_ble_eq_true rfl)) dX2_refuseStatement_85 ⟨(Nat.le_of_ble_eq_true rfl), (Nat.le_of_ble_eq_true rfl)⟩) g hK (by decide) (by decide) (fx' := [(2, 0, a0_, .ref q0_), (2, 1, a0_, .ref q1_), (2, 3, a0_, .ref q2_), (2, 4, a0_, .ref q3_), (5, 1, q1_, .ref q4_)]) rfl (fun fr_41 H locs hp hMr_41 g => ?_)
        obtain ⟨x_42, h_43, hF_44⟩ := hp
        have g := g.more hF_44
        refine lv_goto (tgt := 100) hx hb dX2_refuseStatement_88 (by decide) ?_
        subst hQ
        exact W.vret hx hb hr (fun t ht hW => ⟨⟨_, rfl, ⟨x_42, h_43, (g.fcts [0, 1] rfl)⟩, q3_of g hK ht hW⟩, g.2.2.1.F ht⟩) g.2.2.1.2.2 dX2_refuseStatement_100
