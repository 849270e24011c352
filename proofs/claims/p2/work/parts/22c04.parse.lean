set_option maxHeartbeats 4000000 in
set_option maxRecDepth 100000 in
theorem r_X2_readField (l : Launch) (dC : Nat → ClassId) (dI : Nat → Nat → Nat) (L : List Nat) (kd : Nat → Nat) (tys : List (ClassId × FieldType)) (f0 : Nat → va_E) (sz : Nat) (hWT : WT L kd tys f0) (a0_ : Nat) (ma0_ : a0_ ∈ L) (ka0_ : kd a0_ = 2) (q0_ : Nat) (mq0_ : q0_ ∈ L) (kq0_ : kd q0_ = 8) (q1_ : Nat) (mq1_ : q1_ ∈ L) (kq1_ : kd q1_ = 9) (y0_ : Int32) (by0_ : bd 0 0 y0_) (hfx : Fs L kd f0 [(2, 0, a0_, .ref q0_), (2, 4, a0_, .ref q1_), (8, 8, q0_, .int y0_)]) : Met l yX2_readField (.code yX2_readField cX2_readField 6 none :: lw_g) ({ frames := 3, cells := 0, slots := 0, locals := 66 }) (va_Pc [.ref a0_] (P3 (dC, dI) L tys f0 sz)) (va_Qv (fun (f : Nat → va_E) => (∃ z0_ : Int32, bd 1 10 z0_ ∧ ∃ z1_ : Int32, bd 1 24 z1_ ∧ ∃ z2_ : Int32, bd 1 1201 z2_ ∧ ∃ z3_ : Int32, bd 0 0 z3_ ∧ Fs L kd f [(9, 2, q1_, .int z0_), (9, 7, q1_, .int z1_), (8, 6, q0_, .int z2_), (8, 8, q0_, .int z3_)]) ∨ (∃ z0_ : Int32, bd 1201 1201 z0_ ∧ ∃ z1_ : Int32, bd 1 7 z1_ ∧ Fs L kd f [(8, 6, q0_, .int z0_), (8, 8, q0_, .int z1_)])) (Q3 (dC, dI) L kd tys [(8, 6), (8, 8), (8, 9), (9, 2), (9, 7)] [152, 153, 154, 155] f0 sz) (pA L sz)) 0 0 (pA L sz) := by
  refine Met.ofW (cc := cX2_readField) (maxL := 6) (ret := none) (by decide) rfl ?_
  intro p e s m args below meth c s₁ B hml hv
  obtain ⟨rfl, hsz, hP, hK, hD0⟩ := hv
  have hx := B.exec
  have hb := B.bytes
  have hr := B.returns
  have hts := atoms_spec (ws := (.code yX2_readField cX2_readField 6 none :: lw_g)) B.pre
  have hown : s.vm.findClass RX2 = some m.cls := findClass_of_methodNamed B.named
  have hlocks := B.notSynchronized
  subst hsz
  have g : G3 (dC, dI) L kd tys s f0 [(8, 6), (8, 8), (8, 9), (9, 2), (9, 7)] [152, 153, 154, 155] f0 s.heap [] [(2, 0, a0_, .ref q0_), (2, 4, a0_, .ref q1_), (8, 8, q0_, .int y0_)] := G3.start hP hD0 hWT hfx
  have hl := lv_entry ([.ref a0_]) (n := 6) (Nat.le_of_ble_eq_true rfl)
  rw [lg_entry_eq]
  generalize (lg_sl ([.ref a0_]) ++ List.replicate (6 - (lg_sl ([.ref a0_])).length) Slot.unset).toArray = ls at hl ⊢
  have hl : lv_has ls 6 [(0, .ref a0_)] := hl
  refine W_q (fun Q hQ => ?_)
  refine lv_aload_n hx hb dX2_readField_0 rfl (lv_at hl 0 rfl) ?_
  refine g_getk (C := RX2) (T := TX2) (N := 16) hx hb hts (mc_ inX2) hown hK g rfl 0 (by decide) rfl (hts _ (List.mem_cons_of_mem _ t_416)) (fun _ h9 => h9) 0 rfl dX2_readField_1 ?_
  refine g_callv (va_runV (As := []) (rest := []) ⟨hx, hb, hml, hown, hts⟩ (r_X8_next l dC dI L kd tys f0 s.heap.size g.2.2.2.1 q0_ mq0_ kq0_) (cwV 0 hts (gV_ t_1131 t_1103 t_1104 t_184 t_1105) rfl rfl rfl (by decide +kernel) ⟨(Nat.le_of_ble_eq_true rfl), (Nat.le_of_ble_eq_true rfl)⟩) (pre3V g hK mq0_ kq0_ (by decide) (q := (RX8, TX8, 10)) rfl) rfl rfl hl.1 rfl (lv_room (Nat.le_of_ble_eq_true rfl)) dX2_readField_4 ⟨(Nat.le_of_ble_eq_true rfl), (Nat.le_of_ble_eq_true rfl)⟩) g hK (by decide) (by decide) (fx' := [(2, 0, a0_, .ref q0_), (2, 4, a0_, .ref q1_), (8, 8, q0_, .int y0_)]) rfl (fun fr_1 H locs hp hMr_1 g => ?_)
  obtain ⟨x_2, h_3, hF_4⟩ := hp
  have g := g.more hF_4
  refine lv_aload_n hx hb dX2_readField_7 rfl (lv_at hl 0 rfl) ?_
  refine g_getk (C := RX2) (T := TX2) (N := 16) hx hb hts (mc_ inX2) hown hK g rfl 0 (by decide) rfl (hts _ (List.mem_cons_of_mem _ t_416)) (fun _ h9 => h9) 1 rfl dX2_readField_8 ?_
  refine g_calli (va_runV (As := []) (rest := []) ⟨hx, hb, hml, hown, hts⟩ (r_X8_place l dC dI L kd tys fr_1 H.size g.2.2.2.1 q0_ mq0_ kq0_) (cwV 0 hts (gV_ t_1110 t_1111 t_1112 t_184 t_1113) rfl rfl rfl (by decide +kernel) ⟨(Nat.le_of_ble_eq_true rfl), (Nat.le_of_ble_eq_true rfl)⟩) (pre3V g hK mq0_ kq0_ (by decide) (q := (RX8, TX8, 10)) rfl) rfl rfl hl.1 rfl (lv_room (Nat.le_of_ble_eq_true rfl)) dX2_readField_11 ⟨(Nat.le_of_ble_eq_true rfl), (Nat.le_of_ble_eq_true rfl)⟩) g hK (by decide) (by decide) (fx' := [(8, 6, q0_, .int x_2), (2, 0, a0_, .ref q0_), (2, 4, a0_, .ref q1_), (8, 8, q0_, .int y0_)]) rfl (fun r_5 fr_5 H locs hp hMr_5 g => ?_)
  refine lv_istore_n (lv' := [(1, .int r_5), (0, .ref a0_)]) hx hb dX2_readField_14 rfl hl (by decide) rfl (fun ls hl => ?_)
  refine lv_aload_n hx hb dX2_readField_15 rfl (lv_at hl 1 rfl) ?_
  refine g_getk (C := RX2) (T := TX2) (N := 16) hx hb hts (mc_ inX2) hown hK g rfl 0 (by decide) rfl (hts _ (List.mem_cons_of_mem _ t_416)) (fun _ h9 => h9) 1 rfl dX2_readField_16 ?_
  refine g_calll (va_runV (As := []) (rest := []) ⟨hx, hb, hml, hown, hts⟩ (r_X8_value l dC dI L kd tys fr_5 H.size g.2.2.2.1 q0_ mq0_ kq0_) (cwV 0 hts (gV_ t_1114 t_1115 t_1116 t_184 t_1117) rfl rfl rfl (by decide +kernel) ⟨(Nat.le_of_ble_eq_true rfl), (Nat.le_of_ble_eq_true rfl)⟩) (pre3V g hK mq0_ kq0_ (by decide) (q := (RX8, TX8, 10)) rfl) rfl rfl hl.1 rfl (lv_room (Nat.le_of_ble_eq_true rfl)) dX2_readField_19 ⟨(Nat.le_of_ble_eq_true rfl), (Nat.le_of_ble_eq_true rfl)⟩) g hK (by decide) (by decide) (fx' := [(8, 6, q0_, .int x_2), (2, 0, a0_, .ref q0_), (2, 4, a0_, .ref q1_), (8, 8, q0_, .int y0_)]) rfl (fun r_6 fr_6 H locs hp hMr_6 g => ?_)
  refine lv_lstore_n (lv' := [(2, .long r_6), (1, .int r_5), (0, .ref a0_)]) hx hb dX2_readField_22 rfl hl (by decide) rfl (fun ls hl => ?_)
  refine lv_aload_n hx hb dX2_readField_23 rfl (lv_at hl 2 rfl) ?_
  refine g_getk (C := RX2) (T := TX2) (N := 16) hx hb hts (mc_ inX2) hown hK g rfl 0 (by decide) rfl (hts _ (List.mem_cons_of_mem _ t_416)) (fun _ h9 => h9) 1 rfl dX2_readField_24 ?_
  refine g_calli (va_runV (As := []) (rest := []) ⟨hx, hb, hml, hown, hts⟩ (r_X8_kind l dC dI L kd tys fr_6 H.size g.2.2.2.1 q0_ mq0_ kq0_) (cwV 0 hts (gV_ t_1118 t_1119 t_1120 t_184 t_1121) rfl rfl rfl (by decide +kernel) ⟨(Nat.le_of_ble_eq_true rfl), (Nat.le_of_ble_eq_true rfl)⟩) (pre3V g hK mq0_ kq0_ (by decide) (q := (RX8, TX8, 10)) rfl) rfl rfl hl.1 rfl (lv_room (Nat.le_of_ble_eq_true rfl)) dX2_readField_27 ⟨(Nat.le_of_ble_eq_true rfl), (Nat.le_of_ble_eq_true rfl)⟩) g hK (by decide) (by decide) (fx' := [(8, 6, q0_, .int x_2), (2, 0, a0_, .ref q0_), (2, 4, a0_, .ref q1_), (8, 8, q0_, .int y0_)]) rfl (fun r_7 fr_7 H locs hp hMr_7 g => ?_)
  refine lv_iconst (v := 3) hx hb dX2_readField_30 (by decide) ?_
  have kb_3 : bd 3 3 (3 : Int32) := ⟨by decide, by decide⟩
  refine lv_icmp_eq (tgt := 46) hx hb dX2_readField_31 (by decide) (fun c_8 => ?_) (fun c_8 => ?_)
  · have fc_8 := eq_f c_8
    have b_9 : bd 3 3 r_7 := eqX fc_8 (bdT r_7) kb_3 (by decide)
    refine lv_aload_n hx hb dX2_readField_46 rfl (lv_at hl 2 rfl) ?_
    refine g_getk (C := RX2) (T := TX2) (N := 16) hx hb hts (mc_ inX2) hown hK g rfl 4 (by decide) rfl (hts _ (List.mem_cons_of_mem _ t_420)) (fun _ h9 => h9) 2 rfl dX2_readField_47 ?_
    refine lv_lload_n hx hb dX2_readField_50 rfl (lv_at hl 0 rfl) ?_
    refine g_calli (va_runV (As := [.long r_6]) (rest := []) ⟨hx, hb, hml, hown, hts⟩ (r_X9_fieldNamed l dC dI L kd tys fr_7 H.size g.2.2.2.1 q1_ mq1_ kq1_ r_6) (cwV 1 hts (gV_ t_1147 t_1148 t_1149 t_192 t_1150) rfl rfl rfl (by decide +kernel) ⟨(Nat.le_of_ble_eq_true rfl), (Nat.le_of_ble_eq_true rfl)⟩) (pre3V g hK mq1_ kq1_ (by decide) (q := (RX9, TX9, 13)) rfl) rfl rfl hl.1 rfl (lv_room (Nat.le_of_ble_eq_true rfl)) dX2_readField_51 ⟨(Nat.le_of_ble_eq_true rfl), (Nat.le_of_ble_eq_true rfl)⟩) g hK (by decide) (by decide) (fx' := [(8, 6, q0_, .int x_2), (2, 0, a0_, .ref q0_), (2, 4, a0_, .ref q1_), (8, 8, q0_, .int y0_)]) rfl (fun r_10 fr_10 H locs hp hMr_10 g => ?_)
    obtain ⟨h_11, -⟩ := hp
    refine lv_iconst (v := (-1)) hx hb dX2_readField_54 (by decide) ?_
    have kb_m1 : bd (-1) (-1) ((-1) : Int32) := ⟨by decide, by decide⟩
    refine lv_icmp_eq (tgt := 70) hx hb dX2_readField_55 (by decide) (fun c_12 => ?_) (fun c_12 => ?_)
    · have fc_12 := eq_f c_12
      have b_13 : bd (-1) (-1) r_10 := eqX fc_12 h_11 kb_m1 (by decide)
      refine lv_aload_n hx hb dX2_readField_70 rfl (lv_at hl 2 rfl) ?_
      refine g_getk (C := RX2) (T := TX2) (N := 16) hx hb hts (mc_ inX2) hown hK g rfl 4 (by decide) rfl (hts _ (List.mem_cons_of_mem _ t_420)) (fun _ h9 => h9) 2 rfl dX2_readField_71 ?_
      refine g_geti (C := RX9) (T := TX9) (N := 13) hx hb hts (mc_ inX9) hown hK g mq1_ kq1_ (by decide) rfl 2 (by decide) rfl (hts _ (List.mem_cons_of_mem _ t_487)) (fun _ h9 => h9) rfl dX2_readField_74 (fun x_14 bx_14 g => ?_)
      refine lv_bipush (v := 10) hx hb dX2_readField_77 (by decide) ?_
      have kb_10 : bd 10 10 (10 : Int32) := ⟨by decide, by decide⟩
      refine lv_icmp_lt (tgt := 91) hx hb dX2_readField_79 (by decide) (fun c_15 => ?_) (fun c_15 => ?_)
      · have fc_15 := lt_f c_15
        have b_16 : bd 0 9 x_14 := ltL fc_15 bx_14 kb_10 (by decide)
        refine lv_aload_n hx hb dX2_readField_91 rfl (lv_at hl 2 rfl) ?_
        refine g_getk (C := RX2) (T := TX2) (N := 16) hx hb hts (mc_ inX2) hown hK g rfl 0 (by decide) rfl (hts _ (List.mem_cons_of_mem _ t_416)) (fun _ h9 => h9) 2 rfl dX2_readField_92 ?_
        refine g_callv (va_runV (As := []) (rest := []) ⟨hx, hb, hml, hown, hts⟩ (r_X8_next l dC dI L kd tys fr_10 H.size g.2.2.2.1 q0_ mq0_ kq0_) (cwV 0 hts (gV_ t_1131 t_1103 t_1104 t_184 t_1105) rfl rfl rfl (by decide +kernel) ⟨(Nat.le_of_ble_eq_true rfl), (Nat.le_of_ble_eq_true rfl)⟩) (pre3V g hK mq0_ kq0_ (by decide) (q := (RX8, TX8, 10)) rfl) rfl rfl hl.1 rfl (lv_room (Nat.le_of_ble_eq_true rfl)) dX2_readField_95 ⟨(Nat.le_of_ble_eq_true rfl), (Nat.le_of_ble_eq_true rfl)⟩) g hK (by decide) (by decide) (fx' := [(9, 2, q1_, .int x_14), (2, 0, a0_, .ref q0_), (2, 4, a0_, .ref q1_), (8, 8, q0_, .int y0_)]) rfl (fun fr_17 H locs hp hMr_17 g => ?_)
        obtain ⟨x_18, h_19, hF_20⟩ := hp
        have g := g.more hF_20
        refine lv_iconst (v := 0) hx hb dX2_readField_98 (by decide) ?_
        refine lv_istore (lv' := [(4, .int 0), (2, .long r_6), (1, .int r_5), (0, .ref a0_)]) hx hb dX2_readField_99 hl (by decide) rfl (fun ls hl => ?_)
        refine lv_aload_n hx hb dX2_readField_101 rfl (lv_at hl 3 rfl) ?_
        refine g_getk (C := RX2) (T := TX2) (N := 16) hx hb hts (mc_ inX2) hown hK g rfl 0 (by decide) rfl (hts _ (List.mem_cons_of_mem _ t_416)) (fun _ h9 => h9) 2 rfl dX2_readField_102 ?_
        refine g_calli (va_runV (As := []) (rest := []) ⟨hx, hb, hml, hown, hts⟩ (r_X8_kind l dC dI L kd tys fr_17 H.size g.2.2.2.1 q0_ mq0_ kq0_) (cwV 0 hts (gV_ t_1118 t_1119 t_1120 t_184 t_1121) rfl rfl rfl (by decide +kernel) ⟨(Nat.le_of_ble_eq_true rfl), (Nat.le_of_ble_eq_true rfl)⟩) (pre3V g hK mq0_ kq0_ (by decide) (q := (RX8, TX8, 10)) rfl) rfl rfl hl.1 rfl (lv_room (Nat.le_of_ble_eq_true rfl)) dX2_readField_105 ⟨(Nat.le_of_ble_eq_true rfl), (Nat.le_of_ble_eq_true rfl)⟩) g hK (by decide) (by decide) (fx' := [(8, 6, q0_, .int x_18), (9, 2, q1_, .int x_14), (2, 0, a0_, .ref q0_), (2, 4, a0_, .ref q1_), (8, 8, q0_, .int y0_)]) rfl (fun r_21 fr_21 H locs hp hMr_21 g => ?_)
        refine lv_bipush (v := 91) hx hb dX2_readField_108 (by decide) ?_
        have kb_91 : bd 91 91 (91 : Int32) := ⟨by decide, by decide⟩
        refine lv_icmp_ne (tgt := 122) hx hb dX2_readField_110 (by decide) (fun c_22 => ?_) (fun c_22 => ?_)
        · have fc_22 := neq_f c_22
          refine lv_aload_n hx hb dX2_readField_122 rfl (lv_at hl 3 rfl) ?_
          refine g_getk (C := RX2) (T := TX2) (N := 16) hx hb hts (mc_ inX2) hown hK g rfl 4 (by decide) rfl (hts _ (List.mem_cons_of_mem _ t_420)) (fun _ h9 => h9) 3 rfl dX2_readField_123 ?_
          refine g_geti (C := RX9) (T := TX9) (N := 13) hx hb hts (mc_ inX9) hown hK g mq1_ kq1_ (by decide) rfl 7 (by decide) rfl (hts _ (List.mem_cons_of_mem _ t_496)) (fun _ h9 => h9) rfl dX2_readField_126 (fun x_23 bx_23 g => ?_)
          refine lv_bipush (v := 24) hx hb dX2_readField_129 (by decide) ?_
          have kb_24 : bd 24 24 (24 : Int32) := ⟨by decide, by decide⟩
          refine lv_icmp_lt (tgt := 143) hx hb dX2_readField_131 (by decide) (fun c_24 => ?_) (fun c_24 => ?_)
          · have fc_24 := lt_f c_24
            have b_25 : bd 0 23 x_23 := ltL fc_24 bx_23 kb_24 (by decide)
            refine lv_iconst (v := 0) hx hb dX2_readField_143 (by decide) ?_
            refine lv_istore (lv' := [(5, .int 0), (4, .int 0), (2, .long r_6), (1, .int r_5), (0, .ref a0_)]) hx hb dX2_readField_144 hl (by decide) rfl (fun ls hl => ?_)
            refine lv_aload_n hx hb dX2_readField_146 rfl (lv_at hl 4 rfl) ?_
            refine g_getk (C := RX2) (T := TX2) (N := 16) hx hb hts (mc_ inX2) hown hK g rfl 0 (by decide) rfl (hts _ (List.mem_cons_of_mem _ t_416)) (fun _ h9 => h9) 3 rfl dX2_readField_147 ?_
            refine g_calli (va_runV (As := []) (rest := []) ⟨hx, hb, hml, hown, hts⟩ (r_X8_kind l dC dI L kd tys fr_21 H.size g.2.2.2.1 q0_ mq0_ kq0_) (cwV 0 hts (gV_ t_1118 t_1119 t_1120 t_184 t_1121) rfl rfl rfl (by decide +kernel) ⟨(Nat.le_of_ble_eq_true rfl), (Nat.le_of_ble_eq_true rfl)⟩) (pre3V g hK mq0_ kq0_ (by decide) (q := (RX8, TX8, 10)) rfl) rfl rfl hl.1 rfl (lv_room (Nat.le_of_ble_eq_true rfl)) dX2_readField_150 ⟨(Nat.le_of_ble_eq_true rfl), (Nat.le_of_ble_eq_true rfl)⟩) g hK (by decide) (by decide) (fx' := [(9, 7, q1_, .int x_23), (8, 6, q0_, .int x_18), (9, 2, q1_, .int x_14), (2, 0, a0_, .ref q0_), (2, 4, a0_, .ref q1_), (8, 8, q0_, .int y0_)]) rfl (fun r_26 fr_26 H locs hp hMr_26 g => ?_)
            refine lv_bipush (v := 61) hx hb dX2_readField_153 (by decide) ?_
            have kb_61 : bd 61 61 (61 : Int32) := ⟨by decide, by decide⟩
            refine lv_icmp_ne (tgt := 173) hx hb dX2_readField_155 (by decide) (fun c_27 => ?_) (fun c_27 => ?_)
            · have fc_27 := neq_f c_27
              refine lv_aload_n hx hb dX2_readField_173 rfl (lv_at hl 4 rfl) ?_
              refine g_getk (C := RX2) (T := TX2) (N := 16) hx hb hts (mc_ inX2) hown hK g rfl 0 (by decide) rfl (hts _ (List.mem_cons_of_mem _ t_416)) (fun _ h9 => h9) 3 rfl dX2_readField_174 ?_
              refine lv_bipush (v := 59) hx hb dX2_readField_177 (by decide) ?_
              refine g_callv (va_runV (As := [.int 59]) (rest := []) ⟨hx, hb, hml, hown, hts⟩ (r_X8_take l dC dI L kd tys fr_26 H.size g.2.2.2.1 q0_ mq0_ kq0_ 59 y0_ by0_ (g.fcts [5] rfl)) (cwV 1 hts (gV_ t_1098 t_1099 t_1100 t_184 t_1101) rfl rfl rfl (by decide +kernel) ⟨(Nat.le_of_ble_eq_true rfl), (Nat.le_of_ble_eq_true rfl)⟩) (pre3V g hK mq0_ kq0_ (by decide) (q := (RX8, TX8, 10)) rfl) rfl rfl hl.1 rfl (lv_room (Nat.le_of_ble_eq_true rfl)) dX2_readField_179 ⟨(Nat.le_of_ble_eq_true rfl), (Nat.le_of_ble_eq_true rfl)⟩) g hK (by decide) (by decide) (fx' := [(9, 7, q1_, .int x_23), (9, 2, q1_, .int x_14), (2, 0, a0_, .ref q0_), (2, 4, a0_, .ref q1_)]) rfl (fun fr_28 H locs hp hMr_28 g => ?_)
              rcases hp with ⟨x_29, h_30, x_31, h_32, hF_33⟩ | ⟨x_34, h_35, hF_36⟩
              · have g := g.more hF_33
                refine lv_aload_n hx hb dX2_readField_182 rfl (lv_at hl 4 rfl) ?_
                refine g_getk (C := RX2) (T := TX2) (N := 16) hx hb hts (mc_ inX2) hown hK g rfl 0 (by decide) rfl (hts _ (List.mem_cons_of_mem _ t_416)) (fun _ h9 => h9) 4 rfl dX2_readField_183 ?_
                refine g_getk (C := RX8) (T := TX8) (N := 10) hx hb hts (mc_ inX8) hown hK g rfl 8 (by decide) rfl (hts _ (List.mem_cons_of_mem _ t_294)) (fun _ h9 => h9) 1 rfl dX2_readField_186 ?_
                have kb_0 : bd 0 0 (0 : Int32) := ⟨by decide, by decide⟩
                refine lv_if_ne (tgt := 204) hx hb dX2_readField_189 (by decide) (fun c_37 => ?_) (fun c_37 => ?_)
                · have fc_37 := neq_f c_37
                  have b_38 : bd 1 (-1) x_31 := neX fc_37 h_32 kb_0 (by decide)
                  exact bd_no b_38 (by decide)
                · have fc_37 := eq_f c_37
                  refine lv_aload_n hx hb dX2_readField_192 rfl (lv_at hl 4 rfl) ?_
                  refine g_getk (C := RX2) (T := TX2) (N := 16) hx hb hts (mc_ inX2) hown hK g rfl 4 (by decide) rfl (hts _ (List.mem_cons_of_mem _ t_420)) (fun _ h9 => h9) 5 rfl dX2_readField_193 ?_
                  refine lv_lload_n hx hb dX2_readField_196 rfl (lv_at hl 2 rfl) ?_
                  refine lv_iload hx hb dX2_readField_197 (lv_at hl 1 rfl) ?_
                  refine lv_iload hx hb dX2_readField_199 (lv_at hl 0 rfl) ?_
                  refine g_callv (va_runV (As := [.long r_6, .int 0, .int 0]) (rest := []) ⟨hx, hb, hml, hown, hts⟩ (r_X9_addField l dC dI L kd tys fr_28 H.size g.2.2.2.1 q1_ mq1_ kq1_ r_6 0 kb_0 0 kb_0 x_23 b_25 x_14 b_16 (g.fcts [2, 3] rfl)) (cwV 3 hts (gV_ t_1164 t_1165 t_1166 t_192 t_1167) rfl rfl rfl (by decide +kernel) ⟨(Nat.le_of_ble_eq_true rfl), (Nat.le_of_ble_eq_true rfl)⟩) (pre3V g hK mq1_ kq1_ (by decide) (q := (RX9, TX9, 13)) rfl) rfl rfl hl.1 rfl (lv_room (Nat.le_of_ble_eq_true rfl)) dX2_readField_201 ⟨(Nat.le_of_ble_eq_true rfl), (Nat.le_of_ble_eq_true rfl)⟩) g hK (by decide) (by decide) (fx' := [(8, 6, q0_, .int x_29), (8, 8, q0_, .int x_31), (2, 0, a0_, .ref q0_), (2, 4, a0_, .ref q1_)]) rfl (fun fr_39 H locs hp hMr_39 g => ?_)
                  obtain ⟨x_40, h_41, x_42, h_43, hF_44⟩ := hp
                  have g := g.more hF_44
                  subst hQ
                  exact W.vret hx hb hr (fun t ht hW => ⟨⟨_, rfl, Or.inl ⟨x_40, h_41, x_42, h_43, x_29, h_30, x_31, h_32, (g.fcts [0, 1, 2, 3] rfl)⟩, q3_of g hK ht hW⟩, g.2.2.1.F ht⟩) g.2.2.1.2.2 dX2_readField_204
              · have g := g.more hF_36
                refine lv_aload_n hx hb dX2_readField_182 rfl (lv_at hl 4 rfl) ?_
                refine g_getk (C := RX2) (T := TX2) (N := 16) hx hb hts (mc_ inX2) hown hK g rfl 0 (by decide) rfl (hts _ (List.mem_cons_of_mem _ t_416)) (fun _ h9 => h9) 4 rfl dX2_readField_183 ?_
                refine g_getk (C := RX8) (T := TX8) (N := 10) hx hb hts (mc_ inX8) hown hK g rfl 8 (by decide) rfl (hts _ (List.mem_cons_of_mem _ t_294)) (fun _ h9 => h9) 1 rfl dX2_readField_186 ?_
                have kb_0 : bd 0 0 (0 : Int32) := ⟨by decide, by decide⟩
                refine lv_if_ne (tgt := 204) hx hb dX2_readField_189 (by decide) (fun c_45 => ?_) (fun c_45 => ?_)
                · have fc_45 := neq_f c_45
                  have kb_1201 : bd 1201 1201 (1201 : Int32) := ⟨by decide, by decide⟩
                  subst hQ
                  exact W.vret hx hb hr (fun t ht hW => ⟨⟨_, rfl, Or.inr (⟨1201, kb_1201, x_34, h_35, (g.fcts [0, 1] rfl)⟩), q3_of g hK ht hW⟩, g.2.2.1.F ht⟩) g.2.2.1.2.2 dX2_readField_204
                · have fc_45 := eq_f c_45
                  have b_46 : bd 1 0 x_34 := eqX fc_45 h_35 kb_0 (by decide)
                  exact bd_no b_46 (by decide)
            · have fc_27 := eq_f c_27
              have b_47 : bd 61 61 r_26 := eqX fc_27 (bdT r_26) kb_61 (by decide)
              refine lv_aload_n hx hb dX2_readField_158 rfl (lv_at hl 4 rfl) ?_
              refine g_getk (C := RX2) (T := TX2) (N := 16) hx hb hts (mc_ inX2) hown hK g rfl 0 (by decide) rfl (hts _ (List.mem_cons_of_mem _ t_416)) (fun _ h9 => h9) 3 rfl dX2_readField_159 ?_
              refine g_callv (va_runV (As := []) (rest := []) ⟨hx, hb, hml, hown, hts⟩ (r_X8_next l dC dI L kd tys fr_26 H.size g.2.2.2.1 q0_ mq0_ kq0_) (cwV 0 hts (gV_ t_1131 t_1103 t_1104 t_184 t_1105) rfl rfl rfl (by decide +kernel) ⟨(Nat.le_of_ble_eq_true rfl), (Nat.le_of_ble_eq_true rfl)⟩) (pre3V g hK mq0_ kq0_ (by decide) (q := (RX8, TX8, 10)) rfl) rfl rfl hl.1 rfl (lv_room (Nat.le_of_ble_eq_true rfl)) dX2_readField_162 ⟨(Nat.le_of_ble_eq_true rfl), (Nat.le_of_ble_eq_true rfl)⟩) g hK (by decide) (by decide) (fx' := [(9, 7, q1_, .int x_23), (9, 2, q1_, .int x_14), (2, 0, a0_, .ref q0_), (2, 4, a0_, .ref q1_), (8, 8, q0_, .int y0_)]) rfl (fun fr_48 H locs hp hMr_48 g => ?_)
              obtain ⟨x_49, h_50, hF_51⟩ := hp
              have g := g.more hF_51
              refine lv_aload_n hx hb dX2_readField_165 rfl (lv_at hl 4 rfl) ?_
              refine lv_ldc (v := (-2147483648)) hx hb hown (hts _ (List.mem_cons_of_mem _ t_1159)) dX2_readField_166 ?_
              refine g_calli (va_runV (As := [.int (-2147483648)]) (rest := []) ⟨hx, hb, hml, hown, hts⟩ (r_X2_readNumber l dC dI L kd tys fr_48 H.size g.2.2.2.1 a0_ ma0_ ka0_ (-2147483648) q0_ mq0_ kq0_ y0_ by0_ (g.fcts [3, 5] rfl)) (cwV 1 hts (gV_ t_1160 t_1162 t_11 t_183 t_1163) rfl rfl rfl (by decide +kernel) ⟨(Nat.le_of_ble_eq_true rfl), (Nat.le_of_ble_eq_true rfl)⟩) (pre3V g hK ma0_ ka0_ (by decide) (q := (RX2, TX2, 16)) rfl) rfl rfl hl.1 rfl (lv_room (Nat.le_of_ble_eq_true rfl)) dX2_readField_168 ⟨(Nat.le_of_ble_eq_true rfl), (Nat.le_of_ble_eq_true rfl)⟩) g hK (by decide) (by decide) (fx' := [(9, 7, q1_, .int x_23), (9, 2, q1_, .int x_14), (2, 0, a0_, .ref q0_), (2, 4, a0_, .ref q1_)]) rfl (fun r_52 fr_52 H locs hp hMr_52 g => ?_)
              rcases hp with ⟨x_53, h_54, x_55, h_56, hF_57⟩ | ⟨x_58, h_59, hF_60⟩
              · have g := g.more hF_57
                refine lv_istore (lv' := [(5, .int r_52), (4, .int 0), (2, .long r_6), (1, .int r_5), (0, .ref a0_)]) hx hb dX2_readField_171 hl (by decide) rfl (fun ls hl => ?_)
                refine lv_aload_n hx hb dX2_readField_173 rfl (lv_at hl 4 rfl) ?_
                refine g_getk (C := RX2) (T := TX2) (N := 16) hx hb hts (mc_ inX2) hown hK g rfl 0 (by decide) rfl (hts _ (List.mem_cons_of_mem _ t_416)) (fun _ h9 => h9) 4 rfl dX2_readField_174 ?_
                refine lv_bipush (v := 59) hx hb dX2_readField_177 (by decide) ?_
                refine g_callv (va_runV (As := [.int 59]) (rest := []) ⟨hx, hb, hml, hown, hts⟩ (r_X8_take l dC dI L kd tys fr_52 H.size g.2.2.2.1 q0_ mq0_ kq0_ 59 x_55 h_56 (g.fcts [1] rfl)) (cwV 1 hts (gV_ t_1098 t_1099 t_1100 t_184 t_1101) rfl rfl rfl (by decide +kernel) ⟨(Nat.le_of_ble_eq_true rfl), (Nat.le_of_ble_eq_true rfl)⟩) (pre3V g hK mq0_ kq0_ (by decide) (q := (RX8, TX8, 10)) rfl) rfl rfl hl.1 rfl (lv_room (Nat.le_of_ble_eq_true rfl)) dX2_readField_179 ⟨(Nat.le_of_ble_eq_true rfl), (Nat.le_of_ble_eq_true rfl)⟩) g hK (by decide) (by decide) (fx' := [(9, 7, q1_, .int x_23), (9, 2, q1_, .int x_14), (2, 0, a0_, .ref q0_), (2, 4, a0_, .ref q1_)]) rfl (fun fr_61 H locs hp hMr_61 g => ?_)
                rcases hp with ⟨x_62, h_63, x_64, h_65, hF_66⟩ | ⟨x_67, h_68, hF_69⟩
                · have g := g.more hF_66
                  refine lv_aload_n hx hb dX2_readField_182 rfl (lv_at hl 4 rfl) ?_
                  refine g_getk (C := RX2) (T := TX2) (N := 16) hx hb hts (mc_ inX2) hown hK g rfl 0 (by decide) rfl (hts _ (List.mem_cons_of_mem _ t_416)) (fun _ h9 => h9) 4 rfl dX2_readField_183 ?_
                  refine g_getk (C := RX8) (T := TX8) (N := 10) hx hb hts (mc_ inX8) hown hK g rfl 8 (by decide) rfl (hts _ (List.mem_cons_of_mem _ t_294)) (fun _ h9 => h9) 1 rfl dX2_readField_186 ?_
                  have kb_0 : bd 0 0 (0 : Int32) := ⟨by decide, by decide⟩
                  refine lv_if_ne (tgt := 204) hx hb dX2_readField_189 (by decide) (fun c_70 => ?_) (fun c_70 => ?_)
                  · have fc_70 := neq_f c_70
                    have b_71 : bd 1 (-1) x_64 := neX fc_70 h_65 kb_0 (by decide)
                    exact bd_no b_71 (by decide)
                  · have fc_70 := eq_f c_70
                    refine lv_aload_n hx hb dX2_readField_192 rfl (lv_at hl 4 rfl) ?_
                    refine g_getk (C := RX2) (T := TX2) (N := 16) hx hb hts (mc_ inX2) hown hK g rfl 4 (by decide) rfl (hts _ (List.mem_cons_of_mem _ t_420)) (fun _ h9 => h9) 5 rfl dX2_readField_193 ?_
                    refine lv_lload_n hx hb dX2_readField_196 rfl (lv_at hl 2 rfl) ?_
                    refine lv_iload hx hb dX2_readField_197 (lv_at hl 1 rfl) ?_
                    refine lv_iload hx hb dX2_readField_199 (lv_at hl 0 rfl) ?_
                    refine g_callv (va_runV (As := [.long r_6, .int 0, .int r_52]) (rest := []) ⟨hx, hb, hml, hown, hts⟩ (r_X9_addField_2 l dC dI L kd tys fr_61 H.size g.2.2.2.1 q1_ mq1_ kq1_ r_6 0 kb_0 r_52 x_23 b_25 x_14 b_16 (g.fcts [2, 3] rfl)) (cwV 3 hts (gV_ t_1164 t_1165 t_1166 t_192 t_1167) rfl rfl rfl (by decide +kernel) ⟨(Nat.le_of_ble_eq_true rfl), (Nat.le_of_ble_eq_true rfl)⟩) (pre3V g hK mq1_ kq1_ (by decide) (q := (RX9, TX9, 13)) rfl) rfl rfl hl.1 rfl (lv_room (Nat.le_of_ble_eq_true rfl)) dX2_readField_201 ⟨(Nat.le_of_ble_eq_true rfl), (Nat.le_of_ble_eq_true rfl)⟩) g hK (by decide) (by decide) (fx' := [(8, 6, q0_, .int x_62), (8, 8, q0_, .int x_64), (2, 0, a0_, .ref q0_), (2, 4, a0_, .ref q1_)]) rfl (fun fr_72 H locs hp hMr_72 g => ?_)
                    obtain ⟨x_73, h_74, x_75, h_76, hF_77⟩ := hp
                    have g := g.more hF_77
                    subst hQ
                    exact W.vret hx hb hr (fun t ht hW => ⟨⟨_, rfl, Or.inl ⟨x_73, h_74, x_75, h_76, x_62, h_63, x_64, h_65, (g.fcts [0, 1, 2, 3] rfl)⟩, q3_of g hK ht hW⟩, g.2.2.1.F ht⟩) g.2.2.1.2.2 dX2_readField_204
                · have g := g.more hF_69
                  refine lv_aload_n hx hb dX2_readField_182 rfl (lv_at hl 4 rfl) ?_
                  refine g_getk (C := RX2) (T := TX2) (N := 16) hx hb hts (mc_ inX2) hown hK g rfl 0 (by decide) rfl (hts _ (List.mem_cons_of_mem _ t_416)) (fun _ h9 => h9) 4 rfl dX2_readField_183 ?_
                  refine g_getk (C := RX8) (T := TX8) (N := 10) hx hb hts (mc_ inX8) hown hK g rfl 8 (by decide) rfl (hts _ (List.mem_cons_of_mem _ t_294)) (fun _ h9 => h9) 1 rfl dX2_readField_186 ?_
                  have kb_0 : bd 0 0 (0 : Int32) := ⟨by decide, by decide⟩
                  refine lv_if_ne (tgt := 204) hx hb dX2_readField_189 (by decide) (fun c_78 => ?_) (fun c_78 => ?_)
                  · have fc_78 := neq_f c_78
                    have kb_1201 : bd 1201 1201 (1201 : Int32) := ⟨by decide, by decide⟩
                    subst hQ
                    exact W.vret hx hb hr (fun t ht hW => ⟨⟨_, rfl, Or.inr (⟨1201, kb_1201, x_67, h_68, (g.fcts [0, 1] rfl)⟩), q3_of g hK ht hW⟩, g.2.2.1.F ht⟩) g.2.2.1.2.2 dX2_readField_204
                  · have fc_78 := eq_f c_78
                    have b_79 : bd 1 0 x_67 := eqX fc_78 h_68 kb_0 (by decide)
                    exact bd_no b_79 (by decide)
              · have g := g.more hF_60
                refine lv_istore (lv' := [(5, .int r_52), (4, .int 0), (2, .long r_6), (1, .int r_5), (0, .ref a0_)]) hx hb dX2_readField_171 hl (by decide) rfl (fun ls hl => ?_)
                refine lv_aload_n hx hb dX2_readField_173 rfl (lv_at hl 4 rfl) ?_
                refine g_getk (C := RX2) (T := TX2) (N := 16) hx hb hts (mc_ inX2) hown hK g rfl 0 (by decide) rfl (hts _ (List.mem_cons_of_mem _ t_416)) (fun _ h9 => h9) 4 rfl dX2_readField_174 ?_
                refine lv_bipush (v := 59) hx hb dX2_readField_177 (by decide) ?_
                have kb_1201 : bd 1201 1201 (1201 : Int32) := ⟨by decide, by decide⟩
                refine g_callv (va_runV (As := [.int 59]) (rest := []) ⟨hx, hb, hml, hown, hts⟩ (r_X8_take_2 l dC dI L kd tys fr_52 H.size g.2.2.2.1 q0_ mq0_ kq0_ 59 1201 kb_1201 x_58 h_59 (g.fcts [0, 1] rfl)) (cwV 1 hts (gV_ t_1098 t_1099 t_1100 t_184 t_1101) rfl rfl rfl (by decide +kernel) ⟨(Nat.le_of_ble_eq_true rfl), (Nat.le_of_ble_eq_true rfl)⟩) (pre3V g hK mq0_ kq0_ (by decide) (q := (RX8, TX8, 10)) rfl) rfl rfl hl.1 rfl (lv_room (Nat.le_of_ble_eq_true rfl)) dX2_readField_179 ⟨(Nat.le_of_ble_eq_true rfl), (Nat.le_of_ble_eq_true rfl)⟩) g hK (by decide) (by decide) (fx' := [(8, 8, q0_, .int x_58), (9, 7, q1_, .int x_23), (9, 2, q1_, .int x_14), (2, 0, a0_, .ref q0_), (2, 4, a0_, .ref q1_)]) rfl (fun fr_80 H locs hp hMr_80 g => ?_)
                obtain ⟨x_81, h_82, hF_83⟩ := hp
                have g := g.more hF_83
                refine lv_aload_n hx hb dX2_readField_182 rfl (lv_at hl 4 rfl) ?_
                refine g_getk (C := RX2) (T := TX2) (N := 16) hx hb hts (mc_ inX2) hown hK g rfl 0 (by decide) rfl (hts _ (List.mem_cons_of_mem _ t_416)) (fun _ h9 => h9) 4 rfl dX2_readField_183 ?_
                refine g_getk (C := RX8) (T := TX8) (N := 10) hx hb hts (mc_ inX8) hown hK g rfl 8 (by decide) rfl (hts _ (List.mem_cons_of_mem _ t_294)) (fun _ h9 => h9) 1 rfl dX2_readField_186 ?_
                have kb_0 : bd 0 0 (0 : Int32) := ⟨by decide, by decide⟩
                refine lv_if_ne (tgt := 204) hx hb dX2_readField_189 (by decide) (fun c_84 => ?_) (fun c_84 => ?_)
                · have fc_84 := neq_f c_84
                  subst hQ
                  exact W.vret hx hb hr (fun t ht hW => ⟨⟨_, rfl, Or.inr (⟨x_81, h_82, x_58, h_59, (g.fcts [0, 1] rfl)⟩), q3_of g hK ht hW⟩, g.2.2.1.F ht⟩) g.2.2.1.2.2 dX2_readField_204
                · have fc_84 := eq_f c_84
                  have b_85 : bd 1 0 x_58 := eqX fc_84 h_59 kb_0 (by decide)
                  exact bd_no b_85 (by decide)
          · have fc_24 := nlt_f c_24
            have b_86 : bd 24 24 x_23 := leR fc_24 kb_24 bx_23 (by decide)
            refine lv_aload_n hx hb dX2_readField_134 rfl (lv_at hl 3 rfl) ?_
            refine g_getk (C := RX2) (T := TX2) (N := 16) hx hb hts (mc_ inX2) hown hK g rfl 0 (by decide) rfl (hts _ (List.mem_cons_of_mem _ t_416)) (fun _ h9 => h9) 3 rfl dX2_readField_135 ?_
            refine lv_iconst (v := 4) hx hb dX2_readField_138 (by decide) ?_
            refine lv_iload_n hx hb dX2_readField_139 rfl (lv_at hl 2 rfl) ?_
            have kb_4 : bd 4 4 (4 : Int32) := ⟨by decide, by decide⟩
            refine g_callv (va_runV (As := [.int 4, .int r_5]) (rest := []) ⟨hx, hb, hml, hown, hts⟩ (r_X8_fail l dC dI L kd tys fr_21 H.size g.2.2.2.1 q0_ mq0_ kq0_ 4 (bd_sub kb_4 (by decide)) r_5 y0_ by0_ (g.fcts [5] rfl)) (cwV 2 hts (gV_ t_1122 t_1107 t_1108 t_184 t_1109) rfl rfl rfl (by decide +kernel) ⟨(Nat.le_of_ble_eq_true rfl), (Nat.le_of_ble_eq_true rfl)⟩) (pre3V g hK mq0_ kq0_ (by decide) (q := (RX8, TX8, 10)) rfl) rfl rfl hl.1 rfl (lv_room (Nat.le_of_ble_eq_true rfl)) dX2_readField_140 ⟨(Nat.le_of_ble_eq_true rfl), (Nat.le_of_ble_eq_true rfl)⟩) g hK (by decide) (by decide) (fx' := [(9, 7, q1_, .int x_23), (9, 2, q1_, .int x_14), (2, 0, a0_, .ref q0_), (2, 4, a0_, .ref q1_)]) rfl (fun fr_87 H locs hp hMr_87 g => ?_)
            obtain ⟨x_88, h_89, hF_90⟩ := hp
            have g := g.more hF_90
            refine lv_iconst (v := 0) hx hb dX2_readField_143 (by decide) ?_
            refine lv_istore (lv' := [(5, .int 0), (4, .int 0), (2, .long r_6), (1, .int r_5), (0, .ref a0_)]) hx hb dX2_readField_144 hl (by decide) rfl (fun ls hl => ?_)
            refine lv_aload_n hx hb dX2_readField_146 rfl (lv_at hl 4 rfl) ?_
            refine g_getk (C := RX2) (T := TX2) (N := 16) hx hb hts (mc_ inX2) hown hK g rfl 0 (by decide) rfl (hts _ (List.mem_cons_of_mem _ t_416)) (fun _ h9 => h9) 4 rfl dX2_readField_147 ?_
            have kb_1201 : bd 1201 1201 (1201 : Int32) := ⟨by decide, by decide⟩
            refine g_calli (va_runV (As := []) (rest := []) ⟨hx, hb, hml, hown, hts⟩ (r_X8_kind_2 l dC dI L kd tys fr_87 H.size g.2.2.2.1 q0_ mq0_ kq0_ 1201 kb_1201 (g.fcts [0] rfl)) (cwV 0 hts (gV_ t_1118 t_1119 t_1120 t_184 t_1121) rfl rfl rfl (by decide +kernel) ⟨(Nat.le_of_ble_eq_true rfl), (Nat.le_of_ble_eq_true rfl)⟩) (pre3V g hK mq0_ kq0_ (by decide) (q := (RX8, TX8, 10)) rfl) rfl rfl hl.1 rfl (lv_room (Nat.le_of_ble_eq_true rfl)) dX2_readField_150 ⟨(Nat.le_of_ble_eq_true rfl), (Nat.le_of_ble_eq_true rfl)⟩) g hK (by decide) (by decide) (fx' := [(8, 6, q0_, .int 1201), (8, 8, q0_, .int x_88), (9, 7, q1_, .int x_23), (9, 2, q1_, .int x_14), (2, 0, a0_, .ref q0_), (2, 4, a0_, .ref q1_)]) rfl (fun r_91 fr_91 H locs hp hMr_91 g => ?_)
            obtain ⟨h_92, -⟩ := hp
            obtain rfl : r_91 = 0 := h_92
            refine lv_bipush (v := 61) hx hb dX2_readField_153 (by decide) ?_
            refine lv_icmp_ne (tgt := 173) hx hb dX2_readField_155 (by decide) (fun c_ => ?_) (fun c_ => absurd c_ (by decide))
            refine lv_aload_n hx hb dX2_readField_173 rfl (lv_at hl 4 rfl) ?_
            refine g_getk (C := RX2) (T := TX2) (N := 16) hx hb hts (mc_ inX2) hown hK g rfl 0 (by decide) rfl (hts _ (List.mem_cons_of_mem _ t_416)) (fun _ h9 => h9) 4 rfl dX2_readField_174 ?_
            refine lv_bipush (v := 59) hx hb dX2_readField_177 (by decide) ?_
            refine g_callv (va_runV (As := [.int 59]) (rest := []) ⟨hx, hb, hml, hown, hts⟩ (r_X8_take_2 l dC dI L kd tys fr_91 H.size g.2.2.2.1 q0_ mq0_ kq0_ 59 1201 kb_1201 x_88 h_89 (g.fcts [0, 1] rfl)) (cwV 1 hts (gV_ t_1098 t_1099 t_1100 t_184 t_1101) rfl rfl rfl (by decide +kernel) ⟨(Nat.le_of_ble_eq_true rfl), (Nat.le_of_ble_eq_true rfl)⟩) (pre3V g hK mq0_ kq0_ (by decide) (q := (RX8, TX8, 10)) rfl) rfl rfl hl.1 rfl (lv_room (Nat.le_of_ble_eq_true rfl)) dX2_readField_179 ⟨(Nat.le_of_ble_eq_true rfl), (Nat.le_of_ble_eq_true rfl)⟩) g hK (by decide) (by decide) (fx' := [(8, 8, q0_, .int x_88), (9, 7, q1_, .int x_23), (9, 2, q1_, .int x_14), (2, 0, a0_, .ref q0_), (2, 4, a0_, .ref q1_)]) rfl (fun fr_93 H locs hp hMr_93 g => ?_)
            obtain ⟨x_94, h_95, hF_96⟩ := hp
            have g := g.more hF_96
            refine lv_aload_n hx hb dX2_readField_182 rfl (lv_at hl 4 rfl) ?_
            refine g_getk (C := RX2) (T := TX2) (N := 16) hx hb hts (mc_ inX2) hown hK g rfl 0 (by decide) rfl (hts _ (List.mem_cons_of_mem _ t_416)) (fun _ h9 => h9) 4 rfl dX2_readField_183 ?_
            refine g_getk (C := RX8) (T := TX8) (N := 10) hx hb hts (mc_ inX8) hown hK g rfl 8 (by decide) rfl (hts _ (List.mem_cons_of_mem _ t_294)) (fun _ h9 => h9) 1 rfl dX2_readField_186 ?_
            have kb_0 : bd 0 0 (0 : Int32) := ⟨by decide, by decide⟩
            refine lv_if_ne (tgt := 204) hx hb dX2_readField_189 (by decide) (fun c_97 => ?_) (fun c_97 => ?_)
            · have fc_97 := neq_f c_97
              subst hQ
              exact W.vret hx hb hr (fun t ht hW => ⟨⟨_, rfl, Or.inr (⟨x_94, h_95, x_88, h_89, (g.fcts [0, 1] rfl)⟩), q3_of g hK ht hW⟩, g.2.2.1.F ht⟩) g.2.2.1.2.2 dX2_readField_204
            · have fc_97 := eq_f c_97
              have b_98 : bd 1 0 x_88 := eqX fc_97 h_89 kb_0 (by decide)
              exact bd_no b_98 (by decide)
        · have fc_22 := eq_f c_22
          have b_99 : bd 91 91 r_21 := eqX fc_22 (bdT r_21) kb_91 (by decide)
          refine lv_aload_n hx hb dX2_readField_113 rfl (lv_at hl 3 rfl) ?_
          refine g_calli (va_runV (As := []) (rest := []) ⟨hx, hb, hml, hown, hts⟩ (r_X2_readRowSize l dC dI L kd tys fr_21 H.size g.2.2.2.1 a0_ ma0_ ka0_ q0_ mq0_ kq0_ q1_ mq1_ kq1_ y0_ by0_ (g.fcts [2, 3, 4] rfl)) (cwV 0 hts (gV_ t_1151 t_1153 t_10 t_183 t_1154) rfl rfl rfl (by decide +kernel) ⟨(Nat.le_of_ble_eq_true rfl), (Nat.le_of_ble_eq_true rfl)⟩) (pre3V g hK ma0_ ka0_ (by decide) (q := (RX2, TX2, 16)) rfl) rfl rfl hl.1 rfl (lv_room (Nat.le_of_ble_eq_true rfl)) dX2_readField_114 ⟨(Nat.le_of_ble_eq_true rfl), (Nat.le_of_ble_eq_true rfl)⟩) g hK (by decide) (by decide) (fx' := [(9, 2, q1_, .int x_14), (2, 0, a0_, .ref q0_), (2, 4, a0_, .ref q1_)]) rfl (fun r_100 fr_100 H locs hp hMr_100 g => ?_)
          rcases hp with ⟨h_101, x_102, h_103, x_104, h_105, x_106, h_107, hF_108⟩ | ⟨h_109, x_110, h_111, x_112, h_113, hF_114⟩ | ⟨h_115, x_116, h_117, x_118, h_119, x_120, h_121, hF_122⟩ | ⟨h_123, x_124, h_125, x_126, h_127, hF_128⟩ | ⟨h_129, x_130, h_131, x_132, h_133, x_134, h_135, hF_136⟩ | ⟨h_137, x_138, h_139, x_140, h_141, hF_142⟩ | ⟨h_143, x_144, h_145, x_146, h_147, x_148, h_149, hF_150⟩ | ⟨h_151, x_152, h_153, x_154, h_155, hF_156⟩ | ⟨h_157, x_158, h_159, x_160, h_161, x_162, h_163, hF_164⟩ | ⟨h_165, x_166, h_167, x_168, h_169, hF_170⟩ | ⟨h_171, x_172, h_173, x_174, h_175, x_176, h_177, hF_178⟩ | ⟨h_179, x_180, h_181, x_182, h_183, hF_184⟩ | ⟨h_185, x_186, h_187, x_188, h_189, x_190, h_191, hF_192⟩ | ⟨h_193, x_194, h_195, x_196, h_197, hF_198⟩ | ⟨h_199, x_200, h_201, x_202, h_203, x_204, h_205, hF_206⟩ | ⟨h_207, x_208, h_209, x_210, h_211, hF_212⟩ | ⟨x_213, h_214, x_215, h_216, hF_217⟩
          · obtain rfl : r_100 = 1 := h_101
            have g := g.more hF_108
            refine lv_istore (lv' := [(4, .int 1), (2, .long r_6), (1, .int r_5), (0, .ref a0_)]) hx hb dX2_readField_117 hl (by decide) rfl (fun ls hl => ?_)
            refine lv_goto (tgt := 143) hx hb dX2_readField_119 (by decide) ?_
            refine lv_iconst (v := 0) hx hb dX2_readField_143 (by decide) ?_
            refine lv_istore (lv' := [(5, .int 0), (4, .int 1), (2, .long r_6), (1, .int r_5), (0, .ref a0_)]) hx hb dX2_readField_144 hl (by decide) rfl (fun ls hl => ?_)
            refine lv_aload_n hx hb dX2_readField_146 rfl (lv_at hl 4 rfl) ?_
            refine g_getk (C := RX2) (T := TX2) (N := 16) hx hb hts (mc_ inX2) hown hK g rfl 0 (by decide) rfl (hts _ (List.mem_cons_of_mem _ t_416)) (fun _ h9 => h9) 4 rfl dX2_readField_147 ?_
            refine g_calli (va_runV (As := []) (rest := []) ⟨hx, hb, hml, hown, hts⟩ (r_X8_kind l dC dI L kd tys fr_100 H.size g.2.2.2.1 q0_ mq0_ kq0_) (cwV 0 hts (gV_ t_1118 t_1119 t_1120 t_184 t_1121) rfl rfl rfl (by decide +kernel) ⟨(Nat.le_of_ble_eq_true rfl), (Nat.le_of_ble_eq_true rfl)⟩) (pre3V g hK mq0_ kq0_ (by decide) (q := (RX8, TX8, 10)) rfl) rfl rfl hl.1 rfl (lv_room (Nat.le_of_ble_eq_true rfl)) dX2_readField_150 ⟨(Nat.le_of_ble_eq_true rfl), (Nat.le_of_ble_eq_true rfl)⟩) g hK (by decide) (by decide) (fx' := [(8, 6, q0_, .int x_102), (8, 8, q0_, .int x_104), (9, 7, q1_, .int x_106), (9, 2, q1_, .int x_14), (2, 0, a0_, .ref q0_), (2, 4, a0_, .ref q1_)]) rfl (fun r_218 fr_218 H locs hp hMr_218 g => ?_)
            refine lv_bipush (v := 61) hx hb dX2_readField_153 (by decide) ?_
            have kb_61 : bd 61 61 (61 : Int32) := ⟨by decide, by decide⟩
            refine lv_icmp_ne (tgt := 173) hx hb dX2_readField_155 (by decide) (fun c_219 => ?_) (fun c_219 => ?_)
            · have fc_219 := neq_f c_219
              refine lv_aload_n hx hb dX2_readField_173 rfl (lv_at hl 4 rfl) ?_
              refine g_getk (C := RX2) (T := TX2) (N := 16) hx hb hts (mc_ inX2) hown hK g rfl 0 (by decide) rfl (hts _ (List.mem_cons_of_mem _ t_416)) (fun _ h9 => h9) 4 rfl dX2_readField_174 ?_
              refine lv_bipush (v := 59) hx hb dX2_readField_177 (by decide) ?_
              refine g_callv (va_runV (As := [.int 59]) (rest := []) ⟨hx, hb, hml, hown, hts⟩ (r_X8_take l dC dI L kd tys fr_218 H.size g.2.2.2.1 q0_ mq0_ kq0_ 59 x_104 h_105 (g.fcts [1] rfl)) (cwV 1 hts (gV_ t_1098 t_1099 t_1100 t_184 t_1101) rfl rfl rfl (by decide +kernel) ⟨(Nat.le_of_ble_eq_true rfl), (Nat.le_of_ble_eq_true rfl)⟩) (pre3V g hK mq0_ kq0_ (by decide) (q := (RX8, TX8, 10)) rfl) rfl rfl hl.1 rfl (lv_room (Nat.le_of_ble_eq_true rfl)) dX2_readField_179 ⟨(Nat.le_of_ble_eq_true rfl), (Nat.le_of_ble_eq_true rfl)⟩) g hK (by decide) (by decide) (fx' := [(9, 7, q1_, .int x_106), (9, 2, q1_, .int x_14), (2, 0, a0_, .ref q0_), (2, 4, a0_, .ref q1_)]) rfl (fun fr_220 H locs hp hMr_220 g => ?_)
              rcases hp with ⟨x_221, h_222, x_223, h_224, hF_225⟩ | ⟨x_226, h_227, hF_228⟩
              · have g := g.more hF_225
                refine lv_aload_n hx hb dX2_readField_182 rfl (lv_at hl 4 rfl) ?_
                refine g_getk (C := RX2) (T := TX2) (N := 16) hx hb hts (mc_ inX2) hown hK g rfl 0 (by decide) rfl (hts _ (List.mem_cons_of_mem _ t_416)) (fun _ h9 => h9) 4 rfl dX2_readField_183 ?_
                refine g_getk (C := RX8) (T := TX8) (N := 10) hx hb hts (mc_ inX8) hown hK g rfl 8 (by decide) rfl (hts _ (List.mem_cons_of_mem _ t_294)) (fun _ h9 => h9) 1 rfl dX2_readField_186 ?_
                have kb_0 : bd 0 0 (0 : Int32) := ⟨by decide, by decide⟩
                refine lv_if_ne (tgt := 204) hx hb dX2_readField_189 (by decide) (fun c_229 => ?_) (fun c_229 => ?_)
                · have fc_229 := neq_f c_229
                  have b_230 : bd 1 (-1) x_223 := neX fc_229 h_224 kb_0 (by decide)
                  exact bd_no b_230 (by decide)
                · have fc_229 := eq_f c_229
                  refine lv_aload_n hx hb dX2_readField_192 rfl (lv_at hl 4 rfl) ?_
                  refine g_getk (C := RX2) (T := TX2) (N := 16) hx hb hts (mc_ inX2) hown hK g rfl 4 (by decide) rfl (hts _ (List.mem_cons_of_mem _ t_420)) (fun _ h9 => h9) 5 rfl dX2_readField_193 ?_
                  refine lv_lload_n hx hb dX2_readField_196 rfl (lv_at hl 2 rfl) ?_
                  refine lv_iload hx hb dX2_readField_197 (lv_at hl 1 rfl) ?_
                  refine lv_iload hx hb dX2_readField_199 (lv_at hl 0 rfl) ?_
                  have kb_1 : bd 1 1 (1 : Int32) := ⟨by decide, by decide⟩
                  refine g_callv (va_runV (As := [.long r_6, .int 1, .int 0]) (rest := []) ⟨hx, hb, hml, hown, hts⟩ (r_X9_addField_3 l dC dI L kd tys fr_220 H.size g.2.2.2.1 q1_ mq1_ kq1_ r_6 1 kb_1 0 kb_0 x_106 h_107 x_14 b_16 (g.fcts [2, 3] rfl)) (cwV 3 hts (gV_ t_1164 t_1165 t_1166 t_192 t_1167) rfl rfl rfl (by decide +kernel) ⟨(Nat.le_of_ble_eq_true rfl), (Nat.le_of_ble_eq_true rfl)⟩) (pre3V g hK mq1_ kq1_ (by decide) (q := (RX9, TX9, 13)) rfl) rfl rfl hl.1 rfl (lv_room (Nat.le_of_ble_eq_true rfl)) dX2_readField_201 ⟨(Nat.le_of_ble_eq_true rfl), (Nat.le_of_ble_eq_true rfl)⟩) g hK (by decide) (by decide) (fx' := [(8, 6, q0_, .int x_221), (8, 8, q0_, .int x_223), (2, 0, a0_, .ref q0_), (2, 4, a0_, .ref q1_)]) rfl (fun fr_231 H locs hp hMr_231 g => ?_)
                  obtain ⟨x_232, h_233, x_234, h_235, hF_236⟩ := hp
                  have g := g.more hF_236
                  subst hQ
                  exact W.vret hx hb hr (fun t ht hW => ⟨⟨_, rfl, Or.inl ⟨x_232, h_233, x_234, h_235, x_221, h_222, x_223, h_224, (g.fcts [0, 1, 2, 3] rfl)⟩, q3_of g hK ht hW⟩, g.2.2.1.F ht⟩) g.2.2.1.2.2 dX2_readField_204
              · have g := g.more hF_228
                refine lv_aload_n hx hb dX2_readField_182 rfl (lv_at hl 4 rfl) ?_
                refine g_getk (C := RX2) (T := TX2) (N := 16) hx hb hts (mc_ inX2) hown hK g rfl 0 (by decide) rfl (hts _ (List.mem_cons_of_mem _ t_416)) (fun _ h9 => h9) 4 rfl dX2_readField_183 ?_
                refine g_getk (C := RX8) (T := TX8) (N := 10) hx hb hts (mc_ inX8) hown hK g rfl 8 (by decide) rfl (hts _ (List.mem_cons_of_mem _ t_294)) (fun _ h9 => h9) 1 rfl dX2_readField_186 ?_
                have kb_0 : bd 0 0 (0 : Int32) := ⟨by decide, by decide⟩
                refine lv_if_ne (tgt := 204) hx hb dX2_readField_189 (by decide) (fun c_237 => ?_) (fun c_237 => ?_)
                · have fc_237 := neq_f c_237
                  have kb_1201 : bd 1201 1201 (1201 : Int32) := ⟨by decide, by decide⟩
                  subst hQ
                  exact W.vret hx hb hr (fun t ht hW => ⟨⟨_, rfl, Or.inr (⟨1201, kb_1201, x_226, h_227, (g.fcts [0, 1] rfl)⟩), q3_of g hK ht hW⟩, g.2.2.1.F ht⟩) g.2.2.1.2.2 dX2_readField_204
                · have fc_237 := eq_f c_237
                  have b_238 : bd 1 0 x_226 := eqX fc_237 h_227 kb_0 (by decide)
                  exact bd_no b_238 (by decide)
            · have fc_219 := eq_f c_219
              have b_239 : bd 61 61 r_218 := eqX fc_219 (bdT r_218) kb_61 (by decide)
              refine lv_aload_n hx hb dX2_readField_158 rfl (lv_at hl 4 rfl) ?_
              refine g_getk (C := RX2) (T := TX2) (N := 16) hx hb hts (mc_ inX2) hown hK g rfl 0 (by decide) rfl (hts _ (List.mem_cons_of_mem _ t_416)) (fun _ h9 => h9) 4 rfl dX2_readField_159 ?_
              refine g_callv (va_runV (As := []) (rest := []) ⟨hx, hb, hml, hown, hts⟩ (r_X8_next l dC dI L kd tys fr_218 H.size g.2.2.2.1 q0_ mq0_ kq0_) (cwV 0 hts (gV_ t_1131 t_1103 t_1104 t_184 t_1105) rfl rfl rfl (by decide +kernel) ⟨(Nat.le_of_ble_eq_true rfl), (Nat.le_of_ble_eq_true rfl)⟩) (pre3V g hK mq0_ kq0_ (by decide) (q := (RX8, TX8, 10)) rfl) rfl rfl hl.1 rfl (lv_room (Nat.le_of_ble_eq_true rfl)) dX2_readField_162 ⟨(Nat.le_of_ble_eq_true rfl), (Nat.le_of_ble_eq_true rfl)⟩) g hK (by decide) (by decide) (fx' := [(8, 8, q0_, .int x_104), (9, 7, q1_, .int x_106), (9, 2, q1_, .int x_14), (2, 0, a0_, .ref q0_), (2, 4, a0_, .ref q1_)]) rfl (fun fr_240 H locs hp hMr_240 g => ?_)
              obtain ⟨x_241, h_242, hF_243⟩ := hp
              have g := g.more hF_243
              refine lv_aload_n hx hb dX2_readField_165 rfl (lv_at hl 4 rfl) ?_
              refine lv_ldc (v := (-2147483648)) hx hb hown (hts _ (List.mem_cons_of_mem _ t_1159)) dX2_readField_166 ?_
              refine g_calli (va_runV (As := [.int (-2147483648)]) (rest := []) ⟨hx, hb, hml, hown, hts⟩ (r_X2_readNumber l dC dI L kd tys fr_240 H.size g.2.2.2.1 a0_ ma0_ ka0_ (-2147483648) q0_ mq0_ kq0_ x_104 h_105 (g.fcts [4, 1] rfl)) (cwV 1 hts (gV_ t_1160 t_1162 t_11 t_183 t_1163) rfl rfl rfl (by decide +kernel) ⟨(Nat.le_of_ble_eq_true rfl), (Nat.le_of_ble_eq_true rfl)⟩) (pre3V g hK ma0_ ka0_ (by decide) (q := (RX2, TX2, 16)) rfl) rfl rfl hl.1 rfl (lv_room (Nat.le_of_ble_eq_true rfl)) dX2_readField_168 ⟨(Nat.le_of_ble_eq_true rfl), (Nat.le_of_ble_eq_true rfl)⟩) g hK (by decide) (by decide) (fx' := [(9, 7, q1_, .int x_106), (9, 2, q1_, .int x_14), (2, 0, a0_, .ref q0_), (2, 4, a0_, .ref q1_)]) rfl (fun r_244 fr_244 H locs hp hMr_244 g => ?_)
              rcases hp with ⟨x_245, h_246, x_247, h_248, hF_249⟩ | ⟨x_250, h_251, hF_252⟩
              · have g := g.more hF_249
                refine lv_istore (lv' := [(5, .int r_244), (4, .int 1), (2, .long r_6), (1, .int r_5), (0, .ref a0_)]) hx hb dX2_readField_171 hl (by decide) rfl (fun ls hl => ?_)
                refine lv_aload_n hx hb dX2_readField_173 rfl (lv_at hl 4 rfl) ?_
                refine g_getk (C := RX2) (T := TX2) (N := 16) hx hb hts (mc_ inX2) hown hK g rfl 0 (by decide) rfl (hts _ (List.mem_cons_of_mem _ t_416)) (fun _ h9 => h9) 4 rfl dX2_readField_174 ?_
                refine lv_bipush (v := 59) hx hb dX2_readField_177 (by decide) ?_
                refine g_callv (va_runV (As := [.int 59]) (rest := []) ⟨hx, hb, hml, hown, hts⟩ (r_X8_take l dC dI L kd tys fr_244 H.size g.2.2.2.1 q0_ mq0_ kq0_ 59 x_247 h_248 (g.fcts [1] rfl)) (cwV 1 hts (gV_ t_1098 t_1099 t_1100 t_184 t_1101) rfl rfl rfl (by decide +kernel) ⟨(Nat.le_of_ble_eq_true rfl), (Nat.le_of_ble_eq_true rfl)⟩) (pre3V g hK mq0_ kq0_ (by decide) (q := (RX8, TX8, 10)) rfl) rfl rfl hl.1 rfl (lv_room (Nat.le_of_ble_eq_true rfl)) dX2_readField_179 ⟨(Nat.le_of_ble_eq_true rfl), (Nat.le_of_ble_eq_true rfl)⟩) g hK (by decide) (by decide) (fx' := [(9, 7, q1_, .int x_106), (9, 2, q1_, .int x_14), (2, 0, a0_, .ref q0_), (2, 4, a0_, .ref q1_)]) rfl (fun fr_253 H locs hp hMr_253 g => ?_)
                rcases hp with ⟨x_254, h_255, x_256, h_257, hF_258⟩ | ⟨x_259, h_260, hF_261⟩
                · have g := g.more hF_258
                  refine lv_aload_n hx hb dX2_readField_182 rfl (lv_at hl 4 rfl) ?_
                  refine g_getk (C := RX2) (T := TX2) (N := 16) hx hb hts (mc_ inX2) hown hK g rfl 0 (by decide) rfl (hts _ (List.mem_cons_of_mem _ t_416)) (fun _ h9 => h9) 4 rfl dX2_readField_183 ?_
                  refine g_getk (C := RX8) (T := TX8) (N := 10) hx hb hts (mc_ inX8) hown hK g rfl 8 (by decide) rfl (hts _ (List.mem_cons_of_mem _ t_294)) (fun _ h9 => h9) 1 rfl dX2_readField_186 ?_
                  have kb_0 : bd 0 0 (0 : Int32) := ⟨by decide, by decide⟩
                  refine lv_if_ne (tgt := 204) hx hb dX2_readField_189 (by decide) (fun c_262 => ?_) (fun c_262 => ?_)
                  · have fc_262 := neq_f c_262
                    have b_263 : bd 1 (-1) x_256 := neX fc_262 h_257 kb_0 (by decide)
                    exact bd_no b_263 (by decide)
                  · have fc_262 := eq_f c_262
                    refine lv_aload_n hx hb dX2_readField_192 rfl (lv_at hl 4 rfl) ?_
                    refine g_getk (C := RX2) (T := TX2) (N := 16) hx hb hts (mc_ inX2) hown hK g rfl 4 (by decide) rfl (hts _ (List.mem_cons_of_mem _ t_420)) (fun _ h9 => h9) 5 rfl dX2_readField_193 ?_
                    refine lv_lload_n hx hb dX2_readField_196 rfl (lv_at hl 2 rfl) ?_
                    refine lv_iload hx hb dX2_readField_197 (lv_at hl 1 rfl) ?_
                    refine lv_iload hx hb dX2_readField_199 (lv_at hl 0 rfl) ?_
                    have kb_1 : bd 1 1 (1 : Int32) := ⟨by decide, by decide⟩
                    refine g_callv (va_runV (As := [.long r_6, .int 1, .int r_244]) (rest := []) ⟨hx, hb, hml, hown, hts⟩ (r_X9_addField_4 l dC dI L kd tys fr_253 H.size g.2.2.2.1 q1_ mq1_ kq1_ r_6 1 kb_1 r_244 x_106 h_107 x_14 b_16 (g.fcts [2, 3] rfl)) (cwV 3 hts (gV_ t_1164 t_1165 t_1166 t_192 t_1167) rfl rfl rfl (by decide +kernel) ⟨(Nat.le_of_ble_eq_true rfl), (Nat.le_of_ble_eq_true rfl)⟩) (pre3V g hK mq1_ kq1_ (by decide) (q := (RX9, TX9, 13)) rfl) rfl rfl hl.1 rfl (lv_room (Nat.le_of_ble_eq_true rfl)) dX2_readField_201 ⟨(Nat.le_of_ble_eq_true rfl), (Nat.le_of_ble_eq_true rfl)⟩) g hK (by decide) (by decide) (fx' := [(8, 6, q0_, .int x_254), (8, 8, q0_, .int x_256), (2, 0, a0_, .ref q0_), (2, 4, a0_, .ref q1_)]) rfl (fun fr_264 H locs hp hMr_264 g => ?_)
                    obtain ⟨x_265, h_266, x_267, h_268, hF_269⟩ := hp
                    have g := g.more hF_269
                    subst hQ
                    exact W.vret hx hb hr (fun t ht hW => ⟨⟨_, rfl, Or.inl ⟨x_265, h_266, x_267, h_268, x_254, h_255, x_256, h_257, (g.fcts [0, 1, 2, 3] rfl)⟩, q3_of g hK ht hW⟩, g.2.2.1.F ht⟩) g.2.2.1.2.2 dX2_readField_204
                · have g := g.more hF_261
                  refine lv_aload_n hx hb dX2_readField_182 rfl (lv_at hl 4 rfl) ?_
                  refine g_getk (C := RX2) (T := TX2) (N := 16) hx hb hts (mc_ inX2) hown hK g rfl 0 (by decide) rfl (hts _ (List.mem_cons_of_mem _ t_416)) (fun _ h9 => h9) 4 rfl dX2_readField_183 ?_
                  refine g_getk (C := RX8) (T := TX8) (N := 10) hx hb hts (mc_ inX8) hown hK g rfl 8 (by decide) rfl (hts _ (List.mem_cons_of_mem _ t_294)) (fun _ h9 => h9) 1 rfl dX2_readField_186 ?_
                  have kb_0 : bd 0 0 (0 : Int32) := ⟨by decide, by decide⟩
                  refine lv_if_ne (tgt := 204) hx hb dX2_readField_189 (by decide) (fun c_270 => ?_) (fun c_270 => ?_)
                  · have fc_270 := neq_f c_270
                    have kb_1201 : bd 1201 1201 (1201 : Int32) := ⟨by decide, by decide⟩
                    subst hQ
                    exact W.vret hx hb hr (fun t ht hW => ⟨⟨_, rfl, Or.inr (⟨1201, kb_1201, x_259, h_260, (g.fcts [0, 1] rfl)⟩), q3_of g hK ht hW⟩, g.2.2.1.F ht⟩) g.2.2.1.2.2 dX2_readField_204
                  · have fc_270 := eq_f c_270
                    have b_271 : bd 1 0 x_259 := eqX fc_270 h_260 kb_0 (by decide)
                    exact bd_no b_271 (by decide)
              · have g := g.more hF_252
                refine lv_istore (lv' := [(5, .int r_244), (4, .int 1), (2, .long r_6), (1, .int r_5), (0, .ref a0_)]) hx hb dX2_readField_171 hl (by decide) rfl (fun ls hl => ?_)
                refine lv_aload_n hx hb dX2_readField_173 rfl (lv_at hl 4 rfl) ?_
                refine g_getk (C := RX2) (T := TX2) (N := 16) hx hb hts (mc_ inX2) hown hK g rfl 0 (by decide) rfl (hts _ (List.mem_cons_of_mem _ t_416)) (fun _ h9 => h9) 4 rfl dX2_readField_174 ?_
                refine lv_bipush (v := 59) hx hb dX2_readField_177 (by decide) ?_
                have kb_1201 : bd 1201 1201 (1201 : Int32) := ⟨by decide, by decide⟩
                refine g_callv (va_runV (As := [.int 59]) (rest := []) ⟨hx, hb, hml, hown, hts⟩ (r_X8_take_2 l dC dI L kd tys fr_244 H.size g.2.2.2.1 q0_ mq0_ kq0_ 59 1201 kb_1201 x_250 h_251 (g.fcts [0, 1] rfl)) (cwV 1 hts (gV_ t_1098 t_1099 t_1100 t_184 t_1101) rfl rfl rfl (by decide +kernel) ⟨(Nat.le_of_ble_eq_true rfl), (Nat.le_of_ble_eq_true rfl)⟩) (pre3V g hK mq0_ kq0_ (by decide) (q := (RX8, TX8, 10)) rfl) rfl rfl hl.1 rfl (lv_room (Nat.le_of_ble_eq_true rfl)) dX2_readField_179 ⟨(Nat.le_of_ble_eq_true rfl), (Nat.le_of_ble_eq_true rfl)⟩) g hK (by decide) (by decide) (fx' := [(8, 8, q0_, .int x_250), (9, 7, q1_, .int x_106), (9, 2, q1_, .int x_14), (2, 0, a0_, .ref q0_), (2, 4, a0_, .ref q1_)]) rfl (fun fr_272 H locs hp hMr_272 g => ?_)
                obtain ⟨x_273, h_274, hF_275⟩ := hp
                have g := g.more hF_275
                refine lv_aload_n hx hb dX2_readField_182 rfl (lv_at hl 4 rfl) ?_
                refine g_getk (C := RX2) (T := TX2) (N := 16) hx hb hts (mc_ inX2) hown hK g rfl 0 (by decide) rfl (hts _ (List.mem_cons_of_mem _ t_416)) (fun _ h9 => h9) 4 rfl dX2_readField_183 ?_
                refine g_getk (C := RX8) (T := TX8) (N := 10) hx hb hts (mc_ inX8) hown hK g rfl 8 (by decide) rfl (hts _ (List.mem_cons_of_mem _ t_294)) (fun _ h9 => h9) 1 rfl dX2_readField_186 ?_
                have kb_0 : bd 0 0 (0 : Int32) := ⟨by decide, by decide⟩
                refine lv_if_ne (tgt := 204) hx hb dX2_readField_189 (by decide) (fun c_276 => ?_) (fun c_276 => ?_)
                · have fc_276 := neq_f c_276
                  subst hQ
                  exact W.vret hx hb hr (fun t ht hW => ⟨⟨_, rfl, Or.inr (⟨x_273, h_274, x_250, h_251, (g.fcts [0, 1] rfl)⟩), q3_of g hK ht hW⟩, g.2.2.1.F ht⟩) g.2.2.1.2.2 dX2_readField_204
                · have fc_276 := eq_f c_276
                  have b_277 : bd 1 0 x_250 := eqX fc_276 h_251 kb_0 (by decide)
                  exact bd_no b_277 (by decide)
          · obtain rfl : r_100 = 1 := h_109
            have g := g.more hF_114
            refine lv_istore (lv' := [(4, .int 1), (2, .long r_6), (1, .int r_5), (0, .ref a0_)]) hx hb dX2_readField_117 hl (by decide) rfl (fun ls hl => ?_)
            refine lv_goto (tgt := 143) hx hb dX2_readField_119 (by decide) ?_
            refine lv_iconst (v := 0) hx hb dX2_readField_143 (by decide) ?_
            refine lv_istore (lv' := [(5, .int 0), (4, .int 1), (2, .long r_6), (1, .int r_5), (0, .ref a0_)]) hx hb dX2_readField_144 hl (by decide) rfl (fun ls hl => ?_)
            refine lv_aload_n hx hb dX2_readField_146 rfl (lv_at hl 4 rfl) ?_
            refine g_getk (C := RX2) (T := TX2) (N := 16) hx hb hts (mc_ inX2) hown hK g rfl 0 (by decide) rfl (hts _ (List.mem_cons_of_mem _ t_416)) (fun _ h9 => h9) 3 rfl dX2_readField_147 ?_
            refine g_calli (va_runV (As := []) (rest := []) ⟨hx, hb, hml, hown, hts⟩ (r_X8_kind_2 l dC dI L kd tys fr_100 H.size g.2.2.2.1 q0_ mq0_ kq0_ x_110 h_111 (g.fcts [0] rfl)) (cwV 0 hts (gV_ t_1118 t_1119 t_1120 t_184 t_1121) rfl rfl rfl (by decide +kernel) ⟨(Nat.le_of_ble_eq_true rfl), (Nat.le_of_ble_eq_true rfl)⟩) (pre3V g hK mq0_ kq0_ (by decide) (q := (RX8, TX8, 10)) rfl) rfl rfl hl.1 rfl (lv_room (Nat.le_of_ble_eq_true rfl)) dX2_readField_150 ⟨(Nat.le_of_ble_eq_true rfl), (Nat.le_of_ble_eq_true rfl)⟩) g hK (by decide) (by decide) (fx' := [(8, 6, q0_, .int x_110), (8, 8, q0_, .int x_112), (9, 2, q1_, .int x_14), (2, 0, a0_, .ref q0_), (2, 4, a0_, .ref q1_)]) rfl (fun r_278 fr_278 H locs hp hMr_278 g => ?_)
            obtain ⟨h_279, -⟩ := hp
            obtain rfl : r_278 = 0 := h_279
            refine lv_bipush (v := 61) hx hb dX2_readField_153 (by decide) ?_
            refine lv_icmp_ne (tgt := 173) hx hb dX2_readField_155 (by decide) (fun c_ => ?_) (fun c_ => absurd c_ (by decide))
            refine lv_aload_n hx hb dX2_readField_173 rfl (lv_at hl 4 rfl) ?_
            refine g_getk (C := RX2) (T := TX2) (N := 16) hx hb hts (mc_ inX2) hown hK g rfl 0 (by decide) rfl (hts _ (List.mem_cons_of_mem _ t_416)) (fun _ h9 => h9) 3 rfl dX2_readField_174 ?_
            refine lv_bipush (v := 59) hx hb dX2_readField_177 (by decide) ?_
            refine g_callv (va_runV (As := [.int 59]) (rest := []) ⟨hx, hb, hml, hown, hts⟩ (r_X8_take_2 l dC dI L kd tys fr_278 H.size g.2.2.2.1 q0_ mq0_ kq0_ 59 x_110 h_111 x_112 h_113 (g.fcts [0, 1] rfl)) (cwV 1 hts (gV_ t_1098 t_1099 t_1100 t_184 t_1101) rfl rfl rfl (by decide +kernel) ⟨(Nat.le_of_ble_eq_true rfl), (Nat.le_of_ble_eq_true rfl)⟩) (pre3V g hK mq0_ kq0_ (by decide) (q := (RX8, TX8, 10)) rfl) rfl rfl hl.1 rfl (lv_room (Nat.le_of_ble_eq_true rfl)) dX2_readField_179 ⟨(Nat.le_of_ble_eq_true rfl), (Nat.le_of_ble_eq_true rfl)⟩) g hK (by decide) (by decide) (fx' := [(8, 8, q0_, .int x_112), (9, 2, q1_, .int x_14), (2, 0, a0_, .ref q0_), (2, 4, a0_, .ref q1_)]) rfl (fun fr_280 H locs hp hMr_280 g => ?_)
            obtain ⟨x_281, h_282, hF_283⟩ := hp
            have g := g.more hF_283
            refine lv_aload_n hx hb dX2_readField_182 rfl (lv_at hl 4 rfl) ?_
            refine g_getk (C := RX2) (T := TX2) (N := 16) hx hb hts (mc_ inX2) hown hK g rfl 0 (by decide) rfl (hts _ (List.mem_cons_of_mem _ t_416)) (fun _ h9 => h9) 3 rfl dX2_readField_183 ?_
            refine g_getk (C := RX8) (T := TX8) (N := 10) hx hb hts (mc_ inX8) hown hK g rfl 8 (by decide) rfl (hts _ (List.mem_cons_of_mem _ t_294)) (fun _ h9 => h9) 1 rfl dX2_readField_186 ?_
            have kb_0 : bd 0 0 (0 : Int32) := ⟨by decide, by decide⟩
            refine lv_if_ne (tgt := 204) hx hb dX2_readField_189 (by decide) (fun c_284 => ?_) (fun c_284 => ?_)
            · have fc_284 := neq_f c_284
              subst hQ
              exact W.vret hx hb hr (fun t ht hW => ⟨⟨_, rfl, Or.inr (⟨x_281, h_282, x_112, h_113, (g.fcts [0, 1] rfl)⟩), q3_of g hK ht hW⟩, g.2.2.1.F ht⟩) g.2.2.1.2.2 dX2_readField_204
            · have fc_284 := eq_f c_284
              have b_285 : bd 1 0 x_112 := eqX fc_284 h_113 kb_0 (by decide)
              exact bd_no b_285 (by decide)
          · obtain rfl : r_100 = 2 := h_115
            have g := g.more hF_122
            refine lv_istore (lv' := [(4, .int 2), (2, .long r_6), (1, .int r_5), (0, .ref a0_)]) hx hb dX2_readField_117 hl (by decide) rfl (fun ls hl => ?_)
            refine lv_goto (tgt := 143) hx hb dX2_readField_119 (by decide) ?_
            refine lv_iconst (v := 0) hx hb dX2_readField_143 (by decide) ?_
            refine lv_istore (lv' := [(5, .int 0), (4, .int 2), (2, .long r_6), (1, .int r_5), (0, .ref a0_)]) hx hb dX2_readField_144 hl (by decide) rfl (fun ls hl => ?_)
            refine lv_aload_n hx hb dX2_readField_146 rfl (lv_at hl 4 rfl) ?_
            refine g_getk (C := RX2) (T := TX2) (N := 16) hx hb hts (mc_ inX2) hown hK g rfl 0 (by decide) rfl (hts _ (List.mem_cons_of_mem _ t_416)) (fun _ h9 => h9) 4 rfl dX2_readField_147 ?_
            refine g_calli (va_runV (As := []) (rest := []) ⟨hx, hb, hml, hown, hts⟩ (r_X8_kind l dC dI L kd tys fr_100 H.size g.2.2.2.1 q0_ mq0_ kq0_) (cwV 0 hts (gV_ t_1118 t_1119 t_1120 t_184 t_1121) rfl rfl rfl (by decide +kernel) ⟨(Nat.le_of_ble_eq_true rfl), (Nat.le_of_ble_eq_true rfl)⟩) (pre3V g hK mq0_ kq0_ (by decide) (q := (RX8, TX8, 10)) rfl) rfl rfl hl.1 rfl (lv_room (Nat.le_of_ble_eq_true rfl)) dX2_readField_150 ⟨(Nat.le_of_ble_eq_true rfl), (Nat.le_of_ble_eq_true rfl)⟩) g hK (by decide) (by decide) (fx' := [(8, 6, q0_, .int x_116), (8, 8, q0_, .int x_118), (9, 7, q1_, .int x_120), (9, 2, q1_, .int x_14), (2, 0, a0_, .ref q0_), (2, 4, a0_, .ref q1_)]) rfl (fun r_286 fr_286 H locs hp hMr_286 g => ?_)
            refine lv_bipush (v := 61) hx hb dX2_readField_153 (by decide) ?_
            have kb_61 : bd 61 61 (61 : Int32) := ⟨by decide, by decide⟩
            refine lv_icmp_ne (tgt := 173) hx hb dX2_readField_155 (by decide) (fun c_287 => ?_) (fun c_287 => ?_)
            · have fc_287 := neq_f c_287
              refine lv_aload_n hx hb dX2_readField_173 rfl (lv_at hl 4 rfl) ?_
              refine g_getk (C := RX2) (T := TX2) (N := 16) hx hb hts (mc_ inX2) hown hK g rfl 0 (by decide) rfl (hts _ (List.mem_cons_of_mem _ t_416)) (fun _ h9 => h9) 4 rfl dX2_readField_174 ?_
              refine lv_bipush (v := 59) hx hb dX2_readField_177 (by decide) ?_
              refine g_callv (va_runV (As := [.int 59]) (rest := []) ⟨hx, hb, hml, hown, hts⟩ (r_X8_take l dC dI L kd tys fr_286 H.size g.2.2.2.1 q0_ mq0_ kq0_ 59 x_118 h_119 (g.fcts [1] rfl)) (cwV 1 hts (gV_ t_1098 t_1099 t_1100 t_184 t_1101) rfl rfl rfl (by decide +kernel) ⟨(Nat.le_of_ble_eq_true rfl), (Nat.le_of_ble_eq_true rfl)⟩) (pre3V g hK mq0_ kq0_ (by decide) (q := (RX8, TX8, 10)) rfl) rfl rfl hl.1 rfl (lv_room (Nat.le_of_ble_eq_true rfl)) dX2_readField_179 ⟨(Nat.le_of_ble_eq_true rfl), (Nat.le_of_ble_eq_true rfl)⟩) g hK (by decide) (by decide) (fx' := [(9, 7, q1_, .int x_120), (9, 2, q1_, .int x_14), (2, 0, a0_, .ref q0_), (2, 4, a0_, .ref q1_)]) rfl (fun fr_288 H locs hp hMr_288 g => ?_)
              rcases hp with ⟨x_289, h_290, x_291, h_292, hF_293⟩ | ⟨x_294, h_295, hF_296⟩
              · have g := g.more hF_293
                refine lv_aload_n hx hb dX2_readField_182 rfl (lv_at hl 4 rfl) ?_
                refine g_getk (C := RX2) (T := TX2) (N := 16) hx hb hts (mc_ inX2) hown hK g rfl 0 (by decide) rfl (hts _ (List.mem_cons_of_mem _ t_416)) (fun _ h9 => h9) 4 rfl dX2_readField_183 ?_
                refine g_getk (C := RX8) (T := TX8) (N := 10) hx hb hts (mc_ inX8) hown hK g rfl 8 (by decide) rfl (hts _ (List.mem_cons_of_mem _ t_294)) (fun _ h9 => h9) 1 rfl dX2_readField_186 ?_
                have kb_0 : bd 0 0 (0 : Int32) := ⟨by decide, by decide⟩
                refine lv_if_ne (tgt := 204) hx hb dX2_readField_189 (by decide) (fun c_297 => ?_) (fun c_297 => ?_)
                · have fc_297 := neq_f c_297
                  have b_298 : bd 1 (-1) x_291 := neX fc_297 h_292 kb_0 (by decide)
                  exact bd_no b_298 (by decide)
                · have fc_297 := eq_f c_297
                  refine lv_aload_n hx hb dX2_readField_192 rfl (lv_at hl 4 rfl) ?_
                  refine g_getk (C := RX2) (T := TX2) (N := 16) hx hb hts (mc_ inX2) hown hK g rfl 4 (by decide) rfl (hts _ (List.mem_cons_of_mem _ t_420)) (fun _ h9 => h9) 5 rfl dX2_readField_193 ?_
                  refine lv_lload_n hx hb dX2_readField_196 rfl (lv_at hl 2 rfl) ?_
                  refine lv_iload hx hb dX2_readField_197 (lv_at hl 1 rfl) ?_
                  refine lv_iload hx hb dX2_readField_199 (lv_at hl 0 rfl) ?_
                  have kb_2 : bd 2 2 (2 : Int32) := ⟨by decide, by decide⟩
                  refine g_callv (va_runV (As := [.long r_6, .int 2, .int 0]) (rest := []) ⟨hx, hb, hml, hown, hts⟩ (r_X9_addField_5 l dC dI L kd tys fr_288 H.size g.2.2.2.1 q1_ mq1_ kq1_ r_6 2 kb_2 0 kb_0 x_120 h_121 x_14 b_16 (g.fcts [2, 3] rfl)) (cwV 3 hts (gV_ t_1164 t_1165 t_1166 t_192 t_1167) rfl rfl rfl (by decide +kernel) ⟨(Nat.le_of_ble_eq_true rfl), (Nat.le_of_ble_eq_true rfl)⟩) (pre3V g hK mq1_ kq1_ (by decide) (q := (RX9, TX9, 13)) rfl) rfl rfl hl.1 rfl (lv_room (Nat.le_of_ble_eq_true rfl)) dX2_readField_201 ⟨(Nat.le_of_ble_eq_true rfl), (Nat.le_of_ble_eq_true rfl)⟩) g hK (by decide) (by decide) (fx' := [(8, 6, q0_, .int x_289), (8, 8, q0_, .int x_291), (2, 0, a0_, .ref q0_), (2, 4, a0_, .ref q1_)]) rfl (fun fr_299 H locs hp hMr_299 g => ?_)
                  obtain ⟨x_300, h_301, x_302, h_303, hF_304⟩ := hp
                  have g := g.more hF_304
                  subst hQ
                  exact W.vret hx hb hr (fun t ht hW => ⟨⟨_, rfl, Or.inl ⟨x_300, h_301, x_302, (bd_sub h_303 (by decide)), x_289, h_290, x_291, h_292, (g.fcts [0, 1, 2, 3] rfl)⟩, q3_of g hK ht hW⟩, g.2.2.1.F ht⟩) g.2.2.1.2.2 dX2_readField_204
              · have g := g.more hF_296
                refine lv_aload_n hx hb dX2_readField_182 rfl (lv_at hl 4 rfl) ?_
                refine g_getk (C := RX2) (T := TX2) (N := 16) hx hb hts (mc_ inX2) hown hK g rfl 0 (by decide) rfl (hts _ (List.mem_cons_of_mem _ t_416)) (fun _ h9 => h9) 4 rfl dX2_readField_183 ?_
                refine g_getk (C := RX8) (T := TX8) (N := 10) hx hb hts (mc_ inX8) hown hK g rfl 8 (by decide) rfl (hts _ (List.mem_cons_of_mem _ t_294)) (fun _ h9 => h9) 1 rfl dX2_readField_186 ?_
                have kb_0 : bd 0 0 (0 : Int32) := ⟨by decide, by decide⟩
                refine lv_if_ne (tgt := 204) hx hb dX2_readField_189 (by decide) (fun c_305 => ?_) (fun c_305 => ?_)
                · have fc_305 := neq_f c_305
                  have kb_1201 : bd 1201 1201 (1201 : Int32) := ⟨by decide, by decide⟩
                  subst hQ
                  exact W.vret hx hb hr (fun t ht hW => ⟨⟨_, rfl, Or.inr (⟨1201, kb_1201, x_294, h_295, (g.fcts [0, 1] rfl)⟩), q3_of g hK ht hW⟩, g.2.2.1.F ht⟩) g.2.2.1.2.2 dX2_readField_204
                · have fc_305 := eq_f c_305
                  have b_306 : bd 1 0 x_294 := eqX fc_305 h_295 kb_0 (by decide)
                  exact bd_no b_306 (by decide)
            · have fc_287 := eq_f c_287
              have b_307 : bd 61 61 r_286 := eqX fc_287 (bdT r_286) kb_61 (by decide)
              refine lv_aload_n hx hb dX2_readField_158 rfl (lv_at hl 4 rfl) ?_
              refine g_getk (C := RX2) (T := TX2) (N := 16) hx hb hts (mc_ inX2) hown hK g rfl 0 (by decide) rfl (hts _ (List.mem_cons_of_mem _ t_416)) (fun _ h9 => h9) 4 rfl dX2_readField_159 ?_
              refine g_callv (va_runV (As := []) (rest := []) ⟨hx, hb, hml, hown, hts⟩ (r_X8_next l dC dI L kd tys fr_286 H.size g.2.2.2.1 q0_ mq0_ kq0_) (cwV 0 hts (gV_ t_1131 t_1103 t_1104 t_184 t_1105) rfl rfl rfl (by decide +kernel) ⟨(Nat.le_of_ble_eq_true rfl), (Nat.le_of_ble_eq_true rfl)⟩) (pre3V g hK mq0_ kq0_ (by decide) (q := (RX8, TX8, 10)) rfl) rfl rfl hl.1 rfl (lv_room (Nat.le_of_ble_eq_true rfl)) dX2_readField_162 ⟨(Nat.le_of_ble_eq_true rfl), (Nat.le_of_ble_eq_true rfl)⟩) g hK (by decide) (by decide) (fx' := [(8, 8, q0_, .int x_118), (9, 7, q1_, .int x_120), (9, 2, q1_, .int x_14), (2, 0, a0_, .ref q0_), (2, 4, a0_, .ref q1_)]) rfl (fun fr_308 H locs hp hMr_308 g => ?_)
              obtain ⟨x_309, h_310, hF_311⟩ := hp
              have g := g.more hF_311
              refine lv_aload_n hx hb dX2_readField_165 rfl (lv_at hl 4 rfl) ?_
              refine lv_ldc (v := (-2147483648)) hx hb hown (hts _ (List.mem_cons_of_mem _ t_1159)) dX2_readField_166 ?_
              refine g_calli (va_runV (As := [.int (-2147483648)]) (rest := []) ⟨hx, hb, hml, hown, hts⟩ (r_X2_readNumber l dC dI L kd tys fr_308 H.size g.2.2.2.1 a0_ ma0_ ka0_ (-2147483648) q0_ mq0_ kq0_ x_118 h_119 (g.fcts [4, 1] rfl)) (cwV 1 hts (gV_ t_1160 t_1162 t_11 t_183 t_1163) rfl rfl rfl (by decide +kernel) ⟨(Nat.le_of_ble_eq_true rfl), (Nat.le_of_ble_eq_true rfl)⟩) (pre3V g hK ma0_ ka0_ (by decide) (q := (RX2, TX2, 16)) rfl) rfl rfl hl.1 rfl (lv_room (Nat.le_of_ble_eq_true rfl)) dX2_readField_168 ⟨(Nat.le_of_ble_eq_true rfl), (Nat.le_of_ble_eq_true rfl)⟩) g hK (by decide) (by decide) (fx' := [(9, 7, q1_, .int x_120), (9, 2, q1_, .int x_14), (2, 0, a0_, .ref q0_), (2, 4, a0_, .ref q1_)]) rfl (fun r_312 fr_312 H locs hp hMr_312 g => ?_)
              rcases hp with ⟨x_313, h_314, x_315, h_316, hF_317⟩ | ⟨x_318, h_319, hF_320⟩
              · have g := g.more hF_317
                refine lv_istore (lv' := [(5, .int r_312), (4, .int 2), (2, .long r_6), (1, .int r_5), (0, .ref a0_)]) hx hb dX2_readField_171 hl (by decide) rfl (fun ls hl => ?_)
                refine lv_aload_n hx hb dX2_readField_173 rfl (lv_at hl 4 rfl) ?_
                refine g_getk (C := RX2) (T := TX2) (N := 16) hx hb hts (mc_ inX2) hown hK g rfl 0 (by decide) rfl (hts _ (List.mem_cons_of_mem _ t_416)) (fun _ h9 => h9) 4 rfl dX2_readField_174 ?_
                refine lv_bipush (v := 59) hx hb dX2_readField_177 (by decide) ?_
                refine g_callv (va_runV (As := [.int 59]) (rest := []) ⟨hx, hb, hml, hown, hts⟩ (r_X8_take l dC dI L kd tys fr_312 H.size g.2.2.2.1 q0_ mq0_ kq0_ 59 x_315 h_316 (g.fcts [1] rfl)) (cwV 1 hts (gV_ t_1098 t_1099 t_1100 t_184 t_1101) rfl rfl rfl (by decide +kernel) ⟨(Nat.le_of_ble_eq_true rfl), (Nat.le_of_ble_eq_true rfl)⟩) (pre3V g hK mq0_ kq0_ (by decide) (q := (RX8, TX8, 10)) rfl) rfl rfl hl.1 rfl (lv_room (Nat.le_of_ble_eq_true rfl)) dX2_readField_179 ⟨(Nat.le_of_ble_eq_true rfl), (Nat.le_of_ble_eq_true rfl)⟩) g hK (by decide) (by decide) (fx' := [(9, 7, q1_, .int x_120), (9, 2, q1_, .int x_14), (2, 0, a0_, .ref q0_), (2, 4, a0_, .ref q1_)]) rfl (fun fr_321 H locs hp hMr_321 g => ?_)
                rcases hp with ⟨x_322, h_323, x_324, h_325, hF_326⟩ | ⟨x_327, h_328, hF_329⟩
                · have g := g.more hF_326
                  refine lv_aload_n hx hb dX2_readField_182 rfl (lv_at hl 4 rfl) ?_
                  refine g_getk (C := RX2) (T := TX2) (N := 16) hx hb hts (mc_ inX2) hown hK g rfl 0 (by decide) rfl (hts _ (List.mem_cons_of_mem _ t_416)) (fun _ h9 => h9) 4 rfl dX2_readField_183 ?_
                  refine g_getk (C := RX8) (T := TX8) (N := 10) hx hb hts (mc_ inX8) hown hK g rfl 8 (by decide) rfl (hts _ (List.mem_cons_of_mem _ t_294)) (fun _ h9 => h9) 1 rfl dX2_readField_186 ?_
                  have kb_0 : bd 0 0 (0 : Int32) := ⟨by decide, by decide⟩
                  refine lv_if_ne (tgt := 204) hx hb dX2_readField_189 (by decide) (fun c_330 => ?_) (fun c_330 => ?_)
                  · have fc_330 := neq_f c_330
                    have b_331 : bd 1 (-1) x_324 := neX fc_330 h_325 kb_0 (by decide)
                    exact bd_no b_331 (by decide)
                  · have fc_330 := eq_f c_330
                    refine lv_aload_n hx hb dX2_readField_192 rfl (lv_at hl 4 rfl) ?_
                    refine g_getk (C := RX2) (T := TX2) (N := 16) hx hb hts (mc_ inX2) hown hK g rfl 4 (by decide) rfl (hts _ (List.mem_cons_of_mem _ t_420)) (fun _ h9 => h9) 5 rfl dX2_readField_193 ?_
                    refine lv_lload_n hx hb dX2_readField_196 rfl (lv_at hl 2 rfl) ?_
                    refine lv_iload hx hb dX2_readField_197 (lv_at hl 1 rfl) ?_
                    refine lv_iload hx hb dX2_readField_199 (lv_at hl 0 rfl) ?_
                    have kb_2 : bd 2 2 (2 : Int32) := ⟨by decide, by decide⟩
                    refine g_callv (va_runV (As := [.long r_6, .int 2, .int r_312]) (rest := []) ⟨hx, hb, hml, hown, hts⟩ (r_X9_addField_6 l dC dI L kd tys fr_321 H.size g.2.2.2.1 q1_ mq1_ kq1_ r_6 2 kb_2 r_312 x_120 h_121 x_14 b_16 (g.fcts [2, 3] rfl)) (cwV 3 hts (gV_ t_1164 t_1165 t_1166 t_192 t_1167) rfl rfl rfl (by decide +kernel) ⟨(Nat.le_of_ble_eq_true rfl), (Nat.le_of_ble_eq_true rfl)⟩) (pre3V g hK mq1_ kq1_ (by decide) (q := (RX9, TX9, 13)) rfl) rfl rfl hl.1 rfl (lv_room (Nat.le_of_ble_eq_true rfl)) dX2_readField_201 ⟨(Nat.le_of_ble_eq_true rfl), (Nat.le_of_ble_eq_true rfl)⟩) g hK (by decide) (by decide) (fx' := [(8, 6, q0_, .int x_322), (8, 8, q0_, .int x_324), (2, 0, a0_, .ref q0_), (2, 4, a0_, .ref q1_)]) rfl (fun fr_332 H locs hp hMr_332 g => ?_)
                    obtain ⟨x_333, h_334, x_335, h_336, hF_337⟩ := hp
                    have g := g.more hF_337
                    subst hQ
                    exact W.vret hx hb hr (fun t ht hW => ⟨⟨_, rfl, Or.inl ⟨x_333, h_334, x_335, (bd_sub h_336 (by decide)), x_322, h_323, x_324, h_325, (g.fcts [0, 1, 2, 3] rfl)⟩, q3_of g hK ht hW⟩, g.2.2.1.F ht⟩) g.2.2.1.2.2 dX2_readField_204
                · have g := g.more hF_329
                  refine lv_aload_n hx hb dX2_readField_182 rfl (lv_at hl 4 rfl) ?_
                  refine g_getk (C := RX2) (T := TX2) (N := 16) hx hb hts (mc_ inX2) hown hK g rfl 0 (by decide) rfl (hts _ (List.mem_cons_of_mem _ t_416)) (fun _ h9 => h9) 4 rfl dX2_readField_183 ?_
                  refine g_getk (C := RX8) (T := TX8) (N := 10) hx hb hts (mc_ inX8) hown hK g rfl 8 (by decide) rfl (hts _ (List.mem_cons_of_mem _ t_294)) (fun _ h9 => h9) 1 rfl dX2_readField_186 ?_
                  have kb_0 : bd 0 0 (0 : Int32) := ⟨by decide, by decide⟩
                  refine lv_if_ne (tgt := 204) hx hb dX2_readField_189 (by decide) (fun c_338 => ?_) (fun c_338 => ?_)
                  · have fc_338 := neq_f c_338
                    have kb_1201 : bd 1201 1201 (1201 : Int32) := ⟨by decide, by decide⟩
                    subst hQ
                    exact W.vret hx hb hr (fun t ht hW => ⟨⟨_, rfl, Or.inr (⟨1201, kb_1201, x_327, h_328, (g.fcts [0, 1] rfl)⟩), q3_of g hK ht hW⟩, g.2.2.1.F ht⟩) g.2.2.1.2.2 dX2_readField_204
                  · have fc_338 := eq_f c_338
                    have b_339 : bd 1 0 x_327 := eqX fc_338 h_328 kb_0 (by decide)
                    exact bd_no b_339 (by decide)
              · have g := g.more hF_320
                refine lv_istore (lv' := [(5, .int r_312), (4, .int 2), (2, .long r_6), (1, .int r_5), (0, .ref a0_)]) hx hb dX2_readField_171 hl (by decide) rfl (fun ls hl => ?_)
                refine lv_aload_n hx hb dX2_readField_173 rfl (lv_at hl 4 rfl) ?_
                refine g_getk (C := RX2) (T := TX2) (N := 16) hx hb hts (mc_ inX2) hown hK g rfl 0 (by decide) rfl (hts _ (List.mem_cons_of_mem _ t_416)) (fun _ h9 => h9) 4 rfl dX2_readField_174 ?_
                refine lv_bipush (v := 59) hx hb dX2_readField_177 (by decide) ?_
                have kb_1201 : bd 1201 1201 (1201 : Int32) := ⟨by decide, by decide⟩
                refine g_callv (va_runV (As := [.int 59]) (rest := []) ⟨hx, hb, hml, hown, hts⟩ (r_X8_take_2 l dC dI L kd tys fr_312 H.size g.2.2.2.1 q0_ mq0_ kq0_ 59 1201 kb_1201 x_318 h_319 (g.fcts [0, 1] rfl)) (cwV 1 hts (gV_ t_1098 t_1099 t_1100 t_184 t_1101) rfl rfl rfl (by decide +kernel) ⟨(Nat.le_of_ble_eq_true rfl), (Nat.le_of_ble_eq_true rfl)⟩) (pre3V g hK mq0_ kq0_ (by decide) (q := (RX8, TX8, 10)) rfl) rfl rfl hl.1 rfl (lv_room (Nat.le_of_ble_eq_true rfl)) dX2_readField_179 ⟨(Nat.le_of_ble_eq_true rfl), (Nat.le_of_ble_eq_true rfl)⟩) g hK (by decide) (by decide) (fx' := [(8, 8, q0_, .int x_318), (9, 7, q1_, .int x_120), (9, 2, q1_, .int x_14), (2, 0, a0_, .ref q0_), (2, 4, a0_, .ref q1_)]) rfl (fun fr_340 H locs hp hMr_340 g => ?_)
                obtain ⟨x_341, h_342, hF_343⟩ := hp
                have g := g.more hF_343
                refine lv_aload_n hx hb dX2_readField_182 rfl (lv_at hl 4 rfl) ?_
                refine g_getk (C := RX2) (T := TX2) (N := 16) hx hb hts (mc_ inX2) hown hK g rfl 0 (by decide) rfl (hts _ (List.mem_cons_of_mem _ t_416)) (fun _ h9 => h9) 4 rfl dX2_readField_183 ?_
                refine g_getk (C := RX8) (T := TX8) (N := 10) hx hb hts (mc_ inX8) hown hK g rfl 8 (by decide) rfl (hts _ (List.mem_cons_of_mem _ t_294)) (fun _ h9 => h9) 1 rfl dX2_readField_186 ?_
                have kb_0 : bd 0 0 (0 : Int32) := ⟨by decide, by decide⟩
                refine lv_if_ne (tgt := 204) hx hb dX2_readField_189 (by decide) (fun c_344 => ?_) (fun c_344 => ?_)
                · have fc_344 := neq_f c_344
                  subst hQ
                  exact W.vret hx hb hr (fun t ht hW => ⟨⟨_, rfl, Or.inr (⟨x_341, h_342, x_318, h_319, (g.fcts [0, 1] rfl)⟩), q3_of g hK ht hW⟩, g.2.2.1.F ht⟩) g.2.2.1.2.2 dX2_readField_204
                · have fc_344 := eq_f c_344
                  have b_345 : bd 1 0 x_318 := eqX fc_344 h_319 kb_0 (by decide)
                  exact bd_no b_345 (by decide)
          · obtain rfl : r_100 = 2 := h_123
            have g := g.more hF_128
            refine lv_istore (lv' := [(4, .int 2), (2, .long r_6), (1, .int r_5), (0, .ref a0_)]) hx hb dX2_readField_117 hl (by decide) rfl (fun ls hl => ?_)
            refine lv_goto (tgt := 143) hx hb dX2_readField_119 (by decide) ?_
            refine lv_iconst (v := 0) hx hb dX2_readField_143 (by decide) ?_
            refine lv_istore (lv' := [(5, .int 0), (4, .int 2), (2, .long r_6), (1, .int r_5), (0, .ref a0_)]) hx hb dX2_readField_144 hl (by decide) rfl (fun ls hl => ?_)
            refine lv_aload_n hx hb dX2_readField_146 rfl (lv_at hl 4 rfl) ?_
            refine g_getk (C := RX2) (T := TX2) (N := 16) hx hb hts (mc_ inX2) hown hK g rfl 0 (by decide) rfl (hts _ (List.mem_cons_of_mem _ t_416)) (fun _ h9 => h9) 3 rfl dX2_readField_147 ?_
            refine g_calli (va_runV (As := []) (rest := []) ⟨hx, hb, hml, hown, hts⟩ (r_X8_kind_2 l dC dI L kd tys fr_100 H.size g.2.2.2.1 q0_ mq0_ kq0_ x_124 h_125 (g.fcts [0] rfl)) (cwV 0 hts (gV_ t_1118 t_1119 t_1120 t_184 t_1121) rfl rfl rfl (by decide +kernel) ⟨(Nat.le_of_ble_eq_true rfl), (Nat.le_of_ble_eq_true rfl)⟩) (pre3V g hK mq0_ kq0_ (by decide) (q := (RX8, TX8, 10)) rfl) rfl rfl hl.1 rfl (lv_room (Nat.le_of_ble_eq_true rfl)) dX2_readField_150 ⟨(Nat.le_of_ble_eq_true rfl), (Nat.le_of_ble_eq_true rfl)⟩) g hK (by decide) (by decide) (fx' := [(8, 6, q0_, .int x_124), (8, 8, q0_, .int x_126), (9, 2, q1_, .int x_14), (2, 0, a0_, .ref q0_), (2, 4, a0_, .ref q1_)]) rfl (fun r_346 fr_346 H locs hp hMr_346 g => ?_)
            obtain ⟨h_347, -⟩ := hp
            obtain rfl : r_346 = 0 := h_347
            refine lv_bipush (v := 61) hx hb dX2_readField_153 (by decide) ?_
            refine lv_icmp_ne (tgt := 173) hx hb dX2_readField_155 (by decide) (fun c_ => ?_) (fun c_ => absurd c_ (by decide))
            refine lv_aload_n hx hb dX2_readField_173 rfl (lv_at hl 4 rfl) ?_
            refine g_getk (C := RX2) (T := TX2) (N := 16) hx hb hts (mc_ inX2) hown hK g rfl 0 (by decide) rfl (hts _ (List.mem_cons_of_mem _ t_416)) (fun _ h9 => h9) 3 rfl dX2_readField_174 ?_
            refine lv_bipush (v := 59) hx hb dX2_readField_177 (by decide) ?_
            refine g_callv (va_runV (As := [.int 59]) (rest := []) ⟨hx, hb, hml, hown, hts⟩ (r_X8_take_2 l dC dI L kd tys fr_346 H.size g.2.2.2.1 q0_ mq0_ kq0_ 59 x_124 h_125 x_126 h_127 (g.fcts [0, 1] rfl)) (cwV 1 hts (gV_ t_1098 t_1099 t_1100 t_184 t_1101) rfl rfl rfl (by decide +kernel) ⟨(Nat.le_of_ble_eq_true rfl), (Nat.le_of_ble_eq_true rfl)⟩) (pre3V g hK mq0_ kq0_ (by decide) (q := (RX8, TX8, 10)) rfl) rfl rfl hl.1 rfl (lv_room (Nat.le_of_ble_eq_true rfl)) dX2_readField_179 ⟨(Nat.le_of_ble_eq_true rfl), (Nat.le_of_ble_eq_true rfl)⟩) g hK (by decide) (by decide) (fx' := [(8, 8, q0_, .int x_126), (9, 2, q1_, .int x_14), (2, 0, a0_, .ref q0_), (2, 4, a0_, .ref q1_)]) rfl (fun fr_348 H locs hp hMr_348 g => ?_)
            obtain ⟨x_349, h_350, hF_351⟩ := hp
            have g := g.more hF_351
            refine lv_aload_n hx hb dX2_readField_182 rfl (lv_at hl 4 rfl) ?_
            refine g_getk (C := RX2) (T := TX2) (N := 16) hx hb hts (mc_ inX2) hown hK g rfl 0 (by decide) rfl (hts _ (List.mem_cons_of_mem _ t_416)) (fun _ h9 => h9) 3 rfl dX2_readField_183 ?_
            refine g_getk (C := RX8) (T := TX8) (N := 10) hx hb hts (mc_ inX8) hown hK g rfl 8 (by decide) rfl (hts _ (List.mem_cons_of_mem _ t_294)) (fun _ h9 => h9) 1 rfl dX2_readField_186 ?_
            have kb_0 : bd 0 0 (0 : Int32) := ⟨by decide, by decide⟩
            refine lv_if_ne (tgt := 204) hx hb dX2_readField_189 (by decide) (fun c_352 => ?_) (fun c_352 => ?_)
            · have fc_352 := neq_f c_352
              subst hQ
              exact W.vret hx hb hr (fun t ht hW => ⟨⟨_, rfl, Or.inr (⟨x_349, h_350, x_126, h_127, (g.fcts [0, 1] rfl)⟩), q3_of g hK ht hW⟩, g.2.2.1.F ht⟩) g.2.2.1.2.2 dX2_readField_204
            · have fc_352 := eq_f c_352
              have b_353 : bd 1 0 x_126 := eqX fc_352 h_127 kb_0 (by decide)
              exact bd_no b_353 (by decide)
          · obtain rfl : r_100 = 3 := h_129
            have g := g.more hF_136
            refine lv_istore (lv' := [(4, .int 3), (2, .long r_6), (1, .int r_5), (0, .ref a0_)]) hx hb dX2_readField_117 hl (by decide) rfl (fun ls hl => ?_)
            refine lv_goto (tgt := 143) hx hb dX2_readField_119 (by decide) ?_
            refine lv_iconst (v := 0) hx hb dX2_readField_143 (by decide) ?_
            refine lv_istore (lv' := [(5, .int 0), (4, .int 3), (2, .long r_6), (1, .int r_5), (0, .ref a0_)]) hx hb dX2_readField_144 hl (by decide) rfl (fun ls hl => ?_)
            refine lv_aload_n hx hb dX2_readField_146 rfl (lv_at hl 4 rfl) ?_
            refine g_getk (C := RX2) (T := TX2) (N := 16) hx hb hts (mc_ inX2) hown hK g rfl 0 (by decide) rfl (hts _ (List.mem_cons_of_mem _ t_416)) (fun _ h9 => h9) 4 rfl dX2_readField_147 ?_
            refine g_calli (va_runV (As := []) (rest := []) ⟨hx, hb, hml, hown, hts⟩ (r_X8_kind l dC dI L kd tys fr_100 H.size g.2.2.2.1 q0_ mq0_ kq0_) (cwV 0 hts (gV_ t_1118 t_1119 t_1120 t_184 t_1121) rfl rfl rfl (by decide +kernel) ⟨(Nat.le_of_ble_eq_true rfl), (Nat.le_of_ble_eq_true rfl)⟩) (pre3V g hK mq0_ kq0_ (by decide) (q := (RX8, TX8, 10)) rfl) rfl rfl hl.1 rfl (lv_room (Nat.le_of_ble_eq_true rfl)) dX2_readField_150 ⟨(Nat.le_of_ble_eq_true rfl), (Nat.le_of_ble_eq_true rfl)⟩) g hK (by decide) (by decide) (fx' := [(8, 6, q0_, .int x_130), (8, 8, q0_, .int x_132), (9, 7, q1_, .int x_134), (9, 2, q1_, .int x_14), (2, 0, a0_, .ref q0_), (2, 4, a0_, .ref q1_)]) rfl (fun r_354 fr_354 H locs hp hMr_354 g => ?_)
            refine lv_bipush (v := 61) hx hb dX2_readField_153 (by decide) ?_
            have kb_61 : bd 61 61 (61 : Int32) := ⟨by decide, by decide⟩
            refine lv_icmp_ne (tgt := 173) hx hb dX2_readField_155 (by decide) (fun c_355 => ?_) (fun c_355 => ?_)
            · have fc_355 := neq_f c_355
              refine lv_aload_n hx hb dX2_readField_173 rfl (lv_at hl 4 rfl) ?_
              refine g_getk (C := RX2) (T := TX2) (N := 16) hx hb hts (mc_ inX2) hown hK g rfl 0 (by decide) rfl (hts _ (List.mem_cons_of_mem _ t_416)) (fun _ h9 => h9) 4 rfl dX2_readField_174 ?_
              refine lv_bipush (v := 59) hx hb dX2_readField_177 (by decide) ?_
              refine g_callv (va_runV (As := [.int 59]) (rest := []) ⟨hx, hb, hml, hown, hts⟩ (r_X8_take l dC dI L kd tys fr_354 H.size g.2.2.2.1 q0_ mq0_ kq0_ 59 x_132 h_133 (g.fcts [1] rfl)) (cwV 1 hts (gV_ t_1098 t_1099 t_1100 t_184 t_1101) rfl rfl rfl (by decide +kernel) ⟨(Nat.le_of_ble_eq_true rfl), (Nat.le_of_ble_eq_true rfl)⟩) (pre3V g hK mq0_ kq0_ (by decide) (q := (RX8, TX8, 10)) rfl) rfl rfl hl.1 rfl (lv_room (Nat.le_of_ble_eq_true rfl)) dX2_readField_179 ⟨(Nat.le_of_ble_eq_true rfl), (Nat.le_of_ble_eq_true rfl)⟩) g hK (by decide) (by decide) (fx' := [(9, 7, q1_, .int x_134), (9, 2, q1_, .int x_14), (2, 0, a0_, .ref q0_), (2, 4, a0_, .ref q1_)]) rfl (fun fr_356 H locs hp hMr_356 g => ?_)
              rcases hp with ⟨x_357, h_358, x_359, h_360, hF_361⟩ | ⟨x_362, h_363, hF_364⟩
              · have g := g.more hF_361
                refine lv_aload_n hx hb dX2_readField_182 rfl (lv_at hl 4 rfl) ?_
                refine g_getk (C := RX2) (T := TX2) (N := 16) hx hb hts (mc_ inX2) hown hK g rfl 0 (by decide) rfl (hts _ (List.mem_cons_of_mem _ t_416)) (fun _ h9 => h9) 4 rfl dX2_readField_183 ?_
                refine g_getk (C := RX8) (T := TX8) (N := 10) hx hb hts (mc_ inX8) hown hK g rfl 8 (by decide) rfl (hts _ (List.mem_cons_of_mem _ t_294)) (fun _ h9 => h9) 1 rfl dX2_readField_186 ?_
                have kb_0 : bd 0 0 (0 : Int32) := ⟨by decide, by decide⟩
                refine lv_if_ne (tgt := 204) hx hb dX2_readField_189 (by decide) (fun c_365 => ?_) (fun c_365 => ?_)
                · have fc_365 := neq_f c_365
                  have b_366 : bd 1 (-1) x_359 := neX fc_365 h_360 kb_0 (by decide)
                  exact bd_no b_366 (by decide)
                · have fc_365 := eq_f c_365
                  refine lv_aload_n hx hb dX2_readField_192 rfl (lv_at hl 4 rfl) ?_
                  refine g_getk (C := RX2) (T := TX2) (N := 16) hx hb hts (mc_ inX2) hown hK g rfl 4 (by decide) rfl (hts _ (List.mem_cons_of_mem _ t_420)) (fun _ h9 => h9) 5 rfl dX2_readField_193 ?_
                  refine lv_lload_n hx hb dX2_readField_196 rfl (lv_at hl 2 rfl) ?_
                  refine lv_iload hx hb dX2_readField_197 (lv_at hl 1 rfl) ?_
                  refine lv_iload hx hb dX2_readField_199 (lv_at hl 0 rfl) ?_
                  refine g_callv (va_runV (As := [.long r_6, .int 3, .int 0]) (rest := []) ⟨hx, hb, hml, hown, hts⟩ (r_X9_addField_7 l dC dI L kd tys fr_356 H.size g.2.2.2.1 q1_ mq1_ kq1_ r_6 3 kb_3 0 kb_0 x_134 h_135 x_14 b_16 (g.fcts [2, 3] rfl)) (cwV 3 hts (gV_ t_1164 t_1165 t_1166 t_192 t_1167) rfl rfl rfl (by decide +kernel) ⟨(Nat.le_of_ble_eq_true rfl), (Nat.le_of_ble_eq_true rfl)⟩) (pre3V g hK mq1_ kq1_ (by decide) (q := (RX9, TX9, 13)) rfl) rfl rfl hl.1 rfl (lv_room (Nat.le_of_ble_eq_true rfl)) dX2_readField_201 ⟨(Nat.le_of_ble_eq_true rfl), (Nat.le_of_ble_eq_true rfl)⟩) g hK (by decide) (by decide) (fx' := [(8, 6, q0_, .int x_357), (8, 8, q0_, .int x_359), (2, 0, a0_, .ref q0_), (2, 4, a0_, .ref q1_)]) rfl (fun fr_367 H locs hp hMr_367 g => ?_)
                  obtain ⟨x_368, h_369, x_370, h_371, hF_372⟩ := hp
                  have g := g.more hF_372
                  subst hQ
                  exact W.vret hx hb hr (fun t ht hW => ⟨⟨_, rfl, Or.inl ⟨x_368, h_369, x_370, (bd_sub h_371 (by decide)), x_357, h_358, x_359, h_360, (g.fcts [0, 1, 2, 3] rfl)⟩, q3_of g hK ht hW⟩, g.2.2.1.F ht⟩) g.2.2.1.2.2 dX2_readField_204
              · have g := g.more hF_364
                refine lv_aload_n hx hb dX2_readField_182 rfl (lv_at hl 4 rfl) ?_
                refine g_getk (C := RX2) (T := TX2) (N := 16) hx hb hts (mc_ inX2) hown hK g rfl 0 (by decide) rfl (hts _ (List.mem_cons_of_mem _ t_416)) (fun _ h9 => h9) 4 rfl dX2_readField_183 ?_
                refine g_getk (C := RX8) (T := TX8) (N := 10) hx hb hts (mc_ inX8) hown hK g rfl 8 (by decide) rfl (hts _ (List.mem_cons_of_mem _ t_294)) (fun _ h9 => h9) 1 rfl dX2_readField_186 ?_
                have kb_0 : bd 0 0 (0 : Int32) := ⟨by decide, by decide⟩
                refine lv_if_ne (tgt := 204) hx hb dX2_readField_189 (by decide) (fun c_373 => ?_) (fun c_373 => ?_)
                · have fc_373 := neq_f c_373
                  have kb_1201 : bd 1201 1201 (1201 : Int32) := ⟨by decide, by decide⟩
                  subst hQ
                  exact W.vret hx hb hr (fun t ht hW => ⟨⟨_, rfl, Or.inr (⟨1201, kb_1201, x_362, h_363, (g.fcts [0, 1] rfl)⟩), q3_of g hK ht hW⟩, g.2.2.1.F ht⟩) g.2.2.1.2.2 dX2_readField_204
                · have fc_373 := eq_f c_373
                  have b_374 : bd 1 0 x_362 := eqX fc_373 h_363 kb_0 (by decide)
                  exact bd_no b_374 (by decide)
            · have fc_355 := eq_f c_355
              have b_375 : bd 61 61 r_354 := eqX fc_355 (bdT r_354) kb_61 (by decide)
              refine lv_aload_n hx hb dX2_readField_158 rfl (lv_at hl 4 rfl) ?_
              refine g_getk (C := RX2) (T := TX2) (N := 16) hx hb hts (mc_ inX2) hown hK g rfl 0 (by decide) rfl (hts _ (List.mem_cons_of_mem _ t_416)) (fun _ h9 => h9) 4 rfl dX2_readField_159 ?_
              refine g_callv (va_runV (As := []) (rest := []) ⟨hx, hb, hml, hown, hts⟩ (r_X8_next l dC dI L kd tys fr_354 H.size g.2.2.2.1 q0_ mq0_ kq0_) (cwV 0 hts (gV_ t_1131 t_1103 t_1104 t_184 t_1105) rfl rfl rfl (by decide +kernel) ⟨(Nat.le_of_ble_eq_true rfl), (Nat.le_of_ble_eq_true rfl)⟩) (pre3V g hK mq0_ kq0_ (by decide) (q := (RX8, TX8, 10)) rfl) rfl rfl hl.1 rfl (lv_room (Nat.le_of_ble_eq_true rfl)) dX2_readField_162 ⟨(Nat.le_of_ble_eq_true rfl), (Nat.le_of_ble_eq_true rfl)⟩) g hK (by decide) (by decide) (fx' := [(8, 8, q0_, .int x_132), (9, 7, q1_, .int x_134), (9, 2, q1_, .int x_14), (2, 0, a0_, .ref q0_), (2, 4, a0_, .ref q1_)]) rfl (fun fr_376 H locs hp hMr_376 g => ?_)
              obtain ⟨x_377, h_378, hF_379⟩ := hp
              have g := g.more hF_379
              refine lv_aload_n hx hb dX2_readField_165 rfl (lv_at hl 4 rfl) ?_
              refine lv_ldc (v := (-2147483648)) hx hb hown (hts _ (List.mem_cons_of_mem _ t_1159)) dX2_readField_166 ?_
              refine g_calli (va_runV (As := [.int (-2147483648)]) (rest := []) ⟨hx, hb, hml, hown, hts⟩ (r_X2_readNumber l dC dI L kd tys fr_376 H.size g.2.2.2.1 a0_ ma0_ ka0_ (-2147483648) q0_ mq0_ kq0_ x_132 h_133 (g.fcts [4, 1] rfl)) (cwV 1 hts (gV_ t_1160 t_1162 t_11 t_183 t_1163) rfl rfl rfl (by decide +kernel) ⟨(Nat.le_of_ble_eq_true rfl), (Nat.le_of_ble_eq_true rfl)⟩) (pre3V g hK ma0_ ka0_ (by decide) (q := (RX2, TX2, 16)) rfl) rfl rfl hl.1 rfl (lv_room (Nat.le_of_ble_eq_true rfl)) dX2_readField_168 ⟨(Nat.le_of_ble_eq_true rfl), (Nat.le_of_ble_eq_true rfl)⟩) g hK (by decide) (by decide) (fx' := [(9, 7, q1_, .int x_134), (9, 2, q1_, .int x_14), (2, 0, a0_, .ref q0_), (2, 4, a0_, .ref q1_)]) rfl (fun r_380 fr_380 H locs hp hMr_380 g => ?_)
              rcases hp with ⟨x_381, h_382, x_383, h_384, hF_385⟩ | ⟨x_386, h_387, hF_388⟩
              · have g := g.more hF_385
                refine lv_istore (lv' := [(5, .int r_380), (4, .int 3), (2, .long r_6), (1, .int r_5), (0, .ref a0_)]) hx hb dX2_readField_171 hl (by decide) rfl (fun ls hl => ?_)
                refine lv_aload_n hx hb dX2_readField_173 rfl (lv_at hl 4 rfl) ?_
                refine g_getk (C := RX2) (T := TX2) (N := 16) hx hb hts (mc_ inX2) hown hK g rfl 0 (by decide) rfl (hts _ (List.mem_cons_of_mem _ t_416)) (fun _ h9 => h9) 4 rfl dX2_readField_174 ?_
                refine lv_bipush (v := 59) hx hb dX2_readField_177 (by decide) ?_
                refine g_callv (va_runV (As := [.int 59]) (rest := []) ⟨hx, hb, hml, hown, hts⟩ (r_X8_take l dC dI L kd tys fr_380 H.size g.2.2.2.1 q0_ mq0_ kq0_ 59 x_383 h_384 (g.fcts [1] rfl)) (cwV 1 hts (gV_ t_1098 t_1099 t_1100 t_184 t_1101) rfl rfl rfl (by decide +kernel) ⟨(Nat.le_of_ble_eq_true rfl), (Nat.le_of_ble_eq_true rfl)⟩) (pre3V g hK mq0_ kq0_ (by decide) (q := (RX8, TX8, 10)) rfl) rfl rfl hl.1 rfl (lv_room (Nat.le_of_ble_eq_true rfl)) dX2_readField_179 ⟨(Nat.le_of_ble_eq_true rfl), (Nat.le_of_ble_eq_true rfl)⟩) g hK (by decide) (by decide) (fx' := [(9, 7, q1_, .int x_134), (9, 2, q1_, .int x_14), (2, 0, a0_, .ref q0_), (2, 4, a0_, .ref q1_)]) rfl (fun fr_389 H locs hp hMr_389 g => ?_)
                rcases hp with ⟨x_390, h_391, x_392, h_393, hF_394⟩ | ⟨x_395, h_396, hF_397⟩
                · have g := g.more hF_394
                  refine lv_aload_n hx hb dX2_readField_182 rfl (lv_at hl 4 rfl) ?_
                  refine g_getk (C := RX2) (T := TX2) (N := 16) hx hb hts (mc_ inX2) hown hK g rfl 0 (by decide) rfl (hts _ (List.mem_cons_of_mem _ t_416)) (fun _ h9 => h9) 4 rfl dX2_readField_183 ?_
                  refine g_getk (C := RX8) (T := TX8) (N := 10) hx hb hts (mc_ inX8) hown hK g rfl 8 (by decide) rfl (hts _ (List.mem_cons_of_mem _ t_294)) (fun _ h9 => h9) 1 rfl dX2_readField_186 ?_
                  have kb_0 : bd 0 0 (0 : Int32) := ⟨by decide, by decide⟩
                  refine lv_if_ne (tgt := 204) hx hb dX2_readField_189 (by decide) (fun c_398 => ?_) (fun c_398 => ?_)
                  · have fc_398 := neq_f c_398
                    have b_399 : bd 1 (-1) x_392 := neX fc_398 h_393 kb_0 (by decide)
                    exact bd_no b_399 (by decide)
                  · have fc_398 := eq_f c_398
                    refine lv_aload_n hx hb dX2_readField_192 rfl (lv_at hl 4 rfl) ?_
                    refine g_getk (C := RX2) (T := TX2) (N := 16) hx hb hts (mc_ inX2) hown hK g rfl 4 (by decide) rfl (hts _ (List.mem_cons_of_mem _ t_420)) (fun _ h9 => h9) 5 rfl dX2_readField_193 ?_
                    refine lv_lload_n hx hb dX2_readField_196 rfl (lv_at hl 2 rfl) ?_
                    refine lv_iload hx hb dX2_readField_197 (lv_at hl 1 rfl) ?_
                    refine lv_iload hx hb dX2_readField_199 (lv_at hl 0 rfl) ?_
                    refine g_callv (va_runV (As := [.long r_6, .int 3, .int r_380]) (rest := []) ⟨hx, hb, hml, hown, hts⟩ (r_X9_addField_8 l dC dI L kd tys fr_389 H.size g.2.2.2.1 q1_ mq1_ kq1_ r_6 3 kb_3 r_380 x_134 h_135 x_14 b_16 (g.fcts [2, 3] rfl)) (cwV 3 hts (gV_ t_1164 t_1165 t_1166 t_192 t_1167) rfl rfl rfl (by decide +kernel) ⟨(Nat.le_of_ble_eq_true rfl), (Nat.le_of_ble_eq_true rfl)⟩) (pre3V g hK mq1_ kq1_ (by decide) (q := (RX9, TX9, 13)) rfl) rfl rfl hl.1 rfl (lv_room (Nat.le_of_ble_eq_true rfl)) dX2_readField_201 ⟨(Nat.le_of_ble_eq_true rfl), (Nat.le_of_ble_eq_true rfl)⟩) g hK (by decide) (by decide) (fx' := [(8, 6, q0_, .int x_390), (8, 8, q0_, .int x_392), (2, 0, a0_, .ref q0_), (2, 4, a0_, .ref q1_)]) rfl (fun fr_400 H locs hp hMr_400 g => ?_)
                    obtain ⟨x_401, h_402, x_403, h_404, hF_405⟩ := hp
                    have g := g.more hF_405
                    subst hQ
                    exact W.vret hx hb hr (fun t ht hW => ⟨⟨_, rfl, Or.inl ⟨x_401, h_402, x_403, (bd_sub h_404 (by decide)), x_390, h_391, x_392, h_393, (g.fcts [0, 1, 2, 3] rfl)⟩, q3_of g hK ht hW⟩, g.2.2.1.F ht⟩) g.2.2.1.2.2 dX2_readField_204
                · have g := g.more hF_397
                  refine lv_aload_n hx hb dX2_readField_182 rfl (lv_at hl 4 rfl) ?_
                  refine g_getk (C := RX2) (T := TX2) (N := 16) hx hb hts (mc_ inX2) hown hK g rfl 0 (by decide) rfl (hts _ (List.mem_cons_of_mem _ t_416)) (fun _ h9 => h9) 4 rfl dX2_readField_183 ?_
                  refine g_getk (C := RX8) (T := TX8) (N := 10) hx hb hts (mc_ inX8) hown hK g rfl 8 (by decide) rfl (hts _ (List.mem_cons_of_mem _ t_294)) (fun _ h9 => h9) 1 rfl dX2_readField_186 ?_
                  have kb_0 : bd 0 0 (0 : Int32) := ⟨by decide, by decide⟩
                  refine lv_if_ne (tgt := 204) hx hb dX2_readField_189 (by decide) (fun c_406 => ?_) (fun c_406 => ?_)
                  · have fc_406 := neq_f c_406
                    have kb_1201 : bd 1201 1201 (1201 : Int32) := ⟨by decide, by decide⟩
                    subst hQ
                    exact W.vret hx hb hr (fun t ht hW => ⟨⟨_, rfl, Or.inr (⟨1201, kb_1201, x_395, h_396, (g.fcts [0, 1] rfl)⟩), q3_of g hK ht hW⟩, g.2.2.1.F ht⟩) g.2.2.1.2.2 dX2_readField_204
                  · have fc_406 := eq_f c_406
                    have b_407 : bd 1 0 x_395 := eqX fc_406 h_396 kb_0 (by decide)
                    exact bd_no b_407 (by decide)
              · have g := g.more hF_388
                refine lv_istore (lv' := [(5, .int r_380), (4, .int 3), (2, .long r_6), (1, .int r_5), (0, .ref a0_)]) hx hb dX2_readField_171 hl (by decide) rfl (fun ls hl => ?_)
                refine lv_aload_n hx hb dX2_readField_173 rfl (lv_at hl 4 rfl) ?_
                refine g_getk (C := RX2) (T := TX2) (N := 16) hx hb hts (mc_ inX2) hown hK g rfl 0 (by decide) rfl (hts _ (List.mem_cons_of_mem _ t_416)) (fun _ h9 => h9) 4 rfl dX2_readField_174 ?_
                refine lv_bipush (v := 59) hx hb dX2_readField_177 (by decide) ?_
                have kb_1201 : bd 1201 1201 (1201 : Int32) := ⟨by decide, by decide⟩
                refine g_callv (va_runV (As := [.int 59]) (rest := []) ⟨hx, hb, hml, hown, hts⟩ (r_X8_take_2 l dC dI L kd tys fr_380 H.size g.2.2.2.1 q0_ mq0_ kq0_ 59 1201 kb_1201 x_386 h_387 (g.fcts [0, 1] rfl)) (cwV 1 hts (gV_ t_1098 t_1099 t_1100 t_184 t_1101) rfl rfl rfl (by decide +kernel) ⟨(Nat.le_of_ble_eq_true rfl), (Nat.le_of_ble_eq_true rfl)⟩) (pre3V g hK mq0_ kq0_ (by decide) (q := (RX8, TX8, 10)) rfl) rfl rfl hl.1 rfl (lv_room (Nat.le_of_ble_eq_true rfl)) dX2_readField_179 ⟨(Nat.le_of_ble_eq_true rfl), (Nat.le_of_ble_eq_true rfl)⟩) g hK (by decide) (by decide) (fx' := [(8, 8, q0_, .int x_386), (9, 7, q1_, .int x_134), (9, 2, q1_, .int x_14), (2, 0, a0_, .ref q0_), (2, 4, a0_, .ref q1_)]) rfl (fun fr_408 H locs hp hMr_408 g => ?_)
                obtain ⟨x_409, h_410, hF_411⟩ := hp
                have g := g.more hF_411
                refine lv_aload_n hx hb dX2_readField_182 rfl (lv_at hl 4 rfl) ?_
                refine g_getk (C := RX2) (T := TX2) (N := 16) hx hb hts (mc_ inX2) hown hK g rfl 0 (by decide) rfl (hts _ (List.mem_cons_of_mem _ t_416)) (fun _ h9 => h9) 4 rfl dX2_readField_183 ?_
                refine g_getk (C := RX8) (T := TX8) (N := 10) hx hb hts (mc_ inX8) hown hK g rfl 8 (by decide) rfl (hts _ (List.mem_cons_of_mem _ t_294)) (fun _ h9 => h9) 1 rfl dX2_readField_186 ?_
                have kb_0 : bd 0 0 (0 : Int32) := ⟨by decide, by decide⟩
                refine lv_if_ne (tgt := 204) hx hb dX2_readField_189 (by decide) (fun c_412 => ?_) (fun c_412 => ?_)
                · have fc_412 := neq_f c_412
                  subst hQ
                  exact W.vret hx hb hr (fun t ht hW => ⟨⟨_, rfl, Or.inr (⟨x_409, h_410, x_386, h_387, (g.fcts [0, 1] rfl)⟩), q3_of g hK ht hW⟩, g.2.2.1.F ht⟩) g.2.2.1.2.2 dX2_readField_204
                · have fc_412 := eq_f c_412
                  have b_413 : bd 1 0 x_386 := eqX fc_412 h_387 kb_0 (by decide)
                  exact bd_no b_413 (by decide)
          · obtain rfl : r_100 = 3 := h_137
            have g := g.more hF_142
            refine lv_istore (lv' := [(4, .int 3), (2, .long r_6), (1, .int r_5), (0, .ref a0_)]) hx hb dX2_readField_117 hl (by decide) rfl (fun ls hl => ?_)
            refine lv_goto (tgt := 143) hx hb dX2_readField_119 (by decide) ?_
            refine lv_iconst (v := 0) hx hb dX2_readField_143 (by decide) ?_
            refine lv_istore (lv' := [(5, .int 0), (4, .int 3), (2, .long r_6), (1, .int r_5), (0, .ref a0_)]) hx hb dX2_readField_144 hl (by decide) rfl (fun ls hl => ?_)
            refine lv_aload_n hx hb dX2_readField_146 rfl (lv_at hl 4 rfl) ?_
            refine g_getk (C := RX2) (T := TX2) (N := 16) hx hb hts (mc_ inX2) hown hK g rfl 0 (by decide) rfl (hts _ (List.mem_cons_of_mem _ t_416)) (fun _ h9 => h9) 3 rfl dX2_readField_147 ?_
            refine g_calli (va_runV (As := []) (rest := []) ⟨hx, hb, hml, hown, hts⟩ (r_X8_kind_2 l dC dI L kd tys fr_100 H.size g.2.2.2.1 q0_ mq0_ kq0_ x_138 h_139 (g.fcts [0] rfl)) (cwV 0 hts (gV_ t_1118 t_1119 t_1120 t_184 t_1121) rfl rfl rfl (by decide +kernel) ⟨(Nat.le_of_ble_eq_true rfl), (Nat.le_of_ble_eq_true rfl)⟩) (pre3V g hK mq0_ kq0_ (by decide) (q := (RX8, TX8, 10)) rfl) rfl rfl hl.1 rfl (lv_room (Nat.le_of_ble_eq_true rfl)) dX2_readField_150 ⟨(Nat.le_of_ble_eq_true rfl), (Nat.le_of_ble_eq_true rfl)⟩) g hK (by decide) (by decide) (fx' := [(8, 6, q0_, .int x_138), (8, 8, q0_, .int x_140), (9, 2, q1_, .int x_14), (2, 0, a0_, .ref q0_), (2, 4, a0_, .ref q1_)]) rfl (fun r_414 fr_414 H locs hp hMr_414 g => ?_)
            obtain ⟨h_415, -⟩ := hp
            obtain rfl : r_414 = 0 := h_415
            refine lv_bipush (v := 61) hx hb dX2_readField_153 (by decide) ?_
            refine lv_icmp_ne (tgt := 173) hx hb dX2_readField_155 (by decide) (fun c_ => ?_) (fun c_ => absurd c_ (by decide))
            refine lv_aload_n hx hb dX2_readField_173 rfl (lv_at hl 4 rfl) ?_
            refine g_getk (C := RX2) (T := TX2) (N := 16) hx hb hts (mc_ inX2) hown hK g rfl 0 (by decide) rfl (hts _ (List.mem_cons_of_mem _ t_416)) (fun _ h9 => h9) 3 rfl dX2_readField_174 ?_
            refine lv_bipush (v := 59) hx hb dX2_readField_177 (by decide) ?_
            refine g_callv (va_runV (As := [.int 59]) (rest := []) ⟨hx, hb, hml, hown, hts⟩ (r_X8_take_2 l dC dI L kd tys fr_414 H.size g.2.2.2.1 q0_ mq0_ kq0_ 59 x_138 h_139 x_140 h_141 (g.fcts [0, 1] rfl)) (cwV 1 hts (gV_ t_1098 t_1099 t_1100 t_184 t_1101) rfl rfl rfl (by decide +kernel) ⟨(Nat.le_of_ble_eq_true rfl), (Nat.le_of_ble_eq_true rfl)⟩) (pre3V g hK mq0_ kq0_ (by decide) (q := (RX8, TX8, 10)) rfl) rfl rfl hl.1 rfl (lv_room (Nat.le_of_ble_eq_true rfl)) dX2_readField_179 ⟨(Nat.le_of_ble_eq_true rfl), (Nat.le_of_ble_eq_true rfl)⟩) g hK (by decide) (by decide) (fx' := [(8, 8, q0_, .int x_140), (9, 2, q1_, .int x_14), (2, 0, a0_, .ref q0_), (2, 4, a0_, .ref q1_)]) rfl (fun fr_416 H locs hp hMr_416 g => ?_)
            obtain ⟨x_417, h_418, hF_419⟩ := hp
            have g := g.more hF_419
            refine lv_aload_n hx hb dX2_readField_182 rfl (lv_at hl 4 rfl) ?_
            refine g_getk (C := RX2) (T := TX2) (N := 16) hx hb hts (mc_ inX2) hown hK g rfl 0 (by decide) rfl (hts _ (List.mem_cons_of_mem _ t_416)) (fun _ h9 => h9) 3 rfl dX2_readField_183 ?_
            refine g_getk (C := RX8) (T := TX8) (N := 10) hx hb hts (mc_ inX8) hown hK g rfl 8 (by decide) rfl (hts _ (List.mem_cons_of_mem _ t_294)) (fun _ h9 => h9) 1 rfl dX2_readField_186 ?_
            have kb_0 : bd 0 0 (0 : Int32) := ⟨by decide, by decide⟩
            refine lv_if_ne (tgt := 204) hx hb dX2_readField_189 (by decide) (fun c_420 => ?_) (fun c_420 => ?_)
            · have fc_420 := neq_f c_420
              subst hQ
              exact W.vret hx hb hr (fun t ht hW => ⟨⟨_, rfl, Or.inr (⟨x_417, h_418, x_140, h_141, (g.fcts [0, 1] rfl)⟩), q3_of g hK ht hW⟩, g.2.2.1.F ht⟩) g.2.2.1.2.2 dX2_readField_204
            · have fc_420 := eq_f c_420
              have b_421 : bd 1 0 x_140 := eqX fc_420 h_141 kb_0 (by decide)
              exact bd_no b_421 (by decide)
          · obtain rfl : r_100 = 4 := h_143
            have g := g.more hF_150
            refine lv_istore (lv' := [(4, .int 4), (2, .long r_6), (1, .int r_5), (0, .ref a0_)]) hx hb dX2_readField_117 hl (by decide) rfl (fun ls hl => ?_)
            refine lv_goto (tgt := 143) hx hb dX2_readField_119 (by decide) ?_
            refine lv_iconst (v := 0) hx hb dX2_readField_143 (by decide) ?_
            refine lv_istore (lv' := [(5, .int 0), (4, .int 4), (2, .long r_6), (1, .int r_5), (0, .ref a0_)]) hx hb dX2_readField_144 hl (by decide) rfl (fun ls hl => ?_)
            refine lv_aload_n hx hb dX2_readField_146 rfl (lv_at hl 4 rfl) ?_
            refine g_getk (C := RX2) (T := TX2) (N := 16) hx hb hts (mc_ inX2) hown hK g rfl 0 (by decide) rfl (hts _ (List.mem_cons_of_mem _ t_416)) (fun _ h9 => h9) 4 rfl dX2_readField_147 ?_
            refine g_calli (va_runV (As := []) (rest := []) ⟨hx, hb, hml, hown, hts⟩ (r_X8_kind l dC dI L kd tys fr_100 H.size g.2.2.2.1 q0_ mq0_ kq0_) (cwV 0 hts (gV_ t_1118 t_1119 t_1120 t_184 t_1121) rfl rfl rfl (by decide +kernel) ⟨(Nat.le_of_ble_eq_true rfl), (Nat.le_of_ble_eq_true rfl)⟩) (pre3V g hK mq0_ kq0_ (by decide) (q := (RX8, TX8, 10)) rfl) rfl rfl hl.1 rfl (lv_room (Nat.le_of_ble_eq_true rfl)) dX2_readField_150 ⟨(Nat.le_of_ble_eq_true rfl), (Nat.le_of_ble_eq_true rfl)⟩) g hK (by decide) (by decide) (fx' := [(8, 6, q0_, .int x_144), (8, 8, q0_, .int x_146), (9, 7, q1_, .int x_148), (9, 2, q1_, .int x_14), (2, 0, a0_, .ref q0_), (2, 4, a0_, .ref q1_)]) rfl (fun r_422 fr_422 H locs hp hMr_422 g => ?_)
            refine lv_bipush (v := 61) hx hb dX2_readField_153 (by decide) ?_
            have kb_61 : bd 61 61 (61 : Int32) := ⟨by decide, by decide⟩
            refine lv_icmp_ne (tgt := 173) hx hb dX2_readField_155 (by decide) (fun c_423 => ?_) (fun c_423 => ?_)
            · have fc_423 := neq_f c_423
              refine lv_aload_n hx hb dX2_readField_173 rfl (lv_at hl 4 rfl) ?_
              refine g_getk (C := RX2) (T := TX2) (N := 16) hx hb hts (mc_ inX2) hown hK g rfl 0 (by decide) rfl (hts _ (List.mem_cons_of_mem _ t_416)) (fun _ h9 => h9) 4 rfl dX2_readField_174 ?_
              refine lv_bipush (v := 59) hx hb dX2_readField_177 (by decide) ?_
              refine g_callv (va_runV (As := [.int 59]) (rest := []) ⟨hx, hb, hml, hown, hts⟩ (r_X8_take l dC dI L kd tys fr_422 H.size g.2.2.2.1 q0_ mq0_ kq0_ 59 x_146 h_147 (g.fcts [1] rfl)) (cwV 1 hts (gV_ t_1098 t_1099 t_1100 t_184 t_1101) rfl rfl rfl (by decide +kernel) ⟨(Nat.le_of_ble_eq_true rfl), (Nat.le_of_ble_eq_true rfl)⟩) (pre3V g hK mq0_ kq0_ (by decide) (q := (RX8, TX8, 10)) rfl) rfl rfl hl.1 rfl (lv_room (Nat.le_of_ble_eq_true rfl)) dX2_readField_179 ⟨(Nat.le_of_ble_eq_true rfl), (Nat.le_of_ble_eq_true rfl)⟩) g hK (by decide) (by decide) (fx' := [(9, 7, q1_, .int x_148), (9, 2, q1_, .int x_14), (2, 0, a0_, .ref q0_), (2, 4, a0_, .ref q1_)]) rfl (fun fr_424 H locs hp hMr_424 g => ?_)
              rcases hp with ⟨x_425, h_426, x_427, h_428, hF_429⟩ | ⟨x_430, h_431, hF_432⟩
              · have g := g.more hF_429
                refine lv_aload_n hx hb dX2_readField_182 rfl (lv_at hl 4 rfl) ?_
                refine g_getk (C := RX2) (T := TX2) (N := 16) hx hb hts (mc_ inX2) hown hK g rfl 0 (by decide) rfl (hts _ (List.mem_cons_of_mem _ t_416)) (fun _ h9 => h9) 4 rfl dX2_readField_183 ?_
                refine g_getk (C := RX8) (T := TX8) (N := 10) hx hb hts (mc_ inX8) hown hK g rfl 8 (by decide) rfl (hts _ (List.mem_cons_of_mem _ t_294)) (fun _ h9 => h9) 1 rfl dX2_readField_186 ?_
                have kb_0 : bd 0 0 (0 : Int32) := ⟨by decide, by decide⟩
                refine lv_if_ne (tgt := 204) hx hb dX2_readField_189 (by decide) (fun c_433 => ?_) (fun c_433 => ?_)
                · have fc_433 := neq_f c_433
                  have b_434 : bd 1 (-1) x_427 := neX fc_433 h_428 kb_0 (by decide)
                  exact bd_no b_434 (by decide)
                · have fc_433 := eq_f c_433
                  refine lv_aload_n hx hb dX2_readField_192 rfl (lv_at hl 4 rfl) ?_
                  refine g_getk (C := RX2) (T := TX2) (N := 16) hx hb hts (mc_ inX2) hown hK g rfl 4 (by decide) rfl (hts _ (List.mem_cons_of_mem _ t_420)) (fun _ h9 => h9) 5 rfl dX2_readField_193 ?_
                  refine lv_lload_n hx hb dX2_readField_196 rfl (lv_at hl 2 rfl) ?_
                  refine lv_iload hx hb dX2_readField_197 (lv_at hl 1 rfl) ?_
                  refine lv_iload hx hb dX2_readField_199 (lv_at hl 0 rfl) ?_
                  have kb_4 : bd 4 4 (4 : Int32) := ⟨by decide, by decide⟩
                  refine g_callv (va_runV (As := [.long r_6, .int 4, .int 0]) (rest := []) ⟨hx, hb, hml, hown, hts⟩ (r_X9_addField_9 l dC dI L kd tys fr_424 H.size g.2.2.2.1 q1_ mq1_ kq1_ r_6 4 kb_4 0 kb_0 x_148 h_149 x_14 b_16 (g.fcts [2, 3] rfl)) (cwV 3 hts (gV_ t_1164 t_1165 t_1166 t_192 t_1167) rfl rfl rfl (by decide +kernel) ⟨(Nat.le_of_ble_eq_true rfl), (Nat.le_of_ble_eq_true rfl)⟩) (pre3V g hK mq1_ kq1_ (by decide) (q := (RX9, TX9, 13)) rfl) rfl rfl hl.1 rfl (lv_room (Nat.le_of_ble_eq_true rfl)) dX2_readField_201 ⟨(Nat.le_of_ble_eq_true rfl), (Nat.le_of_ble_eq_true rfl)⟩) g hK (by decide) (by decide) (fx' := [(8, 6, q0_, .int x_425), (8, 8, q0_, .int x_427), (2, 0, a0_, .ref q0_), (2, 4, a0_, .ref q1_)]) rfl (fun fr_435 H locs hp hMr_435 g => ?_)
                  obtain ⟨x_436, h_437, x_438, h_439, hF_440⟩ := hp
                  have g := g.more hF_440
                  subst hQ
                  exact W.vret hx hb hr (fun t ht hW => ⟨⟨_, rfl, Or.inl ⟨x_436, h_437, x_438, (bd_sub h_439 (by decide)), x_425, h_426, x_427, h_428, (g.fcts [0, 1, 2, 3] rfl)⟩, q3_of g hK ht hW⟩, g.2.2.1.F ht⟩) g.2.2.1.2.2 dX2_readField_204
              · have g := g.more hF_432
                refine lv_aload_n hx hb dX2_readField_182 rfl (lv_at hl 4 rfl) ?_
                refine g_getk (C := RX2) (T := TX2) (N := 16) hx hb hts (mc_ inX2) hown hK g rfl 0 (by decide) rfl (hts _ (List.mem_cons_of_mem _ t_416)) (fun _ h9 => h9) 4 rfl dX2_readField_183 ?_
                refine g_getk (C := RX8) (T := TX8) (N := 10) hx hb hts (mc_ inX8) hown hK g rfl 8 (by decide) rfl (hts _ (List.mem_cons_of_mem _ t_294)) (fun _ h9 => h9) 1 rfl dX2_readField_186 ?_
                have kb_0 : bd 0 0 (0 : Int32) := ⟨by decide, by decide⟩
                refine lv_if_ne (tgt := 204) hx hb dX2_readField_189 (by decide) (fun c_441 => ?_) (fun c_441 => ?_)
                · have fc_441 := neq_f c_441
                  have kb_1201 : bd 1201 1201 (1201 : Int32) := ⟨by decide, by decide⟩
                  subst hQ
                  exact W.vret hx hb hr (fun t ht hW => ⟨⟨_, rfl, Or.inr (⟨1201, kb_1201, x_430, h_431, (g.fcts [0, 1] rfl)⟩), q3_of g hK ht hW⟩, g.2.2.1.F ht⟩) g.2.2.1.2.2 dX2_readField_204
                · have fc_441 := eq_f c_441
                  have b_442 : bd 1 0 x_430 := eqX fc_441 h_431 kb_0 (by decide)
                  exact bd_no b_442 (by decide)
            · have fc_423 := eq_f c_423
              have b_443 : bd 61 61 r_422 := eqX fc_423 (bdT r_422) kb_61 (by decide)
              refine lv_aload_n hx hb dX2_readField_158 rfl (lv_at hl 4 rfl) ?_
              refine g_getk (C := RX2) (T := TX2) (N := 16) hx hb hts (mc_ inX2) hown hK g rfl 0 (by decide) rfl (hts _ (List.mem_cons_of_mem _ t_416)) (fun _ h9 => h9) 4 rfl dX2_readField_159 ?_
              refine g_callv (va_runV (As := []) (rest := []) ⟨hx, hb, hml, hown, hts⟩ (r_X8_next l dC dI L kd tys fr_422 H.size g.2.2.2.1 q0_ mq0_ kq0_) (cwV 0 hts (gV_ t_1131 t_1103 t_1104 t_184 t_1105) rfl rfl rfl (by decide +kernel) ⟨(Nat.le_of_ble_eq_true rfl), (Nat.le_of_ble_eq_true rfl)⟩) (pre3V g hK mq0_ kq0_ (by decide) (q := (RX8, TX8, 10)) rfl) rfl rfl hl.1 rfl (lv_room (Nat.le_of_ble_eq_true rfl)) dX2_readField_162 ⟨(Nat.le_of_ble_eq_true rfl), (Nat.le_of_ble_eq_true rfl)⟩) g hK (by decide) (by decide) (fx' := [(8, 8, q0_, .int x_146), (9, 7, q1_, .int x_148), (9, 2, q1_, .int x_14), (2, 0, a0_, .ref q0_), (2, 4, a0_, .ref q1_)]) rfl (fun fr_444 H locs hp hMr_444 g => ?_)
              obtain ⟨x_445, h_446, hF_447⟩ := hp
              have g := g.more hF_447
              refine lv_aload_n hx hb dX2_readField_165 rfl (lv_at hl 4 rfl) ?_
              refine lv_ldc (v := (-2147483648)) hx hb hown (hts _ (List.mem_cons_of_mem _ t_1159)) dX2_readField_166 ?_
              refine g_calli (va_runV (As := [.int (-2147483648)]) (rest := []) ⟨hx, hb, hml, hown, hts⟩ (r_X2_readNumber l dC dI L kd tys fr_444 H.size g.2.2.2.1 a0_ ma0_ ka0_ (-2147483648) q0_ mq0_ kq0_ x_146 h_147 (g.fcts [4, 1] rfl)) (cwV 1 hts (gV_ t_1160 t_1162 t_11 t_183 t_1163) rfl rfl rfl (by decide +kernel) ⟨(Nat.le_of_ble_eq_true rfl), (Nat.le_of_ble_eq_true rfl)⟩) (pre3V g hK ma0_ ka0_ (by decide) (q := (RX2, TX2, 16)) rfl) rfl rfl hl.1 rfl (lv_room (Nat.le_of_ble_eq_true rfl)) dX2_readField_168 ⟨(Nat.le_of_ble_eq_true rfl), (Nat.le_of_ble_eq_true rfl)⟩) g hK (by decide) (by decide) (fx' := [(9, 7, q1_, .int x_148), (9, 2, q1_, .int x_14), (2, 0, a0_, .ref q0_), (2, 4, a0_, .ref q1_)]) rfl (fun r_448 fr_448 H locs hp hMr_448 g => ?_)
              rcases hp with ⟨x_449, h_450, x_451, h_452, hF_453⟩ | ⟨x_454, h_455, hF_456⟩
              · have g := g.more hF_453
                refine lv_istore (lv' := [(5, .int r_448), (4, .int 4), (2, .long r_6), (1, .int r_5), (0, .ref a0_)]) hx hb dX2_readField_171 hl (by decide) rfl (fun ls hl => ?_)
                refine lv_aload_n hx hb dX2_readField_173 rfl (lv_at hl 4 rfl) ?_
                refine g_getk (C := RX2) (T := TX2) (N := 16) hx hb hts (mc_ inX2) hown hK g rfl 0 (by decide) rfl (hts _ (List.mem_cons_of_mem _ t_416)) (fun _ h9 => h9) 4 rfl dX2_readField_174 ?_
                refine lv_bipush (v := 59) hx hb dX2_readField_177 (by decide) ?_
                refine g_callv (va_runV (As := [.int 59]) (rest := []) ⟨hx, hb, hml, hown, hts⟩ (r_X8_take l dC dI L kd tys fr_448 H.size g.2.2.2.1 q0_ mq0_ kq0_ 59 x_451 h_452 (g.fcts [1] rfl)) (cwV 1 hts (gV_ t_1098 t_1099 t_1100 t_184 t_1101) rfl rfl rfl (by decide +kernel) ⟨(Nat.le_of_ble_eq_true rfl), (Nat.le_of_ble_eq_true rfl)⟩) (pre3V g hK mq0_ kq0_ (by decide) (q := (RX8, TX8, 10)) rfl) rfl rfl hl.1 rfl (lv_room (Nat.le_of_ble_eq_true rfl)) dX2_readField_179 ⟨(Nat.le_of_ble_eq_true rfl), (Nat.le_of_ble_eq_true rfl)⟩) g hK (by decide) (by decide) (fx' := [(9, 7, q1_, .int x_148), (9, 2, q1_, .int x_14), (2, 0, a0_, .ref q0_), (2, 4, a0_, .ref q1_)]) rfl (fun fr_457 H locs hp hMr_457 g => ?_)
                rcases hp with ⟨x_458, h_459, x_460, h_461, hF_462⟩ | ⟨x_463, h_464, hF_465⟩
                · have g := g.more hF_462
                  refine lv_aload_n hx hb dX2_readField_182 rfl (lv_at hl 4 rfl) ?_
                  refine g_getk (C := RX2) (T := TX2) (N := 16) hx hb hts (mc_ inX2) hown hK g rfl 0 (by decide) rfl (hts _ (List.mem_cons_of_mem _ t_416)) (fun _ h9 => h9) 4 rfl dX2_readField_183 ?_
                  refine g_getk (C := RX8) (T := TX8) (N := 10) hx hb hts (mc_ inX8) hown hK g rfl 8 (by decide) rfl (hts _ (List.mem_cons_of_mem _ t_294)) (fun _ h9 => h9) 1 rfl dX2_readField_186 ?_
                  have kb_0 : bd 0 0 (0 : Int32) := ⟨by decide, by decide⟩
                  refine lv_if_ne (tgt := 204) hx hb dX2_readField_189 (by decide) (fun c_466 => ?_) (fun c_466 => ?_)
                  · have fc_466 := neq_f c_466
                    have b_467 : bd 1 (-1) x_460 := neX fc_466 h_461 kb_0 (by decide)
                    exact bd_no b_467 (by decide)
                  · have fc_466 := eq_f c_466
                    refine lv_aload_n hx hb dX2_readField_192 rfl (lv_at hl 4 rfl) ?_
                    refine g_getk (C := RX2) (T := TX2) (N := 16) hx hb hts (mc_ inX2) hown hK g rfl 4 (by decide) rfl (hts _ (List.mem_cons_of_mem _ t_420)) (fun _ h9 => h9) 5 rfl dX2_readField_193 ?_
                    refine lv_lload_n hx hb dX2_readField_196 rfl (lv_at hl 2 rfl) ?_
                    refine lv_iload hx hb dX2_readField_197 (lv_at hl 1 rfl) ?_
                    refine lv_iload hx hb dX2_readField_199 (lv_at hl 0 rfl) ?_
                    have kb_4 : bd 4 4 (4 : Int32) := ⟨by decide, by decide⟩
                    refine g_callv (va_runV (As := [.long r_6, .int 4, .int r_448]) (rest := []) ⟨hx, hb, hml, hown, hts⟩ (r_X9_addField_10 l dC dI L kd tys fr_457 H.size g.2.2.2.1 q1_ mq1_ kq1_ r_6 4 kb_4 r_448 x_148 h_149 x_14 b_16 (g.fcts [2, 3] rfl)) (cwV 3 hts (gV_ t_1164 t_1165 t_1166 t_192 t_1167) rfl rfl rfl (by decide +kernel) ⟨(Nat.le_of_ble_eq_true rfl), (Nat.le_of_ble_eq_true rfl)⟩) (pre3V g hK mq1_ kq1_ (by decide) (q := (RX9, TX9, 13)) rfl) rfl rfl hl.1 rfl (lv_room (Nat.le_of_ble_eq_true rfl)) dX2_readField_201 ⟨(Nat.le_of_ble_eq_true rfl), (Nat.le_of_ble_eq_true rfl)⟩) g hK (by decide) (by decide) (fx' := [(8, 6, q0_, .int x_458), (8, 8, q0_, .int x_460), (2, 0, a0_, .ref q0_), (2, 4, a0_, .ref q1_)]) rfl (fun fr_468 H locs hp hMr_468 g => ?_)
                    obtain ⟨x_469, h_470, x_471, h_472, hF_473⟩ := hp
                    have g := g.more hF_473
                    subst hQ
                    exact W.vret hx hb hr (fun t ht hW => ⟨⟨_, rfl, Or.inl ⟨x_469, h_470, x_471, (bd_sub h_472 (by decide)), x_458, h_459, x_460, h_461, (g.fcts [0, 1, 2, 3] rfl)⟩, q3_of g hK ht hW⟩, g.2.2.1.F ht⟩) g.2.2.1.2.2 dX2_readField_204
                · have g := g.more hF_465
                  refine lv_aload_n hx hb dX2_readField_182 rfl (lv_at hl 4 rfl) ?_
                  refine g_getk (C := RX2) (T := TX2) (N := 16) hx hb hts (mc_ inX2) hown hK g rfl 0 (by decide) rfl (hts _ (List.mem_cons_of_mem _ t_416)) (fun _ h9 => h9) 4 rfl dX2_readField_183 ?_
                  refine g_getk (C := RX8) (T := TX8) (N := 10) hx hb hts (mc_ inX8) hown hK g rfl 8 (by decide) rfl (hts _ (List.mem_cons_of_mem _ t_294)) (fun _ h9 => h9) 1 rfl dX2_readField_186 ?_
                  have kb_0 : bd 0 0 (0 : Int32) := ⟨by decide, by decide⟩
                  refine lv_if_ne (tgt := 204) hx hb dX2_readField_189 (by decide) (fun c_474 => ?_) (fun c_474 => ?_)
                  · have fc_474 := neq_f c_474
                    have kb_1201 : bd 1201 1201 (1201 : Int32) := ⟨by decide, by decide⟩
                    subst hQ
                    exact W.vret hx hb hr (fun t ht hW => ⟨⟨_, rfl, Or.inr (⟨1201, kb_1201, x_463, h_464, (g.fcts [0, 1] rfl)⟩), q3_of g hK ht hW⟩, g.2.2.1.F ht⟩) g.2.2.1.2.2 dX2_readField_204
                  · have fc_474 := eq_f c_474
                    have b_475 : bd 1 0 x_463 := eqX fc_474 h_464 kb_0 (by decide)
                    exact bd_no b_475 (by decide)
              · have g := g.more hF_456
                refine lv_istore (lv' := [(5, .int r_448), (4, .int 4), (2, .long r_6), (1, .int r_5), (0, .ref a0_)]) hx hb dX2_readField_171 hl (by decide) rfl (fun ls hl => ?_)
                refine lv_aload_n hx hb dX2_readField_173 rfl (lv_at hl 4 rfl) ?_
                refine g_getk (C := RX2) (T := TX2) (N := 16) hx hb hts (mc_ inX2) hown hK g rfl 0 (by decide) rfl (hts _ (List.mem_cons_of_mem _ t_416)) (fun _ h9 => h9) 4 rfl dX2_readField_174 ?_
                refine lv_bipush (v := 59) hx hb dX2_readField_177 (by decide) ?_
                have kb_1201 : bd 1201 1201 (1201 : Int32) := ⟨by decide, by decide⟩
                refine g_callv (va_runV (As := [.int 59]) (rest := []) ⟨hx, hb, hml, hown, hts⟩ (r_X8_take_2 l dC dI L kd tys fr_448 H.size g.2.2.2.1 q0_ mq0_ kq0_ 59 1201 kb_1201 x_454 h_455 (g.fcts [0, 1] rfl)) (cwV 1 hts (gV_ t_1098 t_1099 t_1100 t_184 t_1101) rfl rfl rfl (by decide +kernel) ⟨(Nat.le_of_ble_eq_true rfl), (Nat.le_of_ble_eq_true rfl)⟩) (pre3V g hK mq0_ kq0_ (by decide) (q := (RX8, TX8, 10)) rfl) rfl rfl hl.1 rfl (lv_room (Nat.le_of_ble_eq_true rfl)) dX2_readField_179 ⟨(Nat.le_of_ble_eq_true rfl), (Nat.le_of_ble_eq_true rfl)⟩) g hK (by decide) (by decide) (fx' := [(8, 8, q0_, .int x_454), (9, 7, q1_, .int x_148), (9, 2, q1_, .int x_14), (2, 0, a0_, .ref q0_), (2, 4, a0_, .ref q1_)]) rfl (fun fr_476 H locs hp hMr_476 g => ?_)
                obtain ⟨x_477, h_478, hF_479⟩ := hp
                have g := g.more hF_479
                refine lv_aload_n hx hb dX2_readField_182 rfl (lv_at hl 4 rfl) ?_
                refine g_getk (C := RX2) (T := TX2) (N := 16) hx hb hts (mc_ inX2) hown hK g rfl 0 (by decide) rfl (hts _ (List.mem_cons_of_mem _ t_416)) (fun _ h9 => h9) 4 rfl dX2_readField_183 ?_
                refine g_getk (C := RX8) (T := TX8) (N := 10) hx hb hts (mc_ inX8) hown hK g rfl 8 (by decide) rfl (hts _ (List.mem_cons_of_mem _ t_294)) (fun _ h9 => h9) 1 rfl dX2_readField_186 ?_
                have kb_0 : bd 0 0 (0 : Int32) := ⟨by decide, by decide⟩
                refine lv_if_ne (tgt := 204) hx hb dX2_readField_189 (by decide) (fun c_480 => ?_) (fun c_480 => ?_)
                · have fc_480 := neq_f c_480
                  subst hQ
                  exact W.vret hx hb hr (fun t ht hW => ⟨⟨_, rfl, Or.inr (⟨x_477, h_478, x_454, h_455, (g.fcts [0, 1] rfl)⟩), q3_of g hK ht hW⟩, g.2.2.1.F ht⟩) g.2.2.1.2.2 dX2_readField_204
                · have fc_480 := eq_f c_480
                  have b_481 : bd 1 0 x_454 := eqX fc_480 h_455 kb_0 (by decide)
                  exact bd_no b_481 (by decide)
          · obtain rfl : r_100 = 4 := h_151
            have g := g.more hF_156
            refine lv_istore (lv' := [(4, .int 4), (2, .long r_6), (1, .int r_5), (0, .ref a0_)]) hx hb dX2_readField_117 hl (by decide) rfl (fun ls hl => ?_)
            refine lv_goto (tgt := 143) hx hb dX2_readField_119 (by decide) ?_
            refine lv_iconst (v := 0) hx hb dX2_readField_143 (by decide) ?_
            refine lv_istore (lv' := [(5, .int 0), (4, .int 4), (2, .long r_6), (1, .int r_5), (0, .ref a0_)]) hx hb dX2_readField_144 hl (by decide) rfl (fun ls hl => ?_)
            refine lv_aload_n hx hb dX2_readField_146 rfl (lv_at hl 4 rfl) ?_
            refine g_getk (C := RX2) (T := TX2) (N := 16) hx hb hts (mc_ inX2) hown hK g rfl 0 (by decide) rfl (hts _ (List.mem_cons_of_mem _ t_416)) (fun _ h9 => h9) 3 rfl dX2_readField_147 ?_
            refine g_calli (va_runV (As := []) (rest := []) ⟨hx, hb, hml, hown, hts⟩ (r_X8_kind_2 l dC dI L kd tys fr_100 H.size g.2.2.2.1 q0_ mq0_ kq0_ x_152 h_153 (g.fcts [0] rfl)) (cwV 0 hts (gV_ t_1118 t_1119 t_1120 t_184 t_1121) rfl rfl rfl (by decide +kernel) ⟨(Nat.le_of_ble_eq_true rfl), (Nat.le_of_ble_eq_true rfl)⟩) (pre3V g hK mq0_ kq0_ (by decide) (q := (RX8, TX8, 10)) rfl) rfl rfl hl.1 rfl (lv_room (Nat.le_of_ble_eq_true rfl)) dX2_readField_150 ⟨(Nat.le_of_ble_eq_true rfl), (Nat.le_of_ble_eq_true rfl)⟩) g hK (by decide) (by decide) (fx' := [(8, 6, q0_, .int x_152), (8, 8, q0_, .int x_154), (9, 2, q1_, .int x_14), (2, 0, a0_, .ref q0_), (2, 4, a0_, .ref q1_)]) rfl (fun r_482 fr_482 H locs hp hMr_482 g => ?_)
            obtain ⟨h_483, -⟩ := hp
            obtain rfl : r_482 = 0 := h_483
            refine lv_bipush (v := 61) hx hb dX2_readField_153 (by decide) ?_
            refine lv_icmp_ne (tgt := 173) hx hb dX2_readField_155 (by decide) (fun c_ => ?_) (fun c_ => absurd c_ (by decide))
            refine lv_aload_n hx hb dX2_readField_173 rfl (lv_at hl 4 rfl) ?_
            refine g_getk (C := RX2) (T := TX2) (N := 16) hx hb hts (mc_ inX2) hown hK g rfl 0 (by decide) rfl (hts _ (List.mem_cons_of_mem _ t_416)) (fun _ h9 => h9) 3 rfl dX2_readField_174 ?_
            refine lv_bipush (v := 59) hx hb dX2_readField_177 (by decide) ?_
            refine g_callv (va_runV (As := [.int 59]) (rest := []) ⟨hx, hb, hml, hown, hts⟩ (r_X8_take_2 l dC dI L kd tys fr_482 H.size g.2.2.2.1 q0_ mq0_ kq0_ 59 x_152 h_153 x_154 h_155 (g.fcts [0, 1] rfl)) (cwV 1 hts (gV_ t_1098 t_1099 t_1100 t_184 t_1101) rfl rfl rfl (by decide +kernel) ⟨(Nat.le_of_ble_eq_true rfl), (Nat.le_of_ble_eq_true rfl)⟩) (pre3V g hK mq0_ kq0_ (by decide) (q := (RX8, TX8, 10)) rfl) rfl rfl hl.1 rfl (lv_room (Nat.le_of_ble_eq_true rfl)) dX2_readField_179 ⟨(Nat.le_of_ble_eq_true rfl), (Nat.le_of_ble_eq_true rfl)⟩) g hK (by decide) (by decide) (fx' := [(8, 8, q0_, .int x_154), (9, 2, q1_, .int x_14), (2, 0, a0_, .ref q0_), (2, 4, a0_, .ref q1_)]) rfl (fun fr_484 H locs hp hMr_484 g => ?_)
            obtain ⟨x_485, h_486, hF_487⟩ := hp
            have g := g.more hF_487
            refine lv_aload_n hx hb dX2_readField_182 rfl (lv_at hl 4 rfl) ?_
            refine g_getk (C := RX2) (T := TX2) (N := 16) hx hb hts (mc_ inX2) hown hK g rfl 0 (by decide) rfl (hts _ (List.mem_cons_of_mem _ t_416)) (fun _ h9 => h9) 3 rfl dX2_readField_183 ?_
            refine g_getk (C := RX8) (T := TX8) (N := 10) hx hb hts (mc_ inX8) hown hK g rfl 8 (by decide) rfl (hts _ (List.mem_cons_of_mem _ t_294)) (fun _ h9 => h9) 1 rfl dX2_readField_186 ?_
            have kb_0 : bd 0 0 (0 : Int32) := ⟨by decide, by decide⟩
            refine lv_if_ne (tgt := 204) hx hb dX2_readField_189 (by decide) (fun c_488 => ?_) (fun c_488 => ?_)
            · have fc_488 := neq_f c_488
              subst hQ
              exact W.vret hx hb hr (fun t ht hW => ⟨⟨_, rfl, Or.inr (⟨x_485, h_486, x_154, h_155, (g.fcts [0, 1] rfl)⟩), q3_of g hK ht hW⟩, g.2.2.1.F ht⟩) g.2.2.1.2.2 dX2_readField_204
            · have fc_488 := eq_f c_488
              have b_489 : bd 1 0 x_154 := eqX fc_488 h_155 kb_0 (by decide)
              exact bd_no b_489 (by decide)
          · obtain rfl : r_100 = 5 := h_157
            have g := g.more hF_164
            refine lv_istore (lv' := [(4, .int 5), (2, .long r_6), (1, .int r_5), (0, .ref a0_)]) hx hb dX2_readField_117 hl (by decide) rfl (fun ls hl => ?_)
            refine lv_goto (tgt := 143) hx hb dX2_readField_119 (by decide) ?_
            refine lv_iconst (v := 0) hx hb dX2_readField_143 (by decide) ?_
            refine lv_istore (lv' := [(5, .int 0), (4, .int 5), (2, .long r_6), (1, .int r_5), (0, .ref a0_)]) hx hb dX2_readField_144 hl (by decide) rfl (fun ls hl => ?_)
            refine lv_aload_n hx hb dX2_readField_146 rfl (lv_at hl 4 rfl) ?_
            refine g_getk (C := RX2) (T := TX2) (N := 16) hx hb hts (mc_ inX2) hown hK g rfl 0 (by decide) rfl (hts _ (List.mem_cons_of_mem _ t_416)) (fun _ h9 => h9) 4 rfl dX2_readField_147 ?_
            refine g_calli (va_runV (As := []) (rest := []) ⟨hx, hb, hml, hown, hts⟩ (r_X8_kind l dC dI L kd tys fr_100 H.size g.2.2.2.1 q0_ mq0_ kq0_) (cwV 0 hts (gV_ t_1118 t_1119 t_1120 t_184 t_1121) rfl rfl rfl (by decide +kernel) ⟨(Nat.le_of_ble_eq_true rfl), (Nat.le_of_ble_eq_true rfl)⟩) (pre3V g hK mq0_ kq0_ (by decide) (q := (RX8, TX8, 10)) rfl) rfl rfl hl.1 rfl (lv_room (Nat.le_of_ble_eq_true rfl)) dX2_readField_150 ⟨(Nat.le_of_ble_eq_true rfl), (Nat.le_of_ble_eq_true rfl)⟩) g hK (by decide) (by decide) (fx' := [(8, 6, q0_, .int x_158), (8, 8, q0_, .int x_160), (9, 7, q1_, .int x_162), (9, 2, q1_, .int x_14), (2, 0, a0_, .ref q0_), (2, 4, a0_, .ref q1_)]) rfl (fun r_490 fr_490 H locs hp hMr_490 g => ?_)
            refine lv_bipush (v := 61) hx hb dX2_readField_153 (by decide) ?_
            have kb_61 : bd 61 61 (61 : Int32) := ⟨by decide, by decide⟩
            refine lv_icmp_ne (tgt := 173) hx hb dX2_readField_155 (by decide) (fun c_491 => ?_) (fun c_491 => ?_)
            · have fc_491 := neq_f c_491
              refine lv_aload_n hx hb dX2_readField_173 rfl (lv_at hl 4 rfl) ?_
              refine g_getk (C := RX2) (T := TX2) (N := 16) hx hb hts (mc_ inX2) hown hK g rfl 0 (by decide) rfl (hts _ (List.mem_cons_of_mem _ t_416)) (fun _ h9 => h9) 4 rfl dX2_readField_174 ?_
              refine lv_bipush (v := 59) hx hb dX2_readField_177 (by decide) ?_
              refine g_callv (va_runV (As := [.int 59]) (rest := []) ⟨hx, hb, hml, hown, hts⟩ (r_X8_take l dC dI L kd tys fr_490 H.size g.2.2.2.1 q0_ mq0_ kq0_ 59 x_160 h_161 (g.fcts [1] rfl)) (cwV 1 hts (gV_ t_1098 t_1099 t_1100 t_184 t_1101) rfl rfl rfl (by decide +kernel) ⟨(Nat.le_of_ble_eq_true rfl), (Nat.le_of_ble_eq_true rfl)⟩) (pre3V g hK mq0_ kq0_ (by decide) (q := (RX8, TX8, 10)) rfl) rfl rfl hl.1 rfl (lv_room (Nat.le_of_ble_eq_true rfl)) dX2_readField_179 ⟨(Nat.le_of_ble_eq_true rfl), (Nat.le_of_ble_eq_true rfl)⟩) g hK (by decide) (by decide) (fx' := [(9, 7, q1_, .int x_162), (9, 2, q1_, .int x_14), (2, 0, a0_, .ref q0_), (2, 4, a0_, .ref q1_)]) rfl (fun fr_492 H locs hp hMr_492 g => ?_)
              rcases hp with ⟨x_493, h_494, x_495, h_496, hF_497⟩ | ⟨x_498, h_499, hF_500⟩
              · have g := g.more hF_497
                refine lv_aload_n hx hb dX2_readField_182 rfl (lv_at hl 4 rfl) ?_
                refine g_getk (C := RX2) (T := TX2) (N := 16) hx hb hts (mc_ inX2) hown hK g rfl 0 (by decide) rfl (hts _ (List.mem_cons_of_mem _ t_416)) (fun _ h9 => h9) 4 rfl dX2_readField_183 ?_
                refine g_getk (C := RX8) (T := TX8) (N := 10) hx hb hts (mc_ inX8) hown hK g rfl 8 (by decide) rfl (hts _ (List.mem_cons_of_mem _ t_294)) (fun _ h9 => h9) 1 rfl dX2_readField_186 ?_
                have kb_0 : bd 0 0 (0 : Int32) := ⟨by decide, by decide⟩
                refine lv_if_ne (tgt := 204) hx hb dX2_readField_189 (by decide) (fun c_501 => ?_) (fun c_501 => ?_)
                · have fc_501 := neq_f c_501
                  have b_502 : bd 1 (-1) x_495 := neX fc_501 h_496 kb_0 (by decide)
                  exact bd_no b_502 (by decide)
                · have fc_501 := eq_f c_501
                  refine lv_aload_n hx hb dX2_readField_192 rfl (lv_at hl 4 rfl) ?_
                  refine g_getk (C := RX2) (T := TX2) (N := 16) hx hb hts (mc_ inX2) hown hK g rfl 4 (by decide) rfl (hts _ (List.mem_cons_of_mem _ t_420)) (fun _ h9 => h9) 5 rfl dX2_readField_193 ?_
                  refine lv_lload_n hx hb dX2_readField_196 rfl (lv_at hl 2 rfl) ?_
                  refine lv_iload hx hb dX2_readField_197 (lv_at hl 1 rfl) ?_
                  refine lv_iload hx hb dX2_readField_199 (lv_at hl 0 rfl) ?_
                  have kb_5 : bd 5 5 (5 : Int32) := ⟨by decide, by decide⟩
                  refine g_callv (va_runV (As := [.long r_6, .int 5, .int 0]) (rest := []) ⟨hx, hb, hml, hown, hts⟩ (r_X9_addField_11 l dC dI L kd tys fr_492 H.size g.2.2.2.1 q1_ mq1_ kq1_ r_6 5 kb_5 0 kb_0 x_162 h_163 x_14 b_16 (g.fcts [2, 3] rfl)) (cwV 3 hts (gV_ t_1164 t_1165 t_1166 t_192 t_1167) rfl rfl rfl (by decide +kernel) ⟨(Nat.le_of_ble_eq_true rfl), (Nat.le_of_ble_eq_true rfl)⟩) (pre3V g hK mq1_ kq1_ (by decide) (q := (RX9, TX9, 13)) rfl) rfl rfl hl.1 rfl (lv_room (Nat.le_of_ble_eq_true rfl)) dX2_readField_201 ⟨(Nat.le_of_ble_eq_true rfl), (Nat.le_of_ble_eq_true rfl)⟩) g hK (by decide) (by decide) (fx' := [(8, 6, q0_, .int x_493), (8, 8, q0_, .int x_495), (2, 0, a0_, .ref q0_), (2, 4, a0_, .ref q1_)]) rfl (fun fr_503 H locs hp hMr_503 g => ?_)
                  obtain ⟨x_504, h_505, x_506, h_507, hF_508⟩ := hp
                  have g := g.more hF_508
                  subst hQ
                  exact W.vret hx hb hr (fun t ht hW => ⟨⟨_, rfl, Or.inl ⟨x_504, h_505, x_506, (bd_sub h_507 (by decide)), x_493, h_494, x_495, h_496, (g.fcts [0, 1, 2, 3] rfl)⟩, q3_of g hK ht hW⟩, g.2.2.1.F ht⟩) g.2.2.1.2.2 dX2_readField_204
              · have g := g.more hF_500
                refine lv_aload_n hx hb dX2_readField_182 rfl (lv_at hl 4 rfl) ?_
                refine g_getk (C := RX2) (T := TX2) (N := 16) hx hb hts (mc_ inX2) hown hK g rfl 0 (by decide) rfl (hts _ (List.mem_cons_of_mem _ t_416)) (fun _ h9 => h9) 4 rfl dX2_readField_183 ?_
                refine g_getk (C := RX8) (T := TX8) (N := 10) hx hb hts (mc_ inX8) hown hK g rfl 8 (by decide) rfl (hts _ (List.mem_cons_of_mem _ t_294)) (fun _ h9 => h9) 1 rfl dX2_readField_186 ?_
                have kb_0 : bd 0 0 (0 : Int32) := ⟨by decide, by decide⟩
                refine lv_if_ne (tgt := 204) hx hb dX2_readField_189 (by decide) (fun c_509 => ?_) (fun c_509 => ?_)
                · have fc_509 := neq_f c_509
                  have kb_1201 : bd 1201 1201 (1201 : Int32) := ⟨by decide, by decide⟩
                  subst hQ
                  exact W.vret hx hb hr (fun t ht hW => ⟨⟨_, rfl, Or.inr (⟨1201, kb_1201, x_498, h_499, (g.fcts [0, 1] rfl)⟩), q3_of g hK ht hW⟩, g.2.2.1.F ht⟩) g.2.2.1.2.2 dX2_readField_204
                · have fc_509 := eq_f c_509
                  have b_510 : bd 1 0 x_498 := eqX fc_509 h_499 kb_0 (by decide)
                  exact bd_no b_510 (by decide)
            · have fc_491 := eq_f c_491
              have b_511 : bd 61 61 r_490 := eqX fc_491 (bdT r_490) kb_61 (by decide)
              refine lv_aload_n hx hb dX2_readField_158 rfl (lv_at hl 4 rfl) ?_
              refine g_getk (C := RX2) (T := TX2) (N := 16) hx hb hts (mc_ inX2) hown hK g rfl 0 (by decide) rfl (hts _ (List.mem_cons_of_mem _ t_416)) (fun _ h9 => h9) 4 rfl dX2_readField_159 ?_
              refine g_callv (va_runV (As := []) (rest := []) ⟨hx, hb, hml, hown, hts⟩ (r_X8_next l dC dI L kd tys fr_490 H.size g.2.2.2.1 q0_ mq0_ kq0_) (cwV 0 hts (gV_ t_1131 t_1103 t_1104 t_184 t_1105) rfl rfl rfl (by decide +kernel) ⟨(Nat.le_of_ble_eq_true rfl), (Nat.le_of_ble_eq_true rfl)⟩) (pre3V g hK mq0_ kq0_ (by decide) (q := (RX8, TX8, 10)) rfl) rfl rfl hl.1 rfl (lv_room (Nat.le_of_ble_eq_true rfl)) dX2_readField_162 ⟨(Nat.le_of_ble_eq_true rfl), (Nat.le_of_ble_eq_true rfl)⟩) g hK (by decide) (by decide) (fx' := [(8, 8, q0_, .int x_160), (9, 7, q1_, .int x_162), (9, 2, q1_, .int x_14), (2, 0, a0_, .ref q0_), (2, 4, a0_, .ref q1_)]) rfl (fun fr_512 H locs hp hMr_512 g => ?_)
              obtain ⟨x_513, h_514, hF_515⟩ := hp
              have g := g.more hF_515
              refine lv_aload_n hx hb dX2_readField_165 rfl (lv_at hl 4 rfl) ?_
              refine lv_ldc (v := (-2147483648)) hx hb hown (hts _ (List.mem_cons_of_mem _ t_1159)) dX2_readField_166 ?_
              refine g_calli (va_runV (As := [.int (-2147483648)]) (rest := []) ⟨hx, hb, hml, hown, hts⟩ (r_X2_readNumber l dC dI L kd tys fr_512 H.size g.2.2.2.1 a0_ ma0_ ka0_ (-2147483648) q0_ mq0_ kq0_ x_160 h_161 (g.fcts [4, 1] rfl)) (cwV 1 hts (gV_ t_1160 t_1162 t_11 t_183 t_1163) rfl rfl rfl (by decide +kernel) ⟨(Nat.le_of_ble_eq_true rfl), (Nat.le_of_ble_eq_true rfl)⟩) (pre3V g hK ma0_ ka0_ (by decide) (q := (RX2, TX2, 16)) rfl) rfl rfl hl.1 rfl (lv_room (Nat.le_of_ble_eq_true rfl)) dX2_readField_168 ⟨(Nat.le_of_ble_eq_true rfl), (Nat.le_of_ble_eq_true rfl)⟩) g hK (by decide) (by decide) (fx' := [(9, 7, q1_, .int x_162), (9, 2, q1_, .int x_14), (2, 0, a0_, .ref q0_), (2, 4, a0_, .ref q1_)]) rfl (fun r_516 fr_516 H locs hp hMr_516 g => ?_)
              rcases hp with ⟨x_517, h_518, x_519, h_520, hF_521⟩ | ⟨x_522, h_523, hF_524⟩
              · have g := g.more hF_521
                refine lv_istore (lv' := [(5, .int r_516), (4, .int 5), (2, .long r_6), (1, .int r_5), (0, .ref a0_)]) hx hb dX2_readField_171 hl (by decide) rfl (fun ls hl => ?_)
                refine lv_aload_n hx hb dX2_readField_173 rfl (lv_at hl 4 rfl) ?_
                refine g_getk (C := RX2) (T := TX2) (N := 16) hx hb hts (mc_ inX2) hown hK g rfl 0 (by decide) rfl (hts _ (List.mem_cons_of_mem _ t_416)) (fun _ h9 => h9) 4 rfl dX2_readField_174 ?_
                refine lv_bipush (v := 59) hx hb dX2_readField_177 (by decide) ?_
                refine g_callv (va_runV (As := [.int 59]) (rest := []) ⟨hx, hb, hml, hown, hts⟩ (r_X8_take l dC dI L kd tys fr_516 H.size g.2.2.2.1 q0_ mq0_ kq0_ 59 x_519 h_520 (g.fcts [1] rfl)) (cwV 1 hts (gV_ t_1098 t_1099 t_1100 t_184 t_1101) rfl rfl rfl (by decide +kernel) ⟨(Nat.le_of_ble_eq_true rfl), (Nat.le_of_ble_eq_true rfl)⟩) (pre3V g hK mq0_ kq0_ (by decide) (q := (RX8, TX8, 10)) rfl) rfl rfl hl.1 rfl (lv_room (Nat.le_of_ble_eq_true rfl)) dX2_readField_179 ⟨(Nat.le_of_ble_eq_true rfl), (Nat.le_of_ble_eq_true rfl)⟩) g hK (by decide) (by decide) (fx' := [(9, 7, q1_, .int x_162), (9, 2, q1_, .int x_14), (2, 0, a0_, .ref q0_), (2, 4, a0_, .ref q1_)]) rfl (fun fr_525 H locs hp hMr_525 g => ?_)
                rcases hp with ⟨x_526, h_527, x_528, h_529, hF_530⟩ | ⟨x_531, h_532, hF_533⟩
                · have g := g.more hF_530
                  refine lv_aload_n hx hb dX2_readField_182 rfl (lv_at hl 4 rfl) ?_
                  refine g_getk (C := RX2) (T := TX2) (N := 16) hx hb hts (mc_ inX2) hown hK g rfl 0 (by decide) rfl (hts _ (List.mem_cons_of_mem _ t_416)) (fun _ h9 => h9) 4 rfl dX2_readField_183 ?_
                  refine g_getk (C := RX8) (T := TX8) (N := 10) hx hb hts (mc_ inX8) hown hK g rfl 8 (by decide) rfl (hts _ (List.mem_cons_of_mem _ t_294)) (fun _ h9 => h9) 1 rfl dX2_readField_186 ?_
                  have kb_0 : bd 0 0 (0 : Int32) := ⟨by decide, by decide⟩
                  refine lv_if_ne (tgt := 204) hx hb dX2_readField_189 (by decide) (fun c_534 => ?_) (fun c_534 => ?_)
                  · have fc_534 := neq_f c_534
                    have b_535 : bd 1 (-1) x_528 := neX fc_534 h_529 kb_0 (by decide)
                    exact bd_no b_535 (by decide)
                  · have fc_534 := eq_f c_534
                    refine lv_aload_n hx hb dX2_readField_192 rfl (lv_at hl 4 rfl) ?_
                    refine g_getk (C := RX2) (T := TX2) (N := 16) hx hb hts (mc_ inX2) hown hK g rfl 4 (by decide) rfl (hts _ (List.mem_cons_of_mem _ t_420)) (fun _ h9 => h9) 5 rfl dX2_readField_193 ?_
                    refine lv_lload_n hx hb dX2_readField_196 rfl (lv_at hl 2 rfl) ?_
                    refine lv_iload hx hb dX2_readField_197 (lv_at hl 1 rfl) ?_
                    refine lv_iload hx hb dX2_readField_199 (lv_at hl 0 rfl) ?_
                    have kb_5 : bd 5 5 (5 : Int32) := ⟨by decide, by decide⟩
                    refine g_callv (va_runV (As := [.long r_6, .int 5, .int r_516]) (rest := []) ⟨hx, hb, hml, hown, hts⟩ (r_X9_addField_12 l dC dI L kd tys fr_525 H.size g.2.2.2.1 q1_ mq1_ kq1_ r_6 5 kb_5 r_516 x_162 h_163 x_14 b_16 (g.fcts [2, 3] rfl)) (cwV 3 hts (gV_ t_1164 t_1165 t_1166 t_192 t_1167) rfl rfl rfl (by decide +kernel) ⟨(Nat.le_of_ble_eq_true rfl), (Nat.le_of_ble_eq_true rfl)⟩) (pre3V g hK mq1_ kq1_ (by decide) (q := (RX9, TX9, 13)) rfl) rfl rfl hl.1 rfl (lv_room (Nat.le_of_ble_eq_true rfl)) dX2_readField_201 ⟨(Nat.le_of_ble_eq_true rfl), (Nat.le_of_ble_eq_true rfl)⟩) g hK (by decide) (by decide) (fx' := [(8, 6, q0_, .int x_526), (8, 8, q0_, .int x_528), (2, 0, a0_, .ref q0_), (2, 4, a0_, .ref q1_)]) rfl (fun fr_536 H locs hp hMr_536 g => ?_)
                    obtain ⟨x_537, h_538, x_539, h_540, hF_541⟩ := hp
                    have g := g.more hF_541
                    subst hQ
                    exact W.vret hx hb hr (fun t ht hW => ⟨⟨_, rfl, Or.inl ⟨x_537, h_538, x_539, (bd_sub h_540 (by decide)), x_526, h_527, x_528, h_529, (g.fcts [0, 1, 2, 3] rfl)⟩, q3_of g hK ht hW⟩, g.2.2.1.F ht⟩) g.2.2.1.2.2 dX2_readField_204
                · have g := g.more hF_533
                  refine lv_aload_n hx hb dX2_readField_182 rfl (lv_at hl 4 rfl) ?_
                  refine g_getk (C := RX2) (T := TX2) (N := 16) hx hb hts (mc_ inX2) hown hK g rfl 0 (by decide) rfl (hts _ (List.mem_cons_of_mem _ t_416)) (fun _ h9 => h9) 4 rfl dX2_readField_183 ?_
                  refine g_getk (C := RX8) (T := TX8) (N := 10) hx hb hts (mc_ inX8) hown hK g rfl 8 (by decide) rfl (hts _ (List.mem_cons_of_mem _ t_294)) (fun _ h9 => h9) 1 rfl dX2_readField_186 ?_
                  have kb_0 : bd 0 0 (0 : Int32) := ⟨by decide, by decide⟩
                  refine lv_if_ne (tgt := 204) hx hb dX2_readField_189 (by decide) (fun c_542 => ?_) (fun c_542 => ?_)
                  · have fc_542 := neq_f c_542
                    have kb_1201 : bd 1201 1201 (1201 : Int32) := ⟨by decide, by decide⟩
                    subst hQ
                    exact W.vret hx hb hr (fun t ht hW => ⟨⟨_, rfl, Or.inr (⟨1201, kb_1201, x_531, h_532, (g.fcts [0, 1] rfl)⟩), q3_of g hK ht hW⟩, g.2.2.1.F ht⟩) g.2.2.1.2.2 dX2_readField_204
                  · have fc_542 := eq_f c_542
                    have b_543 : bd 1 0 x_531 := eqX fc_542 h_532 kb_0 (by decide)
                    exact bd_no b_543 (by decide)
              · have g := g.more hF_524
                refine lv_istore (lv' := [(5, .int r_516), (4, .int 5), (2, .long r_6), (1, .int r_5), (0, .ref a0_)]) hx hb dX2_readField_171 hl (by decide) rfl (fun ls hl => ?_)
                refine lv_aload_n hx hb dX2_readField_173 rfl (lv_at hl 4 rfl) ?_
                refine g_getk (C := RX2) (T := TX2) (N := 16) hx hb hts (mc_ inX2) hown hK g rfl 0 (by decide) rfl (hts _ (List.mem_cons_of_mem _ t_416)) (fun _ h9 => h9) 4 rfl dX2_readField_174 ?_
                refine lv_bipush (v := 59) hx hb dX2_readField_177 (by decide) ?_
                have kb_1201 : bd 1201 1201 (1201 : Int32) := ⟨by decide, by decide⟩
                refine g_callv (va_runV (As := [.int 59]) (rest := []) ⟨hx, hb, hml, hown, hts⟩ (r_X8_take_2 l dC dI L kd tys fr_516 H.size g.2.2.2.1 q0_ mq0_ kq0_ 59 1201 kb_1201 x_522 h_523 (g.fcts [0, 1] rfl)) (cwV 1 hts (gV_ t_1098 t_1099 t_1100 t_184 t_1101) rfl rfl rfl (by decide +kernel) ⟨(Nat.le_of_ble_eq_true rfl), (Nat.le_of_ble_eq_true rfl)⟩) (pre3V g hK mq0_ kq0_ (by decide) (q := (RX8, TX8, 10)) rfl) rfl rfl hl.1 rfl (lv_room (Nat.le_of_ble_eq_true rfl)) dX2_readField_179 ⟨(Nat.le_of_ble_eq_true rfl), (Nat.le_of_ble_eq_true rfl)⟩) g hK (by decide) (by decide) (fx' := [(8, 8, q0_, .int x_522), (9, 7, q1_, .int x_162), (9, 2, q1_, .int x_14), (2, 0, a0_, .ref q0_), (2, 4, a0_, .ref q1_)]) rfl (fun fr_544 H locs hp hMr_544 g => ?_)
                obtain ⟨x_545, h_546, hF_547⟩ := hp
                have g := g.more hF_547
                refine lv_aload_n hx hb dX2_readField_182 rfl (lv_at hl 4 rfl) ?_
                refine g_getk (C := RX2) (T := TX2) (N := 16) hx hb hts (mc_ inX2) hown hK g rfl 0 (by decide) rfl (hts _ (List.mem_cons_of_mem _ t_416)) (fun _ h9 => h9) 4 rfl dX2_readField_183 ?_
                refine g_getk (C := RX8) (T := TX8) (N := 10) hx hb hts (mc_ inX8) hown hK g rfl 8 (by decide) rfl (hts _ (List.mem_cons_of_mem _ t_294)) (fun _ h9 => h9) 1 rfl dX2_readField_186 ?_
                have kb_0 : bd 0 0 (0 : Int32) := ⟨by decide, by decide⟩
                refine lv_if_ne (tgt := 204) hx hb dX2_readField_189 (by decide) (fun c_548 => ?_) (fun c_548 => ?_)
                · have fc_548 := neq_f c_548
                  subst hQ
                  exact W.vret hx hb hr (fun t ht hW => ⟨⟨_, rfl, Or.inr (⟨x_545, h_546, x_522, h_523, (g.fcts [0, 1] rfl)⟩), q3_of g hK ht hW⟩, g.2.2.1.F ht⟩) g.2.2.1.2.2 dX2_readField_204
                · have fc_548 := eq_f c_548
                  have b_549 : bd 1 0 x_522 := eqX fc_548 h_523 kb_0 (by decide)
                  exact bd_no b_549 (by decide)
          · obtain rfl : r_100 = 5 := h_165
            have g := g.more hF_170
            refine lv_istore (lv' := [(4, .int 5), (2, .long r_6), (1, .int r_5), (0, .ref a0_)]) hx hb dX2_readField_117 hl (by decide) rfl (fun ls hl => ?_)
            refine lv_goto (tgt := 143) hx hb dX2_readField_119 (by decide) ?_
            refine lv_iconst (v := 0) hx hb dX2_readField_143 (by decide) ?_
            refine lv_istore (lv' := [(5, .int 0), (4, .int 5), (2, .long r_6), (1, .int r_5), (0, .ref a0_)]) hx hb dX2_readField_144 hl (by decide) rfl (fun ls hl => ?_)
            refine lv_aload_n hx hb dX2_readField_146 rfl (lv_at hl 4 rfl) ?_
            refine g_getk (C := RX2) (T := TX2) (N := 16) hx hb hts (mc_ inX2) hown hK g rfl 0 (by decide) rfl (hts _ (List.mem_cons_of_mem _ t_416)) (fun _ h9 => h9) 3 rfl dX2_readField_147 ?_
            refine g_calli (va_runV (As := []) (rest := []) ⟨hx, hb, hml, hown, hts⟩ (r_X8_kind_2 l dC dI L kd tys fr_100 H.size g.2.2.2.1 q0_ mq0_ kq0_ x_166 h_167 (g.fcts [0] rfl)) (cwV 0 hts (gV_ t_1118 t_1119 t_1120 t_184 t_1121) rfl rfl rfl (by decide +kernel) ⟨(Nat.le_of_ble_eq_true rfl), (Nat.le_of_ble_eq_true rfl)⟩) (pre3V g hK mq0_ kq0_ (by decide) (q := (RX8, TX8, 10)) rfl) rfl rfl hl.1 rfl (lv_room (Nat.le_of_ble_eq_true rfl)) dX2_readField_150 ⟨(Nat.le_of_ble_eq_true rfl), (Nat.le_of_ble_eq_true rfl)⟩) g hK (by decide) (by decide) (fx' := [(8, 6, q0_, .int x_166), (8, 8, q0_, .int x_168), (9, 2, q1_, .int x_14), (2, 0, a0_, .ref q0_), (2, 4, a0_, .ref q1_)]) rfl (fun r_550 fr_550 H locs hp hMr_550 g => ?_)
            obtain ⟨h_551, -⟩ := hp
            obtain rfl : r_550 = 0 := h_551
            refine lv_bipush (v := 61) hx hb dX2_readField_153 (by decide) ?_
            refine lv_icmp_ne (tgt := 173) hx hb dX2_readField_155 (by decide) (fun c_ => ?_) (fun c_ => absurd c_ (by decide))
            refine lv_aload_n hx hb dX2_readField_173 rfl (lv_at hl 4 rfl) ?_
            refine g_getk (C := RX2) (T := TX2) (N := 16) hx hb hts (mc_ inX2) hown hK g rfl 0 (by decide) rfl (hts _ (List.mem_cons_of_mem _ t_416)) (fun _ h9 => h9) 3 rfl dX2_readField_174 ?_
            refine lv_bipush (v := 59) hx hb dX2_readField_177 (by decide) ?_
            refine g_callv (va_runV (As := [.int 59]) (rest := []) ⟨hx, hb, hml, hown, hts⟩ (r_X8_take_2 l dC dI L kd tys fr_550 H.size g.2.2.2.1 q0_ mq0_ kq0_ 59 x_166 h_167 x_168 h_169 (g.fcts [0, 1] rfl)) (cwV 1 hts (gV_ t_1098 t_1099 t_1100 t_184 t_1101) rfl rfl rfl (by decide +kernel) ⟨(Nat.le_of_ble_eq_true rfl), (Nat.le_of_ble_eq_true rfl)⟩) (pre3V g hK mq0_ kq0_ (by decide) (q := (RX8, TX8, 10)) rfl) rfl rfl hl.1 rfl (lv_room (Nat.le_of_ble_eq_true rfl)) dX2_readField_179 ⟨(Nat.le_of_ble_eq_true rfl), (Nat.le_of_ble_eq_true rfl)⟩) g hK (by decide) (by decide) (fx' := [(8, 8, q0_, .int x_168), (9, 2, q1_, .int x_14), (2, 0, a0_, .ref q0_), (2, 4, a0_, .ref q1_)]) rfl (fun fr_552 H locs hp hMr_552 g => ?_)
            obtain ⟨x_553, h_554, hF_555⟩ := hp
            have g := g.more hF_555
            refine lv_aload_n hx hb dX2_readField_182 rfl (lv_at hl 4 rfl) ?_
            refine g_getk (C := RX2) (T := TX2) (N := 16) hx hb hts (mc_ inX2) hown hK g rfl 0 (by decide) rfl (hts _ (List.mem_cons_of_mem _ t_416)) (fun _ h9 => h9) 3 rfl dX2_readField_183 ?_
            refine g_getk (C := RX8) (T := TX8) (N := 10) hx hb hts (mc_ inX8) hown hK g rfl 8 (by decide) rfl (hts _ (List.mem_cons_of_mem _ t_294)) (fun _ h9 => h9) 1 rfl dX2_readField_186 ?_
            have kb_0 : bd 0 0 (0 : Int32) := ⟨by decide, by decide⟩
            refine lv_if_ne (tgt := 204) hx hb dX2_readField_189 (by decide) (fun c_556 => ?_) (fun c_556 => ?_)
            · have fc_556 := neq_f c_556
              subst hQ
              exact W.vret hx hb hr (fun t ht hW => ⟨⟨_, rfl, Or.inr (⟨x_553, h_554, x_168, h_169, (g.fcts [0, 1] rfl)⟩), q3_of g hK ht hW⟩, g.2.2.1.F ht⟩) g.2.2.1.2.2 dX2_readField_204
            · have fc_556 := eq_f c_556
              have b_557 : bd 1 0 x_168 := eqX fc_556 h_169 kb_0 (by decide)
              exact bd_no b_557 (by decide)
          · obtain rfl : r_100 = 6 := h_171
            have g := g.more hF_178
            refine lv_istore (lv' := [(4, .int 6), (2, .long r_6), (1, .int r_5), (0, .ref a0_)]) hx hb dX2_readField_117 hl (by decide) rfl (fun ls hl => ?_)
            refine lv_goto (tgt := 143) hx hb dX2_readField_119 (by decide) ?_
            refine lv_iconst (v := 0) hx hb dX2_readField_143 (by decide) ?_
            refine lv_istore (lv' := [(5, .int 0), (4, .int 6), (2, .long r_6), (1, .int r_5), (0, .ref a0_)]) hx hb dX2_readField_144 hl (by decide) rfl (fun ls hl => ?_)
            refine lv_aload_n hx hb dX2_readField_146 rfl (lv_at hl 4 rfl) ?_
            refine g_getk (C := RX2) (T := TX2) (N := 16) hx hb hts (mc_ inX2) hown hK g rfl 0 (by decide) rfl (hts _ (List.mem_cons_of_mem _ t_416)) (fun _ h9 => h9) 4 rfl dX2_readField_147 ?_
            refine g_calli (va_runV (As := []) (rest := []) ⟨hx, hb, hml, hown, hts⟩ (r_X8_kind l dC dI L kd tys fr_100 H.size g.2.2.2.1 q0_ mq0_ kq0_) (cwV 0 hts (gV_ t_1118 t_1119 t_1120 t_184 t_1121) rfl rfl rfl (by decide +kernel) ⟨(Nat.le_of_ble_eq_true rfl), (Nat.le_of_ble_eq_true rfl)⟩) (pre3V g hK mq0_ kq0_ (by decide) (q := (RX8, TX8, 10)) rfl) rfl rfl hl.1 rfl (lv_room (Nat.le_of_ble_eq_true rfl)) dX2_readField_150 ⟨(Nat.le_of_ble_eq_true rfl), (Nat.le_of_ble_eq_true rfl)⟩) g hK (by decide) (by decide) (fx' := [(8, 6, q0_, .int x_172), (8, 8, q0_, .int x_174), (9, 7, q1_, .int x_176), (9, 2, q1_, .int x_14), (2, 0, a0_, .ref q0_), (2, 4, a0_, .ref q1_)]) rfl (fun r_558 fr_558 H locs hp hMr_558 g => ?_)
            refine lv_bipush (v := 61) hx hb dX2_readField_153 (by decide) ?_
            have kb_61 : bd 61 61 (61 : Int32) := ⟨by decide, by decide⟩
            refine lv_icmp_ne (tgt := 173) hx hb dX2_readField_155 (by decide) (fun c_559 => ?_) (fun c_559 => ?_)
            · have fc_559 := neq_f c_559
              refine lv_aload_n hx hb dX2_readField_173 rfl (lv_at hl 4 rfl) ?_
              refine g_getk (C := RX2) (T := TX2) (N := 16) hx hb hts (mc_ inX2) hown hK g rfl 0 (by decide) rfl (hts _ (List.mem_cons_of_mem _ t_416)) (fun _ h9 => h9) 4 rfl dX2_readField_174 ?_
              refine lv_bipush (v := 59) hx hb dX2_readField_177 (by decide) ?_
              refine g_callv (va_runV (As := [.int 59]) (rest := []) ⟨hx, hb, hml, hown, hts⟩ (r_X8_take l dC dI L kd tys fr_558 H.size g.2.2.2.1 q0_ mq0_ kq0_ 59 x_174 h_175 (g.fcts [1] rfl)) (cwV 1 hts (gV_ t_1098 t_1099 t_1100 t_184 t_1101) rfl rfl rfl (by decide +kernel) ⟨(Nat.le_of_ble_eq_true rfl), (Nat.le_of_ble_eq_true rfl)⟩) (pre3V g hK mq0_ kq0_ (by decide) (q := (RX8, TX8, 10)) rfl) rfl rfl hl.1 rfl (lv_room (Nat.le_of_ble_eq_true rfl)) dX2_readField_179 ⟨(Nat.le_of_ble_eq_true rfl), (Nat.le_of_ble_eq_true rfl)⟩) g hK (by decide) (by decide) (fx' := [(9, 7, q1_, .int x_176), (9, 2, q1_, .int x_14), (2, 0, a0_, .ref q0_), (2, 4, a0_, .ref q1_)]) rfl (fun fr_560 H locs hp hMr_560 g => ?_)
              rcases hp with ⟨x_561, h_562, x_563, h_564, hF_565⟩ | ⟨x_566, h_567, hF_568⟩
              · have g := g.more hF_565
                refine lv_aload_n hx hb dX2_readField_182 rfl (lv_at hl 4 rfl) ?_
                refine g_getk (C := RX2) (T := TX2) (N := 16) hx hb hts (mc_ inX2) hown hK g rfl 0 (by decide) rfl (hts _ (List.mem_cons_of_mem _ t_416)) (fun _ h9 => h9) 4 rfl dX2_readField_183 ?_
                refine g_getk (C := RX8) (T := TX8) (N := 10) hx hb hts (mc_ inX8) hown hK g rfl 8 (by decide) rfl (hts _ (List.mem_cons_of_mem _ t_294)) (fun _ h9 => h9) 1 rfl dX2_readField_186 ?_
                have kb_0 : bd 0 0 (0 : Int32) := ⟨by decide, by decide⟩
                refine lv_if_ne (tgt := 204) hx hb dX2_readField_189 (by decide) (fun c_569 => ?_) (fun c_569 => ?_)
                · have fc_569 := neq_f c_569
                  have b_570 : bd 1 (-1) x_563 := neX fc_569 h_564 kb_0 (by decide)
                  exact bd_no b_570 (by decide)
                · have fc_569 := eq_f c_569
                  refine lv_aload_n hx hb dX2_readField_192 rfl (lv_at hl 4 rfl) ?_
                  refine g_getk (C := RX2) (T := TX2) (N := 16) hx hb hts (mc_ inX2) hown hK g rfl 4 (by decide) rfl (hts _ (List.mem_cons_of_mem _ t_420)) (fun _ h9 => h9) 5 rfl dX2_readField_193 ?_
                  refine lv_lload_n hx hb dX2_readField_196 rfl (lv_at hl 2 rfl) ?_
                  refine lv_iload hx hb dX2_readField_197 (lv_at hl 1 rfl) ?_
                  refine lv_iload hx hb dX2_readField_199 (lv_at hl 0 rfl) ?_
                  have kb_6 : bd 6 6 (6 : Int32) := ⟨by decide, by decide⟩
                  refine g_callv (va_runV (As := [.long r_6, .int 6, .int 0]) (rest := []) ⟨hx, hb, hml, hown, hts⟩ (r_X9_addField_13 l dC dI L kd tys fr_560 H.size g.2.2.2.1 q1_ mq1_ kq1_ r_6 6 kb_6 0 kb_0 x_176 h_177 x_14 b_16 (g.fcts [2, 3] rfl)) (cwV 3 hts (gV_ t_1164 t_1165 t_1166 t_192 t_1167) rfl rfl rfl (by decide +kernel) ⟨(Nat.le_of_ble_eq_true rfl), (Nat.le_of_ble_eq_true rfl)⟩) (pre3V g hK mq1_ kq1_ (by decide) (q := (RX9, TX9, 13)) rfl) rfl rfl hl.1 rfl (lv_room (Nat.le_of_ble_eq_true rfl)) dX2_readField_201 ⟨(Nat.le_of_ble_eq_true rfl), (Nat.le_of_ble_eq_true rfl)⟩) g hK (by decide) (by decide) (fx' := [(8, 6, q0_, .int x_561), (8, 8, q0_, .int x_563), (2, 0, a0_, .ref q0_), (2, 4, a0_, .ref q1_)]) rfl (fun fr_571 H locs hp hMr_571 g => ?_)
                  obtain ⟨x_572, h_573, x_574, h_575, hF_576⟩ := hp
                  have g := g.more hF_576
                  subst hQ
                  exact W.vret hx hb hr (fun t ht hW => ⟨⟨_, rfl, Or.inl ⟨x_572, h_573, x_574, (bd_sub h_575 (by decide)), x_561, h_562, x_563, h_564, (g.fcts [0, 1, 2, 3] rfl)⟩, q3_of g hK ht hW⟩, g.2.2.1.F ht⟩) g.2.2.1.2.2 dX2_readField_204
              · have g := g.more hF_568
                refine lv_aload_n hx hb dX2_readField_182 rfl (lv_at hl 4 rfl) ?_
                refine g_getk (C := RX2) (T := TX2) (N := 16) hx hb hts (mc_ inX2) hown hK g rfl 0 (by decide) rfl (hts _ (List.mem_cons_of_mem _ t_416)) (fun _ h9 => h9) 4 rfl dX2_readField_183 ?_
                refine g_getk (C := RX8) (T := TX8) (N := 10) hx hb hts (mc_ inX8) hown hK g rfl 8 (by decide) rfl (hts _ (List.mem_cons_of_mem _ t_294)) (fun _ h9 => h9) 1 rfl dX2_readField_186 ?_
                have kb_0 : bd 0 0 (0 : Int32) := ⟨by decide, by decide⟩
                refine lv_if_ne (tgt := 204) hx hb dX2_readField_189 (by decide) (fun c_577 => ?_) (fun c_577 => ?_)
                · have fc_577 := neq_f c_577
                  have kb_1201 : bd 1201 1201 (1201 : Int32) := ⟨by decide, by decide⟩
                  subst hQ
                  exact W.vret hx hb hr (fun t ht hW => ⟨⟨_, rfl, Or.inr (⟨1201, kb_1201, x_566, h_567, (g.fcts [0, 1] rfl)⟩), q3_of g hK ht hW⟩, g.2.2.1.F ht⟩) g.2.2.1.2.2 dX2_readField_204
                · have fc_577 := eq_f c_577
                  have b_578 : bd 1 0 x_566 := eqX fc_577 h_567 kb_0 (by decide)
                  exact bd_no b_578 (by decide)
            · have fc_559 := eq_f c_559
              have b_579 : bd 61 61 r_558 := eqX fc_559 (bdT r_558) kb_61 (by decide)
              refine lv_aload_n hx hb dX2_readField_158 rfl (lv_at hl 4 rfl) ?_
              refine g_getk (C := RX2) (T := TX2) (N := 16) hx hb hts (mc_ inX2) hown hK g rfl 0 (by decide) rfl (hts _ (List.mem_cons_of_mem _ t_416)) (fun _ h9 => h9) 4 rfl dX2_readField_159 ?_
              refine g_callv (va_runV (As := []) (rest := []) ⟨hx, hb, hml, hown, hts⟩ (r_X8_next l dC dI L kd tys fr_558 H.size g.2.2.2.1 q0_ mq0_ kq0_) (cwV 0 hts (gV_ t_1131 t_1103 t_1104 t_184 t_1105) rfl rfl rfl (by decide +kernel) ⟨(Nat.le_of_ble_eq_true rfl), (Nat.le_of_ble_eq_true rfl)⟩) (pre3V g hK mq0_ kq0_ (by decide) (q := (RX8, TX8, 10)) rfl) rfl rfl hl.1 rfl (lv_room (Nat.le_of_ble_eq_true rfl)) dX2_readField_162 ⟨(Nat.le_of_ble_eq_true rfl), (Nat.le_of_ble_eq_true rfl)⟩) g hK (by decide) (by decide) (fx' := [(8, 8, q0_, .int x_174), (9, 7, q1_, .int x_176), (9, 2, q1_, .int x_14), (2, 0, a0_, .ref q0_), (2, 4, a0_, .ref q1_)]) rfl (fun fr_580 H locs hp hMr_580 g => ?_)
              obtain ⟨x_581, h_582, hF_583⟩ := hp
              have g := g.more hF_583
              refine lv_aload_n hx hb dX2_readField_165 rfl (lv_at hl 4 rfl) ?_
              refine lv_ldc (v := (-2147483648)) hx hb hown (hts _ (List.mem_cons_of_mem _ t_1159)) dX2_readField_166 ?_
              refine g_calli (va_runV (As := [.int (-2147483648)]) (rest := []) ⟨hx, hb, hml, hown, hts⟩ (r_X2_readNumber l dC dI L kd tys fr_580 H.size g.2.2.2.1 a0_ ma0_ ka0_ (-2147483648) q0_ mq0_ kq0_ x_174 h_175 (g.fcts [4, 1] rfl)) (cwV 1 hts (gV_ t_1160 t_1162 t_11 t_183 t_1163) rfl rfl rfl (by decide +kernel) ⟨(Nat.le_of_ble_eq_true rfl), (Nat.le_of_ble_eq_true rfl)⟩) (pre3V g hK ma0_ ka0_ (by decide) (q := (RX2, TX2, 16)) rfl) rfl rfl hl.1 rfl (lv_room (Nat.le_of_ble_eq_true rfl)) dX2_readField_168 ⟨(Nat.le_of_ble_eq_true rfl), (Nat.le_of_ble_eq_true rfl)⟩) g hK (by decide) (by decide) (fx' := [(9, 7, q1_, .int x_176), (9, 2, q1_, .int x_14), (2, 0, a0_, .ref q0_), (2, 4, a0_, .ref q1_)]) rfl (fun r_584 fr_584 H locs hp hMr_584 g => ?_)
              rcases hp with ⟨x_585, h_586, x_587, h_588, hF_589⟩ | ⟨x_590, h_591, hF_592⟩
              · have g := g.more hF_589
                refine lv_istore (lv' := [(5, .int r_584), (4, .int 6), (2, .long r_6), (1, .int r_5), (0, .ref a0_)]) hx hb dX2_readField_171 hl (by decide) rfl (fun ls hl => ?_)
                refine lv_aload_n hx hb dX2_readField_173 rfl (lv_at hl 4 rfl) ?_
                refine g_getk (C := RX2) (T := TX2) (N := 16) hx hb hts (mc_ inX2) hown hK g rfl 0 (by decide) rfl (hts _ (List.mem_cons_of_mem _ t_416)) (fun _ h9 => h9) 4 rfl dX2_readField_174 ?_
                refine lv_bipush (v := 59) hx hb dX2_readField_177 (by decide) ?_
                refine g_callv (va_runV (As := [.int 59]) (rest := []) ⟨hx, hb, hml, hown, hts⟩ (r_X8_take l dC dI L kd tys fr_584 H.size g.2.2.2.1 q0_ mq0_ kq0_ 59 x_587 h_588 (g.fcts [1] rfl)) (cwV 1 hts (gV_ t_1098 t_1099 t_1100 t_184 t_1101) rfl rfl rfl (by decide +kernel) ⟨(Nat.le_of_ble_eq_true rfl), (Nat.le_of_ble_eq_true rfl)⟩) (pre3V g hK mq0_ kq0_ (by decide) (q := (RX8, TX8, 10)) rfl) rfl rfl hl.1 rfl (lv_room (Nat.le_of_ble_eq_true rfl)) dX2_readField_179 ⟨(Nat.le_of_ble_eq_true rfl), (Nat.le_of_ble_eq_true rfl)⟩) g hK (by decide) (by decide) (fx' := [(9, 7, q1_, .int x_176), (9, 2, q1_, .int x_14), (2, 0, a0_, .ref q0_), (2, 4, a0_, .ref q1_)]) rfl (fun fr_593 H locs hp hMr_593 g => ?_)
                rcases hp with ⟨x_594, h_595, x_596, h_597, hF_598⟩ | ⟨x_599, h_600, hF_601⟩
                · have g := g.more hF_598
                  refine lv_aload_n hx hb dX2_readField_182 rfl (lv_at hl 4 rfl) ?_
                  refine g_getk (C := RX2) (T := TX2) (N := 16) hx hb hts (mc_ inX2) hown hK g rfl 0 (by decide) rfl (hts _ (List.mem_cons_of_mem _ t_416)) (fun _ h9 => h9) 4 rfl dX2_readField_183 ?_
                  refine g_getk (C := RX8) (T := TX8) (N := 10) hx hb hts (mc_ inX8) hown hK g rfl 8 (by decide) rfl (hts _ (List.mem_cons_of_mem _ t_294)) (fun _ h9 => h9) 1 rfl dX2_readField_186 ?_
                  have kb_0 : bd 0 0 (0 : Int32) := ⟨by decide, by decide⟩
                  refine lv_if_ne (tgt := 204) hx hb dX2_readField_189 (by decide) (fun c_602 => ?_) (fun c_602 => ?_)
                  · have fc_602 := neq_f c_602
                    have b_603 : bd 1 (-1) x_596 := neX fc_602 h_597 kb_0 (by decide)
                    exact bd_no b_603 (by decide)
                  · have fc_602 := eq_f c_602
                    refine lv_aload_n hx hb dX2_readField_192 rfl (lv_at hl 4 rfl) ?_
                    refine g_getk (C := RX2) (T := TX2) (N := 16) hx hb hts (mc_ inX2) hown hK g rfl 4 (by decide) rfl (hts _ (List.mem_cons_of_mem _ t_420)) (fun _ h9 => h9) 5 rfl dX2_readField_193 ?_
                    refine lv_lload_n hx hb dX2_readField_196 rfl (lv_at hl 2 rfl) ?_
                    refine lv_iload hx hb dX2_readField_197 (lv_at hl 1 rfl) ?_
                    refine lv_iload hx hb dX2_readField_199 (lv_at hl 0 rfl) ?_
                    have kb_6 : bd 6 6 (6 : Int32) := ⟨by decide, by decide⟩
                    refine g_callv (va_runV (As := [.long r_6, .int 6, .int r_584]) (rest := []) ⟨hx, hb, hml, hown, hts⟩ (r_X9_addField_14 l dC dI L kd tys fr_593 H.size g.2.2.2.1 q1_ mq1_ kq1_ r_6 6 kb_6 r_584 x_176 h_177 x_14 b_16 (g.fcts [2, 3] rfl)) (cwV 3 hts (gV_ t_1164 t_1165 t_1166 t_192 t_1167) rfl rfl rfl (by decide +kernel) ⟨(Nat.le_of_ble_eq_true rfl), (Nat.le_of_ble_eq_true rfl)⟩) (pre3V g hK mq1_ kq1_ (by decide) (q := (RX9, TX9, 13)) rfl) rfl rfl hl.1 rfl (lv_room (Nat.le_of_ble_eq_true rfl)) dX2_readField_201 ⟨(Nat.le_of_ble_eq_true rfl), (Nat.le_of_ble_eq_true rfl)⟩) g hK (by decide) (by decide) (fx' := [(8, 6, q0_, .int x_594), (8, 8, q0_, .int x_596), (2, 0, a0_, .ref q0_), (2, 4, a0_, .ref q1_)]) rfl (fun fr_604 H locs hp hMr_604 g => ?_)
                    obtain ⟨x_605, h_606, x_607, h_608, hF_609⟩ := hp
                    have g := g.more hF_609
                    subst hQ
                    exact W.vret hx hb hr (fun t ht hW => ⟨⟨_, rfl, Or.inl ⟨x_605, h_606, x_607, (bd_sub h_608 (by decide)), x_594, h_595, x_596, h_597, (g.fcts [0, 1, 2, 3] rfl)⟩, q3_of g hK ht hW⟩, g.2.2.1.F ht⟩) g.2.2.1.2.2 dX2_readField_204
                · have g := g.more hF_601
                  refine lv_aload_n hx hb dX2_readField_182 rfl (lv_at hl 4 rfl) ?_
                  refine g_getk (C := RX2) (T := TX2) (N := 16) hx hb hts (mc_ inX2) hown hK g rfl 0 (by decide) rfl (hts _ (List.mem_cons_of_mem _ t_416)) (fun _ h9 => h9) 4 rfl dX2_readField_183 ?_
                  refine g_getk (C := RX8) (T := TX8) (N := 10) hx hb hts (mc_ inX8) hown hK g rfl 8 (by decide) rfl (hts _ (List.mem_cons_of_mem _ t_294)) (fun _ h9 => h9) 1 rfl dX2_readField_186 ?_
                  have kb_0 : bd 0 0 (0 : Int32) := ⟨by decide, by decide⟩
                  refine lv_if_ne (tgt := 204) hx hb dX2_readField_189 (by decide) (fun c_610 => ?_) (fun c_610 => ?_)
                  · have fc_610 := neq_f c_610
                    have kb_1201 : bd 1201 1201 (1201 : Int32) := ⟨by decide, by decide⟩
                    subst hQ
                    exact W.vret hx hb hr (fun t ht hW => ⟨⟨_, rfl, Or.inr (⟨1201, kb_1201, x_599, h_600, (g.fcts [0, 1] rfl)⟩), q3_of g hK ht hW⟩, g.2.2.1.F ht⟩) g.2.2.1.2.2 dX2_readField_204
                  · have fc_610 := eq_f c_610
                    have b_611 : bd 1 0 x_599 := eqX fc_610 h_600 kb_0 (by decide)
                    exact bd_no b_611 (by decide)
              · have g := g.more hF_592
                refine lv_istore (lv' := [(5, .int r_584), (4, .int 6), (2, .long r_6), (1, .int r_5), (0, .ref a0_)]) hx hb dX2_readField_171 hl (by decide) rfl (fun ls hl => ?_)
                refine lv_aload_n hx hb dX2_readField_173 rfl (lv_at hl 4 rfl) ?_
                refine g_getk (C := RX2) (T := TX2) (N := 16) hx hb hts (mc_ inX2) hown hK g rfl 0 (by decide) rfl (hts _ (List.mem_cons_of_mem _ t_416)) (fun _ h9 => h9) 4 rfl dX2_readField_174 ?_
                refine lv_bipush (v := 59) hx hb dX2_readField_177 (by decide) ?_
                have kb_1201 : bd 1201 1201 (1201 : Int32) := ⟨by decide, by decide⟩
                refine g_callv (va_runV (As := [.int 59]) (rest := []) ⟨hx, hb, hml, hown, hts⟩ (r_X8_take_2 l dC dI L kd tys fr_584 H.size g.2.2.2.1 q0_ mq0_ kq0_ 59 1201 kb_1201 x_590 h_591 (g.fcts [0, 1] rfl)) (cwV 1 hts (gV_ t_1098 t_1099 t_1100 t_184 t_1101) rfl rfl rfl (by decide +kernel) ⟨(Nat.le_of_ble_eq_true rfl), (Nat.le_of_ble_eq_true rfl)⟩) (pre3V g hK mq0_ kq0_ (by decide) (q := (RX8, TX8, 10)) rfl) rfl rfl hl.1 rfl (lv_room (Nat.le_of_ble_eq_true rfl)) dX2_readField_179 ⟨(Nat.le_of_ble_eq_true rfl), (Nat.le_of_ble_eq_true rfl)⟩) g hK (by decide) (by decide) (fx' := [(8, 8, q0_, .int x_590), (9, 7, q1_, .int x_176), (9, 2, q1_, .int x_14), (2, 0, a0_, .ref q0_), (2, 4, a0_, .ref q1_)]) rfl (fun fr_612 H locs hp hMr_612 g => ?_)
                obtain ⟨x_613, h_614, hF_615⟩ := hp
                have g := g.more hF_615
                refine lv_aload_n hx hb dX2_readField_182 rfl (lv_at hl 4 rfl) ?_
                refine g_getk (C := RX2) (T := TX2) (N := 16) hx hb hts (mc_ inX2) hown hK g rfl 0 (by decide) rfl (hts _ (List.mem_cons_of_mem _ t_416)) (fun _ h9 => h9) 4 rfl dX2_readField_183 ?_
                refine g_getk (C := RX8) (T := TX8) (N := 10) hx hb hts (mc_ inX8) hown hK g rfl 8 (by decide) rfl (hts _ (List.mem_cons_of_mem _ t_294)) (fun _ h9 => h9) 1 rfl dX2_readField_186 ?_
                have kb_0 : bd 0 0 (0 : Int32) := ⟨by decide, by decide⟩
                refine lv_if_ne (tgt := 204) hx hb dX2_readField_189 (by decide) (fun c_616 => ?_) (fun c_616 => ?_)
                · have fc_616 := neq_f c_616
                  subst hQ
                  exact W.vret hx hb hr (fun t ht hW => ⟨⟨_, rfl, Or.inr (⟨x_613, h_614, x_590, h_591, (g.fcts [0, 1] rfl)⟩), q3_of g hK ht hW⟩, g.2.2.1.F ht⟩) g.2.2.1.2.2 dX2_readField_204
                · have fc_616 := eq_f c_616
                  have b_617 : bd 1 0 x_590 := eqX fc_616 h_591 kb_0 (by decide)
                  exact bd_no b_617 (by decide)
          · obtain rfl : r_100 = 6 := h_179
            have g := g.more hF_184
            refine lv_istore (lv' := [(4, .int 6), (2, .long r_6), (1, .int r_5), (0, .ref a0_)]) hx hb dX2_readField_117 hl (by decide) rfl (fun ls hl => ?_)
            refine lv_goto (tgt := 143) hx hb dX2_readField_119 (by decide) ?_
            refine lv_iconst (v := 0) hx hb dX2_readField_143 (by decide) ?_
            refine lv_istore (lv' := [(5, .int 0), (4, .int 6), (2, .long r_6), (1, .int r_5), (0, .ref a0_)]) hx hb dX2_readField_144 hl (by decide) rfl (fun ls hl => ?_)
            refine lv_aload_n hx hb dX2_readField_146 rfl (lv_at hl 4 rfl) ?_
            refine g_getk (C := RX2) (T := TX2) (N := 16) hx hb hts (mc_ inX2) hown hK g rfl 0 (by decide) rfl (hts _ (List.mem_cons_of_mem _ t_416)) (fun _ h9 => h9) 3 rfl dX2_readField_147 ?_
            refine g_calli (va_runV (As := []) (rest := []) ⟨hx, hb, hml, hown, hts⟩ (r_X8_kind_2 l dC dI L kd tys fr_100 H.size g.2.2.2.1 q0_ mq0_ kq0_ x_180 h_181 (g.fcts [0] rfl)) (cwV 0 hts (gV_ t_1118 t_1119 t_1120 t_184 t_1121) rfl rfl rfl (by decide +kernel) ⟨(Nat.le_of_ble_eq_true rfl), (Nat.le_of_ble_eq_true rfl)⟩) (pre3V g hK mq0_ kq0_ (by decide) (q := (RX8, TX8, 10)) rfl) rfl rfl hl.1 rfl (lv_room (Nat.le_of_ble_eq_true rfl)) dX2_readField_150 ⟨(Nat.le_of_ble_eq_true rfl), (Nat.le_of_ble_eq_true rfl)⟩) g hK (by decide) (by decide) (fx' := [(8, 6, q0_, .int x_180), (8, 8, q0_, .int x_182), (9, 2, q1_, .int x_14), (2, 0, a0_, .ref q0_), (2, 4, a0_, .ref q1_)]) rfl (fun r_618 fr_618 H locs hp hMr_618 g => ?_)
            obtain ⟨h_619, -⟩ := hp
            obtain rfl : r_618 = 0 := h_619
            refine lv_bipush (v := 61) hx hb dX2_readField_153 (by decide) ?_
            refine lv_icmp_ne (tgt := 173) hx hb dX2_readField_155 (by decide) (fun c_ => ?_) (fun c_ => absurd c_ (by decide))
            refine lv_aload_n hx hb dX2_readField_173 rfl (lv_at hl 4 rfl) ?_
            refine g_getk (C := RX2) (T := TX2) (N := 16) hx hb hts (mc_ inX2) hown hK g rfl 0 (by decide) rfl (hts _ (List.mem_cons_of_mem _ t_416)) (fun _ h9 => h9) 3 rfl dX2_readField_174 ?_
            refine lv_bipush (v := 59) hx hb dX2_readField_177 (by decide) ?_
            refine g_callv (va_runV (As := [.int 59]) (rest := []) ⟨hx, hb, hml, hown, hts⟩ (r_X8_take_2 l dC dI L kd tys fr_618 H.size g.2.2.2.1 q0_ mq0_ kq0_ 59 x_180 h_181 x_182 h_183 (g.fcts [0, 1] rfl)) (cwV 1 hts (gV_ t_1098 t_1099 t_1100 t_184 t_1101) rfl rfl rfl (by decide +kernel) ⟨(Nat.le_of_ble_eq_true rfl), (Nat.le_of_ble_eq_true rfl)⟩) (pre3V g hK mq0_ kq0_ (by decide) (q := (RX8, TX8, 10)) rfl) rfl rfl hl.1 rfl (lv_room (Nat.le_of_ble_eq_true rfl)) dX2_readField_179 ⟨(Nat.le_of_ble_eq_true rfl), (Nat.le_of_ble_eq_true rfl)⟩) g hK (by decide) (by decide) (fx' := [(8, 8, q0_, .int x_182), (9, 2, q1_, .int x_14), (2, 0, a0_, .ref q0_), (2, 4, a0_, .ref q1_)]) rfl (fun fr_620 H locs hp hMr_620 g => ?_)
            obtain ⟨x_621, h_622, hF_623⟩ := hp
            have g := g.more hF_623
            refine lv_aload_n hx hb dX2_readField_182 rfl (lv_at hl 4 rfl) ?_
            refine g_getk (C := RX2) (T := TX2) (N := 16) hx hb hts (mc_ inX2) hown hK g rfl 0 (by decide) rfl (hts _ (List.mem_cons_of_mem _ t_416)) (fun _ h9 => h9) 3 rfl dX2_readField_183 ?_
            refine g_getk (C := RX8) (T := TX8) (N := 10) hx hb hts (mc_ inX8) hown hK g rfl 8 (by decide) rfl (hts _ (List.mem_cons_of_mem _ t_294)) (fun _ h9 => h9) 1 rfl dX2_readField_186 ?_
            have kb_0 : bd 0 0 (0 : Int32) := ⟨by decide, by decide⟩
            refine lv_if_ne (tgt := 204) hx hb dX2_readField_189 (by decide) (fun c_624 => ?_) (fun c_624 => ?_)
            · have fc_624 := neq_f c_624
              subst hQ
              exact W.vret hx hb hr (fun t ht hW => ⟨⟨_, rfl, Or.inr (⟨x_621, h_622, x_182, h_183, (g.fcts [0, 1] rfl)⟩), q3_of g hK ht hW⟩, g.2.2.1.F ht⟩) g.2.2.1.2.2 dX2_readField_204
            · have fc_624 := eq_f c_624
              have b_625 : bd 1 0 x_182 := eqX fc_624 h_183 kb_0 (by decide)
              exact bd_no b_625 (by decide)
          · obtain rfl : r_100 = 7 := h_185
            have g := g.more hF_192
            refine lv_istore (lv' := [(4, .int 7), (2, .long r_6), (1, .int r_5), (0, .ref a0_)]) hx hb dX2_readField_117 hl (by decide) rfl (fun ls hl => ?_)
            refine lv_goto (tgt := 143) hx hb dX2_readField_119 (by decide) ?_
            refine lv_iconst (v := 0) hx hb dX2_readField_143 (by decide) ?_
            refine lv_istore (lv' := [(5, .int 0), (4, .int 7), (2, .long r_6), (1, .int r_5), (0, .ref a0_)]) hx hb dX2_readField_144 hl (by decide) rfl (fun ls hl => ?_)
            refine lv_aload_n hx hb dX2_readField_146 rfl (lv_at hl 4 rfl) ?_
            refine g_getk (C := RX2) (T := TX2) (N := 16) hx hb hts (mc_ inX2) hown hK g rfl 0 (by decide) rfl (hts _ (List.mem_cons_of_mem _ t_416)) (fun _ h9 => h9) 4 rfl dX2_readField_147 ?_
            refine g_calli (va_runV (As := []) (rest := []) ⟨hx, hb, hml, hown, hts⟩ (r_X8_kind l dC dI L kd tys fr_100 H.size g.2.2.2.1 q0_ mq0_ kq0_) (cwV 0 hts (gV_ t_1118 t_1119 t_1120 t_184 t_1121) rfl rfl rfl (by decide +kernel) ⟨(Nat.le_of_ble_eq_true rfl), (Nat.le_of_ble_eq_true rfl)⟩) (pre3V g hK mq0_ kq0_ (by decide) (q := (RX8, TX8, 10)) rfl) rfl rfl hl.1 rfl (lv_room (Nat.le_of_ble_eq_true rfl)) dX2_readField_150 ⟨(Nat.le_of_ble_eq_true rfl), (Nat.le_of_ble_eq_true rfl)⟩) g hK (by decide) (by decide) (fx' := [(8, 6, q0_, .int x_186), (8, 8, q0_, .int x_188), (9, 7, q1_, .int x_190), (9, 2, q1_, .int x_14), (2, 0, a0_, .ref q0_), (2, 4, a0_, .ref q1_)]) rfl (fun r_626 fr_626 H locs hp hMr_626 g => ?_)
            refine lv_bipush (v := 61) hx hb dX2_readField_153 (by decide) ?_
            have kb_61 : bd 61 61 (61 : Int32) := ⟨by decide, by decide⟩
            refine lv_icmp_ne (tgt := 173) hx hb dX2_readField_155 (by decide) (fun c_627 => ?_) (fun c_627 => ?_)
            · have fc_627 := neq_f c_627
              refine lv_aload_n hx hb dX2_readField_173 rfl (lv_at hl 4 rfl) ?_
              refine g_getk (C := RX2) (T := TX2) (N := 16) hx hb hts (mc_ inX2) hown hK g rfl 0 (by decide) rfl (hts _ (List.mem_cons_of_mem _ t_416)) (fun _ h9 => h9) 4 rfl dX2_readField_174 ?_
              refine lv_bipush (v := 59) hx hb dX2_readField_177 (by decide) ?_
              refine g_callv (va_runV (As := [.int 59]) (rest := []) ⟨hx, hb, hml, hown, hts⟩ (r_X8_take l dC dI L kd tys fr_626 H.size g.2.2.2.1 q0_ mq0_ kq0_ 59 x_188 h_189 (g.fcts [1] rfl)) (cwV 1 hts (gV_ t_1098 t_1099 t_1100 t_184 t_1101) rfl rfl rfl (by decide +kernel) ⟨(Nat.le_of_ble_eq_true rfl), (Nat.le_of_ble_eq_true rfl)⟩) (pre3V g hK mq0_ kq0_ (by decide) (q := (RX8, TX8, 10)) rfl) rfl rfl hl.1 rfl (lv_room (Nat.le_of_ble_eq_true rfl)) dX2_readField_179 ⟨(Nat.le_of_ble_eq_true rfl), (Nat.le_of_ble_eq_true rfl)⟩) g hK (by decide) (by decide) (fx' := [(9, 7, q1_, .int x_190), (9, 2, q1_, .int x_14), (2, 0, a0_, .ref q0_), (2, 4, a0_, .ref q1_)]) rfl (fun fr_628 H locs hp hMr_628 g => ?_)
              rcases hp with ⟨x_629, h_630, x_631, h_632, hF_633⟩ | ⟨x_634, h_635, hF_636⟩
              · have g := g.more hF_633
                refine lv_aload_n hx hb dX2_readField_182 rfl (lv_at hl 4 rfl) ?_
                refine g_getk (C := RX2) (T := TX2) (N := 16) hx hb hts (mc_ inX2) hown hK g rfl 0 (by decide) rfl (hts _ (List.mem_cons_of_mem _ t_416)) (fun _ h9 => h9) 4 rfl dX2_readField_183 ?_
                refine g_getk (C := RX8) (T := TX8) (N := 10) hx hb hts (mc_ inX8) hown hK g rfl 8 (by decide) rfl (hts _ (List.mem_cons_of_mem _ t_294)) (fun _ h9 => h9) 1 rfl dX2_readField_186 ?_
                have kb_0 : bd 0 0 (0 : Int32) := ⟨by decide, by decide⟩
                refine lv_if_ne (tgt := 204) hx hb dX2_readField_189 (by decide) (fun c_637 => ?_) (fun c_637 => ?_)
                · have fc_637 := neq_f c_637
                  have b_638 : bd 1 (-1) x_631 := neX fc_637 h_632 kb_0 (by decide)
                  exact bd_no b_638 (by decide)
                · have fc_637 := eq_f c_637
                  refine lv_aload_n hx hb dX2_readField_192 rfl (lv_at hl 4 rfl) ?_
                  refine g_getk (C := RX2) (T := TX2) (N := 16) hx hb hts (mc_ inX2) hown hK g rfl 4 (by decide) rfl (hts _ (List.mem_cons_of_mem _ t_420)) (fun _ h9 => h9) 5 rfl dX2_readField_193 ?_
                  refine lv_lload_n hx hb dX2_readField_196 rfl (lv_at hl 2 rfl) ?_
                  refine lv_iload hx hb dX2_readField_197 (lv_at hl 1 rfl) ?_
                  refine lv_iload hx hb dX2_readField_199 (lv_at hl 0 rfl) ?_
                  have kb_7 : bd 7 7 (7 : Int32) := ⟨by decide, by decide⟩
                  refine g_callv (va_runV (As := [.long r_6, .int 7, .int 0]) (rest := []) ⟨hx, hb, hml, hown, hts⟩ (r_X9_addField_15 l dC dI L kd tys fr_628 H.size g.2.2.2.1 q1_ mq1_ kq1_ r_6 7 kb_7 0 kb_0 x_190 h_191 x_14 b_16 (g.fcts [2, 3] rfl)) (cwV 3 hts (gV_ t_1164 t_1165 t_1166 t_192 t_1167) rfl rfl rfl (by decide +kernel) ⟨(Nat.le_of_ble_eq_true rfl), (Nat.le_of_ble_eq_true rfl)⟩) (pre3V g hK mq1_ kq1_ (by decide) (q := (RX9, TX9, 13)) rfl) rfl rfl hl.1 rfl (lv_room (Nat.le_of_ble_eq_true rfl)) dX2_readField_201 ⟨(Nat.le_of_ble_eq_true rfl), (Nat.le_of_ble_eq_true rfl)⟩) g hK (by decide) (by decide) (fx' := [(8, 6, q0_, .int x_629), (8, 8, q0_, .int x_631), (2, 0, a0_, .ref q0_), (2, 4, a0_, .ref q1_)]) rfl (fun fr_639 H locs hp hMr_639 g => ?_)
                  obtain ⟨x_640, h_641, x_642, h_643, hF_644⟩ := hp
                  have g := g.more hF_644
                  subst hQ
                  exact W.vret hx hb hr (fun t ht hW => ⟨⟨_, rfl, Or.inl ⟨x_640, h_641, x_642, (bd_sub h_643 (by decide)), x_629, h_630, x_631, h_632, (g.fcts [0, 1, 2, 3] rfl)⟩, q3_of g hK ht hW⟩, g.2.2.1.F ht⟩) g.2.2.1.2.2 dX2_readField_204
              · have g := g.more hF_636
                refine lv_aload_n hx hb dX2_readField_182 rfl (lv_at hl 4 rfl) ?_
                refine g_getk (C := RX2) (T := TX2) (N := 16) hx hb hts (mc_ inX2) hown hK g rfl 0 (by decide) rfl (hts _ (List.mem_cons_of_mem _ t_416)) (fun _ h9 => h9) 4 rfl dX2_readField_183 ?_
                refine g_getk (C := RX8) (T := TX8) (N := 10) hx hb hts (mc_ inX8) hown hK g rfl 8 (by decide) rfl (hts _ (List.mem_cons_of_mem _ t_294)) (fun _ h9 => h9) 1 rfl dX2_readField_186 ?_
                have kb_0 : bd 0 0 (0 : Int32) := ⟨by decide, by decide⟩
                refine lv_if_ne (tgt := 204) hx hb dX2_readField_189 (by decide) (fun c_645 => ?_) (fun c_645 => ?_)
                · have fc_645 := neq_f c_645
                  have kb_1201 : bd 1201 1201 (1201 : Int32) := ⟨by decide, by decide⟩
                  subst hQ
                  exact W.vret hx hb hr (fun t ht hW => ⟨⟨_, rfl, Or.inr (⟨1201, kb_1201, x_634, h_635, (g.fcts [0, 1] rfl)⟩), q3_of g hK ht hW⟩, g.2.2.1.F ht⟩) g.2.2.1.2.2 dX2_readField_204
                · have fc_645 := eq_f c_645
                  have b_646 : bd 1 0 x_634 := eqX fc_645 h_635 kb_0 (by decide)
                  exact bd_no b_646 (by decide)
            · have fc_627 := eq_f c_627
              have b_647 : bd 61 61 r_626 := eqX fc_627 (bdT r_626) kb_61 (by decide)
              refine lv_aload_n hx hb dX2_readField_158 rfl (lv_at hl 4 rfl) ?_
              refine g_getk (C := RX2) (T := TX2) (N := 16) hx hb hts (mc_ inX2) hown hK g rfl 0 (by decide) rfl (hts _ (List.mem_cons_of_mem _ t_416)) (fun _ h9 => h9) 4 rfl dX2_readField_159 ?_
              refine g_callv (va_runV (As := []) (rest := []) ⟨hx, hb, hml, hown, hts⟩ (r_X8_next l dC dI L kd tys fr_626 H.size g.2.2.2.1 q0_ mq0_ kq0_) (cwV 0 hts (gV_ t_1131 t_1103 t_1104 t_184 t_1105) rfl rfl rfl (by decide +kernel) ⟨(Nat.le_of_ble_eq_true rfl), (Nat.le_of_ble_eq_true rfl)⟩) (pre3V g hK mq0_ kq0_ (by decide) (q := (RX8, TX8, 10)) rfl) rfl rfl hl.1 rfl (lv_room (Nat.le_of_ble_eq_true rfl)) dX2_readField_162 ⟨(Nat.le_of_ble_eq_true rfl), (Nat.le_of_ble_eq_true rfl)⟩) g hK (by decide) (by decide) (fx' := [(8, 8, q0_, .int x_188), (9, 7, q1_, .int x_190), (9, 2, q1_, .int x_14), (2, 0, a0_, .ref q0_), (2, 4, a0_, .ref q1_)]) rfl (fun fr_648 H locs hp hMr_648 g => ?_)
              obtain ⟨x_649, h_650, hF_651⟩ := hp
              have g := g.more hF_651
              refine lv_aload_n hx hb dX2_readField_165 rfl (lv_at hl 4 rfl) ?_
              refine lv_ldc (v := (-2147483648)) hx hb hown (hts _ (List.mem_cons_of_mem _ t_1159)) dX2_readField_166 ?_
              refine g_calli (va_runV (As := [.int (-2147483648)]) (rest := []) ⟨hx, hb, hml, hown, hts⟩ (r_X2_readNumber l dC dI L kd tys fr_648 H.size g.2.2.2.1 a0_ ma0_ ka0_ (-2147483648) q0_ mq0_ kq0_ x_188 h_189 (g.fcts [4, 1] rfl)) (cwV 1 hts (gV_ t_1160 t_1162 t_11 t_183 t_1163) rfl rfl rfl (by decide +kernel) ⟨(Nat.le_of_ble_eq_true rfl), (Nat.le_of_ble_eq_true rfl)⟩) (pre3V g hK ma0_ ka0_ (by decide) (q := (RX2, TX2, 16)) rfl) rfl rfl hl.1 rfl (lv_room (Nat.le_of_ble_eq_true rfl)) dX2_readField_168 ⟨(Nat.le_of_ble_eq_true rfl), (Nat.le_of_ble_eq_true rfl)⟩) g hK (by decide) (by decide) (fx' := [(9, 7, q1_, .int x_190), (9, 2, q1_, .int x_14), (2, 0, a0_, .ref q0_), (2, 4, a0_, .ref q1_)]) rfl (fun r_652 fr_652 H locs hp hMr_652 g => ?_)
              rcases hp with ⟨x_653, h_654, x_655, h_656, hF_657⟩ | ⟨x_658, h_659, hF_660⟩
              · have g := g.more hF_657
                refine lv_istore (lv' := [(5, .int r_652), (4, .int 7), (2, .long r_6), (1, .int r_5), (0, .ref a0_)]) hx hb dX2_readField_171 hl (by decide) rfl (fun ls hl => ?_)
                refine lv_aload_n hx hb dX2_readField_173 rfl (lv_at hl 4 rfl) ?_
                refine g_getk (C := RX2) (T := TX2) (N := 16) hx hb hts (mc_ inX2) hown hK g rfl 0 (by decide) rfl (hts _ (List.mem_cons_of_mem _ t_416)) (fun _ h9 => h9) 4 rfl dX2_readField_174 ?_
                refine lv_bipush (v := 59) hx hb dX2_readField_177 (by decide) ?_
                refine g_callv (va_runV (As := [.int 59]) (rest := []) ⟨hx, hb, hml, hown, hts⟩ (r_X8_take l dC dI L kd tys fr_652 H.size g.2.2.2.1 q0_ mq0_ kq0_ 59 x_655 h_656 (g.fcts [1] rfl)) (cwV 1 hts (gV_ t_1098 t_1099 t_1100 t_184 t_1101) rfl rfl rfl (by decide +kernel) ⟨(Nat.le_of_ble_eq_true rfl), (Nat.le_of_ble_eq_true rfl)⟩) (pre3V g hK mq0_ kq0_ (by decide) (q := (RX8, TX8, 10)) rfl) rfl rfl hl.1 rfl (lv_room (Nat.le_of_ble_eq_true rfl)) dX2_readField_179 ⟨(Nat.le_of_ble_eq_true rfl), (Nat.le_of_ble_eq_true rfl)⟩) g hK (by decide) (by decide) (fx' := [(9, 7, q1_, .int x_190), (9, 2, q1_, .int x_14), (2, 0, a0_, .ref q0_), (2, 4, a0_, .ref q1_)]) rfl (fun fr_661 H locs hp hMr_661 g => ?_)
                rcases hp with ⟨x_662, h_663, x_664, h_665, hF_666⟩ | ⟨x_667, h_668, hF_669⟩
                · have g := g.more hF_666
                  refine lv_aload_n hx hb dX2_readField_182 rfl (lv_at hl 4 rfl) ?_
                  refine g_getk (C := RX2) (T := TX2) (N := 16) hx hb hts (mc_ inX2) hown hK g rfl 0 (by decide) rfl (hts _ (List.mem_cons_of_mem _ t_416)) (fun _ h9 => h9) 4 rfl dX2_readField_183 ?_
                  refine g_getk (C := RX8) (T := TX8) (N := 10) hx hb hts (mc_ inX8) hown hK g rfl 8 (by decide) rfl (hts _ (List.mem_cons_of_mem _ t_294)) (fun _ h9 => h9) 1 rfl dX2_readField_186 ?_
                  have kb_0 : bd 0 0 (0 : Int32) := ⟨by decide, by decide⟩
                  refine lv_if_ne (tgt := 204) hx hb dX2_readField_189 (by decide) (fun c_670 => ?_) (fun c_670 => ?_)
                  · have fc_670 := neq_f c_670
                    have b_671 : bd 1 (-1) x_664 := neX fc_670 h_665 kb_0 (by decide)
                    exact bd_no b_671 (by decide)
                  · have fc_670 := eq_f c_670
                    refine lv_aload_n hx hb dX2_readField_192 rfl (lv_at hl 4 rfl) ?_
                    refine g_getk (C := RX2) (T := TX2) (N := 16) hx hb hts (mc_ inX2) hown hK g rfl 4 (by decide) rfl (hts _ (List.mem_cons_of_mem _ t_420)) (fun _ h9 => h9) 5 rfl dX2_readField_193 ?_
                    refine lv_lload_n hx hb dX2_readField_196 rfl (lv_at hl 2 rfl) ?_
                    refine lv_iload hx hb dX2_readField_197 (lv_at hl 1 rfl) ?_
                    refine lv_iload hx hb dX2_readField_199 (lv_at hl 0 rfl) ?_
                    have kb_7 : bd 7 7 (7 : Int32) := ⟨by decide, by decide⟩
                    refine g_callv (va_runV (As := [.long r_6, .int 7, .int r_652]) (rest := []) ⟨hx, hb, hml, hown, hts⟩ (r_X9_addField_16 l dC dI L kd tys fr_661 H.size g.2.2.2.1 q1_ mq1_ kq1_ r_6 7 kb_7 r_652 x_190 h_191 x_14 b_16 (g.fcts [2, 3] rfl)) (cwV 3 hts (gV_ t_1164 t_1165 t_1166 t_192 t_1167) rfl rfl rfl (by decide +kernel) ⟨(Nat.le_of_ble_eq_true rfl), (Nat.le_of_ble_eq_true rfl)⟩) (pre3V g hK mq1_ kq1_ (by decide) (q := (RX9, TX9, 13)) rfl) rfl rfl hl.1 rfl (lv_room (Nat.le_of_ble_eq_true rfl)) dX2_readField_201 ⟨(Nat.le_of_ble_eq_true rfl), (Nat.le_of_ble_eq_true rfl)⟩) g hK (by decide) (by decide) (fx' := [(8, 6, q0_, .int x_662), (8, 8, q0_, .int x_664), (2, 0, a0_, .ref q0_), (2, 4, a0_, .ref q1_)]) rfl (fun fr_672 H locs hp hMr_672 g => ?_)
                    obtain ⟨x_673, h_674, x_675, h_676, hF_677⟩ := hp
                    have g := g.more hF_677
                    subst hQ
                    exact W.vret hx hb hr (fun t ht hW => ⟨⟨_, rfl, Or.inl ⟨x_673, h_674, x_675, (bd_sub h_676 (by decide)), x_662, h_663, x_664, h_665, (g.fcts [0, 1, 2, 3] rfl)⟩, q3_of g hK ht hW⟩, g.2.2.1.F ht⟩) g.2.2.1.2.2 dX2_readField_204
                · have g := g.more hF_669
                  refine lv_aload_n hx hb dX2_readField_182 rfl (lv_at hl 4 rfl) ?_
                  refine g_getk (C := RX2) (T := TX2) (N := 16) hx hb hts (mc_ inX2) hown hK g rfl 0 (by decide) rfl (hts _ (List.mem_cons_of_mem _ t_416)) (fun _ h9 => h9) 4 rfl dX2_readField_183 ?_
                  refine g_getk (C := RX8) (T := TX8) (N := 10) hx hb hts (mc_ inX8) hown hK g rfl 8 (by decide) rfl (hts _ (List.mem_cons_of_mem _ t_294)) (fun _ h9 => h9) 1 rfl dX2_readField_186 ?_
                  have kb_0 : bd 0 0 (0 : Int32) := ⟨by decide, by decide⟩
                  refine lv_if_ne (tgt := 204) hx hb dX2_readField_189 (by decide) (fun c_678 => ?_) (fun c_678 => ?_)
                  · have fc_678 := neq_f c_678
                    have kb_1201 : bd 1201 1201 (1201 : Int32) := ⟨by decide, by decide⟩
                    subst hQ
                    exact W.vret hx hb hr (fun t ht hW => ⟨⟨_, rfl, Or.inr (⟨1201, kb_1201, x_667, h_668, (g.fcts [0, 1] rfl)⟩), q3_of g hK ht hW⟩, g.2.2.1.F ht⟩) g.2.2.1.2.2 dX2_readField_204
                  · have fc_678 := eq_f c_678
                    have b_679 : bd 1 0 x_667 := eqX fc_678 h_668 kb_0 (by decide)
                    exact bd_no b_679 (by decide)
              · have g := g.more hF_660
                refine lv_istore (lv' := [(5, .int r_652), (4, .int 7), (2, .long r_6), (1, .int r_5), (0, .ref a0_)]) hx hb dX2_readField_171 hl (by decide) rfl (fun ls hl => ?_)
                refine lv_aload_n hx hb dX2_readField_173 rfl (lv_at hl 4 rfl) ?_
                refine g_getk (C := RX2) (T := TX2) (N := 16) hx hb hts (mc_ inX2) hown hK g rfl 0 (by decide) rfl (hts _ (List.mem_cons_of_mem _ t_416)) (fun _ h9 => h9) 4 rfl dX2_readField_174 ?_
                refine lv_bipush (v := 59) hx hb dX2_readField_177 (by decide) ?_
                have kb_1201 : bd 1201 1201 (1201 : Int32) := ⟨by decide, by decide⟩
                refine g_callv (va_runV (As := [.int 59]) (rest := []) ⟨hx, hb, hml, hown, hts⟩ (r_X8_take_2 l dC dI L kd tys fr_652 H.size g.2.2.2.1 q0_ mq0_ kq0_ 59 1201 kb_1201 x_658 h_659 (g.fcts [0, 1] rfl)) (cwV 1 hts (gV_ t_1098 t_1099 t_1100 t_184 t_1101) rfl rfl rfl (by decide +kernel) ⟨(Nat.le_of_ble_eq_true rfl), (Nat.le_of_ble_eq_true rfl)⟩) (pre3V g hK mq0_ kq0_ (by decide) (q := (RX8, TX8, 10)) rfl) rfl rfl hl.1 rfl (lv_room (Nat.le_of_ble_eq_true rfl)) dX2_readField_179 ⟨(Nat.le_of_ble_eq_true rfl), (Nat.le_of_ble_eq_true rfl)⟩) g hK (by decide) (by decide) (fx' := [(8, 8, q0_, .int x_658), (9, 7, q1_, .int x_190), (9, 2, q1_, .int x_14), (2, 0, a0_, .ref q0_), (2, 4, a0_, .ref q1_)]) rfl (fun fr_680 H locs hp hMr_680 g => ?_)
                obtain ⟨x_681, h_682, hF_683⟩ := hp
                have g := g.more hF_683
                refine lv_aload_n hx hb dX2_readField_182 rfl (lv_at hl 4 rfl) ?_
                refine g_getk (C := RX2) (T := TX2) (N := 16) hx hb hts (mc_ inX2) hown hK g rfl 0 (by decide) rfl (hts _ (List.mem_cons_of_mem _ t_416)) (fun _ h9 => h9) 4 rfl dX2_readField_183 ?_
                refine g_getk (C := RX8) (T := TX8) (N := 10) hx hb hts (mc_ inX8) hown hK g rfl 8 (by decide) rfl (hts _ (List.mem_cons_of_mem _ t_294)) (fun _ h9 => h9) 1 rfl dX2_readField_186 ?_
                have kb_0 : bd 0 0 (0 : Int32) := ⟨by decide, by decide⟩
                refine lv_if_ne (tgt := 204) hx hb dX2_readField_189 (by decide) (fun c_684 => ?_) (fun c_684 => ?_)
                · have fc_684 := neq_f c_684
                  subst hQ
                  exact W.vret hx hb hr (fun t ht hW => ⟨⟨_, rfl, Or.inr (⟨x_681, h_682, x_658, h_659, (g.fcts [0, 1] rfl)⟩), q3_of g hK ht hW⟩, g.2.2.1.F ht⟩) g.2.2.1.2.2 dX2_readField_204
                · have fc_684 := eq_f c_684
                  have b_685 : bd 1 0 x_658 := eqX fc_684 h_659 kb_0 (by decide)
                  exact bd_no b_685 (by decide)
          · obtain rfl : r_100 = 7 := h_193
            have g := g.more hF_198
            refine lv_istore (lv' := [(4, .int 7), (2, .long r_6), (1, .int r_5), (0, .ref a0_)]) hx hb dX2_readField_117 hl (by decide) rfl (fun ls hl => ?_)
            refine lv_goto (tgt := 143) hx hb dX2_readField_119 (by decide) ?_
            refine lv_iconst (v := 0) hx hb dX2_readField_143 (by decide) ?_
            refine lv_istore (lv' := [(5, .int 0), (4, .int 7), (2, .long r_6), (1, .int r_5), (0, .ref a0_)]) hx hb dX2_readField_144 hl (by decide) rfl (fun ls hl => ?_)
            refine lv_aload_n hx hb dX2_readField_146 rfl (lv_at hl 4 rfl) ?_
            refine g_getk (C := RX2) (T := TX2) (N := 16) hx hb hts (mc_ inX2) hown hK g rfl 0 (by decide) rfl (hts _ (List.mem_cons_of_mem _ t_416)) (fun _ h9 => h9) 3 rfl dX2_readField_147 ?_
            refine g_calli (va_runV (As := []) (rest := []) ⟨hx, hb, hml, hown, hts⟩ (r_X8_kind_2 l dC dI L kd tys fr_100 H.size g.2.2.2.1 q0_ mq0_ kq0_ x_194 h_195 (g.fcts [0] rfl)) (cwV 0 hts (gV_ t_1118 t_1119 t_1120 t_184 t_1121) rfl rfl rfl (by decide +kernel) ⟨(Nat.le_of_ble_eq_true rfl), (Nat.le_of_ble_eq_true rfl)⟩) (pre3V g hK mq0_ kq0_ (by decide) (q := (RX8, TX8, 10)) rfl) rfl rfl hl.1 rfl (lv_room (Nat.le_of_ble_eq_true rfl)) dX2_readField_150 ⟨(Nat.le_of_ble_eq_true rfl), (Nat.le_of_ble_eq_true rfl)⟩) g hK (by decide) (by decide) (fx' := [(8, 6, q0_, .int x_194), (8, 8, q0_, .int x_196), (9, 2, q1_, .int x_14), (2, 0, a0_, .ref q0_), (2, 4, a0_, .ref q1_)]) rfl (fun r_686 fr_686 H locs hp hMr_686 g => ?_)
            obtain ⟨h_687, -⟩ := hp
            obtain rfl : r_686 = 0 := h_687
            refine lv_bipush (v := 61) hx hb dX2_readField_153 (by decide) ?_
            refine lv_icmp_ne (tgt := 173) hx hb dX2_readField_155 (by decide) (fun c_ => ?_) (fun c_ => absurd c_ (by decide))
            refine lv_aload_n hx hb dX2_readField_173 rfl (lv_at hl 4 rfl) ?_
            refine g_getk (C := RX2) (T := TX2) (N := 16) hx hb hts (mc_ inX2) hown hK g rfl 0 (by decide) rfl (hts _ (List.mem_cons_of_mem _ t_416)) (fun _ h9 => h9) 3 rfl dX2_readField_174 ?_
            refine lv_bipush (v := 59) hx hb dX2_readField_177 (by decide) ?_
            refine g_callv (va_runV (As := [.int 59]) (rest := []) ⟨hx, hb, hml, hown, hts⟩ (r_X8_take_2 l dC dI L kd tys fr_686 H.size g.2.2.2.1 q0_ mq0_ kq0_ 59 x_194 h_195 x_196 h_197 (g.fcts [0, 1] rfl)) (cwV 1 hts (gV_ t_1098 t_1099 t_1100 t_184 t_1101) rfl rfl rfl (by decide +kernel) ⟨(Nat.le_of_ble_eq_true rfl), (Nat.le_of_ble_eq_true rfl)⟩) (pre3V g hK mq0_ kq0_ (by decide) (q := (RX8, TX8, 10)) rfl) rfl rfl hl.1 rfl (lv_room (Nat.le_of_ble_eq_true rfl)) dX2_readField_179 ⟨(Nat.le_of_ble_eq_true rfl), (Nat.le_of_ble_eq_true rfl)⟩) g hK (by decide) (by decide) (fx' := [(8, 8, q0_, .int x_196), (9, 2, q1_, .int x_14), (2, 0, a0_, .ref q0_), (2, 4, a0_, .ref q1_)]) rfl (fun fr_688 H locs hp hMr_688 g => ?_)
            obtain ⟨x_689, h_690, hF_691⟩ := hp
            have g := g.more hF_691
            refine lv_aload_n hx hb dX2_readField_182 rfl (lv_at hl 4 rfl) ?_
            refine g_getk (C := RX2) (T := TX2) (N := 16) hx hb hts (mc_ inX2) hown hK g rfl 0 (by decide) rfl (hts _ (List.mem_cons_of_mem _ t_416)) (fun _ h9 => h9) 3 rfl dX2_readField_183 ?_
            refine g_getk (C := RX8) (T := TX8) (N := 10) hx hb hts (mc_ inX8) hown hK g rfl 8 (by decide) rfl (hts _ (List.mem_cons_of_mem _ t_294)) (fun _ h9 => h9) 1 rfl dX2_readField_186 ?_
            have kb_0 : bd 0 0 (0 : Int32) := ⟨by decide, by decide⟩
            refine lv_if_ne (tgt := 204) hx hb dX2_readField_189 (by decide) (fun c_692 => ?_) (fun c_692 => ?_)
            · have fc_692 := neq_f c_692
              subst hQ
              exact W.vret hx hb hr (fun t ht hW => ⟨⟨_, rfl, Or.inr (⟨x_689, h_690, x_196, h_197, (g.fcts [0, 1] rfl)⟩), q3_of g hK ht hW⟩, g.2.2.1.F ht⟩) g.2.2.1.2.2 dX2_readField_204
            · have fc_692 := eq_f c_692
              have b_693 : bd 1 0 x_196 := eqX fc_692 h_197 kb_0 (by decide)
              exact bd_no b_693 (by decide)
          · obtain rfl : r_100 = 8 := h_199
            have g := g.more hF_206
            refine lv_istore (lv' := [(4, .int 8), (2, .long r_6), (1, .int r_5), (0, .ref a0_)]) hx hb dX2_readField_117 hl (by decide) rfl (fun ls hl => ?_)
            refine lv_goto (tgt := 143) hx hb dX2_readField_119 (by decide) ?_
            refine lv_iconst (v := 0) hx hb dX2_readField_143 (by decide) ?_
            refine lv_istore (lv' := [(5, .int 0), (4, .int 8), (2, .long r_6), (1, .int r_5), (0, .ref a0_)]) hx hb dX2_readField_144 hl (by decide) rfl (fun ls hl => ?_)
            refine lv_aload_n hx hb dX2_readField_146 rfl (lv_at hl 4 rfl) ?_
            refine g_getk (C := RX2) (T := TX2) (N := 16) hx hb hts (mc_ inX2) hown hK g rfl 0 (by decide) rfl (hts _ (List.mem_cons_of_mem _ t_416)) (fun _ h9 => h9) 4 rfl dX2_readField_147 ?_
            refine g_calli (va_runV (As := []) (rest := []) ⟨hx, hb, hml, hown, hts⟩ (r_X8_kind l dC dI L kd tys fr_100 H.size g.2.2.2.1 q0_ mq0_ kq0_) (cwV 0 hts (gV_ t_1118 t_1119 t_1120 t_184 t_1121) rfl rfl rfl (by decide +kernel) ⟨(Nat.le_of_ble_eq_true rfl), (Nat.le_of_ble_eq_true rfl)⟩) (pre3V g hK mq0_ kq0_ (by decide) (q := (RX8, TX8, 10)) rfl) rfl rfl hl.1 rfl (lv_room (Nat.le_of_ble_eq_true rfl)) dX2_readField_150 ⟨(Nat.le_of_ble_eq_true rfl), (Nat.le_of_ble_eq_true rfl)⟩) g hK (by decide) (by decide) (fx' := [(8, 6, q0_, .int x_200), (8, 8, q0_, .int x_202), (9, 7, q1_, .int x_204), (9, 2, q1_, .int x_14), (2, 0, a0_, .ref q0_), (2, 4, a0_, .ref q1_)]) rfl (fun r_694 fr_694 H locs hp hMr_694 g => ?_)
            refine lv_bipush (v := 61) hx hb dX2_readField_153 (by decide) ?_
            have kb_61 : bd 61 61 (61 : Int32) := ⟨by decide, by decide⟩
            refine lv_icmp_ne (tgt := 173) hx hb dX2_readField_155 (by decide) (fun c_695 => ?_) (fun c_695 => ?_)
            · have fc_695 := neq_f c_695
              refine lv_aload_n hx hb dX2_readField_173 rfl (lv_at hl 4 rfl) ?_
              refine g_getk (C := RX2) (T := TX2) (N := 16) hx hb hts (mc_ inX2) hown hK g rfl 0 (by decide) rfl (hts _ (List.mem_cons_of_mem _ t_416)) (fun _ h9 => h9) 4 rfl dX2_readField_174 ?_
              refine lv_bipush (v := 59) hx hb dX2_readField_177 (by decide) ?_
              refine g_callv (va_runV (As := [.int 59]) (rest := []) ⟨hx, hb, hml, hown, hts⟩ (r_X8_take l dC dI L kd tys fr_694 H.size g.2.2.2.1 q0_ mq0_ kq0_ 59 x_202 h_203 (g.fcts [1] rfl)) (cwV 1 hts (gV_ t_1098 t_1099 t_1100 t_184 t_1101) rfl rfl rfl (by decide +kernel) ⟨(Nat.le_of_ble_eq_true rfl), (Nat.le_of_ble_eq_true rfl)⟩) (pre3V g hK mq0_ kq0_ (by decide) (q := (RX8, TX8, 10)) rfl) rfl rfl hl.1 rfl (lv_room (Nat.le_of_ble_eq_true rfl)) dX2_readField_179 ⟨(Nat.le_of_ble_eq_true rfl), (Nat.le_of_ble_eq_true rfl)⟩) g hK (by decide) (by decide) (fx' := [(9, 7, q1_, .int x_204), (9, 2, q1_, .int x_14), (2, 0, a0_, .ref q0_), (2, 4, a0_, .ref q1_)]) rfl (fun fr_696 H locs hp hMr_696 g => ?_)
              rcases hp with ⟨x_697, h_698, x_699, h_700, hF_701⟩ | ⟨x_702, h_703, hF_704⟩
              · have g := g.more hF_701
                refine lv_aload_n hx hb dX2_readField_182 rfl (lv_at hl 4 rfl) ?_
                refine g_getk (C := RX2) (T := TX2) (N := 16) hx hb hts (mc_ inX2) hown hK g rfl 0 (by decide) rfl (hts _ (List.mem_cons_of_mem _ t_416)) (fun _ h9 => h9) 4 rfl dX2_readField_183 ?_
                refine g_getk (C := RX8) (T := TX8) (N := 10) hx hb hts (mc_ inX8) hown hK g rfl 8 (by decide) rfl (hts _ (List.mem_cons_of_mem _ t_294)) (fun _ h9 => h9) 1 rfl dX2_readField_186 ?_
                have kb_0 : bd 0 0 (0 : Int32) := ⟨by decide, by decide⟩
                refine lv_if_ne (tgt := 204) hx hb dX2_readField_189 (by decide) (fun c_705 => ?_) (fun c_705 => ?_)
                · have fc_705 := neq_f c_705
                  have b_706 : bd 1 (-1) x_699 := neX fc_705 h_700 kb_0 (by decide)
                  exact bd_no b_706 (by decide)
                · have fc_705 := eq_f c_705
                  refine lv_aload_n hx hb dX2_readField_192 rfl (lv_at hl 4 rfl) ?_
                  refine g_getk (C := RX2) (T := TX2) (N := 16) hx hb hts (mc_ inX2) hown hK g rfl 4 (by decide) rfl (hts _ (List.mem_cons_of_mem _ t_420)) (fun _ h9 => h9) 5 rfl dX2_readField_193 ?_
                  refine lv_lload_n hx hb dX2_readField_196 rfl (lv_at hl 2 rfl) ?_
                  refine lv_iload hx hb dX2_readField_197 (lv_at hl 1 rfl) ?_
                  refine lv_iload hx hb dX2_readField_199 (lv_at hl 0 rfl) ?_
                  have kb_8 : bd 8 8 (8 : Int32) := ⟨by decide, by decide⟩
                  refine g_callv (va_runV (As := [.long r_6, .int 8, .int 0]) (rest := []) ⟨hx, hb, hml, hown, hts⟩ (r_X9_addField_17 l dC dI L kd tys fr_696 H.size g.2.2.2.1 q1_ mq1_ kq1_ r_6 8 kb_8 0 kb_0 x_204 h_205 x_14 b_16 (g.fcts [2, 3] rfl)) (cwV 3 hts (gV_ t_1164 t_1165 t_1166 t_192 t_1167) rfl rfl rfl (by decide +kernel) ⟨(Nat.le_of_ble_eq_true rfl), (Nat.le_of_ble_eq_true rfl)⟩) (pre3V g hK mq1_ kq1_ (by decide) (q := (RX9, TX9, 13)) rfl) rfl rfl hl.1 rfl (lv_room (Nat.le_of_ble_eq_true rfl)) dX2_readField_201 ⟨(Nat.le_of_ble_eq_true rfl), (Nat.le_of_ble_eq_true rfl)⟩) g hK (by decide) (by decide) (fx' := [(8, 6, q0_, .int x_697), (8, 8, q0_, .int x_699), (2, 0, a0_, .ref q0_), (2, 4, a0_, .ref q1_)]) rfl (fun fr_707 H locs hp hMr_707 g => ?_)
                  obtain ⟨x_708, h_709, x_710, h_711, hF_712⟩ := hp
                  have g := g.more hF_712
                  subst hQ
                  exact W.vret hx hb hr (fun t ht hW => ⟨⟨_, rfl, Or.inl ⟨x_708, h_709, x_710, (bd_sub h_711 (by decide)), x_697, h_698, x_699, h_700, (g.fcts [0, 1, 2, 3] rfl)⟩, q3_of g hK ht hW⟩, g.2.2.1.F ht⟩) g.2.2.1.2.2 dX2_readField_204
              · have g := g.more hF_704
                refine lv_aload_n hx hb dX2_readField_182 rfl (lv_at hl 4 rfl) ?_
                refine g_getk (C := RX2) (T := TX2) (N := 16) hx hb hts (mc_ inX2) hown hK g rfl 0 (by decide) rfl (hts _ (List.mem_cons_of_mem _ t_416)) (fun _ h9 => h9) 4 rfl dX2_readField_183 ?_
                refine g_getk (C := RX8) (T := TX8) (N := 10) hx hb hts (mc_ inX8) hown hK g rfl 8 (by decide) rfl (hts _ (List.mem_cons_of_mem _ t_294)) (fun _ h9 => h9) 1 rfl dX2_readField_186 ?_
                have kb_0 : bd 0 0 (0 : Int32) := ⟨by decide, by decide⟩
                refine lv_if_ne (tgt := 204) hx hb dX2_readField_189 (by decide) (fun c_713 => ?_) (fun c_713 => ?_)
                · have fc_713 := neq_f c_713
                  have kb_1201 : bd 1201 1201 (1201 : Int32) := ⟨by decide, by decide⟩
                  subst hQ
                  exact W.vret hx hb hr (fun t ht hW => ⟨⟨_, rfl, Or.inr (⟨1201, kb_1201, x_702, h_703, (g.fcts [0, 1] rfl)⟩), q3_of g hK ht hW⟩, g.2.2.1.F ht⟩) g.2.2.1.2.2 dX2_readField_204
                · have fc_713 := eq_f c_713
                  have b_714 : bd 1 0 x_702 := eqX fc_713 h_703 kb_0 (by decide)
                  exact bd_no b_714 (by decide)
            · have fc_695 := eq_f c_695
              have b_715 : bd 61 61 r_694 := eqX fc_695 (bdT r_694) kb_61 (by decide)
              refine lv_aload_n hx hb dX2_readField_158 rfl (lv_at hl 4 rfl) ?_
              refine g_getk (C := RX2) (T := TX2) (N := 16) hx hb hts (mc_ inX2) hown hK g rfl 0 (by decide) rfl (hts _ (List.mem_cons_of_mem _ t_416)) (fun _ h9 => h9) 4 rfl dX2_readField_159 ?_
              refine g_callv (va_runV (As := []) (rest := []) ⟨hx, hb, hml, hown, hts⟩ (r_X8_next l dC dI L kd tys fr_694 H.size g.2.2.2.1 q0_ mq0_ kq0_) (cwV 0 hts (gV_ t_1131 t_1103 t_1104 t_184 t_1105) rfl rfl rfl (by decide +kernel) ⟨(Nat.le_of_ble_eq_true rfl), (Nat.le_of_ble_eq_true rfl)⟩) (pre3V g hK mq0_ kq0_ (by decide) (q := (RX8, TX8, 10)) rfl) rfl rfl hl.1 rfl (lv_room (Nat.le_of_ble_eq_true rfl)) dX2_readField_162 ⟨(Nat.le_of_ble_eq_true rfl), (Nat.le_of_ble_eq_true rfl)⟩) g hK (by decide) (by decide) (fx' := [(8, 8, q0_, .int x_202), (9, 7, q1_, .int x_204), (9, 2, q1_, .int x_14), (2, 0, a0_, .ref q0_), (2, 4, a0_, .ref q1_)]) rfl (fun fr_716 H locs hp hMr_716 g => ?_)
              obtain ⟨x_717, h_718, hF_719⟩ := hp
              have g := g.more hF_719
              refine lv_aload_n hx hb dX2_readField_165 rfl (lv_at hl 4 rfl) ?_
              refine lv_ldc (v := (-2147483648)) hx hb hown (hts _ (List.mem_cons_of_mem _ t_1159)) dX2_readField_166 ?_
              refine g_calli (va_runV (As := [.int (-2147483648)]) (rest := []) ⟨hx, hb, hml, hown, hts⟩ (r_X2_readNumber l dC dI L kd tys fr_716 H.size g.2.2.2.1 a0_ ma0_ ka0_ (-2147483648) q0_ mq0_ kq0_ x_202 h_203 (g.fcts [4, 1] rfl)) (cwV 1 hts (gV_ t_1160 t_1162 t_11 t_183 t_1163) rfl rfl rfl (by decide +kernel) ⟨(Nat.le_of_ble_eq_true rfl), (Nat.le_of_ble_eq_true rfl)⟩) (pre3V g hK ma0_ ka0_ (by decide) (q := (RX2, TX2, 16)) rfl) rfl rfl hl.1 rfl (lv_room (Nat.le_of_ble_eq_true rfl)) dX2_readField_168 ⟨(Nat.le_of_ble_eq_true rfl), (Nat.le_of_ble_eq_true rfl)⟩) g hK (by decide) (by decide) (fx' := [(9, 7, q1_, .int x_204), (9, 2, q1_, .int x_14), (2, 0, a0_, .ref q0_), (2, 4, a0_, .ref q1_)]) rfl (fun r_720 fr_720 H locs hp hMr_720 g => ?_)
              rcases hp with ⟨x_721, h_722, x_723, h_724, hF_725⟩ | ⟨x_726, h_727, hF_728⟩
              · have g := g.more hF_725
                refine lv_istore (lv' := [(5, .int r_720), (4, .int 8), (2, .long r_6), (1, .int r_5), (0, .ref a0_)]) hx hb dX2_readField_171 hl (by decide) rfl (fun ls hl => ?_)
                refine lv_aload_n hx hb dX2_readField_173 rfl (lv_at hl 4 rfl) ?_
                refine g_getk (C := RX2) (T := TX2) (N := 16) hx hb hts (mc_ inX2) hown hK g rfl 0 (by decide) rfl (hts _ (List.mem_cons_of_mem _ t_416)) (fun _ h9 => h9) 4 rfl dX2_readField_174 ?_
                refine lv_bipush (v := 59) hx hb dX2_readField_177 (by decide) ?_
                refine g_callv (va_runV (As := [.int 59]) (rest := []) ⟨hx, hb, hml, hown, hts⟩ (r_X8_take l dC dI L kd tys fr_720 H.size g.2.2.2.1 q0_ mq0_ kq0_ 59 x_723 h_724 (g.fcts [1] rfl)) (cwV 1 hts (gV_ t_1098 t_1099 t_1100 t_184 t_1101) rfl rfl rfl (by decide +kernel) ⟨(Nat.le_of_ble_eq_true rfl), (Nat.le_of_ble_eq_true rfl)⟩) (pre3V g hK mq0_ kq0_ (by decide) (q := (RX8, TX8, 10)) rfl) rfl rfl hl.1 rfl (lv_room (Nat.le_of_ble_eq_true rfl)) dX2_readField_179 ⟨(Nat.le_of_ble_eq_true rfl), (Nat.le_of_ble_eq_true rfl)⟩) g hK (by decide) (by decide) (fx' := [(9, 7, q1_, .int x_204), (9, 2, q1_, .int x_14), (2, 0, a0_, .ref q0_), (2, 4, a0_, .ref q1_)]) rfl (fun fr_729 H locs hp hMr_729 g => ?_)
                rcases hp with ⟨x_730, h_731, x_732, h_733, hF_734⟩ | ⟨x_735, h_736, hF_737⟩
                · have g := g.more hF_734
                  refine lv_aload_n hx hb dX2_readField_182 rfl (lv_at hl 4 rfl) ?_
                  refine g_getk (C := RX2) (T := TX2) (N := 16) hx hb hts (mc_ inX2) hown hK g rfl 0 (by decide) rfl (hts _ (List.mem_cons_of_mem _ t_416)) (fun _ h9 => h9) 4 rfl dX2_readField_183 ?_
                  refine g_getk (C := RX8) (T := TX8) (N := 10) hx hb hts (mc_ inX8) hown hK g rfl 8 (by decide) rfl (hts _ (List.mem_cons_of_mem _ t_294)) (fun _ h9 => h9) 1 rfl dX2_readField_186 ?_
                  have kb_0 : bd 0 0 (0 : Int32) := ⟨by decide, by decide⟩
                  refine lv_if_ne (tgt := 204) hx hb dX2_readField_189 (by decide) (fun c_738 => ?_) (fun c_738 => ?_)
                  · have fc_738 := neq_f c_738
                    have b_739 : bd 1 (-1) x_732 := neX fc_738 h_733 kb_0 (by decide)
                    exact bd_no b_739 (by decide)
                  · have fc_738 := eq_f c_738
                    refine lv_aload_n hx hb dX2_readField_192 rfl (lv_at hl 4 rfl) ?_
                    refine g_getk (C := RX2) (T := TX2) (N := 16) hx hb hts (mc_ inX2) hown hK g rfl 4 (by decide) rfl (hts _ (List.mem_cons_of_mem _ t_420)) (fun _ h9 => h9) 5 rfl dX2_readField_193 ?_
                    refine lv_lload_n hx hb dX2_readField_196 rfl (lv_at hl 2 rfl) ?_
                    refine lv_iload hx hb dX2_readField_197 (lv_at hl 1 rfl) ?_
                    refine lv_iload hx hb dX2_readField_199 (lv_at hl 0 rfl) ?_
                    have kb_8 : bd 8 8 (8 : Int32) := ⟨by decide, by decide⟩
                    refine g_callv (va_runV (As := [.long r_6, .int 8, .int r_720]) (rest := []) ⟨hx, hb, hml, hown, hts⟩ (r_X9_addField_18 l dC dI L kd tys fr_729 H.size g.2.2.2.1 q1_ mq1_ kq1_ r_6 8 kb_8 r_720 x_204 h_205 x_14 b_16 (g.fcts [2, 3] rfl)) (cwV 3 hts (gV_ t_1164 t_1165 t_1166 t_192 t_1167) rfl rfl rfl (by decide +kernel) ⟨(Nat.le_of_ble_eq_true rfl), (Nat.le_of_ble_eq_true rfl)⟩) (pre3V g hK mq1_ kq1_ (by decide) (q := (RX9, TX9, 13)) rfl) rfl rfl hl.1 rfl (lv_room (Nat.le_of_ble_eq_true rfl)) dX2_readField_201 ⟨(Nat.le_of_ble_eq_true rfl), (Nat.le_of_ble_eq_true rfl)⟩) g hK (by decide) (by decide) (fx' := [(8, 6, q0_, .int x_730), (8, 8, q0_, .int x_732), (2, 0, a0_, .ref q0_), (2, 4, a0_, .ref q1_)]) rfl (fun fr_740 H locs hp hMr_740 g => ?_)
                    obtain ⟨x_741, h_742, x_743, h_744, hF_745⟩ := hp
                    have g := g.more hF_745
                    subst hQ
                    exact W.vret hx hb hr (fun t ht hW => ⟨⟨_, rfl, Or.inl ⟨x_741, h_742, x_743, (bd_sub h_744 (by decide)), x_730, h_731, x_732, h_733, (g.fcts [0, 1, 2, 3] rfl)⟩, q3_of g hK ht hW⟩, g.2.2.1.F ht⟩) g.2.2.1.2.2 dX2_readField_204
                · have g := g.more hF_737
                  refine lv_aload_n hx hb dX2_readField_182 rfl (lv_at hl 4 rfl) ?_
                  refine g_getk (C := RX2) (T := TX2) (N := 16) hx hb hts (mc_ inX2) hown hK g rfl 0 (by decide) rfl (hts _ (List.mem_cons_of_mem _ t_416)) (fun _ h9 => h9) 4 rfl dX2_readField_183 ?_
                  refine g_getk (C := RX8) (T := TX8) (N := 10) hx hb hts (mc_ inX8) hown hK g rfl 8 (by decide) rfl (hts _ (List.mem_cons_of_mem _ t_294)) (fun _ h9 => h9) 1 rfl dX2_readField_186 ?_
                  have kb_0 : bd 0 0 (0 : Int32) := ⟨by decide, by decide⟩
                  refine lv_if_ne (tgt := 204) hx hb dX2_readField_189 (by decide) (fun c_746 => ?_) (fun c_746 => ?_)
                  · have fc_746 := neq_f c_746
                    have kb_1201 : bd 1201 1201 (1201 : Int32) := ⟨by decide, by decide⟩
                    subst hQ
                    exact W.vret hx hb hr (fun t ht hW => ⟨⟨_, rfl, Or.inr (⟨1201, kb_1201, x_735, h_736, (g.fcts [0, 1] rfl)⟩), q3_of g hK ht hW⟩, g.2.2.1.F ht⟩) g.2.2.1.2.2 dX2_readField_204
                  · have fc_746 := eq_f c_746
                    have b_747 : bd 1 0 x_735 := eqX fc_746 h_736 kb_0 (by decide)
                    exact bd_no b_747 (by decide)
              · have g := g.more hF_728
                refine lv_istore (lv' := [(5, .int r_720), (4, .int 8), (2, .long r_6), (1, .int r_5), (0, .ref a0_)]) hx hb dX2_readField_171 hl (by decide) rfl (fun ls hl => ?_)
                refine lv_aload_n hx hb dX2_readField_173 rfl (lv_at hl 4 rfl) ?_
                refine g_getk (C := RX2) (T := TX2) (N := 16) hx hb hts (mc_ inX2) hown hK g rfl 0 (by decide) rfl (hts _ (List.mem_cons_of_mem _ t_416)) (fun _ h9 => h9) 4 rfl dX2_readField_174 ?_
                refine lv_bipush (v := 59) hx hb dX2_readField_177 (by decide) ?_
                have kb_1201 : bd 1201 1201 (1201 : Int32) := ⟨by decide, by decide⟩
                refine g_callv (va_runV (As := [.int 59]) (rest := []) ⟨hx, hb, hml, hown, hts⟩ (r_X8_take_2 l dC dI L kd tys fr_720 H.size g.2.2.2.1 q0_ mq0_ kq0_ 59 1201 kb_1201 x_726 h_727 (g.fcts [0, 1] rfl)) (cwV 1 hts (gV_ t_1098 t_1099 t_1100 t_184 t_1101) rfl rfl rfl (by decide +kernel) ⟨(Nat.le_of_ble_eq_true rfl), (Nat.le_of_ble_eq_true rfl)⟩) (pre3V g hK mq0_ kq0_ (by decide) (q := (RX8, TX8, 10)) rfl) rfl rfl hl.1 rfl (lv_room (Nat.le_of_ble_eq_true rfl)) dX2_readField_179 ⟨(Nat.le_of_ble_eq_true rfl), (Nat.le_of_ble_eq_true rfl)⟩) g hK (by decide) (by decide) (fx' := [(8, 8, q0_, .int x_726), (9, 7, q1_, .int x_204), (9, 2, q1_, .int x_14), (2, 0, a0_, .ref q0_), (2, 4, a0_, .ref q1_)]) rfl (fun fr_748 H locs hp hMr_748 g => ?_)
                obtain ⟨x_749, h_750, hF_751⟩ := hp
                have g := g.more hF_751
                refine lv_aload_n hx hb dX2_readField_182 rfl (lv_at hl 4 rfl) ?_
                refine g_getk (C := RX2) (T := TX2) (N := 16) hx hb hts (mc_ inX2) hown hK g rfl 0 (by decide) rfl (hts _ (List.mem_cons_of_mem _ t_416)) (fun _ h9 => h9) 4 rfl dX2_readField_183 ?_
                refine g_getk (C := RX8) (T := TX8) (N := 10) hx hb hts (mc_ inX8) hown hK g rfl 8 (by decide) rfl (hts _ (List.mem_cons_of_mem _ t_294)) (fun _ h9 => h9) 1 rfl dX2_readField_186 ?_
                have kb_0 : bd 0 0 (0 : Int32) := ⟨by decide, by decide⟩
                refine lv_if_ne (tgt := 204) hx hb dX2_readField_189 (by decide) (fun c_752 => ?_) (fun c_752 => ?_)
                · have fc_752 := neq_f c_752
                  subst hQ
                  exact W.vret hx hb hr (fun t ht hW => ⟨⟨_, rfl, Or.inr (⟨x_749, h_750, x_726, h_727, (g.fcts [0, 1] rfl)⟩), q3_of g hK ht hW⟩, g.2.2.1.F ht⟩) g.2.2.1.2.2 dX2_readField_204
                · have fc_752 := eq_f c_752
                  have b_753 : bd 1 0 x_726 := eqX fc_752 h_727 kb_0 (by decide)
                  exact bd_no b_753 (by decide)
          · obtain rfl : r_100 = 8 := h_207
            have g := g.more hF_212
            refine lv_istore (lv' := [(4, .int 8), (2, .long r_6), (1, .int r_5), (0, .ref a0_)]) hx hb dX2_readField_117 hl (by decide) rfl (fun ls hl => ?_)
            refine lv_goto (tgt := 143) hx hb dX2_readField_119 (by decide) ?_
            refine lv_iconst (v := 0) hx hb dX2_readField_143 (by decide) ?_
            refine lv_istore (lv' := [(5, .int 0), (4, .int 8), (2, .long r_6), (1, .int r_5), (0, .ref a0_)]) hx hb dX2_readField_144 hl (by decide) rfl (fun ls hl => ?_)
            refine lv_aload_n hx hb dX2_readField_146 rfl (lv_at hl 4 rfl) ?_
            refine g_getk (C := RX2) (T := TX2) (N := 16) hx hb hts (mc_ inX2) hown hK g rfl 0 (by decide) rfl (hts _ (List.mem_cons_of_mem _ t_416)) (fun _ h9 => h9) 3 rfl dX2_readField_147 ?_
            refine g_calli (va_runV (As := []) (rest := []) ⟨hx, hb, hml, hown, hts⟩ (r_X8_kind_2 l dC dI L kd tys fr_100 H.size g.2.2.2.1 q0_ mq0_ kq0_ x_208 h_209 (g.fcts [0] rfl)) (cwV 0 hts (gV_ t_1118 t_1119 t_1120 t_184 t_1121) rfl rfl rfl (by decide +kernel) ⟨(Nat.le_of_ble_eq_true rfl), (Nat.le_of_ble_eq_true rfl)⟩) (pre3V g hK mq0_ kq0_ (by decide) (q := (RX8, TX8, 10)) rfl) rfl rfl hl.1 rfl (lv_room (Nat.le_of_ble_eq_true rfl)) dX2_readField_150 ⟨(Nat.le_of_ble_eq_true rfl), (Nat.le_of_ble_eq_true rfl)⟩) g hK (by decide) (by decide) (fx' := [(8, 6, q0_, .int x_208), (8, 8, q0_, .int x_210), (9, 2, q1_, .int x_14), (2, 0, a0_, .ref q0_), (2, 4, a0_, .ref q1_)]) rfl (fun r_754 fr_754 H locs hp hMr_754 g => ?_)
            obtain ⟨h_755, -⟩ := hp
            obtain rfl : r_754 = 0 := h_755
            refine lv_bipush (v := 61) hx hb dX2_readField_153 (by decide) ?_
            refine lv_icmp_ne (tgt := 173) hx hb dX2_readField_155 (by decide) (fun c_ => ?_) (fun c_ => absurd c_ (by decide))
            refine lv_aload_n hx hb dX2_readField_173 rfl (lv_at hl 4 rfl) ?_
            refine g_getk (C := RX2) (T := TX2) (N := 16) hx hb hts (mc_ inX2) hown hK g rfl 0 (by decide) rfl (hts _ (List.mem_cons_of_mem _ t_416)) (fun _ h9 => h9) 3 rfl dX2_readField_174 ?_
            refine lv_bipush (v := 59) hx hb dX2_readField_177 (by decide) ?_
            refine g_callv (va_runV (As := [.int 59]) (rest := []) ⟨hx, hb, hml, hown, hts⟩ (r_X8_take_2 l dC dI L kd tys fr_754 H.size g.2.2.2.1 q0_ mq0_ kq0_ 59 x_208 h_209 x_210 h_211 (g.fcts [0, 1] rfl)) (cwV 1 hts (gV_ t_1098 t_1099 t_1100 t_184 t_1101) rfl rfl rfl (by decide +kernel) ⟨(Nat.le_of_ble_eq_true rfl), (Nat.le_of_ble_eq_true rfl)⟩) (pre3V g hK mq0_ kq0_ (by decide) (q := (RX8, TX8, 10)) rfl) rfl rfl hl.1 rfl (lv_room (Nat.le_of_ble_eq_true rfl)) dX2_readField_179 ⟨(Nat.le_of_ble_eq_true rfl), (Nat.le_of_ble_eq_true rfl)⟩) g hK (by decide) (by decide) (fx' := [(8, 8, q0_, .int x_210), (9, 2, q1_, .int x_14), (2, 0, a0_, .ref q0_), (2, 4, a0_, .ref q1_)]) rfl (fun fr_756 H locs hp hMr_756 g => ?_)
            obtain ⟨x_757, h_758, hF_759⟩ := hp
            have g := g.more hF_759
            refine lv_aload_n hx hb dX2_readField_182 rfl (lv_at hl 4 rfl) ?_
            refine g_getk (C := RX2) (T := TX2) (N := 16) hx hb hts (mc_ inX2) hown hK g rfl 0 (by decide) rfl (hts _ (List.mem_cons_of_mem _ t_416)) (fun _ h9 => h9) 3 rfl dX2_readField_183 ?_
            refine g_getk (C := RX8) (T := TX8) (N := 10) hx hb hts (mc_ inX8) hown hK g rfl 8 (by decide) rfl (hts _ (List.mem_cons_of_mem _ t_294)) (fun _ h9 => h9) 1 rfl dX2_readField_186 ?_
            have kb_0 : bd 0 0 (0 : Int32) := ⟨by decide, by decide⟩
            refine lv_if_ne (tgt := 204) hx hb dX2_readField_189 (by decide) (fun c_760 => ?_) (fun c_760 => ?_)
            · have fc_760 := neq_f c_760
              subst hQ
              exact W.vret hx hb hr (fun t ht hW => ⟨⟨_, rfl, Or.inr (⟨x_757, h_758, x_210, h_211, (g.fcts [0, 1] rfl)⟩), q3_of g hK ht hW⟩, g.2.2.1.F ht⟩) g.2.2.1.2.2 dX2_readField_204
            · have fc_760 := eq_f c_760
              have b_761 : bd 1 0 x_210 := eqX fc_760 h_211 kb_0 (by decide)
              exact bd_no b_761 (by decide)
          · have g := g.more hF_217
            refine lv_istore (lv' := [(4, .int r_100), (2, .long r_6), (1, .int r_5), (0, .ref a0_)]) hx hb dX2_readField_117 hl (by decide) rfl (fun ls hl => ?_)
            refine lv_goto (tgt := 143) hx hb dX2_readField_119 (by decide) ?_
            refine lv_iconst (v := 0) hx hb dX2_readField_143 (by decide) ?_
            refine lv_istore (lv' := [(5, .int 0), (4, .int r_100), (2, .long r_6), (1, .int r_5), (0, .ref a0_)]) hx hb dX2_readField_144 hl (by decide) rfl (fun ls hl => ?_)
            refine lv_aload_n hx hb dX2_readField_146 rfl (lv_at hl 4 rfl) ?_
            refine g_getk (C := RX2) (T := TX2) (N := 16) hx hb hts (mc_ inX2) hown hK g rfl 0 (by decide) rfl (hts _ (List.mem_cons_of_mem _ t_416)) (fun _ h9 => h9) 3 rfl dX2_readField_147 ?_
            refine g_calli (va_runV (As := []) (rest := []) ⟨hx, hb, hml, hown, hts⟩ (r_X8_kind_2 l dC dI L kd tys fr_100 H.size g.2.2.2.1 q0_ mq0_ kq0_ x_213 h_214 (g.fcts [0] rfl)) (cwV 0 hts (gV_ t_1118 t_1119 t_1120 t_184 t_1121) rfl rfl rfl (by decide +kernel) ⟨(Nat.le_of_ble_eq_true rfl), (Nat.le_of_ble_eq_true rfl)⟩) (pre3V g hK mq0_ kq0_ (by decide) (q := (RX8, TX8, 10)) rfl) rfl rfl hl.1 rfl (lv_room (Nat.le_of_ble_eq_true rfl)) dX2_readField_150 ⟨(Nat.le_of_ble_eq_true rfl), (Nat.le_of_ble_eq_true rfl)⟩) g hK (by decide) (by decide) (fx' := [(8, 6, q0_, .int x_213), (8, 8, q0_, .int x_215), (9, 2, q1_, .int x_14), (2, 0, a0_, .ref q0_), (2, 4, a0_, .ref q1_)]) rfl (fun r_762 fr_762 H locs hp hMr_762 g => ?_)
            obtain ⟨h_763, -⟩ := hp
            obtain rfl : r_762 = 0 := h_763
            refine lv_bipush (v := 61) hx hb dX2_readField_153 (by decide) ?_
            refine lv_icmp_ne (tgt := 173) hx hb dX2_readField_155 (by decide) (fun c_ => ?_) (fun c_ => absurd c_ (by decide))
            refine lv_aload_n hx hb dX2_readField_173 rfl (lv_at hl 4 rfl) ?_
            refine g_getk (C := RX2) (T := TX2) (N := 16) hx hb hts (mc_ inX2) hown hK g rfl 0 (by decide) rfl (hts _ (List.mem_cons_of_mem _ t_416)) (fun _ h9 => h9) 3 rfl dX2_readField_174 ?_
            refine lv_bipush (v := 59) hx hb dX2_readField_177 (by decide) ?_
            refine g_callv (va_runV (As := [.int 59]) (rest := []) ⟨hx, hb, hml, hown, hts⟩ (r_X8_take_2 l dC dI L kd tys fr_762 H.size g.2.2.2.1 q0_ mq0_ kq0_ 59 x_213 h_214 x_215 h_216 (g.fcts [0, 1] rfl)) (cwV 1 hts (gV_ t_1098 t_1099 t_1100 t_184 t_1101) rfl rfl rfl (by decide +kernel) ⟨(Nat.le_of_ble_eq_true rfl), (Nat.le_of_ble_eq_true rfl)⟩) (pre3V g hK mq0_ kq0_ (by decide) (q := (RX8, TX8, 10)) rfl) rfl rfl hl.1 rfl (lv_room (Nat.le_of_ble_eq_true rfl)) dX2_readField_179 ⟨(Nat.le_of_ble_eq_true rfl), (Nat.le_of_ble_eq_true rfl)⟩) g hK (by decide) (by decide) (fx' := [(8, 8, q0_, .int x_215), (9, 2, q1_, .int x_14), (2, 0, a0_, .ref q0_), (2, 4, a0_, .ref q1_)]) rfl (fun fr_764 H locs hp hMr_764 g => ?_)
            obtain ⟨x_765, h_766, hF_767⟩ := hp
            have g := g.more hF_767
            refine lv_aload_n hx hb dX2_readField_182 rfl (lv_at hl 4 rfl) ?_
            refine g_getk (C := RX2) (T := TX2) (N := 16) hx hb hts (mc_ inX2) hown hK g rfl 0 (by decide) rfl (hts _ (List.mem_cons_of_mem _ t_416)) (fun _ h9 => h9) 3 rfl dX2_readField_183 ?_
            refine g_getk (C := RX8) (T := TX8) (N := 10) hx hb hts (mc_ inX8) hown hK g rfl 8 (by decide) rfl (hts _ (List.mem_cons_of_mem _ t_294)) (fun _ h9 => h9) 1 rfl dX2_readField_186 ?_
            have kb_0 : bd 0 0 (0 : Int32) := ⟨by decide, by decide⟩
            refine lv_if_ne (tgt := 204) hx hb dX2_readField_189 (by decide) (fun c_768 => ?_) (fun c_768 => ?_)
            · have fc_768 := neq_f c_768
              subst hQ
              exact W.vret hx hb hr (fun t ht hW => ⟨⟨_, rfl, Or.inr (⟨x_765, h_766, x_215, h_216, (g.fcts [0, 1] rfl)⟩), q3_of g hK ht hW⟩, g.2.2.1.F ht⟩) g.2.2.1.2.2 dX2_readField_204
            · have fc_768 := eq_f c_768
              have b_769 : bd 1 0 x_215 := eqX fc_768 h_216 kb_0 (by decide)
              exact bd_no b_769 (by decide)
      · have fc_15 := nlt_f c_15
        have b_770 : bd 10 10 x_14 := leR fc_15 kb_10 bx_14 (by decide)
        refine lv_aload_n hx hb dX2_readField_82 rfl (lv_at hl 2 rfl) ?_
        refine g_getk (C := RX2) (T := TX2) (N := 16) hx hb hts (mc_ inX2) hown hK g rfl 0 (by decide) rfl (hts _ (List.mem_cons_of_mem _ t_416)) (fun _ h9 => h9) 2 rfl dX2_readField_83 ?_
        refine lv_iconst (v := 4) hx hb dX2_readField_86 (by decide) ?_
        refine lv_iload_n hx hb dX2_readField_87 rfl (lv_at hl 1 rfl) ?_
        have kb_4 : bd 4 4 (4 : Int32) := ⟨by decide, by decide⟩
        refine g_callv (va_runV (As := [.int 4, .int r_5]) (rest := []) ⟨hx, hb, hml, hown, hts⟩ (r_X8_fail l dC dI L kd tys fr_10 H.size g.2.2.2.1 q0_ mq0_ kq0_ 4 (bd_sub kb_4 (by decide)) r_5 y0_ by0_ (g.fcts [4] rfl)) (cwV 2 hts (gV_ t_1122 t_1107 t_1108 t_184 t_1109) rfl rfl rfl (by decide +kernel) ⟨(Nat.le_of_ble_eq_true rfl), (Nat.le_of_ble_eq_true rfl)⟩) (pre3V g hK mq0_ kq0_ (by decide) (q := (RX8, TX8, 10)) rfl) rfl rfl hl.1 rfl (lv_room (Nat.le_of_ble_eq_true rfl)) dX2_readField_88 ⟨(Nat.le_of_ble_eq_true rfl), (Nat.le_of_ble_eq_true rfl)⟩) g hK (by decide) (by decide) (fx' := [(9, 2, q1_, .int x_14), (2, 0, a0_, .ref q0_), (2, 4, a0_, .ref q1_)]) rfl (fun fr_771 H locs hp hMr_771 g => ?_)
        obtain ⟨x_772, h_773, hF_774⟩ := hp
        have g := g.more hF_774
        refine lv_aload_n hx hb dX2_readField_91 rfl (lv_at hl 2 rfl) ?_
        refine g_getk (C := RX2) (T := TX2) (N := 16) hx hb hts (mc_ inX2) hown hK g rfl 0 (by decide) rfl (hts _ (List.mem_cons_of_mem _ t_416)) (fun _ h9 => h9) 3 rfl dX2_readField_92 ?_
        have kb_1201 : bd 1201 1201 (1201 : Int32) := ⟨by decide, by decide⟩
        refine g_callv (va_runV (As := []) (rest := []) ⟨hx, hb, hml, hown, hts⟩ (r_X8_next_2 l dC dI L kd tys fr_771 H.size g.2.2.2.1 q0_ mq0_ kq0_ 1201 kb_1201 (g.fcts [0] rfl)) (cwV 0 hts (gV_ t_1131 t_1103 t_1104 t_184 t_1105) rfl rfl rfl (by decide +kernel) ⟨(Nat.le_of_ble_eq_true rfl), (Nat.le_of_ble_eq_true rfl)⟩) (pre3V g hK mq0_ kq0_ (by decide) (q := (RX8, TX8, 10)) rfl) rfl rfl hl.1 rfl (lv_room (Nat.le_of_ble_eq_true rfl)) dX2_readField_95 ⟨(Nat.le_of_ble_eq_true rfl), (Nat.le_of_ble_eq_true rfl)⟩) g hK (by decide) (by decide) (fx' := [(8, 6, q0_, .int 1201), (8, 8, q0_, .int x_772), (9, 2, q1_, .int x_14), (2, 0, a0_, .ref q0_), (2, 4, a0_, .ref q1_)]) rfl (fun fr_775 H locs hp hMr_775 g => ?_)
        refine lv_iconst (v := 0) hx hb dX2_readField_98 (by decide) ?_
        refine lv_istore (lv' := [(4, .int 0), (2, .long r_6), (1, .int r_5), (0, .ref a0_)]) hx hb dX2_readField_99 hl (by decide) rfl (fun ls hl => ?_)
        refine lv_aload_n hx hb dX2_readField_101 rfl (lv_at hl 3 rfl) ?_
        refine g_getk (C := RX2) (T := TX2) (N := 16) hx hb hts (mc_ inX2) hown hK g rfl 0 (by decide) rfl (hts _ (List.mem_cons_of_mem _ t_416)) (fun _ h9 => h9) 3 rfl dX2_readField_102 ?_
        refine g_calli (va_runV (As := []) (rest := []) ⟨hx, hb, hml, hown, hts⟩ (r_X8_kind_2 l dC dI L kd tys fr_775 H.size g.2.2.2.1 q0_ mq0_ kq0_ 1201 kb_1201 (g.fcts [0] rfl)) (cwV 0 hts (gV_ t_1118 t_1119 t_1120 t_184 t_1121) rfl rfl rfl (by decide +kernel) ⟨(Nat.le_of_ble_eq_true rfl), (Nat.le_of_ble_eq_true rfl)⟩) (pre3V g hK mq0_ kq0_ (by decide) (q := (RX8, TX8, 10)) rfl) rfl rfl hl.1 rfl (lv_room (Nat.le_of_ble_eq_true rfl)) dX2_readField_105 ⟨(Nat.le_of_ble_eq_true rfl), (Nat.le_of_ble_eq_true rfl)⟩) g hK (by decide) (by decide) (fx' := [(8, 6, q0_, .int 1201), (8, 8, q0_, .int x_772), (9, 2, q1_, .int x_14), (2, 0, a0_, .ref q0_), (2, 4, a0_, .ref q1_)]) rfl (fun r_776 fr_776 H locs hp hMr_776 g => ?_)
        obtain ⟨h_777, -⟩ := hp
        obtain rfl : r_776 = 0 := h_777
        refine lv_bipush (v := 91) hx hb dX2_readField_108 (by decide) ?_
        refine lv_icmp_ne (tgt := 122) hx hb dX2_readField_110 (by decide) (fun c_ => ?_) (fun c_ => absurd c_ (by decide))
        refine lv_aload_n hx hb dX2_readField_122 rfl (lv_at hl 3 rfl) ?_
        refine g_getk (C := RX2) (T := TX2) (N := 16) hx hb hts (mc_ inX2) hown hK g rfl 4 (by decide) rfl (hts _ (List.mem_cons_of_mem _ t_420)) (fun _ h9 => h9) 4 rfl dX2_readField_123 ?_
        refine g_geti (C := RX9) (T := TX9) (N := 13) hx hb hts (mc_ inX9) hown hK g mq1_ kq1_ (by decide) rfl 7 (by decide) rfl (hts _ (List.mem_cons_of_mem _ t_496)) (fun _ h9 => h9) rfl dX2_readField_126 (fun x_778 bx_778 g => ?_)
        refine lv_bipush (v := 24) hx hb dX2_readField_129 (by decide) ?_
        have kb_24 : bd 24 24 (24 : Int32) := ⟨by decide, by decide⟩
        refine lv_icmp_lt (tgt := 143) hx hb dX2_readField_131 (by decide) (fun c_779 => ?_) (fun c_779 => ?_)
        · have fc_779 := lt_f c_779
          have b_780 : bd 0 23 x_778 := ltL fc_779 bx_778 kb_24 (by decide)
          refine lv_iconst (v := 0) hx hb dX2_readField_143 (by decide) ?_
          refine lv_istore (lv' := [(5, .int 0), (4, .int 0), (2, .long r_6), (1, .int r_5), (0, .ref a0_)]) hx hb dX2_readField_144 hl (by decide) rfl (fun ls hl => ?_)
          refine lv_aload_n hx hb dX2_readField_146 rfl (lv_at hl 4 rfl) ?_
          refine g_getk (C := RX2) (T := TX2) (N := 16) hx hb hts (mc_ inX2) hown hK g rfl 0 (by decide) rfl (hts _ (List.mem_cons_of_mem _ t_416)) (fun _ h9 => h9) 4 rfl dX2_readField_147 ?_
          refine g_calli (va_runV (As := []) (rest := []) ⟨hx, hb, hml, hown, hts⟩ (r_X8_kind_2 l dC dI L kd tys fr_776 H.size g.2.2.2.1 q0_ mq0_ kq0_ 1201 kb_1201 (g.fcts [1] rfl)) (cwV 0 hts (gV_ t_1118 t_1119 t_1120 t_184 t_1121) rfl rfl rfl (by decide +kernel) ⟨(Nat.le_of_ble_eq_true rfl), (Nat.le_of_ble_eq_true rfl)⟩) (pre3V g hK mq0_ kq0_ (by decide) (q := (RX8, TX8, 10)) rfl) rfl rfl hl.1 rfl (lv_room (Nat.le_of_ble_eq_true rfl)) dX2_readField_150 ⟨(Nat.le_of_ble_eq_true rfl), (Nat.le_of_ble_eq_true rfl)⟩) g hK (by decide) (by decide) (fx' := [(9, 7, q1_, .int x_778), (8, 6, q0_, .int 1201), (8, 8, q0_, .int x_772), (9, 2, q1_, .int x_14), (2, 0, a0_, .ref q0_), (2, 4, a0_, .ref q1_)]) rfl (fun r_781 fr_781 H locs hp hMr_781 g => ?_)
          obtain ⟨h_782, -⟩ := hp
          obtain rfl : r_781 = 0 := h_782
          refine lv_bipush (v := 61) hx hb dX2_readField_153 (by decide) ?_
          refine lv_icmp_ne (tgt := 173) hx hb dX2_readField_155 (by decide) (fun c_ => ?_) (fun c_ => absurd c_ (by decide))
          refine lv_aload_n hx hb dX2_readField_173 rfl (lv_at hl 4 rfl) ?_
          refine g_getk (C := RX2) (T := TX2) (N := 16) hx hb hts (mc_ inX2) hown hK g rfl 0 (by decide) rfl (hts _ (List.mem_cons_of_mem _ t_416)) (fun _ h9 => h9) 4 rfl dX2_readField_174 ?_
          refine lv_bipush (v := 59) hx hb dX2_readField_177 (by decide) ?_
          refine g_callv (va_runV (As := [.int 59]) (rest := []) ⟨hx, hb, hml, hown, hts⟩ (r_X8_take_2 l dC dI L kd tys fr_781 H.size g.2.2.2.1 q0_ mq0_ kq0_ 59 1201 kb_1201 x_772 h_773 (g.fcts [1, 2] rfl)) (cwV 1 hts (gV_ t_1098 t_1099 t_1100 t_184 t_1101) rfl rfl rfl (by decide +kernel) ⟨(Nat.le_of_ble_eq_true rfl), (Nat.le_of_ble_eq_true rfl)⟩) (pre3V g hK mq0_ kq0_ (by decide) (q := (RX8, TX8, 10)) rfl) rfl rfl hl.1 rfl (lv_room (Nat.le_of_ble_eq_true rfl)) dX2_readField_179 ⟨(Nat.le_of_ble_eq_true rfl), (Nat.le_of_ble_eq_true rfl)⟩) g hK (by decide) (by decide) (fx' := [(9, 7, q1_, .int x_778), (8, 8, q0_, .int x_772), (9, 2, q1_, .int x_14), (2, 0, a0_, .ref q0_), (2, 4, a0_, .ref q1_)]) rfl (fun fr_783 H locs hp hMr_783 g => ?_)
          obtain ⟨x_784, h_785, hF_786⟩ := hp
          have g := g.more hF_786
          refine lv_aload_n hx hb dX2_readField_182 rfl (lv_at hl 4 rfl) ?_
          refine g_getk (C := RX2) (T := TX2) (N := 16) hx hb hts (mc_ inX2) hown hK g rfl 0 (by decide) rfl (hts _ (List.mem_cons_of_mem _ t_416)) (fun _ h9 => h9) 4 rfl dX2_readField_183 ?_
          refine g_getk (C := RX8) (T := TX8) (N := 10) hx hb hts (mc_ inX8) hown hK g rfl 8 (by decide) rfl (hts _ (List.mem_cons_of_mem _ t_294)) (fun _ h9 => h9) 2 rfl dX2_readField_186 ?_
          have kb_0 : bd 0 0 (0 : Int32) := ⟨by decide, by decide⟩
          refine lv_if_ne (tgt := 204) hx hb dX2_readField_189 (by decide) (fun c_787 => ?_) (fun c_787 => ?_)
          · have fc_787 := neq_f c_787
            subst hQ
            exact W.vret hx hb hr (fun t ht hW => ⟨⟨_, rfl, Or.inr (⟨x_784, h_785, x_772, h_773, (g.fcts [0, 2] rfl)⟩), q3_of g hK ht hW⟩, g.2.2.1.F ht⟩) g.2.2.1.2.2 dX2_readField_204
          · have fc_787 := eq_f c_787
            have b_788 : bd 1 0 x_772 := eqX fc_787 h_773 kb_0 (by decide)
            exact bd_no b_788 (by decide)
        · have fc_779 := nlt_f c_779
          have b_789 : bd 24 24 x_778 := leR fc_779 kb_24 bx_778 (by decide)
          refine lv_aload_n hx hb dX2_readField_134 rfl (lv_at hl 3 rfl) ?_
          refine g_getk (C := RX2) (T := TX2) (N := 16) hx hb hts (mc_ inX2) hown hK g rfl 0 (by decide) rfl (hts _ (List.mem_cons_of_mem _ t_416)) (fun _ h9 => h9) 4 rfl dX2_readField_135 ?_
          refine lv_iconst (v := 4) hx hb dX2_readField_138 (by decide) ?_
          refine lv_iload_n hx hb dX2_readField_139 rfl (lv_at hl 2 rfl) ?_
          refine g_callv (va_runV (As := [.int 4, .int r_5]) (rest := []) ⟨hx, hb, hml, hown, hts⟩ (r_X8_fail_2 l dC dI L kd tys fr_776 H.size g.2.2.2.1 q0_ mq0_ kq0_ 4 (bd_sub kb_4 (by decide)) r_5 x_772 h_773 (g.fcts [2] rfl)) (cwV 2 hts (gV_ t_1122 t_1107 t_1108 t_184 t_1109) rfl rfl rfl (by decide +kernel) ⟨(Nat.le_of_ble_eq_true rfl), (Nat.le_of_ble_eq_true rfl)⟩) (pre3V g hK mq0_ kq0_ (by decide) (q := (RX8, TX8, 10)) rfl) rfl rfl hl.1 rfl (lv_room (Nat.le_of_ble_eq_true rfl)) dX2_readField_140 ⟨(Nat.le_of_ble_eq_true rfl), (Nat.le_of_ble_eq_true rfl)⟩) g hK (by decide) (by decide) (fx' := [(9, 7, q1_, .int x_778), (8, 8, q0_, .int x_772), (9, 2, q1_, .int x_14), (2, 0, a0_, .ref q0_), (2, 4, a0_, .ref q1_)]) rfl (fun fr_790 H locs hp hMr_790 g => ?_)
          have hF_791 := hp
          have g := g.more hF_791
          refine lv_iconst (v := 0) hx hb dX2_readField_143 (by decide) ?_
          refine lv_istore (lv' := [(5, .int 0), (4, .int 0), (2, .long r_6), (1, .int r_5), (0, .ref a0_)]) hx hb dX2_readField_144 hl (by decide) rfl (fun ls hl => ?_)
          refine lv_aload_n hx hb dX2_readField_146 rfl (lv_at hl 4 rfl) ?_
          refine g_getk (C := RX2) (T := TX2) (N := 16) hx hb hts (mc_ inX2) hown hK g rfl 0 (by decide) rfl (hts _ (List.mem_cons_of_mem _ t_416)) (fun _ h9 => h9) 4 rfl dX2_readField_147 ?_
          refine g_calli (va_runV (As := []) (rest := []) ⟨hx, hb, hml, hown, hts⟩ (r_X8_kind_2 l dC dI L kd tys fr_790 H.size g.2.2.2.1 q0_ mq0_ kq0_ 1201 kb_1201 (g.fcts [0] rfl)) (cwV 0 hts (gV_ t_1118 t_1119 t_1120 t_184 t_1121) rfl rfl rfl (by decide +kernel) ⟨(Nat.le_of_ble_eq_true rfl), (Nat.le_of_ble_eq_true rfl)⟩) (pre3V g hK mq0_ kq0_ (by decide) (q := (RX8, TX8, 10)) rfl) rfl rfl hl.1 rfl (lv_room (Nat.le_of_ble_eq_true rfl)) dX2_readField_150 ⟨(Nat.le_of_ble_eq_true rfl), (Nat.le_of_ble_eq_true rfl)⟩) g hK (by decide) (by decide) (fx' := [(8, 6, q0_, .int 1201), (9, 7, q1_, .int x_778), (8, 8, q0_, .int x_772), (9, 2, q1_, .int x_14), (2, 0, a0_, .ref q0_), (2, 4, a0_, .ref q1_)]) rfl (fun r_792 fr_792 H locs hp hMr_792 g => ?_)
          obtain ⟨h_793, -⟩ := hp
          obtain rfl : r_792 = 0 := h_793
          refine lv_bipush (v := 61) hx hb dX2_readField_153 (by decide) ?_
          refine lv_icmp_ne (tgt := 173) hx hb dX2_readField_155 (by decide) (fun c_ => ?_) (fun c_ => absurd c_ (by decide))
          refine lv_aload_n hx hb dX2_readField_173 rfl (lv_at hl 4 rfl) ?_
          refine g_getk (C := RX2) (T := TX2) (N := 16) hx hb hts (mc_ inX2) hown hK g rfl 0 (by decide) rfl (hts _ (List.mem_cons_of_mem _ t_416)) (fun _ h9 => h9) 4 rfl dX2_readField_174 ?_
          refine lv_bipush (v := 59) hx hb dX2_readField_177 (by decide) ?_
          refine g_callv (va_runV (As := [.int 59]) (rest := []) ⟨hx, hb, hml, hown, hts⟩ (r_X8_take_2 l dC dI L kd tys fr_792 H.size g.2.2.2.1 q0_ mq0_ kq0_ 59 1201 kb_1201 x_772 h_773 (g.fcts [0, 2] rfl)) (cwV 1 hts (gV_ t_1098 t_1099 t_1100 t_184 t_1101) rfl rfl rfl (by decide +kernel) ⟨(Nat.le_of_ble_eq_true rfl), (Nat.le_of_ble_eq_true rfl)⟩) (pre3V g hK mq0_ kq0_ (by decide) (q := (RX8, TX8, 10)) rfl) rfl rfl hl.1 rfl (lv_room (Nat.le_of_ble_eq_true rfl)) dX2_readField_179 ⟨(Nat.le_of_ble_eq_true rfl), (Nat.le_of_ble_eq_true rfl)⟩) g hK (by decide) (by decide) (fx' := [(9, 7, q1_, .int x_778), (8, 8, q0_, .int x_772), (9, 2, q1_, .int x_14), (2, 0, a0_, .ref q0_), (2, 4, a0_, .ref q1_)]) rfl (fun fr_794 H locs hp hMr_794 g => ?_)
          obtain ⟨x_795, h_796, hF_797⟩ := hp
          have g := g.more hF_797
          refine lv_aload_n hx hb dX2_readField_182 rfl (lv_at hl 4 rfl) ?_
          refine g_getk (C := RX2) (T := TX2) (N := 16) hx hb hts (mc_ inX2) hown hK g rfl 0 (by decide) rfl (hts _ (List.mem_cons_of_mem _ t_416)) (fun _ h9 => h9) 4 rfl dX2_readField_183 ?_
          refine g_getk (C := RX8) (T := TX8) (N := 10) hx hb hts (mc_ inX8) hown hK g rfl 8 (by decide) rfl (hts _ (List.mem_cons_of_mem _ t_294)) (fun _ h9 => h9) 2 rfl dX2_readField_186 ?_
          have kb_0 : bd 0 0 (0 : Int32) := ⟨by decide, by decide⟩
          refine lv_if_ne (tgt := 204) hx hb dX2_readField_189 (by decide) (fun c_798 => ?_) (fun c_798 => ?_)
          · have fc_798 := neq_f c_798
            subst hQ
            exact W.vret hx hb hr (fun t ht hW => ⟨⟨_, rfl, Or.inr (⟨x_795, h_796, x_772, h_773, (g.fcts [0, 2] rfl)⟩), q3_of g hK ht hW⟩, g.2.2.1.F ht⟩) g.2.2.1.2.2 dX2_readField_204
          · have fc_798 := eq_f c_798
            have b_799 : bd 1 0 x_772 := eqX fc_798 h_773 kb_0 (by decide)
            exact bd_no b_799 (by decide)
    · have fc_12 := neq_f c_12
      have b_800 : bd 0 9 r_10 := neX fc_12 h_11 kb_m1 (by decide)
      refine lv_aload_n hx hb dX2_readField_58 rfl (lv_at hl 2 rfl) ?_
      refine g_getk (C := RX2) (T := TX2) (N := 16) hx hb hts (mc_ inX2) hown hK g rfl 0 (by decide) rfl (hts _ (List.mem_cons_of_mem _ t_416)) (fun _ h9 => h9) 1 rfl dX2_readField_59 ?_
      refine lv_iconst (v := 2) hx hb dX2_readField_62 (by decide) ?_
      refine lv_iload_n hx hb dX2_readField_63 rfl (lv_at hl 1 rfl) ?_
      have kb_2 : bd 2 2 (2 : Int32) := ⟨by decide, by decide⟩
      refine g_callv (va_runV (As := [.int 2, .int r_5]) (rest := []) ⟨hx, hb, hml, hown, hts⟩ (r_X8_fail l dC dI L kd tys fr_10 H.size g.2.2.2.1 q0_ mq0_ kq0_ 2 (bd_sub kb_2 (by decide)) r_5 y0_ by0_ (g.fcts [3] rfl)) (cwV 2 hts (gV_ t_1122 t_1107 t_1108 t_184 t_1109) rfl rfl rfl (by decide +kernel) ⟨(Nat.le_of_ble_eq_true rfl), (Nat.le_of_ble_eq_true rfl)⟩) (pre3V g hK mq0_ kq0_ (by decide) (q := (RX8, TX8, 10)) rfl) rfl rfl hl.1 rfl (lv_room (Nat.le_of_ble_eq_true rfl)) dX2_readField_64 ⟨(Nat.le_of_ble_eq_true rfl), (Nat.le_of_ble_eq_true rfl)⟩) g hK (by decide) (by decide) (fx' := [(2, 0, a0_, .ref q0_), (2, 4, a0_, .ref q1_)]) rfl (fun fr_801 H locs hp hMr_801 g => ?_)
      obtain ⟨x_802, h_803, hF_804⟩ := hp
      have g := g.more hF_804
      refine lv_goto (tgt := 91) hx hb dX2_readField_67 (by decide) ?_
      refine lv_aload_n hx hb dX2_readField_91 rfl (lv_at hl 2 rfl) ?_
      refine g_getk (C := RX2) (T := TX2) (N := 16) hx hb hts (mc_ inX2) hown hK g rfl 0 (by decide) rfl (hts _ (List.mem_cons_of_mem _ t_416)) (fun _ h9 => h9) 2 rfl dX2_readField_92 ?_
      have kb_1201 : bd 1201 1201 (1201 : Int32) := ⟨by decide, by decide⟩
      refine g_callv (va_runV (As := []) (rest := []) ⟨hx, hb, hml, hown, hts⟩ (r_X8_next_2 l dC dI L kd tys fr_801 H.size g.2.2.2.1 q0_ mq0_ kq0_ 1201 kb_1201 (g.fcts [0] rfl)) (cwV 0 hts (gV_ t_1131 t_1103 t_1104 t_184 t_1105) rfl rfl rfl (by decide +kernel) ⟨(Nat.le_of_ble_eq_true rfl), (Nat.le_of_ble_eq_true rfl)⟩) (pre3V g hK mq0_ kq0_ (by decide) (q := (RX8, TX8, 10)) rfl) rfl rfl hl.1 rfl (lv_room (Nat.le_of_ble_eq_true rfl)) dX2_readField_95 ⟨(Nat.le_of_ble_eq_true rfl), (Nat.le_of_ble_eq_true rfl)⟩) g hK (by decide) (by decide) (fx' := [(8, 6, q0_, .int 1201), (8, 8, q0_, .int x_802), (2, 0, a0_, .ref q0_), (2, 4, a0_, .ref q1_)]) rfl (fun fr_805 H locs hp hMr_805 g => ?_)
      refine lv_iconst (v := 0) hx hb dX2_readField_98 (by decide) ?_
      refine lv_istore (lv' := [(4, .int 0), (2, .long r_6), (1, .int r_5), (0, .ref a0_)]) hx hb dX2_readField_99 hl (by decide) rfl (fun ls hl => ?_)
      refine lv_aload_n hx hb dX2_readField_101 rfl (lv_at hl 3 rfl) ?_
      refine g_getk (C := RX2) (T := TX2) (N := 16) hx hb hts (mc_ inX2) hown hK g rfl 0 (by decide) rfl (hts _ (List.mem_cons_of_mem _ t_416)) (fun _ h9 => h9) 2 rfl dX2_readField_102 ?_
      refine g_calli (va_runV (As := []) (rest := []) ⟨hx, hb, hml, hown, hts⟩ (r_X8_kind_2 l dC dI L kd tys fr_805 H.size g.2.2.2.1 q0_ mq0_ kq0_ 1201 kb_1201 (g.fcts [0] rfl)) (cwV 0 hts (gV_ t_1118 t_1119 t_1120 t_184 t_1121) rfl rfl rfl (by decide +kernel) ⟨(Nat.le_of_ble_eq_true rfl), (Nat.le_of_ble_eq_true rfl)⟩) (pre3V g hK mq0_ kq0_ (by decide) (q := (RX8, TX8, 10)) rfl) rfl rfl hl.1 rfl (lv_room (Nat.le_of_ble_eq_true rfl)) dX2_readField_105 ⟨(Nat.le_of_ble_eq_true rfl), (Nat.le_of_ble_eq_true rfl)⟩) g hK (by decide) (by decide) (fx' := [(8, 6, q0_, .int 1201), (8, 8, q0_, .int x_802), (2, 0, a0_, .ref q0_), (2, 4, a0_, .ref q1_)]) rfl (fun r_806 fr_806 H locs hp hMr_806 g => ?_)
      obtain ⟨h_807, -⟩ := hp
      obtain rfl : r_806 = 0 := h_807
      refine lv_bipush (v := 91) hx hb dX2_readField_108 (by decide) ?_
      refine lv_icmp_ne (tgt := 122) hx hb dX2_readField_110 (by decide) (fun c_ => ?_) (fun c_ => absurd c_ (by decide))
      refine lv_aload_n hx hb dX2_readField_122 rfl (lv_at hl 3 rfl) ?_
      refine g_getk (C := RX2) (T := TX2) (N := 16) hx hb hts (mc_ inX2) hown hK g rfl 4 (by decide) rfl (hts _ (List.mem_cons_of_mem _ t_420)) (fun _ h9 => h9) 3 rfl dX2_readField_123 ?_
      refine g_geti (C := RX9) (T := TX9) (N := 13) hx hb hts (mc_ inX9) hown hK g mq1_ kq1_ (by decide) rfl 7 (by decide) rfl (hts _ (List.mem_cons_of_mem _ t_496)) (fun _ h9 => h9) rfl dX2_readField_126 (fun x_808 bx_808 g => ?_)
      refine lv_bipush (v := 24) hx hb dX2_readField_129 (by decide) ?_
      have kb_24 : bd 24 24 (24 : Int32) := ⟨by decide, by decide⟩
      refine lv_icmp_lt (tgt := 143) hx hb dX2_readField_131 (by decide) (fun c_809 => ?_) (fun c_809 => ?_)
      · have fc_809 := lt_f c_809
        have b_810 : bd 0 23 x_808 := ltL fc_809 bx_808 kb_24 (by decide)
        refine lv_iconst (v := 0) hx hb dX2_readField_143 (by decide) ?_
        refine lv_istore (lv' := [(5, .int 0), (4, .int 0), (2, .long r_6), (1, .int r_5), (0, .ref a0_)]) hx hb dX2_readField_144 hl (by decide) rfl (fun ls hl => ?_)
        refine lv_aload_n hx hb dX2_readField_146 rfl (lv_at hl 4 rfl) ?_
        refine g_getk (C := RX2) (T := TX2) (N := 16) hx hb hts (mc_ inX2) hown hK g rfl 0 (by decide) rfl (hts _ (List.mem_cons_of_mem _ t_416)) (fun _ h9 => h9) 3 rfl dX2_readField_147 ?_
        refine g_calli (va_runV (As := []) (rest := []) ⟨hx, hb, hml, hown, hts⟩ (r_X8_kind_2 l dC dI L kd tys fr_806 H.size g.2.2.2.1 q0_ mq0_ kq0_ 1201 kb_1201 (g.fcts [1] rfl)) (cwV 0 hts (gV_ t_1118 t_1119 t_1120 t_184 t_1121) rfl rfl rfl (by decide +kernel) ⟨(Nat.le_of_ble_eq_true rfl), (Nat.le_of_ble_eq_true rfl)⟩) (pre3V g hK mq0_ kq0_ (by decide) (q := (RX8, TX8, 10)) rfl) rfl rfl hl.1 rfl (lv_room (Nat.le_of_ble_eq_true rfl)) dX2_readField_150 ⟨(Nat.le_of_ble_eq_true rfl), (Nat.le_of_ble_eq_true rfl)⟩) g hK (by decide) (by decide) (fx' := [(9, 7, q1_, .int x_808), (8, 6, q0_, .int 1201), (8, 8, q0_, .int x_802), (2, 0, a0_, .ref q0_), (2, 4, a0_, .ref q1_)]) rfl (fun r_811 fr_811 H locs hp hMr_811 g => ?_)
        obtain ⟨h_812, -⟩ := hp
        obtain rfl : r_811 = 0 := h_812
        refine lv_bipush (v := 61) hx hb dX2_readField_153 (by decide) ?_
        refine lv_icmp_ne (tgt := 173) hx hb dX2_readField_155 (by decide) (fun c_ => ?_) (fun c_ => absurd c_ (by decide))
        refine lv_aload_n hx hb dX2_readField_173 rfl (lv_at hl 4 rfl) ?_
        refine g_getk (C := RX2) (T := TX2) (N := 16) hx hb hts (mc_ inX2) hown hK g rfl 0 (by decide) rfl (hts _ (List.mem_cons_of_mem _ t_416)) (fun _ h9 => h9) 3 rfl dX2_readField_174 ?_
        refine lv_bipush (v := 59) hx hb dX2_readField_177 (by decide) ?_
        refine g_callv (va_runV (As := [.int 59]) (rest := []) ⟨hx, hb, hml, hown, hts⟩ (r_X8_take_2 l dC dI L kd tys fr_811 H.size g.2.2.2.1 q0_ mq0_ kq0_ 59 1201 kb_1201 x_802 h_803 (g.fcts [1, 2] rfl)) (cwV 1 hts (gV_ t_1098 t_1099 t_1100 t_184 t_1101) rfl rfl rfl (by decide +kernel) ⟨(Nat.le_of_ble_eq_true rfl), (Nat.le_of_ble_eq_true rfl)⟩) (pre3V g hK mq0_ kq0_ (by decide) (q := (RX8, TX8, 10)) rfl) rfl rfl hl.1 rfl (lv_room (Nat.le_of_ble_eq_true rfl)) dX2_readField_179 ⟨(Nat.le_of_ble_eq_true rfl), (Nat.le_of_ble_eq_true rfl)⟩) g hK (by decide) (by decide) (fx' := [(9, 7, q1_, .int x_808), (8, 8, q0_, .int x_802), (2, 0, a0_, .ref q0_), (2, 4, a0_, .ref q1_)]) rfl (fun fr_813 H locs hp hMr_813 g => ?_)
        obtain ⟨x_814, h_815, hF_816⟩ := hp
        have g := g.more hF_816
        refine lv_aload_n hx hb dX2_readField_182 rfl (lv_at hl 4 rfl) ?_
        refine g_getk (C := RX2) (T := TX2) (N := 16) hx hb hts (mc_ inX2) hown hK g rfl 0 (by decide) rfl (hts _ (List.mem_cons_of_mem _ t_416)) (fun _ h9 => h9) 3 rfl dX2_readField_183 ?_
        refine g_getk (C := RX8) (T := TX8) (N := 10) hx hb hts (mc_ inX8) hown hK g rfl 8 (by decide) rfl (hts _ (List.mem_cons_of_mem _ t_294)) (fun _ h9 => h9) 2 rfl dX2_readField_186 ?_
        have kb_0 : bd 0 0 (0 : Int32) := ⟨by decide, by decide⟩
        refine lv_if_ne (tgt := 204) hx hb dX2_readField_189 (by decide) (fun c_817 => ?_) (fun c_817 => ?_)
        · have fc_817 := neq_f c_817
          subst hQ
          exact W.vret hx hb hr (fun t ht hW => ⟨⟨_, rfl, Or.inr (⟨x_814, h_815, x_802, h_803, (g.fcts [0, 2] rfl)⟩), q3_of g hK ht hW⟩, g.2.2.1.F ht⟩) g.2.2.1.2.2 dX2_readField_204
        · have fc_817 := eq_f c_817
          have b_818 : bd 1 0 x_802 := eqX fc_817 h_803 kb_0 (by decide)
          exact bd_no b_818 (by decide)
      · have fc_809 := nlt_f c_809
        have b_819 : bd 24 24 x_808 := leR fc_809 kb_24 bx_808 (by decide)
        refine lv_aload_n hx hb dX2_readField_134 rfl (lv_at hl 3 rfl) ?_
        refine g_getk (C := RX2) (T := TX2) (N := 16) hx hb hts (mc_ inX2) hown hK g rfl 0 (by decide) rfl (hts _ (List.mem_cons_of_mem _ t_416)) (fun _ h9 => h9) 3 rfl dX2_readField_135 ?_
        refine lv_iconst (v := 4) hx hb dX2_readField_138 (by decide) ?_
        refine lv_iload_n hx hb dX2_readField_139 rfl (lv_at hl 2 rfl) ?_
        have kb_4 : bd 4 4 (4 : Int32) := ⟨by decide, by decide⟩
        refine g_callv (va_runV (As := [.int 4, .int r_5]) (rest := []) ⟨hx, hb, hml, hown, hts⟩ (r_X8_fail_2 l dC dI L kd tys fr_806 H.size g.2.2.2.1 q0_ mq0_ kq0_ 4 (bd_sub kb_4 (by decide)) r_5 x_802 h_803 (g.fcts [2] rfl)) (cwV 2 hts (gV_ t_1122 t_1107 t_1108 t_184 t_1109) rfl rfl rfl (by decide +kernel) ⟨(Nat.le_of_ble_eq_true rfl), (Nat.le_of_ble_eq_true rfl)⟩) (pre3V g hK mq0_ kq0_ (by decide) (q := (RX8, TX8, 10)) rfl) rfl rfl hl.1 rfl (lv_room (Nat.le_of_ble_eq_true rfl)) dX2_readField_140 ⟨(Nat.le_of_ble_eq_true rfl), (Nat.le_of_ble_eq_true rfl)⟩) g hK (by decide) (by decide) (fx' := [(9, 7, q1_, .int x_808), (8, 8, q0_, .int x_802), (2, 0, a0_, .ref q0_), (2, 4, a0_, .ref q1_)]) rfl (fun fr_820 H locs hp hMr_820 g => ?_)
        have hF_821 := hp
        have g := g.more hF_821
        refine lv_iconst (v := 0) hx hb dX2_readField_143 (by decide) ?_
        refine lv_istore (lv' := [(5, .int 0), (4, .int 0), (2, .long r_6), (1, .int r_5), (0, .ref a0_)]) hx hb dX2_readField_144 hl (by decide) rfl (fun ls hl => ?_)
        refine lv_aload_n hx hb dX2_readField_146 rfl (lv_at hl 4 rfl) ?_
        refine g_getk (C := RX2) (T := TX2) (N := 16) hx hb hts (mc_ inX2) hown hK g rfl 0 (by decide) rfl (hts _ (List.mem_cons_of_mem _ t_416)) (fun _ h9 => h9) 3 rfl dX2_readField_147 ?_
        refine g_calli (va_runV (As := []) (rest := []) ⟨hx, hb, hml, hown, hts⟩ (r_X8_kind_2 l dC dI L kd tys fr_820 H.size g.2.2.2.1 q0_ mq0_ kq0_ 1201 kb_1201 (g.fcts [0] rfl)) (cwV 0 hts (gV_ t_1118 t_1119 t_1120 t_184 t_1121) rfl rfl rfl (by decide +kernel) ⟨(Nat.le_of_ble_eq_true rfl), (Nat.le_of_ble_eq_true rfl)⟩) (pre3V g hK mq0_ kq0_ (by decide) (q := (RX8, TX8, 10)) rfl) rfl rfl hl.1 rfl (lv_room (Nat.le_of_ble_eq_true rfl)) dX2_readField_150 ⟨(Nat.le_of_ble_eq_true rfl), (Nat.le_of_ble_eq_true rfl)⟩) g hK (by decide) (by decide) (fx' := [(8, 6, q0_, .int 1201), (9, 7, q1_, .int x_808), (8, 8, q0_, .int x_802), (2, 0, a0_, .ref q0_), (2, 4, a0_, .ref q1_)]) rfl (fun r_822 fr_822 H locs hp hMr_822 g => ?_)
        obtain ⟨h_823, -⟩ := hp
        obtain rfl : r_822 = 0 := h_823
        refine lv_bipush (v := 61) hx hb dX2_readField_153 (by decide) ?_
        refine lv_icmp_ne (tgt := 173) hx hb dX2_readField_155 (by decide) (fun c_ => ?_) (fun c_ => absurd c_ (by decide))
        refine lv_aload_n hx hb dX2_readField_173 rfl (lv_at hl 4 rfl) ?_
        refine g_getk (C := RX2) (T := TX2) (N := 16) hx hb hts (mc_ inX2) hown hK g rfl 0 (by decide) rfl (hts _ (List.mem_cons_of_mem _ t_416)) (fun _ h9 => h9) 3 rfl dX2_readField_174 ?_
        refine lv_bipush (v := 59) hx hb dX2_readField_177 (by decide) ?_
        refine g_callv (va_runV (As := [.int 59]) (rest := []) ⟨hx, hb, hml, hown, hts⟩ (r_X8_take_2 l dC dI L kd tys fr_822 H.size g.2.2.2.1 q0_ mq0_ kq0_ 59 1201 kb_1201 x_802 h_803 (g.fcts [0, 2] rfl)) (cwV 1 hts (gV_ t_1098 t_1099 t_1100 t_184 t_1101) rfl rfl rfl (by decide +kernel) ⟨(Nat.le_of_ble_eq_true rfl), (Nat.le_of_ble_eq_true rfl)⟩) (pre3V g hK mq0_ kq0_ (by decide) (q := (RX8, TX8, 10)) rfl) rfl rfl hl.1 rfl (lv_room (Nat.le_of_ble_eq_true rfl)) dX2_readField_179 ⟨(Nat.le_of_ble_eq_true rfl), (Nat.le_of_ble_eq_true rfl)⟩) g hK (by decide) (by decide) (fx' := [(9, 7, q1_, .int x_808), (8, 8, q0_, .int x_802), (2, 0, a0_, .ref q0_), (2, 4, a0_, .ref q1_)]) rfl (fun fr_824 H locs hp hMr_824 g => ?_)
        obtain ⟨x_825, h_826, hF_827⟩ := hp
        have g := g.more hF_827
        refine lv_aload_n hx hb dX2_readField_182 rfl (lv_at hl 4 rfl) ?_
        refine g_getk (C := RX2) (T := TX2) (N := 16) hx hb hts (mc_ inX2) hown hK g rfl 0 (by decide) rfl (hts _ (List.mem_cons_of_mem _ t_416)) (fun _ h9 => h9) 3 rfl dX2_readField_183 ?_
        refine g_getk (C := RX8) (T := TX8) (N := 10) hx hb hts (mc_ inX8) hown hK g rfl 8 (by decide) rfl (hts _ (List.mem_cons_of_mem _ t_294)) (fun _ h9 => h9) 2 rfl dX2_readField_186 ?_
        have kb_0 : bd 0 0 (0 : Int32) := ⟨by decide, by decide⟩
        refine lv_if_ne (tgt := 204) hx hb dX2_readField_189 (by decide) (fun c_828 => ?_) (fun c_828 => ?_)
        · have fc_828 := neq_f c_828
          subst hQ
          exact W.vret hx hb hr (fun t ht hW => ⟨⟨_, rfl, Or.inr (⟨x_825, h_826, x_802, h_803, (g.fcts [0, 2] rfl)⟩), q3_of g hK ht hW⟩, g.2.2.1.F ht⟩) g.2.2.1.2.2 dX2_readField_204
        · have fc_828 := eq_f c_828
          have b_829 : bd 1 0 x_802 := eqX fc_828 h_803 kb_0 (by decide)
          exact bd_no b_829 (by decide)
  · have fc_8 := neq_f c_8
    refine lv_aload_n hx hb dX2_readField_34 rfl (lv_at hl 2 rfl) ?_
    refine g_getk (C := RX2) (T := TX2) (N := 16) hx hb hts (mc_ inX2) hown hK g rfl 0 (by decide) rfl (hts _ (List.mem_cons_of_mem _ t_416)) (fun _ h9 => h9) 1 rfl dX2_readField_35 ?_
    refine lv_iconst (v := 1) hx hb dX2_readField_38 (by decide) ?_
    refine lv_iload_n hx hb dX2_readField_39 rfl (lv_at hl 1 rfl) ?_
    have kb_1 : bd 1 1 (1 : Int32) := ⟨by decide, by decide⟩
    refine g_callv (va_runV (As := [.int 1, .int r_5]) (rest := []) ⟨hx, hb, hml, hown, hts⟩ (r_X8_fail l dC dI L kd tys fr_7 H.size g.2.2.2.1 q0_ mq0_ kq0_ 1 (bd_sub kb_1 (by decide)) r_5 y0_ by0_ (g.fcts [3] rfl)) (cwV 2 hts (gV_ t_1122 t_1107 t_1108 t_184 t_1109) rfl rfl rfl (by decide +kernel) ⟨(Nat.le_of_ble_eq_true rfl), (Nat.le_of_ble_eq_true rfl)⟩) (pre3V g hK mq0_ kq0_ (by decide) (q := (RX8, TX8, 10)) rfl) rfl rfl hl.1 rfl (lv_room (Nat.le_of_ble_eq_true rfl)) dX2_readField_40 ⟨(Nat.le_of_ble_eq_true rfl), (Nat.le_of_ble_eq_true rfl)⟩) g hK (by decide) (by decide) (fx' := [(2, 0, a0_, .ref q0_), (2, 4, a0_, .ref q1_)]) rfl (fun fr_830 H locs hp hMr_830 g => ?_)
    obtain ⟨x_831, h_832, hF_833⟩ := hp
    have g := g.more hF_833
    refine lv_goto (tgt := 91) hx hb dX2_readField_43 (by decide) ?_
    refine lv_aload_n hx hb dX2_readField_91 rfl (lv_at hl 2 rfl) ?_
    refine g_getk (C := RX2) (T := TX2) (N := 16) hx hb hts (mc_ inX2) hown hK g rfl 0 (by decide) rfl (hts _ (List.mem_cons_of_mem _ t_416)) (fun _ h9 => h9) 2 rfl dX2_readField_92 ?_
    have kb_1201 : bd 1201 1201 (1201 : Int32) := ⟨by decide, by decide⟩
    refine g_callv (va_runV (As := []) (rest := []) ⟨hx, hb, hml, hown, hts⟩ (r_X8_next_2 l dC dI L kd tys fr_830 H.size g.2.2.2.1 q0_ mq0_ kq0_ 1201 kb_1201 (g.fcts [0] rfl)) (cwV 0 hts (gV_ t_1131 t_1103 t_1104 t_184 t_1105) rfl rfl rfl (by decide +kernel) ⟨(Nat.le_of_ble_eq_true rfl), (Nat.le_of_ble_eq_true rfl)⟩) (pre3V g hK mq0_ kq0_ (by decide) (q := (RX8, TX8, 10)) rfl) rfl rfl hl.1 rfl (lv_room (Nat.le_of_ble_eq_true rfl)) dX2_readField_95 ⟨(Nat.le_of_ble_eq_true rfl), (Nat.le_of_ble_eq_true rfl)⟩) g hK (by decide) (by decide) (fx' := [(8, 6, q0_, .int 1201), (8, 8, q0_, .int x_831), (2, 0, a0_, .ref q0_), (2, 4, a0_, .ref q1_)]) rfl (fun fr_834 H locs hp hMr_834 g => ?_)
    refine lv_iconst (v := 0) hx hb dX2_readField_98 (by decide) ?_
    refine lv_istore (lv' := [(4, .int 0), (2, .long r_6), (1, .int r_5), (0, .ref a0_)]) hx hb dX2_readField_99 hl (by decide) rfl (fun ls hl => ?_)
    refine lv_aload_n hx hb dX2_readField_101 rfl (lv_at hl 3 rfl) ?_
    refine g_getk (C := RX2) (T := TX2) (N := 16) hx hb hts (mc_ inX2) hown hK g rfl 0 (by decide) rfl (hts _ (List.mem_cons_of_mem _ t_416)) (fun _ h9 => h9) 2 rfl dX2_readField_102 ?_
    refine g_calli (va_runV (As := []) (rest := []) ⟨hx, hb, hml, hown, hts⟩ (r_X8_kind_2 l dC dI L kd tys fr_834 H.size g.2.2.2.1 q0_ mq0_ kq0_ 1201 kb_1201 (g.fcts [0] rfl)) (cwV 0 hts (gV_ t_1118 t_1119 t_1120 t_184 t_1121) rfl rfl rfl (by decide +kernel) ⟨(Nat.le_of_ble_eq_true rfl), (Nat.le_of_ble_eq_true rfl)⟩) (pre3V g hK mq0_ kq0_ (by decide) (q := (RX8, TX8, 10)) rfl) rfl rfl hl.1 rfl (lv_room (Nat.le_of_ble_eq_true rfl)) dX2_readField_105 ⟨(Nat.le_of_ble_eq_true rfl), (Nat.le_of_ble_eq_true rfl)⟩) g hK (by decide) (by decide) (fx' := [(8, 6, q0_, .int 1201), (8, 8, q0_, .int x_831), (2, 0, a0_, .ref q0_), (2, 4, a0_, .ref q1_)]) rfl (fun r_835 fr_835 H locs hp hMr_835 g => ?_)
    obtain ⟨h_836, -⟩ := hp
    obtain rfl : r_835 = 0 := h_836
    refine lv_bipush (v := 91) hx hb dX2_readField_108 (by decide) ?_
    refine lv_icmp_ne (tgt := 122) hx hb dX2_readField_110 (by decide) (fun c_ => ?_) (fun c_ => absurd c_ (by decide))
    refine lv_aload_n hx hb dX2_readField_122 rfl (lv_at hl 3 rfl) ?_
    refine g_getk (C := RX2) (T := TX2) (N := 16) hx hb hts (mc_ inX2) hown hK g rfl 4 (by decide) rfl (hts _ (List.mem_cons_of_mem _ t_420)) (fun _ h9 => h9) 3 rfl dX2_readField_123 ?_
    refine g_geti (C := RX9) (T := TX9) (N := 13) hx hb hts (mc_ inX9) hown hK g mq1_ kq1_ (by decide) rfl 7 (by decide) rfl (hts _ (List.mem_cons_of_mem _ t_496)) (fun _ h9 => h9) rfl dX2_readField_126 (fun x_837 bx_837 g => ?_)
    refine lv_bipush (v := 24) hx hb dX2_readField_129 (by decide) ?_
    have kb_24 : bd 24 24 (24 : Int32) := ⟨by decide, by decide⟩
    refine lv_icmp_lt (tgt := 143) hx hb dX2_readField_131 (by decide) (fun c_838 => ?_) (fun c_838 => ?_)
    · have fc_838 := lt_f c_838
      have b_839 : bd 0 23 x_837 := ltL fc_838 bx_837 kb_24 (by decide)
      refine lv_iconst (v := 0) hx hb dX2_readField_143 (by decide) ?_
      refine lv_istore (lv' := [(5, .int 0), (4, .int 0), (2, .long r_6), (1, .int r_5), (0, .ref a0_)]) hx hb dX2_readField_144 hl (by decide) rfl (fun ls hl => ?_)
      refine lv_aload_n hx hb dX2_readField_146 rfl (lv_at hl 4 rfl) ?_
      refine g_getk (C := RX2) (T := TX2) (N := 16) hx hb hts (mc_ inX2) hown hK g rfl 0 (by decide) rfl (hts _ (List.mem_cons_of_mem _ t_416)) (fun _ h9 => h9) 3 rfl dX2_readField_147 ?_
      refine g_calli (va_runV (As := []) (rest := []) ⟨hx, hb, hml, hown, hts⟩ (r_X8_kind_2 l dC dI L kd tys fr_835 H.size g.2.2.2.1 q0_ mq0_ kq0_ 1201 kb_1201 (g.fcts [1] rfl)) (cwV 0 hts (gV_ t_1118 t_1119 t_1120 t_184 t_1121) rfl rfl rfl (by decide +kernel) ⟨(Nat.le_of_ble_eq_true rfl), (Nat.le_of_ble_eq_true rfl)⟩) (pre3V g hK mq0_ kq0_ (by decide) (q := (RX8, TX8, 10)) rfl) rfl rfl hl.1 rfl (lv_room (Nat.le_of_ble_eq_true rfl)) dX2_readField_150 ⟨(Nat.le_of_ble_eq_true rfl), (Nat.le_of_ble_eq_true rfl)⟩) g hK (by decide) (by decide) (fx' := [(9, 7, q1_, .int x_837), (8, 6, q0_, .int 1201), (8, 8, q0_, .int x_831), (2, 0, a0_, .ref q0_), (2, 4, a0_, .ref q1_)]) rfl (fun r_840 fr_840 H locs hp hMr_840 g => ?_)
      obtain ⟨h_841, -⟩ := hp
      obtain rfl : r_840 = 0 := h_841
      refine lv_bipush (v := 61) hx hb dX2_readField_153 (by decide) ?_
      refine lv_icmp_ne (tgt := 173) hx hb dX2_readField_155 (by decide) (fun c_ => ?_) (fun c_ => absurd c_ (by decide))
      refine lv_aload_n hx hb dX2_readField_173 rfl (lv_at hl 4 rfl) ?_
      refine g_getk (C := RX2) (T := TX2) (N := 16) hx hb hts (mc_ inX2) hown hK g rfl 0 (by decide) rfl (hts _ (List.mem_cons_of_mem _ t_416)) (fun _ h9 => h9) 3 rfl dX2_readField_174 ?_
      refine lv_bipush (v := 59) hx hb dX2_readField_177 (by decide) ?_
      refine g_callv (va_runV (As := [.int 59]) (rest := []) ⟨hx, hb, hml, hown, hts⟩ (r_X8_take_2 l dC dI L kd tys fr_840 H.size g.2.2.2.1 q0_ mq0_ kq0_ 59 1201 kb_1201 x_831 h_832 (g.fcts [1, 2] rfl)) (cwV 1 hts (gV_ t_1098 t_1099 t_1100 t_184 t_1101) rfl rfl rfl (by decide +kernel) ⟨(Nat.le_of_ble_eq_true rfl), (Nat.le_of_ble_eq_true rfl)⟩) (pre3V g hK mq0_ kq0_ (by decide) (q := (RX8, TX8, 10)) rfl) rfl rfl hl.1 rfl (lv_room (Nat.le_of_ble_eq_true rfl)) dX2_readField_179 ⟨(Nat.le_of_ble_eq_true rfl), (Nat.le_of_ble_eq_true rfl)⟩) g hK (by decide) (by decide) (fx' := [(9, 7, q1_, .int x_837), (8, 8, q0_, .int x_831), (2, 0, a0_, .ref q0_), (2, 4, a0_, .ref q1_)]) rfl (fun fr_842 H locs hp hMr_842 g => ?_)
      obtain ⟨x_843, h_844, hF_845⟩ := hp
      have g := g.more hF_845
      refine lv_aload_n hx hb dX2_readField_182 rfl (lv_at hl 4 rfl) ?_
      refine g_getk (C := RX2) (T := TX2) (N := 16) hx hb hts (mc_ inX2) hown hK g rfl 0 (by decide) rfl (hts _ (List.mem_cons_of_mem _ t_416)) (fun _ h9 => h9) 3 rfl dX2_readField_183 ?_
      refine g_getk (C := RX8) (T := TX8) (N := 10) hx hb hts (mc_ inX8) hown hK g rfl 8 (by decide) rfl (hts _ (List.mem_cons_of_mem _ t_294)) (fun _ h9 => h9) 2 rfl dX2_readField_186 ?_
      have kb_0 : bd 0 0 (0 : Int32) := ⟨by decide, by decide⟩
      refine lv_if_ne (tgt := 204) hx hb dX2_readField_189 (by decide) (fun c_846 => ?_) (fun c_846 => ?_)
      · have fc_846 := neq_f c_846
        subst hQ
        exact W.vret hx hb hr (fun t ht hW => ⟨⟨_, rfl, Or.inr (⟨x_843, h_844, x_831, h_832, (g.fcts [0, 2] rfl)⟩), q3_of g hK ht hW⟩, g.2.2.1.F ht⟩) g.2.2.1.2.2 dX2_readField_204
      · have fc_846 := eq_f c_846
        have b_847 : bd 1 0 x_831 := eqX fc_846 h_832 kb_0 (by decide)
        exact bd_no b_847 (by decide)
    · have fc_838 := nlt_f c_838
      have b_848 : bd 24 24 x_837 := leR fc_838 kb_24 bx_837 (by decide)
      refine lv_aload_n hx hb dX2_readField_134 rfl (lv_at hl 3 rfl) ?_
      refine g_getk (C := RX2) (T := TX2) (N := 16) hx hb hts (mc_ inX2) hown hK g rfl 0 (by decide) rfl (hts _ (List.mem_cons_of_mem _ t_416)) (fun _ h9 => h9) 3 rfl dX2_readField_135 ?_
      refine lv_iconst (v := 4) hx hb dX2_readField_138 (by decide) ?_
      refine lv_iload_n hx hb dX2_readField_139 rfl (lv_at hl 2 rfl) ?_
      have kb_4 : bd 4 4 (4 : Int32) := ⟨by decide, by decide⟩
      refine g_callv (va_runV (As := [.int 4, .int r_5]) (rest := []) ⟨hx, hb, hml, hown, hts⟩ (r_X8_fail_2 l dC dI L kd tys fr_835 H.size g.2.2.2.1 q0_ mq0_ kq0_ 4 (bd_sub kb_4 (by decide)) r_5 x_831 h_832 (g.fcts [2] rfl)) (cwV 2 hts (gV_ t_1122 t_1107 t_1108 t_184 t_1109) rfl rfl rfl (by decide +kernel) ⟨(Nat.le_of_ble_eq_true rfl), (Nat.le_of_ble_eq_true rfl)⟩) (pre3V g hK mq0_ kq0_ (by decide) (q := (RX8, TX8, 10)) rfl) rfl rfl hl.1 rfl (lv_room (Nat.le_of_ble_eq_true rfl)) dX2_readField_140 ⟨(Nat.le_of_ble_eq_true rfl), (Nat.le_of_ble_eq_true rfl)⟩) g hK (by decide) (by decide) (fx' := [(9, 7, q1_, .int x_837), (8, 8, q0_, .int x_831), (2, 0, a0_, .ref q0_), (2, 4, a0_, .ref q1_)]) rfl (fun fr_849 H locs hp hMr_849 g => ?_)
      have hF_850 := hp
      have g := g.more hF_850
      refine lv_iconst (v := 0) hx hb dX2_readField_143 (by decide) ?_
      refine lv_istore (lv' := [(5, .int 0), (4, .int 0), (2, .long r_6), (1, .int r_5), (0, .ref a0_)]) hx hb dX2_readField_144 hl (by decide) rfl (fun ls hl => ?_)
      refine lv_aload_n hx hb dX2_readField_146 rfl (lv_at hl 4 rfl) ?_
      refine g_getk (C := RX2) (T := TX2) (N := 16) hx hb hts (mc_ inX2) hown hK g rfl 0 (by decide) rfl (hts _ (List.mem_cons_of_mem _ t_416)) (fun _ h9 => h9) 3 rfl dX2_readField_147 ?_
      refine g_calli (va_runV (As := []) (rest := []) ⟨hx, hb, hml, hown, hts⟩ (r_X8_kind_2 l dC dI L kd tys fr_849 H.size g.2.2.2.1 q0_ mq0_ kq0_ 1201 kb_1201 (g.fcts [0] rfl)) (cwV 0 hts (gV_ t_1118 t_1119 t_1120 t_184 t_1121) rfl rfl rfl (by decide +kernel) ⟨(Nat.le_of_ble_eq_true rfl), (Nat.le_of_ble_eq_true rfl)⟩) (pre3V g hK mq0_ kq0_ (by decide) (q := (RX8, TX8, 10)) rfl) rfl rfl hl.1 rfl (lv_room (Nat.le_of_ble_eq_true rfl)) dX2_readField_150 ⟨(Nat.le_of_ble_eq_true rfl), (Nat.le_of_ble_eq_true rfl)⟩) g hK (by decide) (by decide) (fx' := [(8, 6, q0_, .int 1201), (9, 7, q1_, .int x_837), (8, 8, q0_, .int x_831), (2, 0, a0_, .ref q0_), (2, 4, a0_, .ref q1_)]) rfl (fun r_851 fr_851 H locs hp hMr_851 g => ?_)
      obtain ⟨h_852, -⟩ := hp
      obtain rfl : r_851 = 0 := h_852
      refine lv_bipush (v := 61) hx hb dX2_readField_153 (by decide) ?_
      refine lv_icmp_ne (tgt := 173) hx hb dX2_readField_155 (by decide) (fun c_ => ?_) (fun c_ => absurd c_ (by decide))
      refine lv_aload_n hx hb dX2_readField_173 rfl (lv_at hl 4 rfl) ?_
      refine g_getk (C := RX2) (T := TX2) (N := 16) hx hb hts (mc_ inX2) hown hK g rfl 0 (by decide) rfl (hts _ (List.mem_cons_of_mem _ t_416)) (fun _ h9 => h9) 3 rfl dX2_readField_174 ?_
      refine lv_bipush (v := 59) hx hb dX2_readField_177 (by decide) ?_
      refine g_callv (va_runV (As := [.int 59]) (rest := []) ⟨hx, hb, hml, hown, hts⟩ (r_X8_take_2 l dC dI L kd tys fr_851 H.size g.2.2.2.1 q0_ mq0_ kq0_ 59 1201 kb_1201 x_831 h_832 (g.fcts [0, 2] rfl)) (cwV 1 hts (gV_ t_1098 t_1099 t_1100 t_184 t_1101) rfl rfl rfl (by decide +kernel) ⟨(Nat.le_of_ble_eq_true rfl), (Nat.le_of_ble_eq_true rfl)⟩) (pre3V g hK mq0_ kq0_ (by decide) (q := (RX8, TX8, 10)) rfl) rfl rfl hl.1 rfl (lv_room (Nat.le_of_ble_eq_true rfl)) dX2_readField_179 ⟨(Nat.le_of_ble_eq_true rfl), (Nat.le_of_ble_eq_true rfl)⟩) g hK (by decide) (by decide) (fx' := [(9, 7, q1_, .int x_837), (8, 8, q0_, .int x_831), (2, 0, a0_, .ref q0_), (2, 4, a0_, .ref q1_)]) rfl (fun fr_853 H locs hp hMr_853 g => ?_)
      obtain ⟨x_854, h_855, hF_856⟩ := hp
      have g := g.more hF_856
      refine lv_aload_n hx hb dX2_readField_182 rfl (lv_at hl 4 rfl) ?_
      refine g_getk (C := RX2) (T := TX2) (N := 16) hx hb hts (mc_ inX2) hown hK g rfl 0 (by decide) rfl (hts _ (List.mem_cons_of_mem _ t_416)) (fun _ h9 => h9) 3 rfl dX2_readField_183 ?_
      refine g_getk (C := RX8) (T := TX8) (N := 10) hx hb hts (mc_ inX8) hown hK g rfl 8 (by decide) rfl (hts _ (List.mem_cons_of_mem _ t_294)) (fun _ h9 => h9) 2 rfl dX2_readField_186 ?_
      have kb_0 : bd 0 0 (0 : Int32) := ⟨by decide, by decide⟩
      refine lv_if_ne (tgt := 204) hx hb dX2_readField_189 (by decide) (fun c_857 => ?_) (fun c_857 => ?_)
      · have fc_857 := neq_f c_857
        subst hQ
        exact W.vret hx hb hr (fun t ht hW => ⟨⟨_, rfl, Or.inr (⟨x_854, h_855, x_831, h_832, (g.fcts [0, 2] rfl)⟩), q3_of g hK ht hW⟩, g.2.2.1.F ht⟩) g.2.2.1.2.2 dX2_readField_204
      · have fc_857 := eq_f c_857
        have b_858 : bd 1 0 x_831 := eqX fc_857 h_832 kb_0 (by decide)
        exact bd_no b_858 (by decide)
