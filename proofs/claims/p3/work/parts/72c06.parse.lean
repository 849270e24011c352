set_option maxHeartbeats 4000000 in
set_option maxRecDepth 100000 in
theorem r_X2_readField (l : Launch) (dC : Nat → ClassId) (dI : Nat → Nat → Nat) (L : List Nat) (kd : Nat → Nat) (tys : List (ClassId × FieldType)) (f0 : Nat → va_E) (sz : Nat) (hWT : WT L kd tys f0) (a0_ : Nat) (ma0_ : a0_ ∈ L) (ka0_ : kd a0_ = 2) (q0_ : Nat) (mq0_ : q0_ ∈ L) (kq0_ : kd q0_ = 8) (q1_ : Nat) (mq1_ : q1_ ∈ L) (kq1_ : kd q1_ = 9) (y0_ : Int32) (by0_ : bd 0 0 y0_) (hfx : Fs L kd f0 [(2, 0, a0_, .ref q0_), (2, 4, a0_, .ref q1_), (8, 8, q0_, .int y0_)]) : Met l yX2_readField (.code yX2_readField cX2_readField 6 none :: lw_g) ({ frames := 3, cells := 0, slots := 0, locals := 66 }) (va_Pc [.ref a0_] (P3 (dC, dI) L tys f0 sz)) (va_Qv (fun (f : Nat → va_E) => (∃ z0_ : Int32, bd 1 10 z0_ ∧ ∃ z1_ : Int32, bd 1 24 z1_ ∧ ∃ z2_ : Int32, bd 1 1201 z2_ ∧ Fs L kd f [(9, 2, q1_, .int z0_), (9, 7, q1_, .int z1_), (8, 6, q0_, .int z2_), (8, 8, q0_, .int y0_)]) ∨ (∃ z0_ : Int32, bd 1201 1201 z0_ ∧ ∃ z1_ : Int32, bd 1 7 z1_ ∧ Fs L kd f [(8, 6, q0_, .int z0_), (8, 8, q0_, .int z1_)])) (Q3 (dC, dI) L kd tys [(8, 6), (8, 8), (8, 9), (9, 2), (9, 7)] [152, 153, 154, 155] f0 sz) (pA L sz)) 0 0 (pA L sz) := by
  refine Met.ofW (cc := cX2_readField) (maxL := 6) (ret := none) (by decide) rfl ?_
  intro p e s m args below meth c s₁ B hml hv
  obtain ⟨rfl, hsz, hP, hK, hD0⟩ := hv
  have hx := B.exec
  have hb := B.bytes
  have hr := B.returns
  have hts := atoms_spec (ws := (.code yX2_readField cX2_readField 6 none :: lw_g)) B.pre
  have hown : s.vm.findClass RX2 = some m.cls := findClass_of_methodNamed B.named
  have hlocks := B.notSynchronized
  subst hsz
  have g : G3 (dC, dI) L kd tys s f0 [(8, 6), (8, 8), (8, 9), (9, 2), (9, 7)] [152, 153, 154, 155] f0 s.heap [] [(2, 0, a0_, .ref q0_), (2, 4, a0_, .ref q1_), (8, 8, q0_, .int y0_)] := G3.start hP hD0 hWT hfx
  have hl := lv_entry ([.ref a0_]) (n := 6) (Nat.le_of_ble_eq_true rfl)
  rw [lg_entry_eq]
  generalize (lg_sl ([.ref a0_]) ++ List.replicate (6 - (lg_sl ([.ref a0_])).length) Slot.unset).toArray = ls at hl ⊢
  have hl : lv_has ls 6 [(0, .ref a0_)] := hl
  refine W_q (fun Q hQ => ?_)
  refine lv_aload_n hx hb dX2_readField_0 rfl (lv_at hl 0 rfl) ?_
  refine g_getk (C := RX2) (T := TX2) (N := 16) hx hb hts (mc_ inX2) hown hK g rfl 0 (by decide) rfl (hts _ (List.mem_cons_of_mem _ t_416)) (fun _ h9 => h9) 0 rfl dX2_readField_1 ?_
  refine g_callv (va_runV (As := []) (rest := []) ⟨hx, hb, hml, hown, hts⟩ (r_X8_next l dC dI L kd tys f0 s.heap.size g.2.2.2.1 q0_ mq0_ kq0_) (cwV 0 hts (gV_ t_1131 t_1103 t_1104 t_184 t_1105) rfl rfl rfl (by decide +kernel) ⟨(Nat.le_of_ble_eq_true rfl), (Nat.le_of_ble_eq_true rfl)⟩) (pre3V g hK mq0_ kq0_ (by decide) (q := (RX8, TX8, 10)) rfl) rfl rfl hl.1 rfl (lv_room (Nat.le_of_ble_eq_true rfl)) dX2_readField_4 ⟨(Nat.le_of_ble_eq_true rfl), (Nat.le_of_ble_eq_true rfl)⟩) g hK (by decide) (by decide) (fx' := [(2, 0, a0_, .ref q0_), (2, 4, a0_, .ref q1_), (8, 8, q0_, .int y0_)]) rfl (fun fr_1 H locs hp hMr_1 g => ?_)
  obtain ⟨x_2, h_3, hF_4⟩ := hp
  have g := g.more hF_4
  refine lv_aload_n hx hb dX2_readField_7 rfl (lv_at hl 0 rfl) ?_
  refine g_getk (C := RX2) (T := TX2) (N := 16) hx hb hts (mc_ inX2) hown hK g rfl 0 (by decide) rfl (hts _ (List.mem_cons_of_mem _ t_416)) (fun _ h9 => h9) 1 rfl dX2_readField_8 ?_
  refine g_calli (va_runV (As := []) (rest := []) ⟨hx, hb, hml, hown, hts⟩ (r_X8_place l dC dI L kd tys fr_1 H.size g.2.2.2.1 q0_ mq0_ kq0_) (cwV 0 hts (gV_ t_1110 t_1111 t_1112 t_184 t_1113) rfl rfl rfl (by decide +kernel) ⟨(Nat.le_of_ble_eq_true rfl), (Nat.le_of_ble_eq_true rfl)⟩) (pre3V g hK mq0_ kq0_ (by decide) (q := (RX8, TX8, 10)) rfl) rfl rfl hl.1 rfl (lv_room (Nat.le_of_ble_eq_true rfl)) dX2_readField_11 ⟨(Nat.le_of_ble_eq_true rfl), (Nat.le_of_ble_eq_true rfl)⟩) g hK (by decide) (by decide) (fx' := [(8, 6, q0_, .int x_2), (2, 0, a0_, .ref q0_), (2, 4, a0_, .ref q1_), (8, 8, q0_, .int y0_)]) rfl (fun r_5 fr_5 H locs hp hMr_5 g => ?_)
  refine lv_istore_n (lv' := [(1, .int r_5), (0, .ref a0_)]) hx hb dX2_readField_14 rfl hl (by decide) rfl (fun ls hl => ?_)
  refine lv_aload_n hx hb dX2_readField_15 rfl (lv_at hl 1 rfl) ?_
  refine g_getk (C := RX2) (T := TX2) (N := 16) hx hb hts (mc_ inX2) hown hK g rfl 0 (by decide) rfl (hts _ (List.mem_cons_of_mem _ t_416)) (fun _ h9 => h9) 1 rfl dX2_readField_16 ?_
  refine g_calll (va_runV (As := []) (rest := []) ⟨hx, hb, hml, hown, hts⟩ (r_X8_value l dC dI L kd tys fr_5 H.size g.2.2.2.1 q0_ mq0_ kq0_) (cwV 0 hts (gV_ t_1114 t_1115 t_1116 t_184 t_1117) rfl rfl rfl (by decide +kernel) ⟨(Nat.le_of_ble_eq_true rfl), (Nat.le_of_ble_eq_true rfl)⟩) (pre3V g hK mq0_ kq0_ (by decide) (q := (RX8, TX8, 10)) rfl) rfl rfl hl.1 rfl (lv_room (Nat.le_of_ble_eq_true rfl)) dX2_readField_19 ⟨(Nat.le_of_ble_eq_true rfl), (Nat.le_of_ble_eq_true rfl)⟩) g hK (by decide) (by decide) (fx' := [(8, 6, q0_, .int x_2), (2, 0, a0_, .ref q0_), (2, 4, a0_, .ref q1_), (8, 8, q0_, .int y0_)]) rfl (fun r_6 fr_6 H locs hp hMr_6 g => ?_)
  refine lv_lstore_n (lv' := [(2, .long r_6), (1, .int r_5), (0, .ref a0_)]) hx hb dX2_readField_22 rfl hl (by decide) rfl (fun ls hl => ?_)
  refine lv_aload_n hx hb dX2_readField_23 rfl (lv_at hl 2 rfl) ?_
  refine g_getk (C := RX2) (T := TX2) (N := 16) hx hb hts (mc_ inX2) hown hK g rfl 0 (by decide) rfl (hts _ (List.mem_cons_of_mem _ t_416)) (fun _ h9 => h9) 1 rfl dX2_readField_24 ?_
  refine g_calli (va_runV (As := []) (rest := []) ⟨hx, hb, hml, hown, hts⟩ (r_X8_kind l dC dI L kd tys fr_6 H.size g.2.2.2.1 q0_ mq0_ kq0_) (cwV 0 hts (gV_ t_1118 t_1119 t_1120 t_184 t_1121) rfl rfl rfl (by decide +kernel) ⟨(Nat.le_of_ble_eq_true rfl), (Nat.le_of_ble_eq_true rfl)⟩) (pre3V g hK mq0_ kq0_ (by decide) (q := (RX8, TX8, 10)) rfl) rfl rfl hl.1 rfl (lv_room (Nat.le_of_ble_eq_true rfl)) dX2_readField_27 ⟨(Nat.le_of_ble_eq_true rfl), (Nat.le_of_ble_eq_true rfl)⟩) g hK (by decide) (by decide) (fx' := [(8, 6, q0_, .int x_2), (2, 0, a0_, .ref q0_), (2, 4, a0_, .ref q1_), (8, 8, q0_, .int y0_)]) rfl (fun r_7 fr_7 H locs hp hMr_7 g => ?_)
  refine lv_iconst (v := 3) hx hb dX2_readField_30 (by decide) ?_
  have kb_3 : bd 3 3 (3 : Int32) := ⟨by decide, by decide⟩
  refine lv_icmp_eq (tgt := 46) hx hb dX2_readField_31 (by decide) (fun c_8 => ?_) (fun c_8 => ?_)
  · have fc_8 := eq_f c_8
    have b_9 : bd 3 3 r_7 := eqX fc_8 (bdT r_7) kb_3 (by decide)
    refine lv_aload_n hx hb dX2_readField_46 rfl (lv_at hl 2 rfl) ?_
    refine g_getk (C := RX2) (T := TX2) (N := 16) hx hb hts (mc_ inX2) hown hK g rfl 4 (by decide) rfl (hts _ (List.mem_cons_of_mem _ t_420)) (fun _ h9 => h9) 2 rfl dX2_readField_47 ?_
    refine lv_lload_n hx hb dX2_readField_50 rfl (lv_at hl 0 rfl) ?_
    refine g_calli (va_runV (As := [.long r_6]) (rest := []) ⟨hx, hb, hml, hown, hts⟩ (r_X9_fieldNamed l dC dI L kd tys fr_7 H.size g.2.2.2.1 q1_ mq1_ kq1_ r_6) (cwV 1 hts (gV_ t_1147 t_1148 t_1149 t_192 t_1150) rfl rfl rfl (by decide +kernel) ⟨(Nat.le_of_ble_eq_true rfl), (Nat.le_of_ble_eq_true rfl)⟩) (pre3V g hK mq1_ kq1_ (by decide) (q := (RX9, TX9, 13)) rfl) rfl rfl hl.1 rfl (lv_room (Nat.le_of_ble_eq_true rfl)) dX2_readField_51 ⟨(Nat.le_of_ble_eq_true rfl), (Nat.le_of_ble_eq_true rfl)⟩) g hK (by decide) (by decide) (fx' := [(8, 6, q0_, .int x_2), (2, 0, a0_, .ref q0_), (2, 4, a0_, .ref q1_), (8, 8, q0_, .int y0_)]) rfl (fun r_10 fr_10 H locs hp hMr_10 g => ?_)
    obtain ⟨h_11, -⟩ := hp
    refine lv_iconst (v := (-1)) hx hb dX2_readField_54 (by decide) ?_
    have kb_m1 : bd (-1) (-1) ((-1) : Int32) := ⟨by decide, by decide⟩
    refine lv_icmp_eq (tgt := 70) hx hb dX2_readField_55 (by decide) (fun c_12 => ?_) (fun c_12 => ?_)
    · have fc_12 := eq_f c_12
      have b_13 : bd (-1) (-1) r_10 := eqX fc_12 h_11 kb_m1 (by decide)
      refine lv_aload_n hx hb dX2_readField_70 rfl (lv_at hl 2 rfl) ?_
      refine g_getk (C := RX2) (T := TX2) (N := 16) hx hb hts (mc_ inX2) hown hK g rfl 4 (by decide) rfl (hts _ (List.mem_cons_of_mem _ t_420)) (fun _ h9 => h9) 2 rfl dX2_readField_71 ?_
      refine g_geti (C := RX9) (T := TX9) (N := 13) hx hb hts (mc_ inX9) hown hK g mq1_ kq1_ (by decide) rfl 2 (by decide) rfl (hts _ (List.mem_cons_of_mem _ t_487)) (fun _ h9 => h9) rfl dX2_readField_74 (fun x_14 bx_14 g => ?_)
      refine lv_bipush (v := 10) hx hb dX2_readField_77 (by decide) ?_
      have kb_10 : bd 10 10 (10 : Int32) := ⟨by decide, by decide⟩
      refine lv_icmp_lt (tgt := 91) hx hb dX2_readField_79 (by decide) (fun c_15 => ?_) (fun c_15 => ?_)
      · have fc_15 := lt_f c_15
        have b_16 : bd 0 9 x_14 := ltL fc_15 bx_14 kb_10 (by decide)
        refine lv_aload_n hx hb dX2_readField_91 rfl (lv_at hl 2 rfl) ?_
        refine g_getk (C := RX2) (T := TX2) (N := 16) hx hb hts (mc_ inX2) hown hK g rfl 0 (by decide) rfl (hts _ (List.mem_cons_of_mem _ t_416)) (fun _ h9 => h9) 2 rfl dX2_readField_92 ?_
        refine g_callv (va_runV (As := []) (rest := []) ⟨hx, hb, hml, hown, hts⟩ (r_X8_next l dC dI L kd tys fr_10 H.size g.2.2.2.1 q0_ mq0_ kq0_) (cwV 0 hts (gV_ t_1131 t_1103 t_1104 t_184 t_1105) rfl rfl rfl (by decide +kernel) ⟨(Nat.le_of_ble_eq_true rfl), (Nat.le_of_ble_eq_true rfl)⟩) (pre3V g hK mq0_ kq0_ (by decide) (q := (RX8, TX8, 10)) rfl) rfl rfl hl.1 rfl (lv_room (Nat.le_of_ble_eq_true rfl)) dX2_readField_95 ⟨(Nat.le_of_ble_eq_true rfl), (Nat.le_of_ble_eq_true rfl)⟩) g hK (by decide) (by decide) (fx' := [(9, 2, q1_, .int x_14), (2, 0, a0_, .ref q0_), (2, 4, a0_, .ref q1_), (8, 8, q0_, .int y0_)]) rfl (fun fr_17 H locs hp hMr_17 g => ?_)
        obtain ⟨x_18, h_19, hF_20⟩ := hp
        have g := g.more hF_20
        refine lv_iconst (v := 0) hx hb dX2_readField_98 (by decide) ?_
        refine lv_istore (lv' := [(4, .int 0), (2, .long r_6), (1, .int r_5), (0, .ref a0_)]) hx hb dX2_readField_99 hl (by decide) rfl (fun ls hl => ?_)
        refine lv_aload_n hx hb dX2_readField_101 rfl (lv_at hl 3 rfl) ?_
        refine g_getk (C := RX2) (T := TX2) (N := 16) hx hb hts (mc_ inX2) hown hK g rfl 0 (by decide) rfl (hts _ (List.mem_cons_of_mem _ t_416)) (fun _ h9 => h9) 2 rfl dX2_readField_102 ?_
        refine g_calli (va_runV (As := []) (rest := []) ⟨hx, hb, hml, hown, hts⟩ (r_X8_kind l dC dI L kd tys fr_17 H.size g.2.2.2.1 q0_ mq0_ kq0_) (cwV 0 hts (gV_ t_1118 t_1119 t_1120 t_184 t_1121) rfl rfl rfl (by decide +kernel) ⟨(Nat.le_of_ble_eq_true rfl), (Nat.le_of_ble_eq_true rfl)⟩) (pre3V g hK mq0_ kq0_ (by decide) (q := (RX8, TX8, 10)) rfl) rfl rfl hl.1 rfl (lv_room (Nat.le_of_ble_eq_true rfl)) dX2_readField_105 ⟨(Nat.le_of_ble_eq_true rfl), (Nat.le_of_ble_eq_true rfl)⟩) g hK (by decide) (by decide) (fx' := [(8, 6, q0_, .int x_18), (9, 2, q1_, .int x_14), (2, 0, a0_, .ref q0_), (2, 4, a0_, .ref q1_), (8, 8, q0_, .int y0_)]) rfl (fun r_21 fr_21 H locs hp hMr_21 g => ?_)
        refine lv_bipush (v := 91) hx hb dX2_readField_108 (by decide) ?_
        have kb_91 : bd 91 91 (91 : Int32) := ⟨by decide, by decide⟩
        refine lv_icmp_ne (tgt := 122) hx hb dX2_readField_110 (by decide) (fun c_22 => ?_) (fun c_22 => ?_)
        · have fc_22 := neq_f c_22
          refine lv_aload_n hx hb dX2_readField_122 rfl (lv_at hl 3 rfl) ?_
          refine g_getk (C := RX2) (T := TX2) (N := 16) hx hb hts (mc_ inX2) hown hK g rfl 4 (by decide) rfl (hts _ (List.mem_cons_of_mem _ t_420)) (fun _ h9 => h9) 3 rfl dX2_readField_123 ?_
          refine g_geti (C := RX9) (T := TX9) (N := 13) hx hb hts (mc_ inX9) hown hK g mq1_ kq1_ (by decide) rfl 7 (by decide) rfl (hts _ (List.mem_cons_of_mem _ t_496)) (fun _ h9 => h9) rfl dX2_readField_126 (fun x_23 bx_23 g => ?_)
          refine lv_bipush (v := 24) hx hb dX2_readField_129 (by decide) ?_
          have kb_24 : bd 24 24 (24 : Int32) := ⟨by decide, by decide⟩
          refine lv_icmp_lt (tgt := 143) hx hb dX2_readField_131 (by decide) (fun c_24 => ?_) (fun c_24 => ?_)
          · have fc_24 := lt_f c_24
            have b_25 : bd 0 23 x_23 := ltL fc_24 bx_23 kb_24 (by decide)
            refine lv_iconst (v := 0) hx hb dX2_readField_143 (by decide) ?_
            refine lv_istore (lv' := [(5, .int 0), (4, .int 0), (2, .long r_6), (1, .int r_5), (0, .ref a0_)]) hx hb dX2_readField_144 hl (by decide) rfl (fun ls hl => ?_)
            refine lv_aload_n hx hb dX2_readField_146 rfl (lv_at hl 4 rfl) ?_
            refine g_getk (C := RX2) (T := TX2) (N := 16) hx hb hts (mc_ inX2) hown hK g rfl 0 (by decide) rfl (hts _ (List.mem_cons_of_mem _ t_416)) (fun _ h9 => h9) 3 rfl dX2_readField_147 ?_
            refine g_calli (va_runV (As := []) (rest := []) ⟨hx, hb, hml, hown, hts⟩ (r_X8_kind l dC dI L kd tys fr_21 H.size g.2.2.2.1 q0_ mq0_ kq0_) (cwV 0 hts (gV_ t_1118 t_1119 t_1120 t_184 t_1121) rfl rfl rfl (by decide +kernel) ⟨(Nat.le_of_ble_eq_true rfl), (Nat.le_of_ble_eq_true rfl)⟩) (pre3V g hK mq0_ kq0_ (by decide) (q := (RX8, TX8, 10)) rfl) rfl rfl hl.1 rfl (lv_room (Nat.le_of_ble_eq_true rfl)) dX2_readField_150 ⟨(Nat.le_of_ble_eq_true rfl), (Nat.le_of_ble_eq_true rfl)⟩) g hK (by decide) (by decide) (fx' := [(9, 7, q1_, .int x_23), (8, 6, q0_, .int x_18), (9, 2, q1_, .int x_14), (2, 0, a0_, .ref q0_), (2, 4, a0_, .ref q1_), (8, 8, q0_, .int y0_)]) rfl (fun r_26 fr_26 H locs hp hMr_26 g => ?_)
            refine lv_bipush (v := 61) hx hb dX2_readField_153 (by decide) ?_
            have kb_61 : bd 61 61 (61 : Int32) := ⟨by decide, by decide⟩
            refine lv_icmp_ne (tgt := 173) hx hb dX2_readField_155 (by decide) (fun c_27 => ?_) (fun c_27 => ?_)
            · have fc_27 := neq_f c_27
              refine lv_aload_n hx hb dX2_readField_173 rfl (lv_at hl 4 rfl) ?_
              refine g_getk (C := RX2) (T := TX2) (N := 16) hx hb hts (mc_ inX2) hown hK g rfl 0 (by decide) rfl (hts _ (List.mem_cons_of_mem _ t_416)) (fun _ h9 => h9) 3 rfl dX2_readField_174 ?_
              refine lv_bipush (v := 59) hx hb dX2_readField_177 (by decide) ?_
              refine g_callv (va_runV (As := [.int 59]) (rest := []) ⟨hx, hb, hml, hown, hts⟩ (r_X8_take l dC dI L kd tys fr_26 H.size g.2.2.2.1 q0_ mq0_ kq0_ 59 y0_ by0_ (g.fcts [5] rfl)) (cwV 1 hts (gV_ t_1098 t_1099 t_1100 t_184 t_1101) rfl rfl rfl (by decide +kernel) ⟨(Nat.le_of_ble_eq_true rfl), (Nat.le_of_ble_eq_true rfl)⟩) (pre3V g hK mq0_ kq0_ (by decide) (q := (RX8, TX8, 10)) rfl) rfl rfl hl.1 rfl (lv_room (Nat.le_of_ble_eq_true rfl)) dX2_readField_179 ⟨(Nat.le_of_ble_eq_true rfl), (Nat.le_of_ble_eq_true rfl)⟩) g hK (by decide) (by decide) (fx' := [(9, 7, q1_, .int x_23), (9, 2, q1_, .int x_14), (2, 0, a0_, .ref q0_), (2, 4, a0_, .ref q1_)]) rfl (fun fr_28 H locs hp hMr_28 g => ?_)
              rcases hp with ⟨x_29, h_30, hF_31⟩ | ⟨x_32, h_33, hF_34⟩
              · have g := g.more hF_31
                refine lv_aload_n hx hb dX2_readField_182 rfl (lv_at hl 4 rfl) ?_
                refine g_getk (C := RX2) (T := TX2) (N := 16) hx hb hts (mc_ inX2) hown hK g rfl 0 (by decide) rfl (hts _ (List.mem_cons_of_mem _ t_416)) (fun _ h9 => h9) 4 rfl dX2_readField_183 ?_
                refine g_getk (C := RX8) (T := TX8) (N := 10) hx hb hts (mc_ inX8) hown hK g rfl 8 (by decide) rfl (hts _ (List.mem_cons_of_mem _ t_294)) (fun _ h9 => h9) 1 rfl dX2_readField_186 ?_
                have kb_0 : bd 0 0 (0 : Int32) := ⟨by decide, by decide⟩
                refine lv_if_ne (tgt := 204) hx hb dX2_readField_189 (by decide) (fun c_35 => ?_) (fun c_35 => ?_)
                · have fc_35 := neq_f c_35
                  have b_36 : bd 1 (-1) y0_ := neX fc_35 by0_ kb_0 (by decide)
                  exact bd_no b_36 (by decide)
                · have fc_35 := eq_f c_35
                  refine lv_aload_n hx hb dX2_readField_192 rfl (lv_at hl 4 rfl) ?_
                  refine g_getk (C := RX2) (T := TX2) (N := 16) hx hb hts (mc_ inX2) hown hK g rfl 4 (by decide) rfl (hts _ (List.mem_cons_of_mem _ t_420)) (fun _ h9 => h9) 5 rfl dX2_readField_193 ?_
                  refine lv_lload_n hx hb dX2_readField_196 rfl (lv_at hl 2 rfl) ?_
                  refine lv_iload hx hb dX2_readField_197 (lv_at hl 1 rfl) ?_
                  refine lv_iload hx hb dX2_readField_199 (lv_at hl 0 rfl) ?_
                  refine g_callv (va_runV (As := [.long r_6, .int 0, .int 0]) (rest := []) ⟨hx, hb, hml, hown, hts⟩ (r_X9_addField l dC dI L kd tys fr_28 H.size g.2.2.2.1 q1_ mq1_ kq1_ r_6 0 kb_0 0 kb_0 x_23 b_25 x_14 b_16 (g.fcts [2, 3] rfl)) (cwV 3 hts (gV_ t_1164 t_1165 t_1166 t_192 t_1167) rfl rfl rfl (by decide +kernel) ⟨(Nat.le_of_ble_eq_true rfl), (Nat.le_of_ble_eq_true rfl)⟩) (pre3V g hK mq1_ kq1_ (by decide) (q := (RX9, TX9, 13)) rfl) rfl rfl hl.1 rfl (lv_room (Nat.le_of_ble_eq_true rfl)) dX2_readField_201 ⟨(Nat.le_of_ble_eq_true rfl), (Nat.le_of_ble_eq_true rfl)⟩) g hK (by decide) (by decide) (fx' := [(8, 6, q0_, .int x_29), (8, 8, q0_, .int y0_), (2, 0, a0_, .ref q0_), (2, 4, a0_, .ref q1_)]) rfl (fun fr_37 H locs hp hMr_37 g => ?_)
                  obtain ⟨x_38, h_39, x_40, h_41, hF_42⟩ := hp
                  have g := g.more hF_42
                  subst hQ
                  exact W.vret hx hb hr (fun t ht hW => ⟨⟨_, rfl, Or.inl ⟨x_38, h_39, x_40, h_41, x_29, h_30, (g.fcts [0, 1, 2, 3] rfl)⟩, q3_of g hK ht hW⟩, g.2.2.1.F ht⟩) g.2.2.1.2.2 dX2_readField_204
              · have g := g.more hF_34
                refine lv_aload_n hx hb dX2_readField_182 rfl (lv_at hl 4 rfl) ?_
                refine g_getk (C := RX2) (T := TX2) (N := 16) hx hb hts (mc_ inX2) hown hK g rfl 0 (by decide) rfl (hts _ (List.mem_cons_of_mem _ t_416)) (fun _ h9 => h9) 4 rfl dX2_readField_183 ?_
                refine g_getk (C := RX8) (T := TX8) (N := 10) hx hb hts (mc_ inX8) hown hK g rfl 8 (by decide) rfl (hts _ (List.mem_cons_of_mem _ t_294)) (fun _ h9 => h9) 1 rfl dX2_readField_186 ?_
                have kb_0 : bd 0 0 (0 : Int32) := ⟨by decide, by decide⟩
                refine lv_if_ne (tgt := 204) hx hb dX2_readField_189 (by decide) (fun c_43 => ?_) (fun c_43 => ?_)
                · have fc_43 := neq_f c_43
                  have kb_1201 : bd 1201 1201 (1201 : Int32) := ⟨by decide, by decide⟩
                  subst hQ
                  exact W.vret hx hb hr (fun t ht hW => ⟨⟨_, rfl, Or.inr (⟨1201, kb_1201, x_32, h_33, (g.fcts [0, 1] rfl)⟩), q3_of g hK ht hW⟩, g.2.2.1.F ht⟩) g.2.2.1.2.2 dX2_readField_204
                · have fc_43 := eq_f c_43
                  have b_44 : bd 1 0 x_32 := eqX fc_43 h_33 kb_0 (by decide)
                  exact bd_no b_44 (by decide)
            · have fc_27 := eq_f c_27
              have b_45 : bd 61 61 r_26 := eqX fc_27 (bdT r_26) kb_61 (by decide)
              refine lv_aload_n hx hb dX2_readField_158 rfl (lv_at hl 4 rfl) ?_
              refine g_getk (C := RX2) (T := TX2) (N := 16) hx hb hts (mc_ inX2) hown hK g rfl 0 (by decide) rfl (hts _ (List.mem_cons_of_mem _ t_416)) (fun _ h9 => h9) 3 rfl dX2_readField_159 ?_
              refine g_callv (va_runV (As := []) (rest := []) ⟨hx, hb, hml, hown, hts⟩ (r_X8_next l dC dI L kd tys fr_26 H.size g.2.2.2.1 q0_ mq0_ kq0_) (cwV 0 hts (gV_ t_1131 t_1103 t_1104 t_184 t_1105) rfl rfl rfl (by decide +kernel) ⟨(Nat.le_of_ble_eq_true rfl), (Nat.le_of_ble_eq_true rfl)⟩) (pre3V g hK mq0_ kq0_ (by decide) (q := (RX8, TX8, 10)) rfl) rfl rfl hl.1 rfl (lv_room (Nat.le_of_ble_eq_true rfl)) dX2_readField_162 ⟨(Nat.le_of_ble_eq_true rfl), (Nat.le_of_ble_eq_true rfl)⟩) g hK (by decide) (by decide) (fx' := [(9, 7, q1_, .int x_23), (9, 2, q1_, .int x_14), (2, 0, a0_, .ref q0_), (2, 4, a0_, .ref q1_), (8, 8, q0_, .int y0_)]) rfl (fun fr_46 H locs hp hMr_46 g => ?_)
              obtain ⟨x_47, h_48, hF_49⟩ := hp
              have g := g.more hF_49
              refine lv_aload_n hx hb dX2_readField_165 rfl (lv_at hl 4 rfl) ?_
              refine lv_ldc (v := (-2147483648)) hx hb hown (hts _ (List.mem_cons_of_mem _ t_1159)) dX2_readField_166 ?_
              refine g_calli (va_runV (As := [.int (-2147483648)]) (rest := []) ⟨hx, hb, hml, hown, hts⟩ (r_X2_readNumber l dC dI L kd tys fr_46 H.size g.2.2.2.1 a0_ ma0_ ka0_ (-2147483648) q0_ mq0_ kq0_ y0_ by0_ (g.fcts [3, 5] rfl)) (cwV 1 hts (gV_ t_1160 t_1162 t_11 t_183 t_1163) rfl rfl rfl (by decide +kernel) ⟨(Nat.le_of_ble_eq_true rfl), (Nat.le_of_ble_eq_true rfl)⟩) (pre3V g hK ma0_ ka0_ (by decide) (q := (RX2, TX2, 16)) rfl) rfl rfl hl.1 rfl (lv_room (Nat.le_of_ble_eq_true rfl)) dX2_readField_168 ⟨(Nat.le_of_ble_eq_true rfl), (Nat.le_of_ble_eq_true rfl)⟩) g hK (by decide) (by decide) (fx' := [(9, 7, q1_, .int x_23), (9, 2, q1_, .int x_14), (2, 0, a0_, .ref q0_), (2, 4, a0_, .ref q1_)]) rfl (fun r_50 fr_50 H locs hp hMr_50 g => ?_)
              rcases hp with ⟨x_51, h_52, hF_53⟩ | ⟨x_54, h_55, hF_56⟩
              · have g := g.more hF_53
                refine lv_istore (lv' := [(5, .int r_50), (4, .int 0), (2, .long r_6), (1, .int r_5), (0, .ref a0_)]) hx hb dX2_readField_171 hl (by decide) rfl (fun ls hl => ?_)
                refine lv_aload_n hx hb dX2_readField_173 rfl (lv_at hl 4 rfl) ?_
                refine g_getk (C := RX2) (T := TX2) (N := 16) hx hb hts (mc_ inX2) hown hK g rfl 0 (by decide) rfl (hts _ (List.mem_cons_of_mem _ t_416)) (fun _ h9 => h9) 4 rfl dX2_readField_174 ?_
                refine lv_bipush (v := 59) hx hb dX2_readField_177 (by decide) ?_
                refine g_callv (va_runV (As := [.int 59]) (rest := []) ⟨hx, hb, hml, hown, hts⟩ (r_X8_take l dC dI L kd tys fr_50 H.size g.2.2.2.1 q0_ mq0_ kq0_ 59 y0_ by0_ (g.fcts [1] rfl)) (cwV 1 hts (gV_ t_1098 t_1099 t_1100 t_184 t_1101) rfl rfl rfl (by decide +kernel) ⟨(Nat.le_of_ble_eq_true rfl), (Nat.le_of_ble_eq_true rfl)⟩) (pre3V g hK mq0_ kq0_ (by decide) (q := (RX8, TX8, 10)) rfl) rfl rfl hl.1 rfl (lv_room (Nat.le_of_ble_eq_true rfl)) dX2_readField_179 ⟨(Nat.le_of_ble_eq_true rfl), (Nat.le_of_ble_eq_true rfl)⟩) g hK (by decide) (by decide) (fx' := [(9, 7, q1_, .int x_23), (9, 2, q1_, .int x_14), (2, 0, a0_, .ref q0_), (2, 4, a0_, .ref q1_)]) rfl (fun fr_57 H locs hp hMr_57 g => ?_)
                rcases hp with ⟨x_58, h_59, hF_60⟩ | ⟨x_61, h_62, hF_63⟩
                · have g := g.more hF_60
                  refine lv_aload_n hx hb dX2_readField_182 rfl (lv_at hl 4 rfl) ?_
                  refine g_getk (C := RX2) (T := TX2) (N := 16) hx hb hts (mc_ inX2) hown hK g rfl 0 (by decide) rfl (hts _ (List.mem_cons_of_mem _ t_416)) (fun _ h9 => h9) 4 rfl dX2_readField_183 ?_
                  refine g_getk (C := RX8) (T := TX8) (N := 10) hx hb hts (mc_ inX8) hown hK g rfl 8 (by decide) rfl (hts _ (List.mem_cons_of_mem _ t_294)) (fun _ h9 => h9) 1 rfl dX2_readField_186 ?_
                  have kb_0 : bd 0 0 (0 : Int32) := ⟨by decide, by decide⟩
                  refine lv_if_ne (tgt := 204) hx hb dX2_readField_189 (by decide) (fun c_64 => ?_) (fun c_64 => ?_)
                  · have fc_64 := neq_f c_64
                    have b_65 : bd 1 (-1) y0_ := neX fc_64 by0_ kb_0 (by decide)
                    exact bd_no b_65 (by decide)
                  · have fc_64 := eq_f c_64
                    refine lv_aload_n hx hb dX2_readField_192 rfl (lv_at hl 4 rfl) ?_
                    refine g_getk (C := RX2) (T := TX2) (N := 16) hx hb hts (mc_ inX2) hown hK g rfl 4 (by decide) rfl (hts _ (List.mem_cons_of_mem _ t_420)) (fun _ h9 => h9) 5 rfl dX2_readField_193 ?_
                    refine lv_lload_n hx hb dX2_readField_196 rfl (lv_at hl 2 rfl) ?_
                    refine lv_iload hx hb dX2_readField_197 (lv_at hl 1 rfl) ?_
                    refine lv_iload hx hb dX2_readField_199 (lv_at hl 0 rfl) ?_
                    refine g_callv (va_runV (As := [.long r_6, .int 0, .int r_50]) (rest := []) ⟨hx, hb, hml, hown, hts⟩ (r_X9_addField_2 l dC dI L kd tys fr_57 H.size g.2.2.2.1 q1_ mq1_ kq1_ r_6 0 kb_0 r_50 x_23 b_25 x_14 b_16 (g.fcts [2, 3] rfl)) (cwV 3 hts (gV_ t_1164 t_1165 t_1166 t_192 t_1167) rfl rfl rfl (by decide +kernel) ⟨(Nat.le_of_ble_eq_true rfl), (Nat.le_of_ble_eq_true rfl)⟩) (pre3V g hK mq1_ kq1_ (by decide) (q := (RX9, TX9, 13)) rfl) rfl rfl hl.1 rfl (lv_room (Nat.le_of_ble_eq_true rfl)) dX2_readField_201 ⟨(Nat.le_of_ble_eq_true rfl), (Nat.le_of_ble_eq_true rfl)⟩) g hK (by decide) (by decide) (fx' := [(8, 6, q0_, .int x_58), (8, 8, q0_, .int y0_), (2, 0, a0_, .ref q0_), (2, 4, a0_, .ref q1_)]) rfl (fun fr_66 H locs hp hMr_66 g => ?_)
                    obtain ⟨x_67, h_68, x_69, h_70, hF_71⟩ := hp
                    have g := g.more hF_71
                    subst hQ
                    exact W.vret hx hb hr (fun t ht hW => ⟨⟨_, rfl, Or.inl ⟨x_67, h_68, x_69, h_70, x_58, h_59, (g.fcts [0, 1, 2, 3] rfl)⟩, q3_of g hK ht hW⟩, g.2.2.1.F ht⟩) g.2.2.1.2.2 dX2_readField_204
                · have g := g.more hF_63
                  refine lv_aload_n hx hb dX2_readField_182 rfl (lv_at hl 4 rfl) ?_
                  refine g_getk (C := RX2) (T := TX2) (N := 16) hx hb hts (mc_ inX2) hown hK g rfl 0 (by decide) rfl (hts _ (List.mem_cons_of_mem _ t_416)) (fun _ h9 => h9) 4 rfl dX2_readField_183 ?_
                  refine g_getk (C := RX8) (T := TX8) (N := 10) hx hb hts (mc_ inX8) hown hK g rfl 8 (by decide) rfl (hts _ (List.mem_cons_of_mem _ t_294)) (fun _ h9 => h9) 1 rfl dX2_readField_186 ?_
                  have kb_0 : bd 0 0 (0 : Int32) := ⟨by decide, by decide⟩
                  refine lv_if_ne (tgt := 204) hx hb dX2_readField_189 (by decide) (fun c_72 => ?_) (fun c_72 => ?_)
                  · have fc_72 := neq_f c_72
                    have kb_1201 : bd 1201 1201 (1201 : Int32) := ⟨by decide, by decide⟩
                    subst hQ
                    exact W.vret hx hb hr (fun t ht hW => ⟨⟨_, rfl, Or.inr (⟨1201, kb_1201, x_61, h_62, (g.fcts [0, 1] rfl)⟩), q3_of g hK ht hW⟩, g.2.2.1.F ht⟩) g.2.2.1.2.2 dX2_readField_204
                  · have fc_72 := eq_f c_72
                    have b_73 : bd 1 0 x_61 := eqX fc_72 h_62 kb_0 (by decide)
                    exact bd_no b_73 (by decide)
              · have g := g.more hF_56
                refine lv_istore (lv' := [(5, .int r_50), (4, .int 0), (2, .long r_6), (1, .int r_5), (0, .ref a0_)]) hx hb dX2_readField_171 hl (by decide) rfl (fun ls hl => ?_)
                refine lv_aload_n hx hb dX2_readField_173 rfl (lv_at hl 4 rfl) ?_
                refine g_getk (C := RX2) (T := TX2) (N := 16) hx hb hts (mc_ inX2) hown hK g rfl 0 (by decide) rfl (hts _ (List.mem_cons_of_mem _ t_416)) (fun _ h9 => h9) 4 rfl dX2_readField_174 ?_
                refine lv_bipush (v := 59) hx hb dX2_readField_177 (by decide) ?_
                have kb_1201 : bd 1201 1201 (1201 : Int32) := ⟨by decide, by decide⟩
                refine g_callv (va_runV (As := [.int 59]) (rest := []) ⟨hx, hb, hml, hown, hts⟩ (r_X8_take_2 l dC dI L kd tys fr_50 H.size g.2.2.2.1 q0_ mq0_ kq0_ 59 1201 kb_1201 x_54 h_55 (g.fcts [0, 1] rfl)) (cwV 1 hts (gV_ t_1098 t_1099 t_1100 t_184 t_1101) rfl rfl rfl (by decide +kernel) ⟨(Nat.le_of_ble_eq_true rfl), (Nat.le_of_ble_eq_true rfl)⟩) (pre3V g hK mq0_ kq0_ (by decide) (q := (RX8, TX8, 10)) rfl) rfl rfl hl.1 rfl (lv_room (Nat.le_of_ble_eq_true rfl)) dX2_readField_179 ⟨(Nat.le_of_ble_eq_true rfl), (Nat.le_of_ble_eq_true rfl)⟩) g hK (by decide) (by decide) (fx' := [(8, 8, q0_, .int x_54), (9, 7, q1_, .int x_23), (9, 2, q1_, .int x_14), (2, 0, a0_, .ref q0_), (2, 4, a0_, .ref q1_)]) rfl (fun fr_74 H locs hp hMr_74 g => ?_)
                obtain ⟨x_75, h_76, hF_77⟩ := hp
                have g := g.more hF_77
                refine lv_aload_n hx hb dX2_readField_182 rfl (lv_at hl 4 rfl) ?_
                refine g_getk (C := RX2) (T := TX2) (N := 16) hx hb hts (mc_ inX2) hown hK g rfl 0 (by decide) rfl (hts _ (List.mem_cons_of_mem _ t_416)) (fun _ h9 => h9) 4 rfl dX2_readField_183 ?_
                refine g_getk (C := RX8) (T := TX8) (N := 10) hx hb hts (mc_ inX8) hown hK g rfl 8 (by decide) rfl (hts _ (List.mem_cons_of_mem _ t_294)) (fun _ h9 => h9) 1 rfl dX2_readField_186 ?_
                have kb_0 : bd 0 0 (0 : Int32) := ⟨by decide, by decide⟩
                refine lv_if_ne (tgt := 204) hx hb dX2_readField_189 (by decide) (fun c_78 => ?_) (fun c_78 => ?_)
                · have fc_78 := neq_f c_78
                  subst hQ
                  exact W.vret hx hb hr (fun t ht hW => ⟨⟨_, rfl, Or.inr (⟨x_75, h_76, x_54, h_55, (g.fcts [0, 1] rfl)⟩), q3_of g hK ht hW⟩, g.2.2.1.F ht⟩) g.2.2.1.2.2 dX2_readField_204
                · have fc_78 := eq_f c_78
                  have b_79 : bd 1 0 x_54 := eqX fc_78 h_55 kb_0 (by decide)
                  exact bd_no b_79 (by decide)
          · have fc_24 := nlt_f c_24
            have b_80 : bd 24 24 x_23 := leR fc_24 kb_24 bx_23 (by decide)
            refine lv_aload_n hx hb dX2_readField_134 rfl (lv_at hl 3 rfl) ?_
            refine g_getk (C := RX2) (T := TX2) (N := 16) hx hb hts (mc_ inX2) hown hK g rfl 0 (by decide) rfl (hts _ (List.mem_cons_of_mem _ t_416)) (fun _ h9 => h9) 3 rfl dX2_readField_135 ?_
            refine lv_iconst (v := 4) hx hb dX2_readField_138 (by decide) ?_
            refine lv_iload_n hx hb dX2_readField_139 rfl (lv_at hl 2 rfl) ?_
            have kb_4 : bd 4 4 (4 : Int32) := ⟨by decide, by decide⟩
            refine g_callv (va_runV (As := [.int 4, .int r_5]) (rest := []) ⟨hx, hb, hml, hown, hts⟩ (r_X8_fail l dC dI L kd tys fr_21 H.size g.2.2.2.1 q0_ mq0_ kq0_ 4 (bd_sub kb_4 (by decide)) r_5 y0_ by0_ (g.fcts [5] rfl)) (cwV 2 hts (gV_ t_1122 t_1107 t_1108 t_184 t_1109) rfl rfl rfl (by decide +kernel) ⟨(Nat.le_of_ble_eq_true rfl), (Nat.le_of_ble_eq_true rfl)⟩) (pre3V g hK mq0_ kq0_ (by decide) (q := (RX8, TX8, 10)) rfl) rfl rfl hl.1 rfl (lv_room (Nat.le_of_ble_eq_true rfl)) dX2_readField_140 ⟨(Nat.le_of_ble_eq_true rfl), (Nat.le_of_ble_eq_true rfl)⟩) g hK (by decide) (by decide) (fx' := [(9, 7, q1_, .int x_23), (9, 2, q1_, .int x_14), (2, 0, a0_, .ref q0_), (2, 4, a0_, .ref q1_)]) rfl (fun fr_81 H locs hp hMr_81 g => ?_)
            obtain ⟨x_82, h_83, hF_84⟩ := hp
            have g := g.more hF_84
            refine lv_iconst (v := 0) hx hb dX2_readField_143 (by decide) ?_
            refine lv_istore (lv' := [(5, .int 0), (4, .int 0), (2, .long r_6), (1, .int r_5), (0, .ref a0_)]) hx hb dX2_readField_144 hl (by decide) rfl (fun ls hl => ?_)
            refine lv_aload_n hx hb dX2_readField_146 rfl (lv_at hl 4 rfl) ?_
            refine g_getk (C := RX2) (T := TX2) (N := 16) hx hb hts (mc_ inX2) hown hK g rfl 0 (by decide) rfl (hts _ (List.mem_cons_of_mem _ t_416)) (fun _ h9 => h9) 4 rfl dX2_readField_147 ?_
            have kb_1201 : bd 1201 1201 (1201 : Int32) := ⟨by decide, by decide⟩
            refine g_calli (va_runV (As := []) (rest := []) ⟨hx, hb, hml, hown, hts⟩ (r_X8_kind_2 l dC dI L kd tys fr_81 H.size g.2.2.2.1 q0_ mq0_ kq0_ 1201 kb_1201 (g.fcts [0] rfl)) (cwV 0 hts (gV_ t_1118 t_1119 t_1120 t_184 t_1121) rfl rfl rfl (by decide +kernel) ⟨(Nat.le_of_ble_eq_true rfl), (Nat.le_of_ble_eq_true rfl)⟩) (pre3V g hK mq0_ kq0_ (by decide) (q := (RX8, TX8, 10)) rfl) rfl rfl hl.1 rfl (lv_room (Nat.le_of_ble_eq_true rfl)) dX2_readField_150 ⟨(Nat.le_of_ble_eq_true rfl), (Nat.le_of_ble_eq_true rfl)⟩) g hK (by decide) (by decide) (fx' := [(8, 6, q0_, .int 1201), (8, 8, q0_, .int x_82), (9, 7, q1_, .int x_23), (9, 2, q1_, .int x_14), (2, 0, a0_, .ref q0_), (2, 4, a0_, .ref q1_)]) rfl (fun r_85 fr_85 H locs hp hMr_85 g => ?_)
            obtain ⟨h_86, -⟩ := hp
            obtain rfl : r_85 = 0 := h_86
            refine lv_bipush (v := 61) hx hb dX2_readField_153 (by decide) ?_
            refine lv_icmp_ne (tgt := 173) hx hb dX2_readField_155 (by decide) (fun c_ => ?_) (fun c_ => absurd c_ (by decide))
            refine lv_aload_n hx hb dX2_readField_173 rfl (lv_at hl 4 rfl) ?_
            refine g_getk (C := RX2) (T := TX2) (N := 16) hx hb hts (mc_ inX2) hown hK g rfl 0 (by decide) rfl (hts _ (List.mem_cons_of_mem _ t_416)) (fun _ h9 => h9) 4 rfl dX2_readField_174 ?_
            refine lv_bipush (v := 59) hx hb dX2_readField_177 (by decide) ?_
            refine g_callv (va_runV (As := [.int 59]) (rest := []) ⟨hx, hb, hml, hown, hts⟩ (r_X8_take_2 l dC dI L kd tys fr_85 H.size g.2.2.2.1 q0_ mq0_ kq0_ 59 1201 kb_1201 x_82 h_83 (g.fcts [0, 1] rfl)) (cwV 1 hts (gV_ t_1098 t_1099 t_1100 t_184 t_1101) rfl rfl rfl (by decide +kernel) ⟨(Nat.le_of_ble_eq_true rfl), (Nat.le_of_ble_eq_true rfl)⟩) (pre3V g hK mq0_ kq0_ (by decide) (q := (RX8, TX8, 10)) rfl) rfl rfl hl.1 rfl (lv_room (Nat.le_of_ble_eq_true rfl)) dX2_readField_179 ⟨(Nat.le_of_ble_eq_true rfl), (Nat.le_of_ble_eq_true rfl)⟩) g hK (by decide) (by decide) (fx' := [(8, 8, q0_, .int x_82), (9, 7, q1_, .int x_23), (9, 2, q1_, .int x_14), (2, 0, a0_, .ref q0_), (2, 4, a0_, .ref q1_)]) rfl (fun fr_87 H locs hp hMr_87 g => ?_)
            obtain ⟨x_88, h_89, hF_90⟩ := hp
            have g := g.more hF_90
            refine lv_aload_n hx hb dX2_readField_182 rfl (lv_at hl 4 rfl) ?_
            refine g_getk (C := RX2) (T := TX2) (N := 16) hx hb hts (mc_ inX2) hown hK g rfl 0 (by decide) rfl (hts _ (List.mem_cons_of_mem _ t_416)) (fun _ h9 => h9) 4 rfl dX2_readField_183 ?_
            refine g_getk (C := RX8) (T := TX8) (N := 10) hx hb hts (mc_ inX8) hown hK g rfl 8 (by decide) rfl (hts _ (List.mem_cons_of_mem _ t_294)) (fun _ h9 => h9) 1 rfl dX2_readField_186 ?_
            have kb_0 : bd 0 0 (0 : Int32) := ⟨by decide, by decide⟩
            refine lv_if_ne (tgt := 204) hx hb dX2_readField_189 (by decide) (fun c_91 => ?_) (fun c_91 => ?_)
            · have fc_91 := neq_f c_91
              subst hQ
              exact W.vret hx hb hr (fun t ht hW => ⟨⟨_, rfl, Or.inr (⟨x_88, h_89, x_82, h_83, (g.fcts [0, 1] rfl)⟩), q3_of g hK ht hW⟩, g.2.2.1.F ht⟩) g.2.2.1.2.2 dX2_readField_204
            · have fc_91 := eq_f c_91
              have b_92 : bd 1 0 x_82 := eqX fc_91 h_83 kb_0 (by decide)
              exact bd_no b_92 (by decide)
        · have fc_22 := eq_f c_22
          have b_93 : bd 91 91 r_21 := eqX fc_22 (bdT r_21) kb_91 (by decide)
          refine lv_aload_n hx hb dX2_readField_113 rfl (lv_at hl 3 rfl) ?_
          refine g_calli (va_runV (As := []) (rest := []) ⟨hx, hb, hml, hown, hts⟩ (r_X2_readRowSize l dC dI L kd tys fr_21 H.size g.2.2.2.1 a0_ ma0_ ka0_ q0_ mq0_ kq0_ q1_ mq1_ kq1_ y0_ by0_ (g.fcts [2, 3, 4] rfl)) (cwV 0 hts (gV_ t_1151 t_1153 t_10 t_183 t_1154) rfl rfl rfl (by decide +kernel) ⟨(Nat.le_of_ble_eq_true rfl), (Nat.le_of_ble_eq_true rfl)⟩) (pre3V g hK ma0_ ka0_ (by decide) (q := (RX2, TX2, 16)) rfl) rfl rfl hl.1 rfl (lv_room (Nat.le_of_ble_eq_true rfl)) dX2_readField_114 ⟨(Nat.le_of_ble_eq_true rfl), (Nat.le_of_ble_eq_true rfl)⟩) g hK (by decide) (by decide) (fx' := [(9, 2, q1_, .int x_14), (2, 0, a0_, .ref q0_), (2, 4, a0_, .ref q1_)]) rfl (fun r_94 fr_94 H locs hp hMr_94 g => ?_)
          rcases hp with ⟨h_95, x_96, h_97, x_98, h_99, hF_100⟩ | ⟨h_101, x_102, h_103, x_104, h_105, hF_106⟩ | ⟨h_107, x_108, h_109, x_110, h_111, hF_112⟩ | ⟨h_113, x_114, h_115, x_116, h_117, hF_118⟩ | ⟨h_119, x_120, h_121, x_122, h_123, hF_124⟩ | ⟨h_125, x_126, h_127, x_128, h_129, hF_130⟩ | ⟨h_131, x_132, h_133, x_134, h_135, hF_136⟩ | ⟨h_137, x_138, h_139, x_140, h_141, hF_142⟩ | ⟨h_143, x_144, h_145, x_146, h_147, hF_148⟩ | ⟨h_149, x_150, h_151, x_152, h_153, hF_154⟩ | ⟨h_155, x_156, h_157, x_158, h_159, hF_160⟩ | ⟨h_161, x_162, h_163, x_164, h_165, hF_166⟩ | ⟨h_167, x_168, h_169, x_170, h_171, hF_172⟩ | ⟨h_173, x_174, h_175, x_176, h_177, hF_178⟩ | ⟨h_179, x_180, h_181, x_182, h_183, hF_184⟩ | ⟨h_185, x_186, h_187, x_188, h_189, hF_190⟩ | ⟨x_191, h_192, x_193, h_194, hF_195⟩
          · obtain rfl : r_94 = 1 := h_95
            have g := g.more hF_100
            refine lv_istore (lv' := [(4, .int 1), (2, .long r_6), (1, .int r_5), (0, .ref a0_)]) hx hb dX2_readField_117 hl (by decide) rfl (fun ls hl => ?_)
            refine lv_goto (tgt := 143) hx hb dX2_readField_119 (by decide) ?_
            refine lv_iconst (v := 0) hx hb dX2_readField_143 (by decide) ?_
            refine lv_istore (lv' := [(5, .int 0), (4, .int 1), (2, .long r_6), (1, .int r_5), (0, .ref a0_)]) hx hb dX2_readField_144 hl (by decide) rfl (fun ls hl => ?_)
            refine lv_aload_n hx hb dX2_readField_146 rfl (lv_at hl 4 rfl) ?_
            refine g_getk (C := RX2) (T := TX2) (N := 16) hx hb hts (mc_ inX2) hown hK g rfl 0 (by decide) rfl (hts _ (List.mem_cons_of_mem _ t_416)) (fun _ h9 => h9) 4 rfl dX2_readField_147 ?_
            refine g_calli (va_runV (As := []) (rest := []) ⟨hx, hb, hml, hown, hts⟩ (r_X8_kind l dC dI L kd tys fr_94 H.size g.2.2.2.1 q0_ mq0_ kq0_) (cwV 0 hts (gV_ t_1118 t_1119 t_1120 t_184 t_1121) rfl rfl rfl (by decide +kernel) ⟨(Nat.le_of_ble_eq_true rfl), (Nat.le_of_ble_eq_true rfl)⟩) (pre3V g hK mq0_ kq0_ (by decide) (q := (RX8, TX8, 10)) rfl) rfl rfl hl.1 rfl (lv_room (Nat.le_of_ble_eq_true rfl)) dX2_readField_150 ⟨(Nat.le_of_ble_eq_true rfl), (Nat.le_of_ble_eq_true rfl)⟩) g hK (by decide) (by decide) (fx' := [(8, 6, q0_, .int x_96), (8, 8, q0_, .int y0_), (9, 7, q1_, .int x_98), (9, 2, q1_, .int x_14), (2, 0, a0_, .ref q0_), (2, 4, a0_, .ref q1_)]) rfl (fun r_196 fr_196 H locs hp hMr_196 g => ?_)
            refine lv_bipush (v := 61) hx hb dX2_readField_153 (by decide) ?_
            have kb_61 : bd 61 61 (61 : Int32) := ⟨by decide, by decide⟩
            refine lv_icmp_ne (tgt := 173) hx hb dX2_readField_155 (by decide) (fun c_197 => ?_) (fun c_197 => ?_)
            · have fc_197 := neq_f c_197
              refine lv_aload_n hx hb dX2_readField_173 rfl (lv_at hl 4 rfl) ?_
              refine g_getk (C := RX2) (T := TX2) (N := 16) hx hb hts (mc_ inX2) hown hK g rfl 0 (by decide) rfl (hts _ (List.mem_cons_of_mem _ t_416)) (fun _ h9 => h9) 4 rfl dX2_readField_174 ?_
              refine lv_bipush (v := 59) hx hb dX2_readField_177 (by decide) ?_
              refine g_callv (va_runV (As := [.int 59]) (rest := []) ⟨hx, hb, hml, hown, hts⟩ (r_X8_take l dC dI L kd tys fr_196 H.size g.2.2.2.1 q0_ mq0_ kq0_ 59 y0_ by0_ (g.fcts [1] rfl)) (cwV 1 hts (gV_ t_1098 t_1099 t_1100 t_184 t_1101) rfl rfl rfl (by decide +kernel) ⟨(Nat.le_of_ble_eq_true rfl), (Nat.le_of_ble_eq_true rfl)⟩) (pre3V g hK mq0_ kq0_ (by decide) (q := (RX8, TX8, 10)) rfl) rfl rfl hl.1 rfl (lv_room (Nat.le_of_ble_eq_true rfl)) dX2_readField_179 ⟨(Nat.le_of_ble_eq_true rfl), (Nat.le_of_ble_eq_true rfl)⟩) g hK (by decide) (by decide) (fx' := [(9, 7, q1_, .int x_98), (9, 2, q1_, .int x_14), (2, 0, a0_, .ref q0_), (2, 4, a0_, .ref q1_)]) rfl (fun fr_198 H locs hp hMr_198 g => ?_)
              rcases hp with ⟨x_199, h_200, hF_201⟩ | ⟨x_202, h_203, hF_204⟩
              · have g := g.more hF_201
                refine lv_aload_n hx hb dX2_readField_182 rfl (lv_at hl 4 rfl) ?_
                refine g_getk (C := RX2) (T := TX2) (N := 16) hx hb hts (mc_ inX2) hown hK g rfl 0 (by decide) rfl (hts _ (List.mem_cons_of_mem _ t_416)) (fun _ h9 => h9) 4 rfl dX2_readField_183 ?_
                refine g_getk (C := RX8) (T := TX8) (N := 10) hx hb hts (mc_ inX8) hown hK g rfl 8 (by decide) rfl (hts _ (List.mem_cons_of_mem _ t_294)) (fun _ h9 => h9) 1 rfl dX2_readField_186 ?_
                have kb_0 : bd 0 0 (0 : Int32) := ⟨by decide, by decide⟩
                refine lv_if_ne (tgt := 204) hx hb dX2_readField_189 (by decide) (fun c_205 => ?_) (fun c_205 => ?_)
                · have fc_205 := neq_f c_205
                  have b_206 : bd 1 (-1) y0_ := neX fc_205 by0_ kb_0 (by decide)
                  exact bd_no b_206 (by decide)
                · have fc_205 := eq_f c_205
                  refine lv_aload_n hx hb dX2_readField_192 rfl (lv_at hl 4 rfl) ?_
                  refine g_getk (C := RX2) (T := TX2) (N := 16) hx hb hts (mc_ inX2) hown hK g rfl 4 (by decide) rfl (hts _ (List.mem_cons_of_mem _ t_420)) (fun _ h9 => h9) 5 rfl dX2_readField_193 ?_
                  refine lv_lload_n hx hb dX2_readField_196 rfl (lv_at hl 2 rfl) ?_
                  refine lv_iload hx hb dX2_readField_197 (lv_at hl 1 rfl) ?_
                  refine lv_iload hx hb dX2_readField_199 (lv_at hl 0 rfl) ?_
                  have kb_1 : bd 1 1 (1 : Int32) := ⟨by decide, by decide⟩
                  refine g_callv (va_runV (As := [.long r_6, .int 1, .int 0]) (rest := []) ⟨hx, hb, hml, hown, hts⟩ (r_X9_addField_3 l dC dI L kd tys fr_198 H.size g.2.2.2.1 q1_ mq1_ kq1_ r_6 1 kb_1 0 kb_0 x_98 h_99 x_14 b_16 (g.fcts [2, 3] rfl)) (cwV 3 hts (gV_ t_1164 t_1165 t_1166 t_192 t_1167) rfl rfl rfl (by decide +kernel) ⟨(Nat.le_of_ble_eq_true rfl), (Nat.le_of_ble_eq_true rfl)⟩) (pre3V g hK mq1_ kq1_ (by decide) (q := (RX9, TX9, 13)) rfl) rfl rfl hl.1 rfl (lv_room (Nat.le_of_ble_eq_true rfl)) dX2_readField_201 ⟨(Nat.le_of_ble_eq_true rfl), (Nat.le_of_ble_eq_true rfl)⟩) g hK (by decide) (by decide) (fx' := [(8, 6, q0_, .int x_199), (8, 8, q0_, .int y0_), (2, 0, a0_, .ref q0_), (2, 4, a0_, .ref q1_)]) rfl (fun fr_207 H locs hp hMr_207 g => ?_)
                  obtain ⟨x_208, h_209, x_210, h_211, hF_212⟩ := hp
                  have g := g.more hF_212
                  subst hQ
                  exact W.vret hx hb hr (fun t ht hW => ⟨⟨_, rfl, Or.inl ⟨x_208, h_209, x_210, h_211, x_199, h_200, (g.fcts [0, 1, 2, 3] rfl)⟩, q3_of g hK ht hW⟩, g.2.2.1.F ht⟩) g.2.2.1.2.2 dX2_readField_204
              · have g := g.more hF_204
                refine lv_aload_n hx hb dX2_readField_182 rfl (lv_at hl 4 rfl) ?_
                refine g_getk (C := RX2) (T := TX2) (N := 16) hx hb hts (mc_ inX2) hown hK g rfl 0 (by decide) rfl (hts _ (List.mem_cons_of_mem _ t_416)) (fun _ h9 => h9) 4 rfl dX2_readField_183 ?_
                refine g_getk (C := RX8) (T := TX8) (N := 10) hx hb hts (mc_ inX8) hown hK g rfl 8 (by decide) rfl (hts _ (List.mem_cons_of_mem _ t_294)) (fun _ h9 => h9) 1 rfl dX2_readField_186 ?_
                have kb_0 : bd 0 0 (0 : Int32) := ⟨by decide, by decide⟩
                refine lv_if_ne (tgt := 204) hx hb dX2_readField_189 (by decide) (fun c_213 => ?_) (fun c_213 => ?_)
                · have fc_213 := neq_f c_213
                  have kb_1201 : bd 1201 1201 (1201 : Int32) := ⟨by decide, by decide⟩
                  subst hQ
                  exact W.vret hx hb hr (fun t ht hW => ⟨⟨_, rfl, Or.inr (⟨1201, kb_1201, x_202, h_203, (g.fcts [0, 1] rfl)⟩), q3_of g hK ht hW⟩, g.2.2.1.F ht⟩) g.2.2.1.2.2 dX2_readField_204
                · have fc_213 := eq_f c_213
                  have b_214 : bd 1 0 x_202 := eqX fc_213 h_203 kb_0 (by decide)
                  exact bd_no b_214 (by decide)
            · have fc_197 := eq_f c_197
              have b_215 : bd 61 61 r_196 := eqX fc_197 (bdT r_196) kb_61 (by decide)
              refine lv_aload_n hx hb dX2_readField_158 rfl (lv_at hl 4 rfl) ?_
              refine g_getk (C := RX2) (T := TX2) (N := 16) hx hb hts (mc_ inX2) hown hK g rfl 0 (by decide) rfl (hts _ (List.mem_cons_of_mem _ t_416)) (fun _ h9 => h9) 4 rfl dX2_readField_159 ?_
              refine g_callv (va_runV (As := []) (rest := []) ⟨hx, hb, hml, hown, hts⟩ (r_X8_next l dC dI L kd tys fr_196 H.size g.2.2.2.1 q0_ mq0_ kq0_) (cwV 0 hts (gV_ t_1131 t_1103 t_1104 t_184 t_1105) rfl rfl rfl (by decide +kernel) ⟨(Nat.le_of_ble_eq_true rfl), (Nat.le_of_ble_eq_true rfl)⟩) (pre3V g hK mq0_ kq0_ (by decide) (q := (RX8, TX8, 10)) rfl) rfl rfl hl.1 rfl (lv_room (Nat.le_of_ble_eq_true rfl)) dX2_readField_162 ⟨(Nat.le_of_ble_eq_true rfl), (Nat.le_of_ble_eq_true rfl)⟩) g hK (by decide) (by decide) (fx' := [(8, 8, q0_, .int y0_), (9, 7, q1_, .int x_98), (9, 2, q1_, .int x_14), (2, 0, a0_, .ref q0_), (2, 4, a0_, .ref q1_)]) rfl (fun fr_216 H locs hp hMr_216 g => ?_)
              obtain ⟨x_217, h_218, hF_219⟩ := hp
              have g := g.more hF_219
              refine lv_aload_n hx hb dX2_readField_165 rfl (lv_at hl 4 rfl) ?_
              refine lv_ldc (v := (-2147483648)) hx hb hown (hts _ (List.mem_cons_of_mem _ t_1159)) dX2_readField_166 ?_
              refine g_calli (va_runV (As := [.int (-2147483648)]) (rest := []) ⟨hx, hb, hml, hown, hts⟩ (r_X2_readNumber l dC dI L kd tys fr_216 H.size g.2.2.2.1 a0_ ma0_ ka0_ (-2147483648) q0_ mq0_ kq0_ y0_ by0_ (g.fcts [4, 1] rfl)) (cwV 1 hts (gV_ t_1160 t_1162 t_11 t_183 t_1163) rfl rfl rfl (by decide +kernel) ⟨(Nat.le_of_ble_eq_true rfl), (Nat.le_of_ble_eq_true rfl)⟩) (pre3V g hK ma0_ ka0_ (by decide) (q := (RX2, TX2, 16)) rfl) rfl rfl hl.1 rfl (lv_room (Nat.le_of_ble_eq_true rfl)) dX2_readField_168 ⟨(Nat.le_of_ble_eq_true rfl), (Nat.le_of_ble_eq_true rfl)⟩) g hK (by decide) (by decide) (fx' := [(9, 7, q1_, .int x_98), (9, 2, q1_, .int x_14), (2, 0, a0_, .ref q0_), (2, 4, a0_, .ref q1_)]) rfl (fun r_220 fr_220 H locs hp hMr_220 g => ?_)
              rcases hp with ⟨x_221, h_222, hF_223⟩ | ⟨x_224, h_225, hF_226⟩
              · have g := g.more hF_223
                refine lv_istore (lv' := [(5, .int r_220), (4, .int 1), (2, .long r_6), (1, .int r_5), (0, .ref a0_)]) hx hb dX2_readField_171 hl (by decide) rfl (fun ls hl => ?_)
                refine lv_aload_n hx hb dX2_readField_173 rfl (lv_at hl 4 rfl) ?_
                refine g_getk (C := RX2) (T := TX2) (N := 16) hx hb hts (mc_ inX2) hown hK g rfl 0 (by decide) rfl (hts _ (List.mem_cons_of_mem _ t_416)) (fun _ h9 => h9) 4 rfl dX2_readField_174 ?_
                refine lv_bipush (v := 59) hx hb dX2_readField_177 (by decide) ?_
                refine g_callv (va_runV (As := [.int 59]) (rest := []) ⟨hx, hb, hml, hown, hts⟩ (r_X8_take l dC dI L kd tys fr_220 H.size g.2.2.2.1 q0_ mq0_ kq0_ 59 y0_ by0_ (g.fcts [1] rfl)) (cwV 1 hts (gV_ t_1098 t_1099 t_1100 t_184 t_1101) rfl rfl rfl (by decide +kernel) ⟨(Nat.le_of_ble_eq_true rfl), (Nat.le_of_ble_eq_true rfl)⟩) (pre3V g hK mq0_ kq0_ (by decide) (q := (RX8, TX8, 10)) rfl) rfl rfl hl.1 rfl (lv_room (Nat.le_of_ble_eq_true rfl)) dX2_readField_179 ⟨(Nat.le_of_ble_eq_true rfl), (Nat.le_of_ble_eq_true rfl)⟩) g hK (by decide) (by decide) (fx' := [(9, 7, q1_, .int x_98), (9, 2, q1_, .int x_14), (2, 0, a0_, .ref q0_), (2, 4, a0_, .ref q1_)]) rfl (fun fr_227 H locs hp hMr_227 g => ?_)
                rcases hp with ⟨x_228, h_229, hF_230⟩ | ⟨x_231, h_232, hF_233⟩
                · have g := g.more hF_230
                  refine lv_aload_n hx hb dX2_readField_182 rfl (lv_at hl 4 rfl) ?_
                  refine g_getk (C := RX2) (T := TX2) (N := 16) hx hb hts (mc_ inX2) hown hK g rfl 0 (by decide) rfl (hts _ (List.mem_cons_of_mem _ t_416)) (fun _ h9 => h9) 4 rfl dX2_readField_183 ?_
                  refine g_getk (C := RX8) (T := TX8) (N := 10) hx hb hts (mc_ inX8) hown hK g rfl 8 (by decide) rfl (hts _ (List.mem_cons_of_mem _ t_294)) (fun _ h9 => h9) 1 rfl dX2_readField_186 ?_
                  have kb_0 : bd 0 0 (0 : Int32) := ⟨by decide, by decide⟩
                  refine lv_if_ne (tgt := 204) hx hb dX2_readField_189 (by decide) (fun c_234 => ?_) (fun c_234 => ?_)
                  · have fc_234 := neq_f c_234
                    have b_235 : bd 1 (-1) y0_ := neX fc_234 by0_ kb_0 (by decide)
                    exact bd_no b_235 (by decide)
                  · have fc_234 := eq_f c_234
                    refine lv_aload_n hx hb dX2_readField_192 rfl (lv_at hl 4 rfl) ?_
                    refine g_getk (C := RX2) (T := TX2) (N := 16) hx hb hts (mc_ inX2) hown hK g rfl 4 (by decide) rfl (hts _ (List.mem_cons_of_mem _ t_420)) (fun _ h9 => h9) 5 rfl dX2_readField_193 ?_
                    refine lv_lload_n hx hb dX2_readField_196 rfl (lv_at hl 2 rfl) ?_
                    refine lv_iload hx hb dX2_readField_197 (lv_at hl 1 rfl) ?_
                    refine lv_iload hx hb dX2_readField_199 (lv_at hl 0 rfl) ?_
                    have kb_1 : bd 1 1 (1 : Int32) := ⟨by decide, by decide⟩
                    refine g_callv (va_runV (As := [.long r_6, .int 1, .int r_220]) (rest := []) ⟨hx, hb, hml, hown, hts⟩ (r_X9_addField_4 l dC dI L kd tys fr_227 H.size g.2.2.2.1 q1_ mq1_ kq1_ r_6 1 kb_1 r_220 x_98 h_99 x_14 b_16 (g.fcts [2, 3] rfl)) (cwV 3 hts (gV_ t_1164 t_1165 t_1166 t_192 t_1167) rfl rfl rfl (by decide +kernel) ⟨(Nat.le_of_ble_eq_true rfl), (Nat.le_of_ble_eq_true rfl)⟩) (pre3V g hK mq1_ kq1_ (by decide) (q := (RX9, TX9, 13)) rfl) rfl rfl hl.1 rfl (lv_room (Nat.le_of_ble_eq_true rfl)) dX2_readField_201 ⟨(Nat.le_of_ble_eq_true rfl), (Nat.le_of_ble_eq_true rfl)⟩) g hK (by decide) (by decide) (fx' := [(8, 6, q0_, .int x_228), (8, 8, q0_, .int y0_), (2, 0, a0_, .ref q0_), (2, 4, a0_, .ref q1_)]) rfl (fun fr_236 H locs hp hMr_236 g => ?_)
                    obtain ⟨x_237, h_238, x_239, h_240, hF_241⟩ := hp
                    have g := g.more hF_241
                    subst hQ
                    exact W.vret hx hb hr (fun t ht hW => ⟨⟨_, rfl, Or.inl ⟨x_237, h_238, x_239, h_240, x_228, h_229, (g.fcts [0, 1, 2, 3] rfl)⟩, q3_of g hK ht hW⟩, g.2.2.1.F ht⟩) g.2.2.1.2.2 dX2_readField_204
                · have g := g.more hF_233
                  refine lv_aload_n hx hb dX2_readField_182 rfl (lv_at hl 4 rfl) ?_
                  refine g_getk (C := RX2) (T := TX2) (N := 16) hx hb hts (mc_ inX2) hown hK g rfl 0 (by decide) rfl (hts _ (List.mem_cons_of_mem _ t_416)) (fun _ h9 => h9) 4 rfl dX2_readField_183 ?_
                  refine g_getk (C := RX8) (T := TX8) (N := 10) hx hb hts (mc_ inX8) hown hK g rfl 8 (by decide) rfl (hts _ (List.mem_cons_of_mem _ t_294)) (fun _ h9 => h9) 1 rfl dX2_readField_186 ?_
                  have kb_0 : bd 0 0 (0 : Int32) := ⟨by decide, by decide⟩
                  refine lv_if_ne (tgt := 204) hx hb dX2_readField_189 (by decide) (fun c_242 => ?_) (fun c_242 => ?_)
                  · have fc_242 := neq_f c_242
                    have kb_1201 : bd 1201 1201 (1201 : Int32) := ⟨by decide, by decide⟩
                    subst hQ
                    exact W.vret hx hb hr (fun t ht hW => ⟨⟨_, rfl, Or.inr (⟨1201, kb_1201, x_231, h_232, (g.fcts [0, 1] rfl)⟩), q3_of g hK ht hW⟩, g.2.2.1.F ht⟩) g.2.2.1.2.2 dX2_readField_204
                  · have fc_242 := eq_f c_242
                    have b_243 : bd 1 0 x_231 := eqX fc_242 h_232 kb_0 (by decide)
                    exact bd_no b_243 (by decide)
              · have g := g.more hF_226
                refine lv_istore (lv' := [(5, .int r_220), (4, .int 1), (2, .long r_6), (1, .int r_5), (0, .ref a0_)]) hx hb dX2_readField_171 hl (by decide) rfl (fun ls hl => ?_)
                refine lv_aload_n hx hb dX2_readField_173 rfl (lv_at hl 4 rfl) ?_
                refine g_getk (C := RX2) (T := TX2) (N := 16) hx hb hts (mc_ inX2) hown hK g rfl 0 (by decide) rfl (hts _ (List.mem_cons_of_mem _ t_416)) (fun _ h9 => h9) 4 rfl dX2_readField_174 ?_
                refine lv_bipush (v := 59) hx hb dX2_readField_177 (by decide) ?_
                have kb_1201 : bd 1201 1201 (1201 : Int32) := ⟨by decide, by decide⟩
                refine g_callv (va_runV (As := [.int 59]) (rest := []) ⟨hx, hb, hml, hown, hts⟩ (r_X8_take_2 l dC dI L kd tys fr_220 H.size g.2.2.2.1 q0_ mq0_ kq0_ 59 1201 kb_1201 x_224 h_225 (g.fcts [0, 1] rfl)) (cwV 1 hts (gV_ t_1098 t_1099 t_1100 t_184 t_1101) rfl rfl rfl (by decide +kernel) ⟨(Nat.le_of_ble_eq_true rfl), (Nat.le_of_ble_eq_true rfl)⟩) (pre3V g hK mq0_ kq0_ (by decide) (q := (RX8, TX8, 10)) rfl) rfl rfl hl.1 rfl (lv_room (Nat.le_of_ble_eq_true rfl)) dX2_readField_179 ⟨(Nat.le_of_ble_eq_true rfl), (Nat.le_of_ble_eq_true rfl)⟩) g hK (by decide) (by decide) (fx' := [(8, 8, q0_, .int x_224), (9, 7, q1_, .int x_98), (9, 2, q1_, .int x_14), (2, 0, a0_, .ref q0_), (2, 4, a0_, .ref q1_)]) rfl (fun fr_244 H locs hp hMr_244 g => ?_)
                obtain ⟨x_245, h_246, hF_247⟩ := hp
                have g := g.more hF_247
                refine lv_aload_n hx hb dX2_readField_182 rfl (lv_at hl 4 rfl) ?_
                refine g_getk (C := RX2) (T := TX2) (N := 16) hx hb hts (mc_ inX2) hown hK g rfl 0 (by decide) rfl (hts _ (List.mem_cons_of_mem _ t_416)) (fun _ h9 => h9) 4 rfl dX2_readField_183 ?_
                refine g_getk (C := RX8) (T := TX8) (N := 10) hx hb hts (mc_ inX8) hown hK g rfl 8 (by decide) rfl (hts _ (List.mem_cons_of_mem _ t_294)) (fun _ h9 => h9) 1 rfl dX2_readField_186 ?_
                have kb_0 : bd 0 0 (0 : Int32) := ⟨by decide, by decide⟩
                refine lv_if_ne (tgt := 204) hx hb dX2_readField_189 (by decide) (fun c_248 => ?_) (fun c_248 => ?_)
                · have fc_248 := neq_f c_248
                  subst hQ
                  exact W.vret hx hb hr (fun t ht hW => ⟨⟨_, rfl, Or.inr (⟨x_245, h_246, x_224, h_225, (g.fcts [0, 1] rfl)⟩), q3_of g hK ht hW⟩, g.2.2.1.F ht⟩) g.2.2.1.2.2 dX2_readField_204
                · have fc_248 := eq_f c_248
                  have b_249 : bd 1 0 x_224 := eqX fc_248 h_225 kb_0 (by decide)
                  exact bd_no b_249 (by decide)
          · obtain rfl : r_94 = 1 := h_101
            have g := g.more hF_106
            refine lv_istore (lv' := [(4, .int 1), (2, .long r_6), (1, .int r_5), (0, .ref a0_)]) hx hb dX2_readField_117 hl (by decide) rfl (fun ls hl => ?_)
            refine lv_goto (tgt := 143) hx hb dX2_readField_119 (by decide) ?_
            refine lv_iconst (v := 0) hx hb dX2_readField_143 (by decide) ?_
            refine lv_istore (lv' := [(5, .int 0), (4, .int 1), (2, .long r_6), (1, .int r_5), (0, .ref a0_)]) hx hb dX2_readField_144 hl (by decide) rfl (fun ls hl => ?_)
            refine lv_aload_n hx hb dX2_readField_146 rfl (lv_at hl 4 rfl) ?_
            refine g_getk (C := RX2) (T := TX2) (N := 16) hx hb hts (mc_ inX2) hown hK g rfl 0 (by decide) rfl (hts _ (List.mem_cons_of_mem _ t_416)) (fun _ h9 => h9) 3 rfl dX2_readField_147 ?_
            refine g_calli (va_runV (As := []) (rest := []) ⟨hx, hb, hml, hown, hts⟩ (r_X8_kind_2 l dC dI L kd tys fr_94 H.size g.2.2.2.1 q0_ mq0_ kq0_ x_102 h_103 (g.fcts [0] rfl)) (cwV 0 hts (gV_ t_1118 t_1119 t_1120 t_184 t_1121) rfl rfl rfl (by decide +kernel) ⟨(Nat.le_of_ble_eq_true rfl), (Nat.le_of_ble_eq_true rfl)⟩) (pre3V g hK mq0_ kq0_ (by decide) (q := (RX8, TX8, 10)) rfl) rfl rfl hl.1 rfl (lv_room (Nat.le_of_ble_eq_true rfl)) dX2_readField_150 ⟨(Nat.le_of_ble_eq_true rfl), (Nat.le_of_ble_eq_true rfl)⟩) g hK (by decide) (by decide) (fx' := [(8, 6, q0_, .int x_102), (8, 8, q0_, .int x_104), (9, 2, q1_, .int x_14), (2, 0, a0_, .ref q0_), (2, 4, a0_, .ref q1_)]) rfl (fun r_250 fr_250 H locs hp hMr_250 g => ?_)
            obtain ⟨h_251, -⟩ := hp
            obtain rfl : r_250 = 0 := h_251
            refine lv_bipush (v := 61) hx hb dX2_readField_153 (by decide) ?_
            refine lv_icmp_ne (tgt := 173) hx hb dX2_readField_155 (by decide) (fun c_ => ?_) (fun c_ => absurd c_ (by decide))
            refine lv_aload_n hx hb dX2_readField_173 rfl (lv_at hl 4 rfl) ?_
            refine g_getk (C := RX2) (T := TX2) (N := 16) hx hb hts (mc_ inX2) hown hK g rfl 0 (by decide) rfl (hts _ (List.mem_cons_of_mem _ t_416)) (fun _ h9 => h9) 3 rfl dX2_readField_174 ?_
            refine lv_bipush (v := 59) hx hb dX2_readField_177 (by decide) ?_
            refine g_callv (va_runV (As := [.int 59]) (rest := []) ⟨hx, hb, hml, hown, hts⟩ (r_X8_take_2 l dC dI L kd tys fr_250 H.size g.2.2.2.1 q0_ mq0_ kq0_ 59 x_102 h_103 x_104 h_105 (g.fcts [0, 1] rfl)) (cwV 1 hts (gV_ t_1098 t_1099 t_1100 t_184 t_1101) rfl rfl rfl (by decide +kernel) ⟨(Nat.le_of_ble_eq_true rfl), (Nat.le_of_ble_eq_true rfl)⟩) (pre3V g hK mq0_ kq0_ (by decide) (q := (RX8, TX8, 10)) rfl) rfl rfl hl.1 rfl (lv_room (Nat.le_of_ble_eq_true rfl)) dX2_readField_179 ⟨(Nat.le_of_ble_eq_true rfl), (Nat.le_of_ble_eq_true rfl)⟩) g hK (by decide) (by decide) (fx' := [(8, 8, q0_, .int x_104), (9, 2, q1_, .int x_14), (2, 0, a0_, .ref q0_), (2, 4, a0_, .ref q1_)]) rfl (fun fr_252 H locs hp hMr_252 g => ?_)
            obtain ⟨x_253, h_254, hF_255⟩ := hp
            have g := g.more hF_255
            refine lv_aload_n hx hb dX2_readField_182 rfl (lv_at hl 4 rfl) ?_
            refine g_getk (C := RX2) (T := TX2) (N := 16) hx hb hts (mc_ inX2) hown hK g rfl 0 (by decide) rfl (hts _ (List.mem_cons_of_mem _ t_416)) (fun _ h9 => h9) 3 rfl dX2_readField_183 ?_
            refine g_getk (C := RX8) (T := TX8) (N := 10) hx hb hts (mc_ inX8) hown hK g rfl 8 (by decide) rfl (hts _ (List.mem_cons_of_mem _ t_294)) (fun _ h9 => h9) 1 rfl dX2_readField_186 ?_
            have kb_0 : bd 0 0 (0 : Int32) := ⟨by decide, by decide⟩
            refine lv_if_ne (tgt := 204) hx hb dX2_readField_189 (by decide) (fun c_256 => ?_) (fun c_256 => ?_)
            · have fc_256 := neq_f c_256
              subst hQ
              exact W.vret hx hb hr (fun t ht hW => ⟨⟨_, rfl, Or.inr (⟨x_253, h_254, x_104, h_105, (g.fcts [0, 1] rfl)⟩), q3_of g hK ht hW⟩, g.2.2.1.F ht⟩) g.2.2.1.2.2 dX2_readField_204
            · have fc_256 := eq_f c_256
              have b_257 : bd 1 0 x_104 := eqX fc_256 h_105 kb_0 (by decide)
              exact bd_no b_257 (by decide)
          · obtain rfl : r_94 = 2 := h_107
            have g := g.more hF_112
            refine lv_istore (lv' := [(4, .int 2), (2, .long r_6), (1, .int r_5), (0, .ref a0_)]) hx hb dX2_readField_117 hl (by decide) rfl (fun ls hl => ?_)
            refine lv_goto (tgt := 143) hx hb dX2_readField_119 (by decide) ?_
            refine lv_iconst (v := 0) hx hb dX2_readField_143 (by decide) ?_
            refine lv_istore (lv' := [(5, .int 0), (4, .int 2), (2, .long r_6), (1, .int r_5), (0, .ref a0_)]) hx hb dX2_readField_144 hl (by decide) rfl (fun ls hl => ?_)
            refine lv_aload_n hx hb dX2_readField_146 rfl (lv_at hl 4 rfl) ?_
            refine g_getk (C := RX2) (T := TX2) (N := 16) hx hb hts (mc_ inX2) hown hK g rfl 0 (by decide) rfl (hts _ (List.mem_cons_of_mem _ t_416)) (fun _ h9 => h9) 4 rfl dX2_readField_147 ?_
            refine g_calli (va_runV (As := []) (rest := []) ⟨hx, hb, hml, hown, hts⟩ (r_X8_kind l dC dI L kd tys fr_94 H.size g.2.2.2.1 q0_ mq0_ kq0_) (cwV 0 hts (gV_ t_1118 t_1119 t_1120 t_184 t_1121) rfl rfl rfl (by decide +kernel) ⟨(Nat.le_of_ble_eq_true rfl), (Nat.le_of_ble_eq_true rfl)⟩) (pre3V g hK mq0_ kq0_ (by decide) (q := (RX8, TX8, 10)) rfl) rfl rfl hl.1 rfl (lv_room (Nat.le_of_ble_eq_true rfl)) dX2_readField_150 ⟨(Nat.le_of_ble_eq_true rfl), (Nat.le_of_ble_eq_true rfl)⟩) g hK (by decide) (by decide) (fx' := [(8, 6, q0_, .int x_108), (8, 8, q0_, .int y0_), (9, 7, q1_, .int x_110), (9, 2, q1_, .int x_14), (2, 0, a0_, .ref q0_), (2, 4, a0_, .ref q1_)]) rfl (fun r_258 fr_258 H locs hp hMr_258 g => ?_)
            refine lv_bipush (v := 61) hx hb dX2_readField_153 (by decide) ?_
            have kb_61 : bd 61 61 (61 : Int32) := ⟨by decide, by decide⟩
            refine lv_icmp_ne (tgt := 173) hx hb dX2_readField_155 (by decide) (fun c_259 => ?_) (fun c_259 => ?_)
            · have fc_259 := neq_f c_259
              refine lv_aload_n hx hb dX2_readField_173 rfl (lv_at hl 4 rfl) ?_
              refine g_getk (C := RX2) (T := TX2) (N := 16) hx hb hts (mc_ inX2) hown hK g rfl 0 (by decide) rfl (hts _ (List.mem_cons_of_mem _ t_416)) (fun _ h9 => h9) 4 rfl dX2_readField_174 ?_
              refine lv_bipush (v := 59) hx hb dX2_readField_177 (by decide) ?_
              refine g_callv (va_runV (As := [.int 59]) (rest := []) ⟨hx, hb, hml, hown, hts⟩ (r_X8_take l dC dI L kd tys fr_258 H.size g.2.2.2.1 q0_ mq0_ kq0_ 59 y0_ by0_ (g.fcts [1] rfl)) (cwV 1 hts (gV_ t_1098 t_1099 t_1100 t_184 t_1101) rfl rfl rfl (by decide +kernel) ⟨(Nat.le_of_ble_eq_true rfl), (Nat.le_of_ble_eq_true rfl)⟩) (pre3V g hK mq0_ kq0_ (by decide) (q := (RX8, TX8, 10)) rfl) rfl rfl hl.1 rfl (lv_room (Nat.le_of_ble_eq_true rfl)) dX2_readField_179 ⟨(Nat.le_of_ble_eq_true rfl), (Nat.le_of_ble_eq_true rfl)⟩) g hK (by decide) (by decide) (fx' := [(9, 7, q1_, .int x_110), (9, 2, q1_, .int x_14), (2, 0, a0_, .ref q0_), (2, 4, a0_, .ref q1_)]) rfl (fun fr_260 H locs hp hMr_260 g => ?_)
              rcases hp with ⟨x_261, h_262, hF_263⟩ | ⟨x_264, h_265, hF_266⟩
              · have g := g.more hF_263
                refine lv_aload_n hx hb dX2_readField_182 rfl (lv_at hl 4 rfl) ?_
                refine g_getk (C := RX2) (T := TX2) (N := 16) hx hb hts (mc_ inX2) hown hK g rfl 0 (by decide) rfl (hts _ (List.mem_cons_of_mem _ t_416)) (fun _ h9 => h9) 4 rfl dX2_readField_183 ?_
                refine g_getk (C := RX8) (T := TX8) (N := 10) hx hb hts (mc_ inX8) hown hK g rfl 8 (by decide) rfl (hts _ (List.mem_cons_of_mem _ t_294)) (fun _ h9 => h9) 1 rfl dX2_readField_186 ?_
                have kb_0 : bd 0 0 (0 : Int32) := ⟨by decide, by decide⟩
                refine lv_if_ne (tgt := 204) hx hb dX2_readField_189 (by decide) (fun c_267 => ?_) (fun c_267 => ?_)
                · have fc_267 := neq_f c_267
                  have b_268 : bd 1 (-1) y0_ := neX fc_267 by0_ kb_0 (by decide)
                  exact bd_no b_268 (by decide)
                · have fc_267 := eq_f c_267
                  refine lv_aload_n hx hb dX2_readField_192 rfl (lv_at hl 4 rfl) ?_
                  refine g_getk (C := RX2) (T := TX2) (N := 16) hx hb hts (mc_ inX2) hown hK g rfl 4 (by decide) rfl (hts _ (List.mem_cons_of_mem _ t_420)) (fun _ h9 => h9) 5 rfl dX2_readField_193 ?_
                  refine lv_lload_n hx hb dX2_readField_196 rfl (lv_at hl 2 rfl) ?_
                  refine lv_iload hx hb dX2_readField_197 (lv_at hl 1 rfl) ?_
                  refine lv_iload hx hb dX2_readField_199 (lv_at hl 0 rfl) ?_
                  have kb_2 : bd 2 2 (2 : Int32) := ⟨by decide, by decide⟩
                  refine g_callv (va_runV (As := [.long r_6, .int 2, .int 0]) (rest := []) ⟨hx, hb, hml, hown, hts⟩ (r_X9_addField_5 l dC dI L kd tys fr_260 H.size g.2.2.2.1 q1_ mq1_ kq1_ r_6 2 kb_2 0 kb_0 x_110 h_111 x_14 b_16 (g.fcts [2, 3] rfl)) (cwV 3 hts (gV_ t_1164 t_1165 t_1166 t_192 t_1167) rfl rfl rfl (by decide +kernel) ⟨(Nat.le_of_ble_eq_true rfl), (Nat.le_of_ble_eq_true rfl)⟩) (pre3V g hK mq1_ kq1_ (by decide) (q := (RX9, TX9, 13)) rfl) rfl rfl hl.1 rfl (lv_room (Nat.le_of_ble_eq_true rfl)) dX2_readField_201 ⟨(Nat.le_of_ble_eq_true rfl), (Nat.le_of_ble_eq_true rfl)⟩) g hK (by decide) (by decide) (fx' := [(8, 6, q0_, .int x_261), (8, 8, q0_, .int y0_), (2, 0, a0_, .ref q0_), (2, 4, a0_, .ref q1_)]) rfl (fun fr_269 H locs hp hMr_269 g => ?_)
                  obtain ⟨x_270, h_271, x_272, h_273, hF_274⟩ := hp
                  have g := g.more hF_274
                  subst hQ
                  exact W.vret hx hb hr (fun t ht hW => ⟨⟨_, rfl, Or.inl ⟨x_270, h_271, x_272, (bd_sub h_273 (by decide)), x_261, h_262, (g.fcts [0, 1, 2, 3] rfl)⟩, q3_of g hK ht hW⟩, g.2.2.1.F ht⟩) g.2.2.1.2.2 dX2_readField_204
              · have g := g.more hF_266
                refine lv_aload_n hx hb dX2_readField_182 rfl (lv_at hl 4 rfl) ?_
                refine g_getk (C := RX2) (T := TX2) (N := 16) hx hb hts (mc_ inX2) hown hK g rfl 0 (by decide) rfl (hts _ (List.mem_cons_of_mem _ t_416)) (fun _ h9 => h9) 4 rfl dX2_readField_183 ?_
                refine g_getk (C := RX8) (T := TX8) (N := 10) hx hb hts (mc_ inX8) hown hK g rfl 8 (by decide) rfl (hts _ (List.mem_cons_of_mem _ t_294)) (fun _ h9 => h9) 1 rfl dX2_readField_186 ?_
                have kb_0 : bd 0 0 (0 : Int32) := ⟨by decide, by decide⟩
                refine lv_if_ne (tgt := 204) hx hb dX2_readField_189 (by decide) (fun c_275 => ?_) (fun c_275 => ?_)
                · have fc_275 := neq_f c_275
                  have kb_1201 : bd 1201 1201 (1201 : Int32) := ⟨by decide, by decide⟩
                  subst hQ
                  exact W.vret hx hb hr (fun t ht hW => ⟨⟨_, rfl, Or.inr (⟨1201, kb_1201, x_264, h_265, (g.fcts [0, 1] rfl)⟩), q3_of g hK ht hW⟩, g.2.2.1.F ht⟩) g.2.2.1.2.2 dX2_readField_204
                · have fc_275 := eq_f c_275
                  have b_276 : bd 1 0 x_264 := eqX fc_275 h_265 kb_0 (by decide)
                  exact bd_no b_276 (by decide)
            · have fc_259 := eq_f c_259
              have b_277 : bd 61 61 r_258 := eqX fc_259 (bdT r_258) kb_61 (by decide)
              refine lv_aload_n hx hb dX2_readField_158 rfl (lv_at hl 4 rfl) ?_
              refine g_getk (C := RX2) (T := TX2) (N := 16) hx hb hts (mc_ inX2) hown hK g rfl 0 (by decide) rfl (hts _ (List.mem_cons_of_mem _ t_416)) (fun _ h9 => h9) 4 rfl dX2_readField_159 ?_
              refine g_callv (va_runV (As := []) (rest := []) ⟨hx, hb, hml, hown, hts⟩ (r_X8_next l dC dI L kd tys fr_258 H.size g.2.2.2.1 q0_ mq0_ kq0_) (cwV 0 hts (gV_ t_1131 t_1103 t_1104 t_184 t_1105) rfl rfl rfl (by decide +kernel) ⟨(Nat.le_of_ble_eq_true rfl), (Nat.le_of_ble_eq_true rfl)⟩) (pre3V g hK mq0_ kq0_ (by decide) (q := (RX8, TX8, 10)) rfl) rfl rfl hl.1 rfl (lv_room (Nat.le_of_ble_eq_true rfl)) dX2_readField_162 ⟨(Nat.le_of_ble_eq_true rfl), (Nat.le_of_ble_eq_true rfl)⟩) g hK (by decide) (by decide) (fx' := [(8, 8, q0_, .int y0_), (9, 7, q1_, .int x_110), (9, 2, q1_, .int x_14), (2, 0, a0_, .ref q0_), (2, 4, a0_, .ref q1_)]) rfl (fun fr_278 H locs hp hMr_278 g => ?_)
              obtain ⟨x_279, h_280, hF_281⟩ := hp
              have g := g.more hF_281
              refine lv_aload_n hx hb dX2_readField_165 rfl (lv_at hl 4 rfl) ?_
              refine lv_ldc (v := (-2147483648)) hx hb hown (hts _ (List.mem_cons_of_mem _ t_1159)) dX2_readField_166 ?_
              refine g_calli (va_runV (As := [.int (-2147483648)]) (rest := []) ⟨hx, hb, hml, hown, hts⟩ (r_X2_readNumber l dC dI L kd tys fr_278 H.size g.2.2.2.1 a0_ ma0_ ka0_ (-2147483648) q0_ mq0_ kq0_ y0_ by0_ (g.fcts [4, 1] rfl)) (cwV 1 hts (gV_ t_1160 t_1162 t_11 t_183 t_1163) rfl rfl rfl (by decide +kernel) ⟨(Nat.le_of_ble_eq_true rfl), (Nat.le_of_ble_eq_true rfl)⟩) (pre3V g hK ma0_ ka0_ (by decide) (q := (RX2, TX2, 16)) rfl) rfl rfl hl.1 rfl (lv_room (Nat.le_of_ble_eq_true rfl)) dX2_readField_168 ⟨(Nat.le_of_ble_eq_true rfl), (Nat.le_of_ble_eq_true rfl)⟩) g hK (by decide) (by decide) (fx' := [(9, 7, q1_, .int x_110), (9, 2, q1_, .int x_14), (2, 0, a0_, .ref q0_), (2, 4, a0_, .ref q1_)]) rfl (fun r_282 fr_282 H locs hp hMr_282 g => ?_)
              rcases hp with ⟨x_283, h_284, hF_285⟩ | ⟨x_286, h_287, hF_288⟩
              · have g := g.more hF_285
                refine lv_istore (lv' := [(5, .int r_282), (4, .int 2), (2, .long r_6), (1, .int r_5), (0, .ref a0_)]) hx hb dX2_readField_171 hl (by decide) rfl (fun ls hl => ?_)
                refine lv_aload_n hx hb dX2_readField_173 rfl (lv_at hl 4 rfl) ?_
                refine g_getk (C := RX2) (T := TX2) (N := 16) hx hb hts (mc_ inX2) hown hK g rfl 0 (by decide) rfl (hts _ (List.mem_cons_of_mem _ t_416)) (fun _ h9 => h9) 4 rfl dX2_readField_174 ?_
                refine lv_bipush (v := 59) hx hb dX2_readField_177 (by decide) ?_
                refine g_callv (va_runV (As := [.int 59]) (rest := []) ⟨hx, hb, hml, hown, hts⟩ (r_X8_take l dC dI L kd tys fr_282 H.size g.2.2.2.1 q0_ mq0_ kq0_ 59 y0_ by0_ (g.fcts [1] rfl)) (cwV 1 hts (gV_ t_1098 t_1099 t_1100 t_184 t_1101) rfl rfl rfl (by decide +kernel) ⟨(Nat.le_of_ble_eq_true rfl), (Nat.le_of_ble_eq_true rfl)⟩) (pre3V g hK mq0_ kq0_ (by decide) (q := (RX8, TX8, 10)) rfl) rfl rfl hl.1 rfl (lv_room (Nat.le_of_ble_eq_true rfl)) dX2_readField_179 ⟨(Nat.le_of_ble_eq_true rfl), (Nat.le_of_ble_eq_true rfl)⟩) g hK (by decide) (by decide) (fx' := [(9, 7, q1_, .int x_110), (9, 2, q1_, .int x_14), (2, 0, a0_, .ref q0_), (2, 4, a0_, .ref q1_)]) rfl (fun fr_289 H locs hp hMr_289 g => ?_)
                rcases hp with ⟨x_290, h_291, hF_292⟩ | ⟨x_293, h_294, hF_295⟩
                · have g := g.more hF_292
                  refine lv_aload_n hx hb dX2_readField_182 rfl (lv_at hl 4 rfl) ?_
                  refine g_getk (C := RX2) (T := TX2) (N := 16) hx hb hts (mc_ inX2) hown hK g rfl 0 (by decide) rfl (hts _ (List.mem_cons_of_mem _ t_416)) (fun _ h9 => h9) 4 rfl dX2_readField_183 ?_
                  refine g_getk (C := RX8) (T := TX8) (N := 10) hx hb hts (mc_ inX8) hown hK g rfl 8 (by decide) rfl (hts _ (List.mem_cons_of_mem _ t_294)) (fun _ h9 => h9) 1 rfl dX2_readField_186 ?_
                  have kb_0 : bd 0 0 (0 : Int32) := ⟨by decide, by decide⟩
                  refine lv_if_ne (tgt := 204) hx hb dX2_readField_189 (by decide) (fun c_296 => ?_) (fun c_296 => ?_)
                  · have fc_296 := neq_f c_296
                    have b_297 : bd 1 (-1) y0_ := neX fc_296 by0_ kb_0 (by decide)
                    exact bd_no b_297 (by decide)
                  · have fc_296 := eq_f c_296
                    refine lv_aload_n hx hb dX2_readField_192 rfl (lv_at hl 4 rfl) ?_
                    refine g_getk (C := RX2) (T := TX2) (N := 16) hx hb hts (mc_ inX2) hown hK g rfl 4 (by decide) rfl (hts _ (List.mem_cons_of_mem _ t_420)) (fun _ h9 => h9) 5 rfl dX2_readField_193 ?_
                    refine lv_lload_n hx hb dX2_readField_196 rfl (lv_at hl 2 rfl) ?_
                    refine lv_iload hx hb dX2_readField_197 (lv_at hl 1 rfl) ?_
                    refine lv_iload hx hb dX2_readField_199 (lv_at hl 0 rfl) ?_
                    have kb_2 : bd 2 2 (2 : Int32) := ⟨by decide, by decide⟩
                    refine g_callv (va_runV (As := [.long r_6, .int 2, .int r_282]) (rest := []) ⟨hx, hb, hml, hown, hts⟩ (r_X9_addField_6 l dC dI L kd tys fr_289 H.size g.2.2.2.1 q1_ mq1_ kq1_ r_6 2 kb_2 r_282 x_110 h_111 x_14 b_16 (g.fcts [2, 3] rfl)) (cwV 3 hts (gV_ t_1164 t_1165 t_1166 t_192 t_1167) rfl rfl rfl (by decide +kernel) ⟨(Nat.le_of_ble_eq_true rfl), (Nat.le_of_ble_eq_true rfl)⟩) (pre3V g hK mq1_ kq1_ (by decide) (q := (RX9, TX9, 13)) rfl) rfl rfl hl.1 rfl (lv_room (Nat.le_of_ble_eq_true rfl)) dX2_readField_201 ⟨(Nat.le_of_ble_eq_true rfl), (Nat.le_of_ble_eq_true rfl)⟩) g hK (by decide) (by decide) (fx' := [(8, 6, q0_, .int x_290), (8, 8, q0_, .int y0_), (2, 0, a0_, .ref q0_), (2, 4, a0_, .ref q1_)]) rfl (fun fr_298 H locs hp hMr_298 g => ?_)
                    obtain ⟨x_299, h_300, x_301, h_302, hF_303⟩ := hp
                    have g := g.more hF_303
                    subst hQ
                    exact W.vret hx hb hr (fun t ht hW => ⟨⟨_, rfl, Or.inl ⟨x_299, h_300, x_301, (bd_sub h_302 (by decide)), x_290, h_291, (g.fcts [0, 1, 2, 3] rfl)⟩, q3_of g hK ht hW⟩, g.2.2.1.F ht⟩) g.2.2.1.2.2 dX2_readField_204
                · have g := g.more hF_295
                  refine lv_aload_n hx hb dX2_readField_182 rfl (lv_at hl 4 rfl) ?_
                  refine g_getk (C := RX2) (T := TX2) (N := 16) hx hb hts (mc_ inX2) hown hK g rfl 0 (by decide) rfl (hts _ (List.mem_cons_of_mem _ t_416)) (fun _ h9 => h9) 4 rfl dX2_readField_183 ?_
                  refine g_getk (C := RX8) (T := TX8) (N := 10) hx hb hts (mc_ inX8) hown hK g rfl 8 (by decide) rfl (hts _ (List.mem_cons_of_mem _ t_294)) (fun _ h9 => h9) 1 rfl dX2_readField_186 ?_
                  have kb_0 : bd 0 0 (0 : Int32) := ⟨by decide, by decide⟩
                  refine lv_if_ne (tgt := 204) hx hb dX2_readField_189 (by decide) (fun c_304 => ?_) (fun c_304 => ?_)
                  · have fc_304 := neq_f c_304
                    have kb_1201 : bd 1201 1201 (1201 : Int32) := ⟨by decide, by decide⟩
                    subst hQ
                    exact W.vret hx hb hr (fun t ht hW => ⟨⟨_, rfl, Or.inr (⟨1201, kb_1201, x_293, h_294, (g.fcts [0, 1] rfl)⟩), q3_of g hK ht hW⟩, g.2.2.1.F ht⟩) g.2.2.1.2.2 dX2_readField_204
                  · have fc_304 := eq_f c_304
                    have b_305 : bd 1 0 x_293 := eqX fc_304 h_294 kb_0 (by decide)
                    exact bd_no b_305 (by decide)
              · have g := g.more hF_288
                refine lv_istore (lv' := [(5, .int r_282), (4, .int 2), (2, .long r_6), (1, .int r_5), (0, .ref a0_)]) hx hb dX2_readField_171 hl (by decide) rfl (fun ls hl => ?_)
                refine lv_aload_n hx hb dX2_readField_173 rfl (lv_at hl 4 rfl) ?_
                refine g_getk (C := RX2) (T := TX2) (N := 16) hx hb hts (mc_ inX2) hown hK g rfl 0 (by decide) rfl (hts _ (List.mem_cons_of_mem _ t_416)) (fun _ h9 => h9) 4 rfl dX2_readField_174 ?_
                refine lv_bipush (v := 59) hx hb dX2_readField_177 (by decide) ?_
                have kb_1201 : bd 1201 1201 (1201 : Int32) := ⟨by decide, by decide⟩
                refine g_callv (va_runV (As := [.int 59]) (rest := []) ⟨hx, hb, hml, hown, hts⟩ (r_X8_take_2 l dC dI L kd tys fr_282 H.size g.2.2.2.1 q0_ mq0_ kq0_ 59 1201 kb_1201 x_286 h_287 (g.fcts [0, 1] rfl)) (cwV 1 hts (gV_ t_1098 t_1099 t_1100 t_184 t_1101) rfl rfl rfl (by decide +kernel) ⟨(Nat.le_of_ble_eq_true rfl), (Nat.le_of_ble_eq_true rfl)⟩) (pre3V g hK mq0_ kq0_ (by decide) (q := (RX8, TX8, 10)) rfl) rfl rfl hl.1 rfl (lv_room (Nat.le_of_ble_eq_true rfl)) dX2_readField_179 ⟨(Nat.le_of_ble_eq_true rfl), (Nat.le_of_ble_eq_true rfl)⟩) g hK (by decide) (by decide) (fx' := [(8, 8, q0_, .int x_286), (9, 7, q1_, .int x_110), (9, 2, q1_, .int x_14), (2, 0, a0_, .ref q0_), (2, 4, a0_, .ref q1_)]) rfl (fun fr_306 H locs hp hMr_306 g => ?_)
                obtain ⟨x_307, h_308, hF_309⟩ := hp
                have g := g.more hF_309
                refine lv_aload_n hx hb dX2_readField_182 rfl (lv_at hl 4 rfl) ?_
                refine g_getk (C := RX2) (T := TX2) (N := 16) hx hb hts (mc_ inX2) hown hK g rfl 0 (by decide) rfl (hts _ (List.mem_cons_of_mem _ t_416)) (fun _ h9 => h9) 4 rfl dX2_readField_183 ?_
                refine g_getk (C := RX8) (T := TX8) (N := 10) hx hb hts (mc_ inX8) hown hK g rfl 8 (by decide) rfl (hts _ (List.mem_cons_of_mem _ t_294)) (fun _ h9 => h9) 1 rfl dX2_readField_186 ?_
                have kb_0 : bd 0 0 (0 : Int32) := ⟨by decide, by decide⟩
                refine lv_if_ne (tgt := 204) hx hb dX2_readField_189 (by decide) (fun c_310 => ?_) (fun c_310 => ?_)
                · have fc_310 := neq_f c_310
                  subst hQ
                  exact W.vret hx hb hr (fun t ht hW => ⟨⟨_, rfl, Or.inr (⟨x_307, h_308, x_286, h_287, (g.fcts [0, 1] rfl)⟩), q3_of g hK ht hW⟩, g.2.2.1.F ht⟩) g.2.2.1.2.2 dX2_readField_204
                · have fc_310 := eq_f c_310
                  have b_311 : bd 1 0 x_286 := eqX fc_310 h_287 kb_0 (by decide)
                  exact bd_no b_311 (by decide)
          · obtain rfl : r_94 = 2 := h_113
            have g := g.more hF_118
            refine lv_istore (lv' := [(4, .int 2), (2, .long r_6), (1, .int r_5), (0, .ref a0_)]) hx hb dX2_readField_117 hl (by decide) rfl (fun ls hl => ?_)
            refine lv_goto (tgt := 143) hx hb dX2_readField_119 (by decide) ?_
            refine lv_iconst (v := 0) hx hb dX2_readField_143 (by decide) ?_
            refine lv_istore (lv' := [(5, .int 0), (4, .int 2), (2, .long r_6), (1, .int r_5), (0, .ref a0_)]) hx hb dX2_readField_144 hl (by decide) rfl (fun ls hl => ?_)
            refine lv_aload_n hx hb dX2_readField_146 rfl (lv_at hl 4 rfl) ?_
            refine g_getk (C := RX2) (T := TX2) (N := 16) hx hb hts (mc_ inX2) hown hK g rfl 0 (by decide) rfl (hts _ (List.mem_cons_of_mem _ t_416)) (fun _ h9 => h9) 3 rfl dX2_readField_147 ?_
            refine g_calli (va_runV (As := []) (rest := []) ⟨hx, hb, hml, hown, hts⟩ (r_X8_kind_2 l dC dI L kd tys fr_94 H.size g.2.2.2.1 q0_ mq0_ kq0_ x_114 h_115 (g.fcts [0] rfl)) (cwV 0 hts (gV_ t_1118 t_1119 t_1120 t_184 t_1121) rfl rfl rfl (by decide +kernel) ⟨(Nat.le_of_ble_eq_true rfl), (Nat.le_of_ble_eq_true rfl)⟩) (pre3V g hK mq0_ kq0_ (by decide) (q := (RX8, TX8, 10)) rfl) rfl rfl hl.1 rfl (lv_room (Nat.le_of_ble_eq_true rfl)) dX2_readField_150 ⟨(Nat.le_of_ble_eq_true rfl), (Nat.le_of_ble_eq_true rfl)⟩) g hK (by decide) (by decide) (fx' := [(8, 6, q0_, .int x_114), (8, 8, q0_, .int x_116), (9, 2, q1_, .int x_14), (2, 0, a0_, .ref q0_), (2, 4, a0_, .ref q1_)]) rfl (fun r_312 fr_312 H locs hp hMr_312 g => ?_)
            obtain ⟨h_313, -⟩ := hp
            obtain rfl : r_312 = 0 := h_313
            refine lv_bipush (v := 61) hx hb dX2_readField_153 (by decide) ?_
            refine lv_icmp_ne (tgt := 173) hx hb dX2_readField_155 (by decide) (fun c_ => ?_) (fun c_ => absurd c_ (by decide))
            refine lv_aload_n hx hb dX2_readField_173 rfl (lv_at hl 4 rfl) ?_
            refine g_getk (C := RX2) (T := TX2) (N := 16) hx hb hts (mc_ inX2) hown hK g rfl 0 (by decide) rfl (hts _ (List.mem_cons_of_mem _ t_416)) (fun _ h9 => h9) 3 rfl dX2_readField_174 ?_
            refine lv_bipush (v := 59) hx hb dX2_readField_177 (by decide) ?_
            refine g_callv (va_runV (As := [.int 59]) (rest := []) ⟨hx, hb, hml, hown, hts⟩ (r_X8_take_2 l dC dI L kd tys fr_312 H.size g.2.2.2.1 q0_ mq0_ kq0_ 59 x_114 h_115 x_116 h_117 (g.fcts [0, 1] rfl)) (cwV 1 hts (gV_ t_1098 t_1099 t_1100 t_184 t_1101) rfl rfl rfl (by decide +kernel) ⟨(Nat.le_of_ble_eq_true rfl), (Nat.le_of_ble_eq_true rfl)⟩) (pre3V g hK mq0_ kq0_ (by decide) (q := (RX8, TX8, 10)) rfl) rfl rfl hl.1 rfl (lv_room (Nat.le_of_ble_eq_true rfl)) dX2_readField_179 ⟨(Nat.le_of_ble_eq_true rfl), (Nat.le_of_ble_eq_true rfl)⟩) g hK (by decide) (by decide) (fx' := [(8, 8, q0_, .int x_116), (9, 2, q1_, .int x_14), (2, 0, a0_, .ref q0_), (2, 4, a0_, .ref q1_)]) rfl (fun fr_314 H locs hp hMr_314 g => ?_)
            obtain ⟨x_315, h_316, hF_317⟩ := hp
            have g := g.more hF_317
            refine lv_aload_n hx hb dX2_readField_182 rfl (lv_at hl 4 rfl) ?_
            refine g_getk (C := RX2) (T := TX2) (N := 16) hx hb hts (mc_ inX2) hown hK g rfl 0 (by decide) rfl (hts _ (List.mem_cons_of_mem _ t_416)) (fun _ h9 => h9) 3 rfl dX2_readField_183 ?_
            refine g_getk (C := RX8) (T := TX8) (N := 10) hx hb hts (mc_ inX8) hown hK g rfl 8 (by decide) rfl (hts _ (List.mem_cons_of_mem _ t_294)) (fun _ h9 => h9) 1 rfl dX2_readField_186 ?_
            have kb_0 : bd 0 0 (0 : Int32) := ⟨by decide, by decide⟩
            refine lv_if_ne (tgt := 204) hx hb dX2_readField_189 (by decide) (fun c_318 => ?_) (fun c_318 => ?_)
            · have fc_318 := neq_f c_318
              subst hQ
              exact W.vret hx hb hr (fun t ht hW => ⟨⟨_, rfl, Or.inr (⟨x_315, h_316, x_116, h_117, (g.fcts [0, 1] rfl)⟩), q3_of g hK ht hW⟩, g.2.2.1.F ht⟩) g.2.2.1.2.2 dX2_readField_204
            · have fc_318 := eq_f c_318
              have b_319 : bd 1 0 x_116 := eqX fc_318 h_117 kb_0 (by decide)
              exact bd_no b_319 (by decide)
          · obtain rfl : r_94 = 3 := h_119
            have g := g.more hF_124
            refine lv_istore (lv' := [(4, .int 3), (2, .long r_6), (1, .int r_5), (0, .ref a0_)]) hx hb dX2_readField_117 hl (by decide) rfl (fun ls hl => ?_)
            refine lv_goto (tgt := 143) hx hb dX2_readField_119 (by decide) ?_
            refine lv_iconst (v := 0) hx hb dX2_readField_143 (by decide) ?_
            refine lv_istore (lv' := [(5, .int 0), (4, .int 3), (2, .long r_6), (1, .int r_5), (0, .ref a0_)]) hx hb dX2_readField_144 hl (by decide) rfl (fun ls hl => ?_)
            refine lv_aload_n hx hb dX2_readField_146 rfl (lv_at hl 4 rfl) ?_
            refine g_getk (C := RX2) (T := TX2) (N := 16) hx hb hts (mc_ inX2) hown hK g rfl 0 (by decide) rfl (hts _ (List.mem_cons_of_mem _ t_416)) (fun _ h9 => h9) 4 rfl dX2_readField_147 ?_
            refine g_calli (va_runV (As := []) (rest := []) ⟨hx, hb, hml, hown, hts⟩ (r_X8_kind l dC dI L kd tys fr_94 H.size g.2.2.2.1 q0_ mq0_ kq0_) (cwV 0 hts (gV_ t_1118 t_1119 t_1120 t_184 t_1121) rfl rfl rfl (by decide +kernel) ⟨(Nat.le_of_ble_eq_true rfl), (Nat.le_of_ble_eq_true rfl)⟩) (pre3V g hK mq0_ kq0_ (by decide) (q := (RX8, TX8, 10)) rfl) rfl rfl hl.1 rfl (lv_room (Nat.le_of_ble_eq_true rfl)) dX2_readField_150 ⟨(Nat.le_of_ble_eq_true rfl), (Nat.le_of_ble_eq_true rfl)⟩) g hK (by decide) (by decide) (fx' := [(8, 6, q0_, .int x_120), (8, 8, q0_, .int y0_), (9, 7, q1_, .int x_122), (9, 2, q1_, .int x_14), (2, 0, a0_, .ref q0_), (2, 4, a0_, .ref q1_)]) rfl (fun r_320 fr_320 H locs hp hMr_320 g => ?_)
            refine lv_bipush (v := 61) hx hb dX2_readField_153 (by decide) ?_
            have kb_61 : bd 61 61 (61 : Int32) := ⟨by decide, by decide⟩
            refine lv_icmp_ne (tgt := 173) hx hb dX2_readField_155 (by decide) (fun c_321 => ?_) (fun c_321 => ?_)
            · have fc_321 := neq_f c_321
              refine lv_aload_n hx hb dX2_readField_173 rfl (lv_at hl 4 rfl) ?_
              refine g_getk (C := RX2) (T := TX2) (N := 16) hx hb hts (mc_ inX2) hown hK g rfl 0 (by decide) rfl (hts _ (List.mem_cons_of_mem _ t_416)) (fun _ h9 => h9) 4 rfl dX2_readField_174 ?_
              refine lv_bipush (v := 59) hx hb dX2_readField_177 (by decide) ?_
              refine g_callv (va_runV (As := [.int 59]) (rest := []) ⟨hx, hb, hml, hown, hts⟩ (r_X8_take l dC dI L kd tys fr_320 H.size g.2.2.2.1 q0_ mq0_ kq0_ 59 y0_ by0_ (g.fcts [1] rfl)) (cwV 1 hts (gV_ t_1098 t_1099 t_1100 t_184 t_1101) rfl rfl rfl (by decide +kernel) ⟨(Nat.le_of_ble_eq_true rfl), (Nat.le_of_ble_eq_true rfl)⟩) (pre3V g hK mq0_ kq0_ (by decide) (q := (RX8, TX8, 10)) rfl) rfl rfl hl.1 rfl (lv_room (Nat.le_of_ble_eq_true rfl)) dX2_readField_179 ⟨(Nat.le_of_ble_eq_true rfl), (Nat.le_of_ble_eq_true rfl)⟩) g hK (by decide) (by decide) (fx' := [(9, 7, q1_, .int x_122), (9, 2, q1_, .int x_14), (2, 0, a0_, .ref q0_), (2, 4, a0_, .ref q1_)]) rfl (fun fr_322 H locs hp hMr_322 g => ?_)
              rcases hp with ⟨x_323, h_324, hF_325⟩ | ⟨x_326, h_327, hF_328⟩
              · have g := g.more hF_325
                refine lv_aload_n hx hb dX2_readField_182 rfl (lv_at hl 4 rfl) ?_
                refine g_getk (C := RX2) (T := TX2) (N := 16) hx hb hts (mc_ inX2) hown hK g rfl 0 (by decide) rfl (hts _ (List.mem_cons_of_mem _ t_416)) (fun _ h9 => h9) 4 rfl dX2_readField_183 ?_
                refine g_getk (C := RX8) (T := TX8) (N := 10) hx hb hts (mc_ inX8) hown hK g rfl 8 (by decide) rfl (hts _ (List.mem_cons_of_mem _ t_294)) (fun _ h9 => h9) 1 rfl dX2_readField_186 ?_
                have kb_0 : bd 0 0 (0 : Int32) := ⟨by decide, by decide⟩
                refine lv_if_ne (tgt := 204) hx hb dX2_readField_189 (by decide) (fun c_329 => ?_) (fun c_329 => ?_)
                · have fc_329 := neq_f c_329
                  have b_330 : bd 1 (-1) y0_ := neX fc_329 by0_ kb_0 (by decide)
                  exact bd_no b_330 (by decide)
                · have fc_329 := eq_f c_329
                  refine lv_aload_n hx hb dX2_readField_192 rfl (lv_at hl 4 rfl) ?_
                  refine g_getk (C := RX2) (T := TX2) (N := 16) hx hb hts (mc_ inX2) hown hK g rfl 4 (by decide) rfl (hts _ (List.mem_cons_of_mem _ t_420)) (fun _ h9 => h9) 5 rfl dX2_readField_193 ?_
                  refine lv_lload_n hx hb dX2_readField_196 rfl (lv_at hl 2 rfl) ?_
                  refine lv_iload hx hb dX2_readField_197 (lv_at hl 1 rfl) ?_
                  refine lv_iload hx hb dX2_readField_199 (lv_at hl 0 rfl) ?_
                  refine g_callv (va_runV (As := [.long r_6, .int 3, .int 0]) (rest := []) ⟨hx, hb, hml, hown, hts⟩ (r_X9_addField_7 l dC dI L kd tys fr_322 H.size g.2.2.2.1 q1_ mq1_ kq1_ r_6 3 kb_3 0 kb_0 x_122 h_123 x_14 b_16 (g.fcts [2, 3] rfl)) (cwV 3 hts (gV_ t_1164 t_1165 t_1166 t_192 t_1167) rfl rfl rfl (by decide +kernel) ⟨(Nat.le_of_ble_eq_true rfl), (Nat.le_of_ble_eq_true rfl)⟩) (pre3V g hK mq1_ kq1_ (by decide) (q := (RX9, TX9, 13)) rfl) rfl rfl hl.1 rfl (lv_room (Nat.le_of_ble_eq_true rfl)) dX2_readField_201 ⟨(Nat.le_of_ble_eq_true rfl), (Nat.le_of_ble_eq_true rfl)⟩) g hK (by decide) (by decide) (fx' := [(8, 6, q0_, .int x_323), (8, 8, q0_, .int y0_), (2, 0, a0_, .ref q0_), (2, 4, a0_, .ref q1_)]) rfl (fun fr_331 H locs hp hMr_331 g => ?_)
                  obtain ⟨x_332, h_333, x_334, h_335, hF_336⟩ := hp
                  have g := g.more hF_336
                  subst hQ
                  exact W.vret hx hb hr (fun t ht hW => ⟨⟨_, rfl, Or.inl ⟨x_332, h_333, x_334, (bd_sub h_335 (by decide)), x_323, h_324, (g.fcts [0, 1, 2, 3] rfl)⟩, q3_of g hK ht hW⟩, g.2.2.1.F ht⟩) g.2.2.1.2.2 dX2_readField_204
              · have g := g.more hF_328
                refine lv_aload_n hx hb dX2_readField_182 rfl (lv_at hl 4 rfl) ?_
                refine g_getk (C := RX2) (T := TX2) (N := 16) hx hb hts (mc_ inX2) hown hK g rfl 0 (by decide) rfl (hts _ (List.mem_cons_of_mem _ t_416)) (fun _ h9 => h9) 4 rfl dX2_readField_183 ?_
                refine g_getk (C := RX8) (T := TX8) (N := 10) hx hb hts (mc_ inX8) hown hK g rfl 8 (by decide) rfl (hts _ (List.mem_cons_of_mem _ t_294)) (fun _ h9 => h9) 1 rfl dX2_readField_186 ?_
                have kb_0 : bd 0 0 (0 : Int32) := ⟨by decide, by decide⟩
                refine lv_if_ne (tgt := 204) hx hb dX2_readField_189 (by decide) (fun c_337 => ?_) (fun c_337 => ?_)
                · have fc_337 := neq_f c_337
                  have kb_1201 : bd 1201 1201 (1201 : Int32) := ⟨by decide, by decide⟩
                  subst hQ
                  exact W.vret hx hb hr (fun t ht hW => ⟨⟨_, rfl, Or.inr (⟨1201, kb_1201, x_326, h_327, (g.fcts [0, 1] rfl)⟩), q3_of g hK ht hW⟩, g.2.2.1.F ht⟩) g.2.2.1.2.2 dX2_readField_204
                · have fc_337 := eq_f c_337
                  have b_338 : bd 1 0 x_326 := eqX fc_337 h_327 kb_0 (by decide)
                  exact bd_no b_338 (by decide)
            · have fc_321 := eq_f c_321
              have b_339 : bd 61 61 r_320 := eqX fc_321 (bdT r_320) kb_61 (by decide)
              refine lv_aload_n hx hb dX2_readField_158 rfl (lv_at hl 4 rfl) ?_
              refine g_getk (C := RX2) (T := TX2) (N := 16) hx hb hts (mc_ inX2) hown hK g rfl 0 (by decide) rfl (hts _ (List.mem_cons_of_mem _ t_416)) (fun _ h9 => h9) 4 rfl dX2_readField_159 ?_
              refine g_callv (va_runV (As := []) (rest := []) ⟨hx, hb, hml, hown, hts⟩ (r_X8_next l dC dI L kd tys fr_320 H.size g.2.2.2.1 q0_ mq0_ kq0_) (cwV 0 hts (gV_ t_1131 t_1103 t_1104 t_184 t_1105) rfl rfl rfl (by decide +kernel) ⟨(Nat.le_of_ble_eq_true rfl), (Nat.le_of_ble_eq_true rfl)⟩) (pre3V g hK mq0_ kq0_ (by decide) (q := (RX8, TX8, 10)) rfl) rfl rfl hl.1 rfl (lv_room (Nat.le_of_ble_eq_true rfl)) dX2_readField_162 ⟨(Nat.le_of_ble_eq_true rfl), (Nat.le_of_ble_eq_true rfl)⟩) g hK (by decide) (by decide) (fx' := [(8, 8, q0_, .int y0_), (9, 7, q1_, .int x_122), (9, 2, q1_, .int x_14), (2, 0, a0_, .ref q0_), (2, 4, a0_, .ref q1_)]) rfl (fun fr_340 H locs hp hMr_340 g => ?_)
              obtain ⟨x_341, h_342, hF_343⟩ := hp
              have g := g.more hF_343
              refine lv_aload_n hx hb dX2_readField_165 rfl (lv_at hl 4 rfl) ?_
              refine lv_ldc (v := (-2147483648)) hx hb hown (hts _ (List.mem_cons_of_mem _ t_1159)) dX2_readField_166 ?_
              refine g_calli (va_runV (As := [.int (-2147483648)]) (rest := []) ⟨hx, hb, hml, hown, hts⟩ (r_X2_readNumber l dC dI L kd tys fr_340 H.size g.2.2.2.1 a0_ ma0_ ka0_ (-2147483648) q0_ mq0_ kq0_ y0_ by0_ (g.fcts [4, 1] rfl)) (cwV 1 hts (gV_ t_1160 t_1162 t_11 t_183 t_1163) rfl rfl rfl (by decide +kernel) ⟨(Nat.le_of_ble_eq_true rfl), (Nat.le_of_ble_eq_true rfl)⟩) (pre3V g hK ma0_ ka0_ (by decide) (q := (RX2, TX2, 16)) rfl) rfl rfl hl.1 rfl (lv_room (Nat.le_of_ble_eq_true rfl)) dX2_readField_168 ⟨(Nat.le_of_ble_eq_true rfl), (Nat.le_of_ble_eq_true rfl)⟩) g hK (by decide) (by decide) (fx' := [(9, 7, q1_, .int x_122), (9, 2, q1_, .int x_14), (2, 0, a0_, .ref q0_), (2, 4, a0_, .ref q1_)]) rfl (fun r_344 fr_344 H locs hp hMr_344 g => ?_)
              rcases hp with ⟨x_345, h_346, hF_347⟩ | ⟨x_348, h_349, hF_350⟩
              · have g := g.more hF_347
                refine lv_istore (lv' := [(5, .int r_344), (4, .int 3), (2, .long r_6), (1, .int r_5), (0, .ref a0_)]) hx hb dX2_readField_171 hl (by decide) rfl (fun ls hl => ?_)
                refine lv_aload_n hx hb dX2_readField_173 rfl (lv_at hl 4 rfl) ?_
                refine g_getk (C := RX2) (T := TX2) (N := 16) hx hb hts (mc_ inX2) hown hK g rfl 0 (by decide) rfl (hts _ (List.mem_cons_of_mem _ t_416)) (fun _ h9 => h9) 4 rfl dX2_readField_174 ?_
                refine lv_bipush (v := 59) hx hb dX2_readField_177 (by decide) ?_
                refine g_callv (va_runV (As := [.int 59]) (rest := []) ⟨hx, hb, hml, hown, hts⟩ (r_X8_take l dC dI L kd tys fr_344 H.size g.2.2.2.1 q0_ mq0_ kq0_ 59 y0_ by0_ (g.fcts [1] rfl)) (cwV 1 hts (gV_ t_1098 t_1099 t_1100 t_184 t_1101) rfl rfl rfl (by decide +kernel) ⟨(Nat.le_of_ble_eq_true rfl), (Nat.le_of_ble_eq_true rfl)⟩) (pre3V g hK mq0_ kq0_ (by decide) (q := (RX8, TX8, 10)) rfl) rfl rfl hl.1 rfl (lv_room (Nat.le_of_ble_eq_true rfl)) dX2_readField_179 ⟨(Nat.le_of_ble_eq_true rfl), (Nat.le_of_ble_eq_true rfl)⟩) g hK (by decide) (by decide) (fx' := [(9, 7, q1_, .int x_122), (9, 2, q1_, .int x_14), (2, 0, a0_, .ref q0_), (2, 4, a0_, .ref q1_)]) rfl (fun fr_351 H locs hp hMr_351 g => ?_)
                rcases hp with ⟨x_352, h_353, hF_354⟩ | ⟨x_355, h_356, hF_357⟩
                · have g := g.more hF_354
                  refine lv_aload_n hx hb dX2_readField_182 rfl (lv_at hl 4 rfl) ?_
                  refine g_getk (C := RX2) (T := TX2) (N := 16) hx hb hts (mc_ inX2) hown hK g rfl 0 (by decide) rfl (hts _ (List.mem_cons_of_mem _ t_416)) (fun _ h9 => h9) 4 rfl dX2_readField_183 ?_
                  refine g_getk (C := RX8) (T := TX8) (N := 10) hx hb hts (mc_ inX8) hown hK g rfl 8 (by decide) rfl (hts _ (List.mem_cons_of_mem _ t_294)) (fun _ h9 => h9) 1 rfl dX2_readField_186 ?_
                  have kb_0 : bd 0 0 (0 : Int32) := ⟨by decide, by decide⟩
                  refine lv_if_ne (tgt := 204) hx hb dX2_readField_189 (by decide) (fun c_358 => ?_) (fun c_358 => ?_)
                  · have fc_358 := neq_f c_358
                    have b_359 : bd 1 (-1) y0_ := neX fc_358 by0_ kb_0 (by decide)
                    exact bd_no b_359 (by decide)
                  · have fc_358 := eq_f c_358
                    refine lv_aload_n hx hb dX2_readField_192 rfl (lv_at hl 4 rfl) ?_
                    refine g_getk (C := RX2) (T := TX2) (N := 16) hx hb hts (mc_ inX2) hown hK g rfl 4 (by decide) rfl (hts _ (List.mem_cons_of_mem _ t_420)) (fun _ h9 => h9) 5 rfl dX2_readField_193 ?_
                    refine lv_lload_n hx hb dX2_readField_196 rfl (lv_at hl 2 rfl) ?_
                    refine lv_iload hx hb dX2_readField_197 (lv_at hl 1 rfl) ?_
                    refine lv_iload hx hb dX2_readField_199 (lv_at hl 0 rfl) ?_
                    refine g_callv (va_runV (As := [.long r_6, .int 3, .int r_344]) (rest := []) ⟨hx, hb, hml, hown, hts⟩ (r_X9_addField_8 l dC dI L kd tys fr_351 H.size g.2.2.2.1 q1_ mq1_ kq1_ r_6 3 kb_3 r_344 x_122 h_123 x_14 b_16 (g.fcts [2, 3] rfl)) (cwV 3 hts (gV_ t_1164 t_1165 t_1166 t_192 t_1167) rfl rfl rfl (by decide +kernel) ⟨(Nat.le_of_ble_eq_true rfl), (Nat.le_of_ble_eq_true rfl)⟩) (pre3V g hK mq1_ kq1_ (by decide) (q := (RX9, TX9, 13)) rfl) rfl rfl hl.1 rfl (lv_room (Nat.le_of_ble_eq_true rfl)) dX2_readField_201 ⟨(Nat.le_of_ble_eq_true rfl), (Nat.le_of_ble_eq_true rfl)⟩) g hK (by decide) (by decide) (fx' := [(8, 6, q0_, .int x_352), (8, 8, q0_, .int y0_), (2, 0, a0_, .ref q0_), (2, 4, a0_, .ref q1_)]) rfl (fun fr_360 H locs hp hMr_360 g => ?_)
                    obtain ⟨x_361, h_362, x_363, h_364, hF_365⟩ := hp
                    have g := g.more hF_365
                    subst hQ
                    exact W.vret hx hb hr (fun t ht hW => ⟨⟨_, rfl, Or.inl ⟨x_361, h_362, x_363, (bd_sub h_364 (by decide)), x_352, h_353, (g.fcts [0, 1, 2, 3] rfl)⟩, q3_of g hK ht hW⟩, g.2.2.1.F ht⟩) g.2.2.1.2.2 dX2_readField_204
                · have g := g.more hF_357
                  refine lv_aload_n hx hb dX2_readField_182 rfl (lv_at hl 4 rfl) ?_
                  refine g_getk (C := RX2) (T := TX2) (N := 16) hx hb hts (mc_ inX2) hown hK g rfl 0 (by decide) rfl (hts _ (List.mem_cons_of_mem _ t_416)) (fun _ h9 => h9) 4 rfl dX2_readField_183 ?_
                  refine g_getk (C := RX8) (T := TX8) (N := 10) hx hb hts (mc_ inX8) hown hK g rfl 8 (by decide) rfl (hts _ (List.mem_cons_of_mem _ t_294)) (fun _ h9 => h9) 1 rfl dX2_readField_186 ?_
                  have kb_0 : bd 0 0 (0 : Int32) := ⟨by decide, by decide⟩
                  refine lv_if_ne (tgt := 204) hx hb dX2_readField_189 (by decide) (fun c_366 => ?_) (fun c_366 => ?_)
                  · have fc_366 := neq_f c_366
                    have kb_1201 : bd 1201 1201 (1201 : Int32) := ⟨by decide, by decide⟩
                    subst hQ
                    exact W.vret hx hb hr (fun t ht hW => ⟨⟨_, rfl, Or.inr (⟨1201, kb_1201, x_355, h_356, (g.fcts [0, 1] rfl)⟩), q3_of g hK ht hW⟩, g.2.2.1.F ht⟩) g.2.2.1.2.2 dX2_readField_204
                  · have fc_366 := eq_f c_366
                    have b_367 : bd 1 0 x_355 := eqX fc_366 h_356 kb_0 (by decide)
                    exact bd_no b_367 (by decide)
              · have g := g.more hF_350
                refine lv_istore (lv' := [(5, .int r_344), (4, .int 3), (2, .long r_6), (1, .int r_5), (0, .ref a0_)]) hx hb dX2_readField_171 hl (by decide) rfl (fun ls hl => ?_)
                refine lv_aload_n hx hb dX2_readField_173 rfl (lv_at hl 4 rfl) ?_
                refine g_getk (C := RX2) (T := TX2) (N := 16) hx hb hts (mc_ inX2) hown hK g rfl 0 (by decide) rfl (hts _ (List.mem_cons_of_mem _ t_416)) (fun _ h9 => h9) 4 rfl dX2_readField_174 ?_
                refine lv_bipush (v := 59) hx hb dX2_readField_177 (by decide) ?_
                have kb_1201 : bd 1201 1201 (1201 : Int32) := ⟨by decide, by decide⟩
                refine g_callv (va_runV (As := [.int 59]) (rest := []) ⟨hx, hb, hml, hown, hts⟩ (r_X8_take_2 l dC dI L kd tys fr_344 H.size g.2.2.2.1 q0_ mq0_ kq0_ 59 1201 kb_1201 x_348 h_349 (g.fcts [0, 1] rfl)) (cwV 1 hts (gV_ t_1098 t_1099 t_1100 t_184 t_1101) rfl rfl rfl (by decide +kernel) ⟨(Nat.le_of_ble_eq_true rfl), (Nat.le_of_ble_eq_true rfl)⟩) (pre3V g hK mq0_ kq0_ (by decide) (q := (RX8, TX8, 10)) rfl) rfl rfl hl.1 rfl (lv_room (Nat.le_of_ble_eq_true rfl)) dX2_readField_179 ⟨(Nat.le_of_ble_eq_true rfl), (Nat.le_of_ble_eq_true rfl)⟩) g hK (by decide) (by decide) (fx' := [(8, 8, q0_, .int x_348), (9, 7, q1_, .int x_122), (9, 2, q1_, .int x_14), (2, 0, a0_, .ref q0_), (2, 4, a0_, .ref q1_)]) rfl (fun fr_368 H locs hp hMr_368 g => ?_)
                obtain ⟨x_369, h_370, hF_371⟩ := hp
                have g := g.more hF_371
                refine lv_aload_n hx hb dX2_readField_182 rfl (lv_at hl 4 rfl) ?_
                refine g_getk (C := RX2) (T := TX2) (N := 16) hx hb hts (mc_ inX2) hown hK g rfl 0 (by decide) rfl (hts _ (List.mem_cons_of_mem _ t_416)) (fun _ h9 => h9) 4 rfl dX2_readField_183 ?_
                refine g_getk (C := RX8) (T := TX8) (N := 10) hx hb hts (mc_ inX8) hown hK g rfl 8 (by decide) rfl (hts _ (List.mem_cons_of_mem _ t_294)) (fun _ h9 => h9) 1 rfl dX2_readField_186 ?_
                have kb_0 : bd 0 0 (0 : Int32) := ⟨by decide, by decide⟩
                refine lv_if_ne (tgt := 204) hx hb dX2_readField_189 (by decide) (fun c_372 => ?_) (fun c_372 => ?_)
                · have fc_372 := neq_f c_372
                  subst hQ
                  exact W.vret hx hb hr (fun t ht hW => ⟨⟨_, rfl, Or.inr (⟨x_369, h_370, x_348, h_349, (g.fcts [0, 1] rfl)⟩), q3_of g hK ht hW⟩, g.2.2.1.F ht⟩) g.2.2.1.2.2 dX2_readField_204
                · have fc_372 := eq_f c_372
                  have b_373 : bd 1 0 x_348 := eqX fc_372 h_349 kb_0 (by decide)
                  exact bd_no b_373 (by decide)
          · obtain rfl : r_94 = 3 := h_125
            have g := g.more hF_130
            refine lv_istore (lv' := [(4, .int 3), (2, .long r_6), (1, .int r_5), (0, .ref a0_)]) hx hb dX2_readField_117 hl (by decide) rfl (fun ls hl => ?_)
            refine lv_goto (tgt := 143) hx hb dX2_readField_119 (by decide) ?_
            refine lv_iconst (v := 0) hx hb dX2_readField_143 (by decide) ?_
            refine lv_istore (lv' := [(5, .int 0), (4, .int 3), (2, .long r_6), (1, .int r_5), (0, .ref a0_)]) hx hb dX2_readField_144 hl (by decide) rfl (fun ls hl => ?_)
            refine lv_aload_n hx hb dX2_readField_146 rfl (lv_at hl 4 rfl) ?_
            refine g_getk (C := RX2) (T := TX2) (N := 16) hx hb hts (mc_ inX2) hown hK g rfl 0 (by decide) rfl (hts _ (List.mem_cons_of_mem _ t_416)) (fun _ h9 => h9) 3 rfl dX2_readField_147 ?_
            refine g_calli (va_runV (As := []) (rest := []) ⟨hx, hb, hml, hown, hts⟩ (r_X8_kind_2 l dC dI L kd tys fr_94 H.size g.2.2.2.1 q0_ mq0_ kq0_ x_126 h_127 (g.fcts [0] rfl)) (cwV 0 hts (gV_ t_1118 t_1119 t_1120 t_184 t_1121) rfl rfl rfl (by decide +kernel) ⟨(Nat.le_of_ble_eq_true rfl), (Nat.le_of_ble_eq_true rfl)⟩) (pre3V g hK mq0_ kq0_ (by decide) (q := (RX8, TX8, 10)) rfl) rfl rfl hl.1 rfl (lv_room (Nat.le_of_ble_eq_true rfl)) dX2_readField_150 ⟨(Nat.le_of_ble_eq_true rfl), (Nat.le_of_ble_eq_true rfl)⟩) g hK (by decide) (by decide) (fx' := [(8, 6, q0_, .int x_126), (8, 8, q0_, .int x_128), (9, 2, q1_, .int x_14), (2, 0, a0_, .ref q0_), (2, 4, a0_, .ref q1_)]) rfl (fun r_374 fr_374 H locs hp hMr_374 g => ?_)
            obtain ⟨h_375, -⟩ := hp
            obtain rfl : r_374 = 0 := h_375
            refine lv_bipush (v := 61) hx hb dX2_readField_153 (by decide) ?_
            refine lv_icmp_ne (tgt := 173) hx hb dX2_readField_155 (by decide) (fun c_ => ?_) (fun c_ => absurd c_ (by decide))
            refine lv_aload_n hx hb dX2_readField_173 rfl (lv_at hl 4 rfl) ?_
            refine g_getk (C := RX2) (T := TX2) (N := 16) hx hb hts (mc_ inX2) hown hK g rfl 0 (by decide) rfl (hts _ (List.mem_cons_of_mem _ t_416)) (fun _ h9 => h9) 3 rfl dX2_readField_174 ?_
            refine lv_bipush (v := 59) hx hb dX2_readField_177 (by decide) ?_
            refine g_callv (va_runV (As := [.int 59]) (rest := []) ⟨hx, hb, hml, hown, hts⟩ (r_X8_take_2 l dC dI L kd tys fr_374 H.size g.2.2.2.1 q0_ mq0_ kq0_ 59 x_126 h_127 x_128 h_129 (g.fcts [0, 1] rfl)) (cwV 1 hts (gV_ t_1098 t_1099 t_1100 t_184 t_1101) rfl rfl rfl (by decide +kernel) ⟨(Nat.le_of_ble_eq_true rfl), (Nat.le_of_ble_eq_true rfl)⟩) (pre3V g hK mq0_ kq0_ (by decide) (q := (RX8, TX8, 10)) rfl) rfl rfl hl.1 rfl (lv_room (Nat.le_of_ble_eq_true rfl)) dX2_readField_179 ⟨(Nat.le_of_ble_eq_true rfl), (Nat.le_of_ble_eq_true rfl)⟩) g hK (by decide) (by decide) (fx' := [(8, 8, q0_, .int x_128), (9, 2, q1_, .int x_14), (2, 0, a0_, .ref q0_), (2, 4, a0_, .ref q1_)]) rfl (fun fr_376 H locs hp hMr_376 g => ?_)
            obtain ⟨x_377, h_378, hF_379⟩ := hp
            have g := g.more hF_379
            refine lv_aload_n hx hb dX2_readField_182 rfl (lv_at hl 4 rfl) ?_
            refine g_getk (C := RX2) (T := TX2) (N := 16) hx hb hts (mc_ inX2) hown hK g rfl 0 (by decide) rfl (hts _ (List.mem_cons_of_mem _ t_416)) (fun _ h9 => h9) 3 rfl dX2_readField_183 ?_
            refine g_getk (C := RX8) (T := TX8) (N := 10) hx hb hts (mc_ inX8) hown hK g rfl 8 (by decide) rfl (hts _ (List.mem_cons_of_mem _ t_294)) (fun _ h9 => h9) 1 rfl dX2_readField_186 ?_
            have kb_0 : bd 0 0 (0 : Int32) := ⟨by decide, by decide⟩
            refine lv_if_ne (tgt := 204) hx hb dX2_readField_189 (by decide) (fun c_380 => ?_) (fun c_380 => ?_)
            · have fc_380 := neq_f c_380
              subst hQ
              exact W.vret hx hb hr (fun t ht hW => ⟨⟨_, rfl, Or.inr (⟨x_377, h_378, x_128, h_129, (g.fcts [0, 1] rfl)⟩), q3_of g hK ht hW⟩, g.2.2.1.F ht⟩) g.2.2.1.2.2 dX2_readField_204
            · have fc_380 := eq_f c_380
              have b_381 : bd 1 0 x_128 := eqX fc_380 h_129 kb_0 (by decide)
              exact bd_no b_381 (by decide)
          · obtain rfl : r_94 = 4 := h_131
            have g := g.more hF_136
            refine lv_istore (lv' := [(4, .int 4), (2, .long r_6), (1, .int r_5), (0, .ref a0_)]) hx hb dX2_readField_117 hl (by decide) rfl (fun ls hl => ?_)
            refine lv_goto (tgt := 143) hx hb dX2_readField_119 (by decide) ?_
            refine lv_iconst (v := 0) hx hb dX2_readField_143 (by decide) ?_
            refine lv_istore (lv' := [(5, .int 0), (4, .int 4), (2, .long r_6), (1, .int r_5), (0, .ref a0_)]) hx hb dX2_readField_144 hl (by decide) rfl (fun ls hl => ?_)
            refine lv_aload_n hx hb dX2_readField_146 rfl (lv_at hl 4 rfl) ?_
            refine g_getk (C := RX2) (T := TX2) (N := 16) hx hb hts (mc_ inX2) hown hK g rfl 0 (by decide) rfl (hts _ (List.mem_cons_of_mem _ t_416)) (fun _ h9 => h9) 4 rfl dX2_readField_147 ?_
            refine g_calli (va_runV (As := []) (rest := []) ⟨hx, hb, hml, hown, hts⟩ (r_X8_kind l dC dI L kd tys fr_94 H.size g.2.2.2.1 q0_ mq0_ kq0_) (cwV 0 hts (gV_ t_1118 t_1119 t_1120 t_184 t_1121) rfl rfl rfl (by decide +kernel) ⟨(Nat.le_of_ble_eq_true rfl), (Nat.le_of_ble_eq_true rfl)⟩) (pre3V g hK mq0_ kq0_ (by decide) (q := (RX8, TX8, 10)) rfl) rfl rfl hl.1 rfl (lv_room (Nat.le_of_ble_eq_true rfl)) dX2_readField_150 ⟨(Nat.le_of_ble_eq_true rfl), (Nat.le_of_ble_eq_true rfl)⟩) g hK (by decide) (by decide) (fx' := [(8, 6, q0_, .int x_132), (8, 8, q0_, .int y0_), (9, 7, q1_, .int x_134), (9, 2, q1_, .int x_14), (2, 0, a0_, .ref q0_), (2, 4, a0_, .ref q1_)]) rfl (fun r_382 fr_382 H locs hp hMr_382 g => ?_)
            refine lv_bipush (v := 61) hx hb dX2_readField_153 (by decide) ?_
            have kb_61 : bd 61 61 (61 : Int32) := ⟨by decide, by decide⟩
            refine lv_icmp_ne (tgt := 173) hx hb dX2_readField_155 (by decide) (fun c_383 => ?_) (fun c_383 => ?_)
            · have fc_383 := neq_f c_383
              refine lv_aload_n hx hb dX2_readField_173 rfl (lv_at hl 4 rfl) ?_
              refine g_getk (C := RX2) (T := TX2) (N := 16) hx hb hts (mc_ inX2) hown hK g rfl 0 (by decide) rfl (hts _ (List.mem_cons_of_mem _ t_416)) (fun _ h9 => h9) 4 rfl dX2_readField_174 ?_
              refine lv_bipush (v := 59) hx hb dX2_readField_177 (by decide) ?_
              refine g_callv (va_runV (As := [.int 59]) (rest := []) ⟨hx, hb, hml, hown, hts⟩ (r_X8_take l dC dI L kd tys fr_382 H.size g.2.2.2.1 q0_ mq0_ kq0_ 59 y0_ by0_ (g.fcts [1] rfl)) (cwV 1 hts (gV_ t_1098 t_1099 t_1100 t_184 t_1101) rfl rfl rfl (by decide +kernel) ⟨(Nat.le_of_ble_eq_true rfl), (Nat.le_of_ble_eq_true rfl)⟩) (pre3V g hK mq0_ kq0_ (by decide) (q := (RX8, TX8, 10)) rfl) rfl rfl hl.1 rfl (lv_room (Nat.le_of_ble_eq_true rfl)) dX2_readField_179 ⟨(Nat.le_of_ble_eq_true rfl), (Nat.le_of_ble_eq_true rfl)⟩) g hK (by decide) (by decide) (fx' := [(9, 7, q1_, .int x_134), (9, 2, q1_, .int x_14), (2, 0, a0_, .ref q0_), (2, 4, a0_, .ref q1_)]) rfl (fun fr_384 H locs hp hMr_384 g => ?_)
              rcases hp with ⟨x_385, h_386, hF_387⟩ | ⟨x_388, h_389, hF_390⟩
              · have g := g.more hF_387
                refine lv_aload_n hx hb dX2_readField_182 rfl (lv_at hl 4 rfl) ?_
                refine g_getk (C := RX2) (T := TX2) (N := 16) hx hb hts (mc_ inX2) hown hK g rfl 0 (by decide) rfl (hts _ (List.mem_cons_of_mem _ t_416)) (fun _ h9 => h9) 4 rfl dX2_readField_183 ?_
                refine g_getk (C := RX8) (T := TX8) (N := 10) hx hb hts (mc_ inX8) hown hK g rfl 8 (by decide) rfl (hts _ (List.mem_cons_of_mem _ t_294)) (fun _ h9 => h9) 1 rfl dX2_readField_186 ?_
                have kb_0 : bd 0 0 (0 : Int32) := ⟨by decide, by decide⟩
                refine lv_if_ne (tgt := 204) hx hb dX2_readField_189 (by decide) (fun c_391 => ?_) (fun c_391 => ?_)
                · have fc_391 := neq_f c_391
                  have b_392 : bd 1 (-1) y0_ := neX fc_391 by0_ kb_0 (by decide)
                  exact bd_no b_392 (by decide)
                · have fc_391 := eq_f c_391
                  refine lv_aload_n hx hb dX2_readField_192 rfl (lv_at hl 4 rfl) ?_
                  refine g_getk (C := RX2) (T := TX2) (N := 16) hx hb hts (mc_ inX2) hown hK g rfl 4 (by decide) rfl (hts _ (List.mem_cons_of_mem _ t_420)) (fun _ h9 => h9) 5 rfl dX2_readField_193 ?_
                  refine lv_lload_n hx hb dX2_readField_196 rfl (lv_at hl 2 rfl) ?_
                  refine lv_iload hx hb dX2_readField_197 (lv_at hl 1 rfl) ?_
                  refine lv_iload hx hb dX2_readField_199 (lv_at hl 0 rfl) ?_
                  have kb_4 : bd 4 4 (4 : Int32) := ⟨by decide, by decide⟩
                  refine g_callv (va_runV (As := [.long r_6, .int 4, .int 0]) (rest := []) ⟨hx, hb, hml, hown, hts⟩ (r_X9_addField_9 l dC dI L kd tys fr_384 H.size g.2.2.2.1 q1_ mq1_ kq1_ r_6 4 kb_4 0 kb_0 x_134 h_135 x_14 b_16 (g.fcts [2, 3] rfl)) (cwV 3 hts (gV_ t_1164 t_1165 t_1166 t_192 t_1167) rfl rfl rfl (by decide +kernel) ⟨(Nat.le_of_ble_eq_true rfl), (Nat.le_of_ble_eq_true rfl)⟩) (pre3V g hK mq1_ kq1_ (by decide) (q := (RX9, TX9, 13)) rfl) rfl rfl hl.1 rfl (lv_room (Nat.le_of_ble_eq_true rfl)) dX2_readField_201 ⟨(Nat.le_of_ble_eq_true rfl), (Nat.le_of_ble_eq_true rfl)⟩) g hK (by decide) (by decide) (fx' := [(8, 6, q0_, .int x_385), (8, 8, q0_, .int y0_), (2, 0, a0_, .ref q0_), (2, 4, a0_, .ref q1_)]) rfl (fun fr_393 H locs hp hMr_393 g => ?_)
                  obtain ⟨x_394, h_395, x_396, h_397, hF_398⟩ := hp
                  have g := g.more hF_398
                  subst hQ
                  exact W.vret hx hb hr (fun t ht hW => ⟨⟨_, rfl, Or.inl ⟨x_394, h_395, x_396, (bd_sub h_397 (by decide)), x_385, h_386, (g.fcts [0, 1, 2, 3] rfl)⟩, q3_of g hK ht hW⟩, g.2.2.1.F ht⟩) g.2.2.1.2.2 dX2_readField_204
              · have g := g.more hF_390
                refine lv_aload_n hx hb dX2_readField_182 rfl (lv_at hl 4 rfl) ?_
                refine g_getk (C := RX2) (T := TX2) (N := 16) hx hb hts (mc_ inX2) hown hK g rfl 0 (by decide) rfl (hts _ (List.mem_cons_of_mem _ t_416)) (fun _ h9 => h9) 4 rfl dX2_readField_183 ?_
                refine g_getk (C := RX8) (T := TX8) (N := 10) hx hb hts (mc_ inX8) hown hK g rfl 8 (by decide) rfl (hts _ (List.mem_cons_of_mem _ t_294)) (fun _ h9 => h9) 1 rfl dX2_readField_186 ?_
                have kb_0 : bd 0 0 (0 : Int32) := ⟨by decide, by decide⟩
                refine lv_if_ne (tgt := 204) hx hb dX2_readField_189 (by decide) (fun c_399 => ?_) (fun c_399 => ?_)
                · have fc_399 := neq_f c_399
                  have kb_1201 : bd 1201 1201 (1201 : Int32) := ⟨by decide, by decide⟩
                  subst hQ
                  exact W.vret hx hb hr (fun t ht hW => ⟨⟨_, rfl, Or.inr (⟨1201, kb_1201, x_388, h_389, (g.fcts [0, 1] rfl)⟩), q3_of g hK ht hW⟩, g.2.2.1.F ht⟩) g.2.2.1.2.2 dX2_readField_204
                · have fc_399 := eq_f c_399
                  have b_400 : bd 1 0 x_388 := eqX fc_399 h_389 kb_0 (by decide)
                  exact bd_no b_400 (by decide)
            · have fc_383 := eq_f c_383
              have b_401 : bd 61 61 r_382 := eqX fc_383 (bdT r_382) kb_61 (by decide)
              refine lv_aload_n hx hb dX2_readField_158 rfl (lv_at hl 4 rfl) ?_
              refine g_getk (C := RX2) (T := TX2) (N := 16) hx hb hts (mc_ inX2) hown hK g rfl 0 (by decide) rfl (hts _ (List.mem_cons_of_mem _ t_416)) (fun _ h9 => h9) 4 rfl dX2_readField_159 ?_
              refine g_callv (va_runV (As := []) (rest := []) ⟨hx, hb, hml, hown, hts⟩ (r_X8_next l dC dI L kd tys fr_382 H.size g.2.2.2.1 q0_ mq0_ kq0_) (cwV 0 hts (gV_ t_1131 t_1103 t_1104 t_184 t_1105) rfl rfl rfl (by decide +kernel) ⟨(Nat.le_of_ble_eq_true rfl), (Nat.le_of_ble_eq_true rfl)⟩) (pre3V g hK mq0_ kq0_ (by decide) (q := (RX8, TX8, 10)) rfl) rfl rfl hl.1 rfl (lv_room (Nat.le_of_ble_eq_true rfl)) dX2_readField_162 ⟨(Nat.le_of_ble_eq_true rfl), (Nat.le_of_ble_eq_true rfl)⟩) g hK (by decide) (by decide) (fx' := [(8, 8, q0_, .int y0_), (9, 7, q1_, .int x_134), (9, 2, q1_, .int x_14), (2, 0, a0_, .ref q0_), (2, 4, a0_, .ref q1_)]) rfl (fun fr_402 H locs hp hMr_402 g => ?_)
              obtain ⟨x_403, h_404, hF_405⟩ := hp
              have g := g.more hF_405
              refine lv_aload_n hx hb dX2_readField_165 rfl (lv_at hl 4 rfl) ?_
              refine lv_ldc (v := (-2147483648)) hx hb hown (hts _ (List.mem_cons_of_mem _ t_1159)) dX2_readField_166 ?_
              refine g_calli (va_runV (As := [.int (-2147483648)]) (rest := []) ⟨hx, hb, hml, hown, hts⟩ (r_X2_readNumber l dC dI L kd tys fr_402 H.size g.2.2.2.1 a0_ ma0_ ka0_ (-2147483648) q0_ mq0_ kq0_ y0_ by0_ (g.fcts [4, 1] rfl)) (cwV 1 hts (gV_ t_1160 t_1162 t_11 t_183 t_1163) rfl rfl rfl (by decide +kernel) ⟨(Nat.le_of_ble_eq_true rfl), (Nat.le_of_ble_eq_true rfl)⟩) (pre3V g hK ma0_ ka0_ (by decide) (q := (RX2, TX2, 16)) rfl) rfl rfl hl.1 rfl (lv_room (Nat.le_of_ble_eq_true rfl)) dX2_readField_168 ⟨(Nat.le_of_ble_eq_true rfl), (Nat.le_of_ble_eq_true rfl)⟩) g hK (by decide) (by decide) (fx' := [(9, 7, q1_, .int x_134), (9, 2, q1_, .int x_14), (2, 0, a0_, .ref q0_), (2, 4, a0_, .ref q1_)]) rfl (fun r_406 fr_406 H locs hp hMr_406 g => ?_)
              rcases hp with ⟨x_407, h_408, hF_409⟩ | ⟨x_410, h_411, hF_412⟩
              · have g := g.more hF_409
                refine lv_istore (lv' := [(5, .int r_406), (4, .int 4), (2, .long r_6), (1, .int r_5), (0, .ref a0_)]) hx hb dX2_readField_171 hl (by decide) rfl (fun ls hl => ?_)
                refine lv_aload_n hx hb dX2_readField_173 rfl (lv_at hl 4 rfl) ?_
                refine g_getk (C := RX2) (T := TX2) (N := 16) hx hb hts (mc_ inX2) hown hK g rfl 0 (by decide) rfl (hts _ (List.mem_cons_of_mem _ t_416)) (fun _ h9 => h9) 4 rfl dX2_readField_174 ?_
                refine lv_bipush (v := 59) hx hb dX2_readField_177 (by decide) ?_
                refine g_callv (va_runV (As := [.int 59]) (rest := []) ⟨hx, hb, hml, hown, hts⟩ (r_X8_take l dC dI L kd tys fr_406 H.size g.2.2.2.1 q0_ mq0_ kq0_ 59 y0_ by0_ (g.fcts [1] rfl)) (cwV 1 hts (gV_ t_1098 t_1099 t_1100 t_184 t_1101) rfl rfl rfl (by decide +kernel) ⟨(Nat.le_of_ble_eq_true rfl), (Nat.le_of_ble_eq_true rfl)⟩) (pre3V g hK mq0_ kq0_ (by decide) (q := (RX8, TX8, 10)) rfl) rfl rfl hl.1 rfl (lv_room (Nat.le_of_ble_eq_true rfl)) dX2_readField_179 ⟨(Nat.le_of_ble_eq_true rfl), (Nat.le_of_ble_eq_true rfl)⟩) g hK (by decide) (by decide) (fx' := [(9, 7, q1_, .int x_134), (9, 2, q1_, .int x_14), (2, 0, a0_, .ref q0_), (2, 4, a0_, .ref q1_)]) rfl (fun fr_413 H locs hp hMr_413 g => ?_)
                rcases hp with ⟨x_414, h_415, hF_416⟩ | ⟨x_417, h_418, hF_419⟩
                · have g := g.more hF_416
                  refine lv_aload_n hx hb dX2_readField_182 rfl (lv_at hl 4 rfl) ?_
                  refine g_getk (C := RX2) (T := TX2) (N := 16) hx hb hts (mc_ inX2) hown hK g rfl 0 (by decide) rfl (hts _ (List.mem_cons_of_mem _ t_416)) (fun _ h9 => h9) 4 rfl dX2_readField_183 ?_
                  refine g_getk (C := RX8) (T := TX8) (N := 10) hx hb hts (mc_ inX8) hown hK g rfl 8 (by decide) rfl (hts _ (List.mem_cons_of_mem _ t_294)) (fun _ h9 => h9) 1 rfl dX2_readField_186 ?_
                  have kb_0 : bd 0 0 (0 : Int32) := ⟨by decide, by decide⟩
                  refine lv_if_ne (tgt := 204) hx hb dX2_readField_189 (by decide) (fun c_420 => ?_) (fun c_420 => ?_)
                  · have fc_420 := neq_f c_420
                    have b_421 : bd 1 (-1) y0_ := neX fc_420 by0_ kb_0 (by decide)
                    exact bd_no b_421 (by decide)
                  · have fc_420 := eq_f c_420
                    refine lv_aload_n hx hb dX2_readField_192 rfl (lv_at hl 4 rfl) ?_
                    refine g_getk (C := RX2) (T := TX2) (N := 16) hx hb hts (mc_ inX2) hown hK g rfl 4 (by decide) rfl (hts _ (List.mem_cons_of_mem _ t_420)) (fun _ h9 => h9) 5 rfl dX2_readField_193 ?_
                    refine lv_lload_n hx hb dX2_readField_196 rfl (lv_at hl 2 rfl) ?_
                    refine lv_iload hx hb dX2_readField_197 (lv_at hl 1 rfl) ?_
                    refine lv_iload hx hb dX2_readField_199 (lv_at hl 0 rfl) ?_
                    have kb_4 : bd 4 4 (4 : Int32) := ⟨by decide, by decide⟩
                    refine g_callv (va_runV (As := [.long r_6, .int 4, .int r_406]) (rest := []) ⟨hx, hb, hml, hown, hts⟩ (r_X9_addField_10 l dC dI L kd tys fr_413 H.size g.2.2.2.1 q1_ mq1_ kq1_ r_6 4 kb_4 r_406 x_134 h_135 x_14 b_16 (g.fcts [2, 3] rfl)) (cwV 3 hts (gV_ t_1164 t_1165 t_1166 t_192 t_1167) rfl rfl rfl (by decide +kernel) ⟨(Nat.le_of_ble_eq_true rfl), (Nat.le_of_ble_eq_true rfl)⟩) (pre3V g hK mq1_ kq1_ (by decide) (q := (RX9, TX9, 13)) rfl) rfl rfl hl.1 rfl (lv_room (Nat.le_of_ble_eq_true rfl)) dX2_readField_201 ⟨(Nat.le_of_ble_eq_true rfl), (Nat.le_of_ble_eq_true rfl)⟩) g hK (by decide) (by decide) (fx' := [(8, 6, q0_, .int x_414), (8, 8, q0_, .int y0_), (2, 0, a0_, .ref q0_), (2, 4, a0_, .ref q1_)]) rfl (fun fr_422 H locs hp hMr_422 g => ?_)
                    obtain ⟨x_423, h_424, x_425, h_426, hF_427⟩ := hp
                    have g := g.more hF_427
                    subst hQ
                    exact W.vret hx hb hr (fun t ht hW => ⟨⟨_, rfl, Or.inl ⟨x_423, h_424, x_425, (bd_sub h_426 (by decide)), x_414, h_415, (g.fcts [0, 1, 2, 3] rfl)⟩, q3_of g hK ht hW⟩, g.2.2.1.F ht⟩) g.2.2.1.2.2 dX2_readField_204
                · have g := g.more hF_419
                  refine lv_aload_n hx hb dX2_readField_182 rfl (lv_at hl 4 rfl) ?_
                  refine g_getk (C := RX2) (T := TX2) (N := 16) hx hb hts (mc_ inX2) hown hK g rfl 0 (by decide) rfl (hts _ (List.mem_cons_of_mem _ t_416)) (fun _ h9 => h9) 4 rfl dX2_readField_183 ?_
                  refine g_getk (C := RX8) (T := TX8) (N := 10) hx hb hts (mc_ inX8) hown hK g rfl 8 (by decide) rfl (hts _ (List.mem_cons_of_mem _ t_294)) (fun _ h9 => h9) 1 rfl dX2_readField_186 ?_
                  have kb_0 : bd 0 0 (0 : Int32) := ⟨by decide, by decide⟩
                  refine lv_if_ne (tgt := 204) hx hb dX2_readField_189 (by decide) (fun c_428 => ?_) (fun c_428 => ?_)
                  · have fc_428 := neq_f c_428
                    have kb_1201 : bd 1201 1201 (1201 : Int32) := ⟨by decide, by decide⟩
                    subst hQ
                    exact W.vret hx hb hr (fun t ht hW => ⟨⟨_, rfl, Or.inr (⟨1201, kb_1201, x_417, h_418, (g.fcts [0, 1] rfl)⟩), q3_of g hK ht hW⟩, g.2.2.1.F ht⟩) g.2.2.1.2.2 dX2_readField_204
                  · have fc_428 := eq_f c_428
                    have b_429 : bd 1 0 x_417 := eqX fc_428 h_418 kb_0 (by decide)
                    exact bd_no b_429 (by decide)
              · have g := g.more hF_412
                refine lv_istore (lv' := [(5, .int r_406), (4, .int 4), (2, .long r_6), (1, .int r_5), (0, .ref a0_)]) hx hb dX2_readField_171 hl (by decide) rfl (fun ls hl => ?_)
                refine lv_aload_n hx hb dX2_readField_173 rfl (lv_at hl 4 rfl) ?_
                refine g_getk (C := RX2) (T := TX2) (N := 16) hx hb hts (mc_ inX2) hown hK g rfl 0 (by decide) rfl (hts _ (List.mem_cons_of_mem _ t_416)) (fun _ h9 => h9) 4 rfl dX2_readField_174 ?_
                refine lv_bipush (v := 59) hx hb dX2_readField_177 (by decide) ?_
                have kb_1201 : bd 1201 1201 (1201 : Int32) := ⟨by decide, by decide⟩
                refine g_callv (va_runV (As := [.int 59]) (rest := []) ⟨hx, hb, hml, hown, hts⟩ (r_X8_take_2 l dC dI L kd tys fr_406 H.size g.2.2.2.1 q0_ mq0_ kq0_ 59 1201 kb_1201 x_410 h_411 (g.fcts [0, 1] rfl)) (cwV 1 hts (gV_ t_1098 t_1099 t_1100 t_184 t_1101) rfl rfl rfl (by decide +kernel) ⟨(Nat.le_of_ble_eq_true rfl), (Nat.le_of_ble_eq_true rfl)⟩) (pre3V g hK mq0_ kq0_ (by decide) (q := (RX8, TX8, 10)) rfl) rfl rfl hl.1 rfl (lv_room (Nat.le_of_ble_eq_true rfl)) dX2_readField_179 ⟨(Nat.le_of_ble_eq_true rfl), (Nat.le_of_ble_eq_true rfl)⟩) g hK (by decide) (by decide) (fx' := [(8, 8, q0_, .int x_410), (9, 7, q1_, .int x_134), (9, 2, q1_, .int x_14), (2, 0, a0_, .ref q0_), (2, 4, a0_, .ref q1_)]) rfl (fun fr_430 H locs hp hMr_430 g => ?_)
                obtain ⟨x_431, h_432, hF_433⟩ := hp
                have g := g.more hF_433
                refine lv_aload_n hx hb dX2_readField_182 rfl (lv_at hl 4 rfl) ?_
                refine g_getk (C := RX2) (T := TX2) (N := 16) hx hb hts (mc_ inX2) hown hK g rfl 0 (by decide) rfl (hts _ (List.mem_cons_of_mem _ t_416)) (fun _ h9 => h9) 4 rfl dX2_readField_183 ?_
                refine g_getk (C := RX8) (T := TX8) (N := 10) hx hb hts (mc_ inX8) hown hK g rfl 8 (by decide) rfl (hts _ (List.mem_cons_of_mem _ t_294)) (fun _ h9 => h9) 1 rfl dX2_readField_186 ?_
                have kb_0 : bd 0 0 (0 : Int32) := ⟨by decide, by decide⟩
                refine lv_if_ne (tgt := 204) hx hb dX2_readField_189 (by decide) (fun c_434 => ?_) (fun c_434 => ?_)
                · have fc_434 := neq_f c_434
                  subst hQ
                  exact W.vret hx hb hr (fun t ht hW => ⟨⟨_, rfl, Or.inr (⟨x_431, h_432, x_410, h_411, (g.fcts [0, 1] rfl)⟩), q3_of g hK ht hW⟩, g.2.2.1.F ht⟩) g.2.2.1.2.2 dX2_readField_204
                · have fc_434 := eq_f c_434
                  have b_435 : bd 1 0 x_410 := eqX fc_434 h_411 kb_0 (by decide)
                  exact bd_no b_435 (by decide)
          · obtain rfl : r_94 = 4 := h_137
            have g := g.more hF_142
            refine lv_istore (lv' := [(4, .int 4), (2, .long r_6), (1, .int r_5), (0, .ref a0_)]) hx hb dX2_readField_117 hl (by decide) rfl (fun ls hl => ?_)
            refine lv_goto (tgt := 143) hx hb dX2_readField_119 (by decide) ?_
            refine lv_iconst (v := 0) hx hb dX2_readField_143 (by decide) ?_
            refine lv_istore (lv' := [(5, .int 0), (4, .int 4), (2, .long r_6), (1, .int r_5), (0, .ref a0_)]) hx hb dX2_readField_144 hl (by decide) rfl (fun ls hl => ?_)
            refine lv_aload_n hx hb dX2_readField_146 rfl (lv_at hl 4 rfl) ?_
            refine g_getk (C := RX2) (T := TX2) (N := 16) hx hb hts (mc_ inX2) hown hK g rfl 0 (by decide) rfl (hts _ (List.mem_cons_of_mem _ t_416)) (fun _ h9 => h9) 3 rfl dX2_readField_147 ?_
            refine g_calli (va_runV (As := []) (rest := []) ⟨hx, hb, hml, hown, hts⟩ (r_X8_kind_2 l dC dI L kd tys fr_94 H.size g.2.2.2.1 q0_ mq0_ kq0_ x_138 h_139 (g.fcts [0] rfl)) (cwV 0 hts (gV_ t_1118 t_1119 t_1120 t_184 t_1121) rfl rfl rfl (by decide +kernel) ⟨(Nat.le_of_ble_eq_true rfl), (Nat.le_of_ble_eq_true rfl)⟩) (pre3V g hK mq0_ kq0_ (by decide) (q := (RX8, TX8, 10)) rfl) rfl rfl hl.1 rfl (lv_room (Nat.le_of_ble_eq_true rfl)) dX2_readField_150 ⟨(Nat.le_of_ble_eq_true rfl), (Nat.le_of_ble_eq_true rfl)⟩) g hK (by decide) (by decide) (fx' := [(8, 6, q0_, .int x_138), (8, 8, q0_, .int x_140), (9, 2, q1_, .int x_14), (2, 0, a0_, .ref q0_), (2, 4, a0_, .ref q1_)]) rfl (fun r_436 fr_436 H locs hp hMr_436 g => ?_)
            obtain ⟨h_437, -⟩ := hp
            obtain rfl : r_436 = 0 := h_437
            refine lv_bipush (v := 61) hx hb dX2_readField_153 (by decide) ?_
            refine lv_icmp_ne (tgt := 173) hx hb dX2_readField_155 (by decide) (fun c_ => ?_) (fun c_ => absurd c_ (by decide))
            refine lv_aload_n hx hb dX2_readField_173 rfl (lv_at hl 4 rfl) ?_
            refine g_getk (C := RX2) (T := TX2) (N := 16) hx hb hts (mc_ inX2) hown hK g rfl 0 (by decide) rfl (hts _ (List.mem_cons_of_mem _ t_416)) (fun _ h9 => h9) 3 rfl dX2_readField_174 ?_
            refine lv_bipush (v := 59) hx hb dX2_readField_177 (by decide) ?_
            refine g_callv (va_runV (As := [.int 59]) (rest := []) ⟨hx, hb, hml, hown, hts⟩ (r_X8_take_2 l dC dI L kd tys fr_436 H.size g.2.2.2.1 q0_ mq0_ kq0_ 59 x_138 h_139 x_140 h_141 (g.fcts [0, 1] rfl)) (cwV 1 hts (gV_ t_1098 t_1099 t_1100 t_184 t_1101) rfl rfl rfl (by decide +kernel) ⟨(Nat.le_of_ble_eq_true rfl), (Nat.le_of_ble_eq_true rfl)⟩) (pre3V g hK mq0_ kq0_ (by decide) (q := (RX8, TX8, 10)) rfl) rfl rfl hl.1 rfl (lv_room (Nat.le_of_ble_eq_true rfl)) dX2_readField_179 ⟨(Nat.le_of_ble_eq_true rfl), (Nat.le_of_ble_eq_true rfl)⟩) g hK (by decide) (by decide) (fx' := [(8, 8, q0_, .int x_140), (9, 2, q1_, .int x_14), (2, 0, a0_, .ref q0_), (2, 4, a0_, .ref q1_)]) rfl (fun fr_438 H locs hp hMr_438 g => ?_)
            obtain ⟨x_439, h_440, hF_441⟩ := hp
            have g := g.more hF_441
            refine lv_aload_n hx hb dX2_readField_182 rfl (lv_at hl 4 rfl) ?_
            refine g_getk (C := RX2) (T := TX2) (N := 16) hx hb hts (mc_ inX2) hown hK g rfl 0 (by decide) rfl (hts _ (List.mem_cons_of_mem _ t_416)) (fun _ h9 => h9) 3 rfl dX2_readField_183 ?_
            refine g_getk (C := RX8) (T := TX8) (N := 10) hx hb hts (mc_ inX8) hown hK g rfl 8 (by decide) rfl (hts _ (List.mem_cons_of_mem _ t_294)) (fun _ h9 => h9) 1 rfl dX2_readField_186 ?_
            have kb_0 : bd 0 0 (0 : Int32) := ⟨by decide, by decide⟩
            refine lv_if_ne (tgt := 204) hx hb dX2_readField_189 (by decide) (fun c_442 => ?_) (fun c_442 => ?_)
            · have fc_442 := neq_f c_442
              subst hQ
              exact W.vret hx hb hr (fun t ht hW => ⟨⟨_, rfl, Or.inr (⟨x_439, h_440, x_140, h_141, (g.fcts [0, 1] rfl)⟩), q3_of g hK ht hW⟩, g.2.2.1.F ht⟩) g.2.2.1.2.2 dX2_readField_204
            · have fc_442 := eq_f c_442
              have b_443 : bd 1 0 x_140 := eqX fc_442 h_141 kb_0 (by decide)
              exact bd_no b_443 (by decide)
          · obtain rfl : r_94 = 5 := h_143
            have g := g.more hF_148
            refine lv_istore (lv' := [(4, .int 5), (2, .long r_6), (1, .int r_5), (0, .ref a0_)]) hx hb dX2_readField_117 hl (by decide) rfl (fun ls hl => ?_)
            refine lv_goto (tgt := 143) hx hb dX2_readField_119 (by decide) ?_
            refine lv_iconst (v := 0) hx hb dX2_readField_143 (by decide) ?_
            refine lv_istore (lv' := [(5, .int 0), (4, .int 5), (2, .long r_6), (1, .int r_5), (0, .ref a0_)]) hx hb dX2_readField_144 hl (by decide) rfl (fun ls hl => ?_)
            refine lv_aload_n hx hb dX2_readField_146 rfl (lv_at hl 4 rfl) ?_
            refine g_getk (C := RX2) (T := TX2) (N := 16) hx hb hts (mc_ inX2) hown hK g rfl 0 (by decide) rfl (hts _ (List.mem_cons_of_mem _ t_416)) (fun _ h9 => h9) 4 rfl dX2_readField_147 ?_
            refine g_calli (va_runV (As := []) (rest := []) ⟨hx, hb, hml, hown, hts⟩ (r_X8_kind l dC dI L kd tys fr_94 H.size g.2.2.2.1 q0_ mq0_ kq0_) (cwV 0 hts (gV_ t_1118 t_1119 t_1120 t_184 t_1121) rfl rfl rfl (by decide +kernel) ⟨(Nat.le_of_ble_eq_true rfl), (Nat.le_of_ble_eq_true rfl)⟩) (pre3V g hK mq0_ kq0_ (by decide) (q := (RX8, TX8, 10)) rfl) rfl rfl hl.1 rfl (lv_room (Nat.le_of_ble_eq_true rfl)) dX2_readField_150 ⟨(Nat.le_of_ble_eq_true rfl), (Nat.le_of_ble_eq_true rfl)⟩) g hK (by decide) (by decide) (fx' := [(8, 6, q0_, .int x_144), (8, 8, q0_, .int y0_), (9, 7, q1_, .int x_146), (9, 2, q1_, .int x_14), (2, 0, a0_, .ref q0_), (2, 4, a0_, .ref q1_)]) rfl (fun r_444 fr_444 H locs hp hMr_444 g => ?_)
            refine lv_bipush (v := 61) hx hb dX2_readField_153 (by decide) ?_
            have kb_61 : bd 61 61 (61 : Int32) := ⟨by decide, by decide⟩
            refine lv_icmp_ne (tgt := 173) hx hb dX2_readField_155 (by decide) (fun c_445 => ?_) (fun c_445 => ?_)
            · have fc_445 := neq_f c_445
              refine lv_aload_n hx hb dX2_readField_173 rfl (lv_at hl 4 rfl) ?_
              refine g_getk (C := RX2) (T := TX2) (N := 16) hx hb hts (mc_ inX2) hown hK g rfl 0 (by decide) rfl (hts _ (List.mem_cons_of_mem _ t_416)) (fun _ h9 => h9) 4 rfl dX2_readField_174 ?_
              refine lv_bipush (v := 59) hx hb dX2_readField_177 (by decide) ?_
              refine g_callv (va_runV (As := [.int 59]) (rest := []) ⟨hx, hb, hml, hown, hts⟩ (r_X8_take l dC dI L kd tys fr_444 H.size g.2.2.2.1 q0_ mq0_ kq0_ 59 y0_ by0_ (g.fcts [1] rfl)) (cwV 1 hts (gV_ t_1098 t_1099 t_1100 t_184 t_1101) rfl rfl rfl (by decide +kernel) ⟨(Nat.le_of_ble_eq_true rfl), (Nat.le_of_ble_eq_true rfl)⟩) (pre3V g hK mq0_ kq0_ (by decide) (q := (RX8, TX8, 10)) rfl) rfl rfl hl.1 rfl (lv_room (Nat.le_of_ble_eq_true rfl)) dX2_readField_179 ⟨(Nat.le_of_ble_eq_true rfl), (Nat.le_of_ble_eq_true rfl)⟩) g hK (by decide) (by decide) (fx' := [(9, 7, q1_, .int x_146), (9, 2, q1_, .int x_14), (2, 0, a0_, .ref q0_), (2, 4, a0_, .ref q1_)]) rfl (fun fr_446 H locs hp hMr_446 g => ?_)
              rcases hp with ⟨x_447, h_448, hF_449⟩ | ⟨x_450, h_451, hF_452⟩
              · have g := g.more hF_449
                refine lv_aload_n hx hb dX2_readField_182 rfl (lv_at hl 4 rfl) ?_
                refine g_getk (C := RX2) (T := TX2) (N := 16) hx hb hts (mc_ inX2) hown hK g rfl 0 (by decide) rfl (hts _ (List.mem_cons_of_mem _ t_416)) (fun _ h9 => h9) 4 rfl dX2_readField_183 ?_
                refine g_getk (C := RX8) (T := TX8) (N := 10) hx hb hts (mc_ inX8) hown hK g rfl 8 (by decide) rfl (hts _ (List.mem_cons_of_mem _ t_294)) (fun _ h9 => h9) 1 rfl dX2_readField_186 ?_
                have kb_0 : bd 0 0 (0 : Int32) := ⟨by decide, by decide⟩
                refine lv_if_ne (tgt := 204) hx hb dX2_readField_189 (by decide) (fun c_453 => ?_) (fun c_453 => ?_)
                · have fc_453 := neq_f c_453
                  have b_454 : bd 1 (-1) y0_ := neX fc_453 by0_ kb_0 (by decide)
                  exact bd_no b_454 (by decide)
                · have fc_453 := eq_f c_453
                  refine lv_aload_n hx hb dX2_readField_192 rfl (lv_at hl 4 rfl) ?_
                  refine g_getk (C := RX2) (T := TX2) (N := 16) hx hb hts (mc_ inX2) hown hK g rfl 4 (by decide) rfl (hts _ (List.mem_cons_of_mem _ t_420)) (fun _ h9 => h9) 5 rfl dX2_readField_193 ?_
                  refine lv_lload_n hx hb dX2_readField_196 rfl (lv_at hl 2 rfl) ?_
                  refine lv_iload hx hb dX2_readField_197 (lv_at hl 1 rfl) ?_
                  refine lv_iload hx hb dX2_readField_199 (lv_at hl 0 rfl) ?_
                  have kb_5 : bd 5 5 (5 : Int32) := ⟨by decide, by decide⟩
                  refine g_callv (va_runV (As := [.long r_6, .int 5, .int 0]) (rest := []) ⟨hx, hb, hml, hown, hts⟩ (r_X9_addField_11 l dC dI L kd tys fr_446 H.size g.2.2.2.1 q1_ mq1_ kq1_ r_6 5 kb_5 0 kb_0 x_146 h_147 x_14 b_16 (g.fcts [2, 3] rfl)) (cwV 3 hts (gV_ t_1164 t_1165 t_1166 t_192 t_1167) rfl rfl rfl (by decide +kernel) ⟨(Nat.le_of_ble_eq_true rfl), (Nat.le_of_ble_eq_true rfl)⟩) (pre3V g hK mq1_ kq1_ (by decide) (q := (RX9, TX9, 13)) rfl) rfl rfl hl.1 rfl (lv_room (Nat.le_of_ble_eq_true rfl)) dX2_readField_201 ⟨(Nat.le_of_ble_eq_true rfl), (Nat.le_of_ble_eq_true rfl)⟩) g hK (by decide) (by decide) (fx' := [(8, 6, q0_, .int x_447), (8, 8, q0_, .int y0_), (2, 0, a0_, .ref q0_), (2, 4, a0_, .ref q1_)]) rfl (fun fr_455 H locs hp hMr_455 g => ?_)
                  obtain ⟨x_456, h_457, x_458, h_459, hF_460⟩ := hp
                  have g := g.more hF_460
                  subst hQ
                  exact W.vret hx hb hr (fun t ht hW => ⟨⟨_, rfl, Or.inl ⟨x_456, h_457, x_458, (bd_sub h_459 (by decide)), x_447, h_448, (g.fcts [0, 1, 2, 3] rfl)⟩, q3_of g hK ht hW⟩, g.2.2.1.F ht⟩) g.2.2.1.2.2 dX2_readField_204
              · have g := g.more hF_452
                refine lv_aload_n hx hb dX2_readField_182 rfl (lv_at hl 4 rfl) ?_
                refine g_getk (C := RX2) (T := TX2) (N := 16) hx hb hts (mc_ inX2) hown hK g rfl 0 (by decide) rfl (hts _ (List.mem_cons_of_mem _ t_416)) (fun _ h9 => h9) 4 rfl dX2_readField_183 ?_
                refine g_getk (C := RX8) (T := TX8) (N := 10) hx hb hts (mc_ inX8) hown hK g rfl 8 (by decide) rfl (hts _ (List.mem_cons_of_mem _ t_294)) (fun _ h9 => h9) 1 rfl dX2_readField_186 ?_
                have kb_0 : bd 0 0 (0 : Int32) := ⟨by decide, by decide⟩
                refine lv_if_ne (tgt := 204) hx hb dX2_readField_189 (by decide) (fun c_461 => ?_) (fun c_461 => ?_)
                · have fc_461 := neq_f c_461
                  have kb_1201 : bd 1201 1201 (1201 : Int32) := ⟨by decide, by decide⟩
                  subst hQ
                  exact W.vret hx hb hr (fun t ht hW => ⟨⟨_, rfl, Or.inr (⟨1201, kb_1201, x_450, h_451, (g.fcts [0, 1] rfl)⟩), q3_of g hK ht hW⟩, g.2.2.1.F ht⟩) g.2.2.1.2.2 dX2_readField_204
                · have fc_461 := eq_f c_461
                  have b_462 : bd 1 0 x_450 := eqX fc_461 h_451 kb_0 (by decide)
                  exact bd_no b_462 (by decide)
            · have fc_445 := eq_f c_445
              have b_463 : bd 61 61 r_444 := eqX fc_445 (bdT r_444) kb_61 (by decide)
              refine lv_aload_n hx hb dX2_readField_158 rfl (lv_at hl 4 rfl) ?_
              refine g_getk (C := RX2) (T := TX2) (N := 16) hx hb hts (mc_ inX2) hown hK g rfl 0 (by decide) rfl (hts _ (List.mem_cons_of_mem _ t_416)) (fun _ h9 => h9) 4 rfl dX2_readField_159 ?_
              refine g_callv (va_runV (As := []) (rest := []) ⟨hx, hb, hml, hown, hts⟩ (r_X8_next l dC dI L kd tys fr_444 H.size g.2.2.2.1 q0_ mq0_ kq0_) (cwV 0 hts (gV_ t_1131 t_1103 t_1104 t_184 t_1105) rfl rfl rfl (by decide +kernel) ⟨(Nat.le_of_ble_eq_true rfl), (Nat.le_of_ble_eq_true rfl)⟩) (pre3V g hK mq0_ kq0_ (by decide) (q := (RX8, TX8, 10)) rfl) rfl rfl hl.1 rfl (lv_room (Nat.le_of_ble_eq_true rfl)) dX2_readField_162 ⟨(Nat.le_of_ble_eq_true rfl), (Nat.le_of_ble_eq_true rfl)⟩) g hK (by decide) (by decide) (fx' := [(8, 8, q0_, .int y0_), (9, 7, q1_, .int x_146), (9, 2, q1_, .int x_14), (2, 0, a0_, .ref q0_), (2, 4, a0_, .ref q1_)]) rfl (fun fr_464 H locs hp hMr_464 g => ?_)
              obtain ⟨x_465, h_466, hF_467⟩ := hp
              have g := g.more hF_467
              refine lv_aload_n hx hb dX2_readField_165 rfl (lv_at hl 4 rfl) ?_
              refine lv_ldc (v := (-2147483648)) hx hb hown (hts _ (List.mem_cons_of_mem _ t_1159)) dX2_readField_166 ?_
              refine g_calli (va_runV (As := [.int (-2147483648)]) (rest := []) ⟨hx, hb, hml, hown, hts⟩ (r_X2_readNumber l dC dI L kd tys fr_464 H.size g.2.2.2.1 a0_ ma0_ ka0_ (-2147483648) q0_ mq0_ kq0_ y0_ by0_ (g.fcts [4, 1] rfl)) (cwV 1 hts (gV_ t_1160 t_1162 t_11 t_183 t_1163) rfl rfl rfl (by decide +kernel) ⟨(Nat.le_of_ble_eq_true rfl), (Nat.le_of_ble_eq_true rfl)⟩) (pre3V g hK ma0_ ka0_ (by decide) (q := (RX2, TX2, 16)) rfl) rfl rfl hl.1 rfl (lv_room (Nat.le_of_ble_eq_true rfl)) dX2_readField_168 ⟨(Nat.le_of_ble_eq_true rfl), (Nat.le_of_ble_eq_true rfl)⟩) g hK (by decide) (by decide) (fx' := [(9, 7, q1_, .int x_146), (9, 2, q1_, .int x_14), (2, 0, a0_, .ref q0_), (2, 4, a0_, .ref q1_)]) rfl (fun r_468 fr_468 H locs hp hMr_468 g => ?_)
              rcases hp with ⟨x_469, h_470, hF_471⟩ | ⟨x_472, h_473, hF_474⟩
              · have g := g.more hF_471
                refine lv_istore (lv' := [(5, .int r_468), (4, .int 5), (2, .long r_6), (1, .int r_5), (0, .ref a0_)]) hx hb dX2_readField_171 hl (by decide) rfl (fun ls hl => ?_)
                refine lv_aload_n hx hb dX2_readField_173 rfl (lv_at hl 4 rfl) ?_
                refine g_getk (C := RX2) (T := TX2) (N := 16) hx hb hts (mc_ inX2) hown hK g rfl 0 (by decide) rfl (hts _ (List.mem_cons_of_mem _ t_416)) (fun _ h9 => h9) 4 rfl dX2_readField_174 ?_
                refine lv_bipush (v := 59) hx hb dX2_readField_177 (by decide) ?_
                refine g_callv (va_runV (As := [.int 59]) (rest := []) ⟨hx, hb, hml, hown, hts⟩ (r_X8_take l dC dI L kd tys fr_468 H.size g.2.2.2.1 q0_ mq0_ kq0_ 59 y0_ by0_ (g.fcts [1] rfl)) (cwV 1 hts (gV_ t_1098 t_1099 t_1100 t_184 t_1101) rfl rfl rfl (by decide +kernel) ⟨(Nat.le_of_ble_eq_true rfl), (Nat.le_of_ble_eq_true rfl)⟩) (pre3V g hK mq0_ kq0_ (by decide) (q := (RX8, TX8, 10)) rfl) rfl rfl hl.1 rfl (lv_room (Nat.le_of_ble_eq_true rfl)) dX2_readField_179 ⟨(Nat.le_of_ble_eq_true rfl), (Nat.le_of_ble_eq_true rfl)⟩) g hK (by decide) (by decide) (fx' := [(9, 7, q1_, .int x_146), (9, 2, q1_, .int x_14), (2, 0, a0_, .ref q0_), (2, 4, a0_, .ref q1_)]) rfl (fun fr_475 H locs hp hMr_475 g => ?_)
                rcases hp with ⟨x_476, h_477, hF_478⟩ | ⟨x_479, h_480, hF_481⟩
                · have g := g.more hF_478
                  refine lv_aload_n hx hb dX2_readField_182 rfl (lv_at hl 4 rfl) ?_
                  refine g_getk (C := RX2) (T := TX2) (N := 16) hx hb hts (mc_ inX2) hown hK g rfl 0 (by decide) rfl (hts _ (List.mem_cons_of_mem _ t_416)) (fun _ h9 => h9) 4 rfl dX2_readField_183 ?_
                  refine g_getk (C := RX8) (T := TX8) (N := 10) hx hb hts (mc_ inX8) hown hK g rfl 8 (by decide) rfl (hts _ (List.mem_cons_of_mem _ t_294)) (fun _ h9 => h9) 1 rfl dX2_readField_186 ?_
                  have kb_0 : bd 0 0 (0 : Int32) := ⟨by decide, by decide⟩
                  refine lv_if_ne (tgt := 204) hx hb dX2_readField_189 (by decide) (fun c_482 => ?_) (fun c_482 => ?_)
                  · have fc_482 := neq_f c_482
                    have b_483 : bd 1 (-1) y0_ := neX fc_482 by0_ kb_0 (by decide)
                    exact bd_no b_483 (by decide)
                  · have fc_482 := eq_f c_482
                    refine lv_aload_n hx hb dX2_readField_192 rfl (lv_at hl 4 rfl) ?_
                    refine g_getk (C := RX2) (T := TX2) (N := 16) hx hb hts (mc_ inX2) hown hK g rfl 4 (by decide) rfl (hts _ (List.mem_cons_of_mem _ t_420)) (fun _ h9 => h9) 5 rfl dX2_readField_193 ?_
                    refine lv_lload_n hx hb dX2_readField_196 rfl (lv_at hl 2 rfl) ?_
                    refine lv_iload hx hb dX2_readField_197 (lv_at hl 1 rfl) ?_
                    refine lv_iload hx hb dX2_readField_199 (lv_at hl 0 rfl) ?_
                    have kb_5 : bd 5 5 (5 : Int32) := ⟨by decide, by decide⟩
                    refine g_callv (va_runV (As := [.long r_6, .int 5, .int r_468]) (rest := []) ⟨hx, hb, hml, hown, hts⟩ (r_X9_addField_12 l dC dI L kd tys fr_475 H.size g.2.2.2.1 q1_ mq1_ kq1_ r_6 5 kb_5 r_468 x_146 h_147 x_14 b_16 (g.fcts [2, 3] rfl)) (cwV 3 hts (gV_ t_1164 t_1165 t_1166 t_192 t_1167) rfl rfl rfl (by decide +kernel) ⟨(Nat.le_of_ble_eq_true rfl), (Nat.le_of_ble_eq_true rfl)⟩) (pre3V g hK mq1_ kq1_ (by decide) (q := (RX9, TX9, 13)) rfl) rfl rfl hl.1 rfl (lv_room (Nat.le_of_ble_eq_true rfl)) dX2_readField_201 ⟨(Nat.le_of_ble_eq_true rfl), (Nat.le_of_ble_eq_true rfl)⟩) g hK (by decide) (by decide) (fx' := [(8, 6, q0_, .int x_476), (8, 8, q0_, .int y0_), (2, 0, a0_, .ref q0_), (2, 4, a0_, .ref q1_)]) rfl (fun fr_484 H locs hp hMr_484 g => ?_)
                    obtain ⟨x_485, h_486, x_487, h_488, hF_489⟩ := hp
                    have g := g.more hF_489
                    subst hQ
                    exact W.vret hx hb hr (fun t ht hW => ⟨⟨_, rfl, Or.inl ⟨x_485, h_486, x_487, (bd_sub h_488 (by decide)), x_476, h_477, (g.fcts [0, 1, 2, 3] rfl)⟩, q3_of g hK ht hW⟩, g.2.2.1.F ht⟩) g.2.2.1.2.2 dX2_readField_204
                · have g := g.more hF_481
                  refine lv_aload_n hx hb dX2_readField_182 rfl (lv_at hl 4 rfl) ?_
                  refine g_getk (C := RX2) (T := TX2) (N := 16) hx hb hts (mc_ inX2) hown hK g rfl 0 (by decide) rfl (hts _ (List.mem_cons_of_mem _ t_416)) (fun _ h9 => h9) 4 rfl dX2_readField_183 ?_
                  refine g_getk (C := RX8) (T := TX8) (N := 10) hx hb hts (mc_ inX8) hown hK g rfl 8 (by decide) rfl (hts _ (List.mem_cons_of_mem _ t_294)) (fun _ h9 => h9) 1 rfl dX2_readField_186 ?_
                  have kb_0 : bd 0 0 (0 : Int32) := ⟨by decide, by decide⟩
                  refine lv_if_ne (tgt := 204) hx hb dX2_readField_189 (by decide) (fun c_490 => ?_) (fun c_490 => ?_)
                  · have fc_490 := neq_f c_490
                    have kb_1201 : bd 1201 1201 (1201 : Int32) := ⟨by decide, by decide⟩
                    subst hQ
                    exact W.vret hx hb hr (fun t ht hW => ⟨⟨_, rfl, Or.inr (⟨1201, kb_1201, x_479, h_480, (g.fcts [0, 1] rfl)⟩), q3_of g hK ht hW⟩, g.2.2.1.F ht⟩) g.2.2.1.2.2 dX2_readField_204
                  · have fc_490 := eq_f c_490
                    have b_491 : bd 1 0 x_479 := eqX fc_490 h_480 kb_0 (by decide)
                    exact bd_no b_491 (by decide)
              · have g := g.more hF_474
                refine lv_istore (lv' := [(5, .int r_468), (4, .int 5), (2, .long r_6), (1, .int r_5), (0, .ref a0_)]) hx hb dX2_readField_171 hl (by decide) rfl (fun ls hl => ?_)
                refine lv_aload_n hx hb dX2_readField_173 rfl (lv_at hl 4 rfl) ?_
                refine g_getk (C := RX2) (T := TX2) (N := 16) hx hb hts (mc_ inX2) hown hK g rfl 0 (by decide) rfl (hts _ (List.mem_cons_of_mem _ t_416)) (fun _ h9 => h9) 4 rfl dX2_readField_174 ?_
                refine lv_bipush (v := 59) hx hb dX2_readField_177 (by decide) ?_
                have kb_1201 : bd 1201 1201 (1201 : Int32) := ⟨by decide, by decide⟩
                refine g_callv (va_runV (As := [.int 59]) (rest := []) ⟨hx, hb, hml, hown, hts⟩ (r_X8_take_2 l dC dI L kd tys fr_468 H.size g.2.2.2.1 q0_ mq0_ kq0_ 59 1201 kb_1201 x_472 h_473 (g.fcts [0, 1] rfl)) (cwV 1 hts (gV_ t_1098 t_1099 t_1100 t_184 t_1101) rfl rfl rfl (by decide +kernel) ⟨(Nat.le_of_ble_eq_true rfl), (Nat.le_of_ble_eq_true rfl)⟩) (pre3V g hK mq0_ kq0_ (by decide) (q := (RX8, TX8, 10)) rfl) rfl rfl hl.1 rfl (lv_room (Nat.le_of_ble_eq_true rfl)) dX2_readField_179 ⟨(Nat.le_of_ble_eq_true rfl), (Nat.le_of_ble_eq_true rfl)⟩) g hK (by decide) (by decide) (fx' := [(8, 8, q0_, .int x_472), (9, 7, q1_, .int x_146), (9, 2, q1_, .int x_14), (2, 0, a0_, .ref q0_), (2, 4, a0_, .ref q1_)]) rfl (fun fr_492 H locs hp hMr_492 g => ?_)
                obtain ⟨x_493, h_494, hF_495⟩ := hp
                have g := g.more hF_495
                refine lv_aload_n hx hb dX2_readField_182 rfl (lv_at hl 4 rfl) ?_
                refine g_getk (C := RX2) (T := TX2) (N := 16) hx hb hts (mc_ inX2) hown hK g rfl 0 (by decide) rfl (hts _ (List.mem_cons_of_mem _ t_416)) (fun _ h9 => h9) 4 rfl dX2_readField_183 ?_
                refine g_getk (C := RX8) (T := TX8) (N := 10) hx hb hts (mc_ inX8) hown hK g rfl 8 (by decide) rfl (hts _ (List.mem_cons_of_mem _ t_294)) (fun _ h9 => h9) 1 rfl dX2_readField_186 ?_
                have kb_0 : bd 0 0 (0 : Int32) := ⟨by decide, by decide⟩
                refine lv_if_ne (tgt := 204) hx hb dX2_readField_189 (by decide) (fun c_496 => ?_) (fun c_496 => ?_)
                · have fc_496 := neq_f c_496
                  subst hQ
                  exact W.vret hx hb hr (fun t ht hW => ⟨⟨_, rfl, Or.inr (⟨x_493, h_494, x_472, h_473, (g.fcts [0, 1] rfl)⟩), q3_of g hK ht hW⟩, g.2.2.1.F ht⟩) g.2.2.1.2.2 dX2_readField_204
                · have fc_496 := eq_f c_496
                  have b_497 : bd 1 0 x_472 := eqX fc_496 h_473 kb_0 (by decide)
                  exact bd_no b_497 (by decide)
          · obtain rfl : r_94 = 5 := h_149
            have g := g.more hF_154
            refine lv_istore (lv' := [(4, .int 5), (2, .long r_6), (1, .int r_5), (0, .ref a0_)]) hx hb dX2_readField_117 hl (by decide) rfl (fun ls hl => ?_)
            refine lv_goto (tgt := 143) hx hb dX2_readField_119 (by decide) ?_
            refine lv_iconst (v := 0) hx hb dX2_readField_143 (by decide) ?_
            refine lv_istore (lv' := [(5, .int 0), (4, .int 5), (2, .long r_6), (1, .int r_5), (0, .ref a0_)]) hx hb dX2_readField_144 hl (by decide) rfl (fun ls hl => ?_)
            refine lv_aload_n hx hb dX2_readField_146 rfl (lv_at hl 4 rfl) ?_
            refine g_getk (C := RX2) (T := TX2) (N := 16) hx hb hts (mc_ inX2) hown hK g rfl 0 (by decide) rfl (hts _ (List.mem_cons_of_mem _ t_416)) (fun _ h9 => h9) 3 rfl dX2_readField_147 ?_
            refine g_calli (va_runV (As := []) (rest := []) ⟨hx, hb, hml, hown, hts⟩ (r_X8_kind_2 l dC dI L kd tys fr_94 H.size g.2.2.2.1 q0_ mq0_ kq0_ x_150 h_151 (g.fcts [0] rfl)) (cwV 0 hts (gV_ t_1118 t_1119 t_1120 t_184 t_1121) rfl rfl rfl (by decide +kernel) ⟨(Nat.le_of_ble_eq_true rfl), (Nat.le_of_ble_eq_true rfl)⟩) (pre3V g hK mq0_ kq0_ (by decide) (q := (RX8, TX8, 10)) rfl) rfl rfl hl.1 rfl (lv_room (Nat.le_of_ble_eq_true rfl)) dX2_readField_150 ⟨(Nat.le_of_ble_eq_true rfl), (Nat.le_of_ble_eq_true rfl)⟩) g hK (by decide) (by decide) (fx' := [(8, 6, q0_, .int x_150), (8, 8, q0_, .int x_152), (9, 2, q1_, .int x_14), (2, 0, a0_, .ref q0_), (2, 4, a0_, .ref q1_)]) rfl (fun r_498 fr_498 H locs hp hMr_498 g => ?_)
            obtain ⟨h_499, -⟩ := hp
            obtain rfl : r_498 = 0 := h_499
            refine lv_bipush (v := 61) hx hb dX2_readField_153 (by decide) ?_
            refine lv_icmp_ne (tgt := 173) hx hb dX2_readField_155 (by decide) (fun c_ => ?_) (fun c_ => absurd c_ (by decide))
            refine lv_aload_n hx hb dX2_readField_173 rfl (lv_at hl 4 rfl) ?_
            refine g_getk (C := RX2) (T := TX2) (N := 16) hx hb hts (mc_ inX2) hown hK g rfl 0 (by decide) rfl (hts _ (List.mem_cons_of_mem _ t_416)) (fun _ h9 => h9) 3 rfl dX2_readField_174 ?_
            refine lv_bipush (v := 59) hx hb dX2_readField_177 (by decide) ?_
            refine g_callv (va_runV (As := [.int 59]) (rest := []) ⟨hx, hb, hml, hown, hts⟩ (r_X8_take_2 l dC dI L kd tys fr_498 H.size g.2.2.2.1 q0_ mq0_ kq0_ 59 x_150 h_151 x_152 h_153 (g.fcts [0, 1] rfl)) (cwV 1 hts (gV_ t_1098 t_1099 t_1100 t_184 t_1101) rfl rfl rfl (by decide +kernel) ⟨(Nat.le_of_ble_eq_true rfl), (Nat.le_of_ble_eq_true rfl)⟩) (pre3V g hK mq0_ kq0_ (by decide) (q := (RX8, TX8, 10)) rfl) rfl rfl hl.1 rfl (lv_room (Nat.le_of_ble_eq_true rfl)) dX2_readField_179 ⟨(Nat.le_of_ble_eq_true rfl), (Nat.le_of_ble_eq_true rfl)⟩) g hK (by decide) (by decide) (fx' := [(8, 8, q0_, .int x_152), (9, 2, q1_, .int x_14), (2, 0, a0_, .ref q0_), (2, 4, a0_, .ref q1_)]) rfl (fun fr_500 H locs hp hMr_500 g => ?_)
            obtain ⟨x_501, h_502, hF_503⟩ := hp
            have g := g.more hF_503
            refine lv_aload_n hx hb dX2_readField_182 rfl (lv_at hl 4 rfl) ?_
            refine g_getk (C := RX2) (T := TX2) (N := 16) hx hb hts (mc_ inX2) hown hK g rfl 0 (by decide) rfl (hts _ (List.mem_cons_of_mem _ t_416)) (fun _ h9 => h9) 3 rfl dX2_readField_183 ?_
            refine g_getk (C := RX8) (T := TX8) (N := 10) hx hb hts (mc_ inX8) hown hK g rfl 8 (by decide) rfl (hts _ (List.mem_cons_of_mem _ t_294)) (fun _ h9 => h9) 1 rfl dX2_readField_186 ?_
            have kb_0 : bd 0 0 (0 : Int32) := ⟨by decide, by decide⟩
            refine lv_if_ne (tgt := 204) hx hb dX2_readField_189 (by decide) (fun c_504 => ?_) (fun c_504 => ?_)
            · have fc_504 := neq_f c_504
              subst hQ
              exact W.vret hx hb hr (fun t ht hW => ⟨⟨_, rfl, Or.inr (⟨x_501, h_502, x_152, h_153, (g.fcts [0, 1] rfl)⟩), q3_of g hK ht hW⟩, g.2.2.1.F ht⟩) g.2.2.1.2.2 dX2_readField_204
            · have fc_504 := eq_f c_504
              have b_505 : bd 1 0 x_152 := eqX fc_504 h_153 kb_0 (by decide)
              exact bd_no b_505 (by decide)
          · obtain rfl : r_94 = 6 := h_155
            have g := g.more hF_160
            refine lv_istore (lv' := [(4, .int 6), (2, .long r_6), (1, .int r_5), (0, .ref a0_)]) hx hb dX2_readField_117 hl (by decide) rfl (fun ls hl => ?_)
            refine lv_goto (tgt := 143) hx hb dX2_readField_119 (by decide) ?_
            refine lv_iconst (v := 0) hx hb dX2_readField_143 (by decide) ?_
            refine lv_istore (lv' := [(5, .int 0), (4, .int 6), (2, .long r_6), (1, .int r_5), (0, .ref a0_)]) hx hb dX2_readField_144 hl (by decide) rfl (fun ls hl => ?_)
            refine lv_aload_n hx hb dX2_readField_146 rfl (lv_at hl 4 rfl) ?_
            refine g_getk (C := RX2) (T := TX2) (N := 16) hx hb hts (mc_ inX2) hown hK g rfl 0 (by decide) rfl (hts _ (List.mem_cons_of_mem _ t_416)) (fun _ h9 => h9) 4 rfl dX2_readField_147 ?_
            refine g_calli (va_runV (As := []) (rest := []) ⟨hx, hb, hml, hown, hts⟩ (r_X8_kind l dC dI L kd tys fr_94 H.size g.2.2.2.1 q0_ mq0_ kq0_) (cwV 0 hts (gV_ t_1118 t_1119 t_1120 t_184 t_1121) rfl rfl rfl (by decide +kernel) ⟨(Nat.le_of_ble_eq_true rfl), (Nat.le_of_ble_eq_true rfl)⟩) (pre3V g hK mq0_ kq0_ (by decide) (q := (RX8, TX8, 10)) rfl) rfl rfl hl.1 rfl (lv_room (Nat.le_of_ble_eq_true rfl)) dX2_readField_150 ⟨(Nat.le_of_ble_eq_true rfl), (Nat.le_of_ble_eq_true rfl)⟩) g hK (by decide) (by decide) (fx' := [(8, 6, q0_, .int x_156), (8, 8, q0_, .int y0_), (9, 7, q1_, .int x_158), (9, 2, q1_, .int x_14), (2, 0, a0_, .ref q0_), (2, 4, a0_, .ref q1_)]) rfl (fun r_506 fr_506 H locs hp hMr_506 g => ?_)
            refine lv_bipush (v := 61) hx hb dX2_readField_153 (by decide) ?_
            have kb_61 : bd 61 61 (61 : Int32) := ⟨by decide, by decide⟩
            refine lv_icmp_ne (tgt := 173) hx hb dX2_readField_155 (by decide) (fun c_507 => ?_) (fun c_507 => ?_)
            · have fc_507 := neq_f c_507
              refine lv_aload_n hx hb dX2_readField_173 rfl (lv_at hl 4 rfl) ?_
              refine g_getk (C := RX2) (T := TX2) (N := 16) hx hb hts (mc_ inX2) hown hK g rfl 0 (by decide) rfl (hts _ (List.mem_cons_of_mem _ t_416)) (fun _ h9 => h9) 4 rfl dX2_readField_174 ?_
              refine lv_bipush (v := 59) hx hb dX2_readField_177 (by decide) ?_
              refine g_callv (va_runV (As := [.int 59]) (rest := []) ⟨hx, hb, hml, hown, hts⟩ (r_X8_take l dC dI L kd tys fr_506 H.size g.2.2.2.1 q0_ mq0_ kq0_ 59 y0_ by0_ (g.fcts [1] rfl)) (cwV 1 hts (gV_ t_1098 t_1099 t_1100 t_184 t_1101) rfl rfl rfl (by decide +kernel) ⟨(Nat.le_of_ble_eq_true rfl), (Nat.le_of_ble_eq_true rfl)⟩) (pre3V g hK mq0_ kq0_ (by decide) (q := (RX8, TX8, 10)) rfl) rfl rfl hl.1 rfl (lv_room (Nat.le_of_ble_eq_true rfl)) dX2_readField_179 ⟨(Nat.le_of_ble_eq_true rfl), (Nat.le_of_ble_eq_true rfl)⟩) g hK (by decide) (by decide) (fx' := [(9, 7, q1_, .int x_158), (9, 2, q1_, .int x_14), (2, 0, a0_, .ref q0_), (2, 4, a0_, .ref q1_)]) rfl (fun fr_508 H locs hp hMr_508 g => ?_)
              rcases hp with ⟨x_509, h_510, hF_511⟩ | ⟨x_512, h_513, hF_514⟩
              · have g := g.more hF_511
                refine lv_aload_n hx hb dX2_readField_182 rfl (lv_at hl 4 rfl) ?_
                refine g_getk (C := RX2) (T := TX2) (N := 16) hx hb hts (mc_ inX2) hown hK g rfl 0 (by decide) rfl (hts _ (List.mem_cons_of_mem _ t_416)) (fun _ h9 => h9) 4 rfl dX2_readField_183 ?_
                refine g_getk (C := RX8) (T := TX8) (N := 10) hx hb hts (mc_ inX8) hown hK g rfl 8 (by decide) rfl (hts _ (List.mem_cons_of_mem _ t_294)) (fun _ h9 => h9) 1 rfl dX2_readField_186 ?_
                have kb_0 : bd 0 0 (0 : Int32) := ⟨by decide, by decide⟩
                refine lv_if_ne (tgt := 204) hx hb dX2_readField_189 (by decide) (fun c_515 => ?_) (fun c_515 => ?_)
                · have fc_515 := neq_f c_515
                  have b_516 : bd 1 (-1) y0_ := neX fc_515 by0_ kb_0 (by decide)
                  exact bd_no b_516 (by decide)
                · have fc_515 := eq_f c_515
                  refine lv_aload_n hx hb dX2_readField_192 rfl (lv_at hl 4 rfl) ?_
                  refine g_getk (C := RX2) (T := TX2) (N := 16) hx hb hts (mc_ inX2) hown hK g rfl 4 (by decide) rfl (hts _ (List.mem_cons_of_mem _ t_420)) (fun _ h9 => h9) 5 rfl dX2_readField_193 ?_
                  refine lv_lload_n hx hb dX2_readField_196 rfl (lv_at hl 2 rfl) ?_
                  refine lv_iload hx hb dX2_readField_197 (lv_at hl 1 rfl) ?_
                  refine lv_iload hx hb dX2_readField_199 (lv_at hl 0 rfl) ?_
                  have kb_6 : bd 6 6 (6 : Int32) := ⟨by decide, by decide⟩
                  refine g_callv (va_runV (As := [.long r_6, .int 6, .int 0]) (rest := []) ⟨hx, hb, hml, hown, hts⟩ (r_X9_addField_13 l dC dI L kd tys fr_508 H.size g.2.2.2.1 q1_ mq1_ kq1_ r_6 6 kb_6 0 kb_0 x_158 h_159 x_14 b_16 (g.fcts [2, 3] rfl)) (cwV 3 hts (gV_ t_1164 t_1165 t_1166 t_192 t_1167) rfl rfl rfl (by decide +kernel) ⟨(Nat.le_of_ble_eq_true rfl), (Nat.le_of_ble_eq_true rfl)⟩) (pre3V g hK mq1_ kq1_ (by decide) (q := (RX9, TX9, 13)) rfl) rfl rfl hl.1 rfl (lv_room (Nat.le_of_ble_eq_true rfl)) dX2_readField_201 ⟨(Nat.le_of_ble_eq_true rfl), (Nat.le_of_ble_eq_true rfl)⟩) g hK (by decide) (by decide) (fx' := [(8, 6, q0_, .int x_509), (8, 8, q0_, .int y0_), (2, 0, a0_, .ref q0_), (2, 4, a0_, .ref q1_)]) rfl (fun fr_517 H locs hp hMr_517 g => ?_)
                  obtain ⟨x_518, h_519, x_520, h_521, hF_522⟩ := hp
                  have g := g.more hF_522
                  subst hQ
                  exact W.vret hx hb hr (fun t ht hW => ⟨⟨_, rfl, Or.inl ⟨x_518, h_519, x_520, (bd_sub h_521 (by decide)), x_509, h_510, (g.fcts [0, 1, 2, 3] rfl)⟩, q3_of g hK ht hW⟩, g.2.2.1.F ht⟩) g.2.2.1.2.2 dX2_readField_204
              · have g := g.more hF_514
                refine lv_aload_n hx hb dX2_readField_182 rfl (lv_at hl 4 rfl) ?_
                refine g_getk (C := RX2) (T := TX2) (N := 16) hx hb hts (mc_ inX2) hown hK g rfl 0 (by decide) rfl (hts _ (List.mem_cons_of_mem _ t_416)) (fun _ h9 => h9) 4 rfl dX2_readField_183 ?_
                refine g_getk (C := RX8) (T := TX8) (N := 10) hx hb hts (mc_ inX8) hown hK g rfl 8 (by decide) rfl (hts _ (List.mem_cons_of_mem _ t_294)) (fun _ h9 => h9) 1 rfl dX2_readField_186 ?_
                have kb_0 : bd 0 0 (0 : Int32) := ⟨by decide, by decide⟩
                refine lv_if_ne (tgt := 204) hx hb dX2_readField_189 (by decide) (fun c_523 => ?_) (fun c_523 => ?_)
                · have fc_523 := neq_f c_523
                  have kb_1201 : bd 1201 1201 (1201 : Int32) := ⟨by decide, by decide⟩
                  subst hQ
                  exact W.vret hx hb hr (fun t ht hW => ⟨⟨_, rfl, Or.inr (⟨1201, kb_1201, x_512, h_513, (g.fcts [0, 1] rfl)⟩), q3_of g hK ht hW⟩, g.2.2.1.F ht⟩) g.2.2.1.2.2 dX2_readField_204
                · have fc_523 := eq_f c_523
                  have b_524 : bd 1 0 x_512 := eqX fc_523 h_513 kb_0 (by decide)
                  exact bd_no b_524 (by decide)
            · have fc_507 := eq_f c_507
              have b_525 : bd 61 61 r_506 := eqX fc_507 (bdT r_506) kb_61 (by decide)
              refine lv_aload_n hx hb dX2_readField_158 rfl (lv_at hl 4 rfl) ?_
              refine g_getk (C := RX2) (T := TX2) (N := 16) hx hb hts (mc_ inX2) hown hK g rfl 0 (by decide) rfl (hts _ (List.mem_cons_of_mem _ t_416)) (fun _ h9 => h9) 4 rfl dX2_readField_159 ?_
              refine g_callv (va_runV (As := []) (rest := []) ⟨hx, hb, hml, hown, hts⟩ (r_X8_next l dC dI L kd tys fr_506 H.size g.2.2.2.1 q0_ mq0_ kq0_) (cwV 0 hts (gV_ t_1131 t_1103 t_1104 t_184 t_1105) rfl rfl rfl (by decide +kernel) ⟨(Nat.le_of_ble_eq_true rfl), (Nat.le_of_ble_eq_true rfl)⟩) (pre3V g hK mq0_ kq0_ (by decide) (q := (RX8, TX8, 10)) rfl) rfl rfl hl.1 rfl (lv_room (Nat.le_of_ble_eq_true rfl)) dX2_readField_162 ⟨(Nat.le_of_ble_eq_true rfl), (Nat.le_of_ble_eq_true rfl)⟩) g hK (by decide) (by decide) (fx' := [(8, 8, q0_, .int y0_), (9, 7, q1_, .int x_158), (9, 2, q1_, .int x_14), (2, 0, a0_, .ref q0_), (2, 4, a0_, .ref q1_)]) rfl (fun fr_526 H locs hp hMr_526 g => ?_)
              obtain ⟨x_527, h_528, hF_529⟩ := hp
              have g := g.more hF_529
              refine lv_aload_n hx hb dX2_readField_165 rfl (lv_at hl 4 rfl) ?_
              refine lv_ldc (v := (-2147483648)) hx hb hown (hts _ (List.mem_cons_of_mem _ t_1159)) dX2_readField_166 ?_
              refine g_calli (va_runV (As := [.int (-2147483648)]) (rest := []) ⟨hx, hb, hml, hown, hts⟩ (r_X2_readNumber l dC dI L kd tys fr_526 H.size g.2.2.2.1 a0_ ma0_ ka0_ (-2147483648) q0_ mq0_ kq0_ y0_ by0_ (g.fcts [4, 1] rfl)) (cwV 1 hts (gV_ t_1160 t_1162 t_11 t_183 t_1163) rfl rfl rfl (by decide +kernel) ⟨(Nat.le_of_ble_eq_true rfl), (Nat.le_of_ble_eq_true rfl)⟩) (pre3V g hK ma0_ ka0_ (by decide) (q := (RX2, TX2, 16)) rfl) rfl rfl hl.1 rfl (lv_room (Nat.le_of_ble_eq_true rfl)) dX2_readField_168 ⟨(Nat.le_of_ble_eq_true rfl), (Nat.le_of_ble_eq_true rfl)⟩) g hK (by decide) (by decide) (fx' := [(9, 7, q1_, .int x_158), (9, 2, q1_, .int x_14), (2, 0, a0_, .ref q0_), (2, 4, a0_, .ref q1_)]) rfl (fun r_530 fr_530 H locs hp hMr_530 g => ?_)
              rcases hp with ⟨x_531, h_532, hF_533⟩ | ⟨x_534, h_535, hF_536⟩
              · have g := g.more hF_533
                refine lv_istore (lv' := [(5, .int r_530), (4, .int 6), (2, .long r_6), (1, .int r_5), (0, .ref a0_)]) hx hb dX2_readField_171 hl (by decide) rfl (fun ls hl => ?_)
                refine lv_aload_n hx hb dX2_readField_173 rfl (lv_at hl 4 rfl) ?_
                refine g_getk (C := RX2) (T := TX2) (N := 16) hx hb hts (mc_ inX2) hown hK g rfl 0 (by decide) rfl (hts _ (List.mem_cons_of_mem _ t_416)) (fun _ h9 => h9) 4 rfl dX2_readField_174 ?_
                refine lv_bipush (v := 59) hx hb dX2_readField_177 (by decide) ?_
                refine g_callv (va_runV (As := [.int 59]) (rest := []) ⟨hx, hb, hml, hown, hts⟩ (r_X8_take l dC dI L kd tys fr_530 H.size g.2.2.2.1 q0_ mq0_ kq0_ 59 y0_ by0_ (g.fcts [1] rfl)) (cwV 1 hts (gV_ t_1098 t_1099 t_1100 t_184 t_1101) rfl rfl rfl (by decide +kernel) ⟨(Nat.le_of_ble_eq_true rfl), (Nat.le_of_ble_eq_true rfl)⟩) (pre3V g hK mq0_ kq0_ (by decide) (q := (RX8, TX8, 10)) rfl) rfl rfl hl.1 rfl (lv_room (Nat.le_of_ble_eq_true rfl)) dX2_readField_179 ⟨(Nat.le_of_ble_eq_true rfl), (Nat.le_of_ble_eq_true rfl)⟩) g hK (by decide) (by decide) (fx' := [(9, 7, q1_, .int x_158), (9, 2, q1_, .int x_14), (2, 0, a0_, .ref q0_), (2, 4, a0_, .ref q1_)]) rfl (fun fr_537 H locs hp hMr_537 g => ?_)
                rcases hp with ⟨x_538, h_539, hF_540⟩ | ⟨x_541, h_542, hF_543⟩
                · have g := g.more hF_540
                  refine lv_aload_n hx hb dX2_readField_182 rfl (lv_at hl 4 rfl) ?_
                  refine g_getk (C := RX2) (T := TX2) (N := 16) hx hb hts (mc_ inX2) hown hK g rfl 0 (by decide) rfl (hts _ (List.mem_cons_of_mem _ t_416)) (fun _ h9 => h9) 4 rfl dX2_readField_183 ?_
                  refine g_getk (C := RX8) (T := TX8) (N := 10) hx hb hts (mc_ inX8) hown hK g rfl 8 (by decide) rfl (hts _ (List.mem_cons_of_mem _ t_294)) (fun _ h9 => h9) 1 rfl dX2_readField_186 ?_
                  have kb_0 : bd 0 0 (0 : Int32) := ⟨by decide, by decide⟩
                  refine lv_if_ne (tgt := 204) hx hb dX2_readField_189 (by decide) (fun c_544 => ?_) (fun c_544 => ?_)
                  · have fc_544 := neq_f c_544
                    have b_545 : bd 1 (-1) y0_ := neX fc_544 by0_ kb_0 (by decide)
                    exact bd_no b_545 (by decide)
                  · have fc_544 := eq_f c_544
                    refine lv_aload_n hx hb dX2_readField_192 rfl (lv_at hl 4 rfl) ?_
                    refine g_getk (C := RX2) (T := TX2) (N := 16) hx hb hts (mc_ inX2) hown hK g rfl 4 (by decide) rfl (hts _ (List.mem_cons_of_mem _ t_420)) (fun _ h9 => h9) 5 rfl dX2_readField_193 ?_
                    refine lv_lload_n hx hb dX2_readField_196 rfl (lv_at hl 2 rfl) ?_
                    refine lv_iload hx hb dX2_readField_197 (lv_at hl 1 rfl) ?_
                    refine lv_iload hx hb dX2_readField_199 (lv_at hl 0 rfl) ?_
                    have kb_6 : bd 6 6 (6 : Int32) := ⟨by decide, by decide⟩
                    refine g_callv (va_runV (As := [.long r_6, .int 6, .int r_530]) (rest := []) ⟨hx, hb, hml, hown, hts⟩ (r_X9_addField_14 l dC dI L kd tys fr_537 H.size g.2.2.2.1 q1_ mq1_ kq1_ r_6 6 kb_6 r_530 x_158 h_159 x_14 b_16 (g.fcts [2, 3] rfl)) (cwV 3 hts (gV_ t_1164 t_1165 t_1166 t_192 t_1167) rfl rfl rfl (by decide +kernel) ⟨(Nat.le_of_ble_eq_true rfl), (Nat.le_of_ble_eq_true rfl)⟩) (pre3V g hK mq1_ kq1_ (by decide) (q := (RX9, TX9, 13)) rfl) rfl rfl hl.1 rfl (lv_room (Nat.le_of_ble_eq_true rfl)) dX2_readField_201 ⟨(Nat.le_of_ble_eq_true rfl), (Nat.le_of_ble_eq_true rfl)⟩) g hK (by decide) (by decide) (fx' := [(8, 6, q0_, .int x_538), (8, 8, q0_, .int y0_), (2, 0, a0_, .ref q0_), (2, 4, a0_, .ref q1_)]) rfl (fun fr_546 H locs hp hMr_546 g => ?_)
                    obtain ⟨x_547, h_548, x_549, h_550, hF_551⟩ := hp
                    have g := g.more hF_551
                    subst hQ
                    exact W.vret hx hb hr (fun t ht hW => ⟨⟨_, rfl, Or.inl ⟨x_547, h_548, x_549, (bd_sub h_550 (by decide)), x_538, h_539, (g.fcts [0, 1, 2, 3] rfl)⟩, q3_of g hK ht hW⟩, g.2.2.1.F ht⟩) g.2.2.1.2.2 dX2_readField_204
                · have g := g.more hF_543
                  refine lv_aload_n hx hb dX2_readField_182 rfl (lv_at hl 4 rfl) ?_
                  refine g_getk (C := RX2) (T := TX2) (N := 16) hx hb hts (mc_ inX2) hown hK g rfl 0 (by decide) rfl (hts _ (List.mem_cons_of_mem _ t_416)) (fun _ h9 => h9) 4 rfl dX2_readField_183 ?_
                  refine g_getk (C := RX8) (T := TX8) (N := 10) hx hb hts (mc_ inX8) hown hK g rfl 8 (by decide) rfl (hts _ (List.mem_cons_of_mem _ t_294)) (fun _ h9 => h9) 1 rfl dX2_readField_186 ?_
                  have kb_0 : bd 0 0 (0 : Int32) := ⟨by decide, by decide⟩
                  refine lv_if_ne (tgt := 204) hx hb dX2_readField_189 (by decide) (fun c_552 => ?_) (fun c_552 => ?_)
                  · have fc_552 := neq_f c_552
                    have kb_1201 : bd 1201 1201 (1201 : Int32) := ⟨by decide, by decide⟩
                    subst hQ
                    exact W.vret hx hb hr (fun t ht hW => ⟨⟨_, rfl, Or.inr (⟨1201, kb_1201, x_541, h_542, (g.fcts [0, 1] rfl)⟩), q3_of g hK ht hW⟩, g.2.2.1.F ht⟩) g.2.2.1.2.2 dX2_readField_204
                  · have fc_552 := eq_f c_552
                    have b_553 : bd 1 0 x_541 := eqX fc_552 h_542 kb_0 (by decide)
                    exact bd_no b_553 (by decide)
              · have g := g.more hF_536
                refine lv_istore (lv' := [(5, .int r_530), (4, .int 6), (2, .long r_6), (1, .int r_5), (0, .ref a0_)]) hx hb dX2_readField_171 hl (by decide) rfl (fun ls hl => ?_)
                refine lv_aload_n hx hb dX2_readField_173 rfl (lv_at hl 4 rfl) ?_
                refine g_getk (C := RX2) (T := TX2) (N := 16) hx hb hts (mc_ inX2) hown hK g rfl 0 (by decide) rfl (hts _ (List.mem_cons_of_mem _ t_416)) (fun _ h9 => h9) 4 rfl dX2_readField_174 ?_
                refine lv_bipush (v := 59) hx hb dX2_readField_177 (by decide) ?_
                have kb_1201 : bd 1201 1201 (1201 : Int32) := ⟨by decide, by decide⟩
                refine g_callv (va_runV (As := [.int 59]) (rest := []) ⟨hx, hb, hml, hown, hts⟩ (r_X8_take_2 l dC dI L kd tys fr_530 H.size g.2.2.2.1 q0_ mq0_ kq0_ 59 1201 kb_1201 x_534 h_535 (g.fcts [0, 1] rfl)) (cwV 1 hts (gV_ t_1098 t_1099 t_1100 t_184 t_1101) rfl rfl rfl (by decide +kernel) ⟨(Nat.le_of_ble_eq_true rfl), (Nat.le_of_ble_eq_true rfl)⟩) (pre3V g hK mq0_ kq0_ (by decide) (q := (RX8, TX8, 10)) rfl) rfl rfl hl.1 rfl (lv_room (Nat.le_of_ble_eq_true rfl)) dX2_readField_179 ⟨(Nat.le_of_ble_eq_true rfl), (Nat.le_of_ble_eq_true rfl)⟩) g hK (by decide) (by decide) (fx' := [(8, 8, q0_, .int x_534), (9, 7, q1_, .int x_158), (9, 2, q1_, .int x_14), (2, 0, a0_, .ref q0_), (2, 4, a0_, .ref q1_)]) rfl (fun fr_554 H locs hp hMr_554 g => ?_)
                obtain ⟨x_555, h_556, hF_557⟩ := hp
                have g := g.more hF_557
                refine lv_aload_n hx hb dX2_readField_182 rfl (lv_at hl 4 rfl) ?_
                refine g_getk (C := RX2) (T := TX2) (N := 16) hx hb hts (mc_ inX2) hown hK g rfl 0 (by decide) rfl (hts _ (List.mem_cons_of_mem _ t_416)) (fun _ h9 => h9) 4 rfl dX2_readField_183 ?_
                refine g_getk (C := RX8) (T := TX8) (N := 10) hx hb hts (mc_ inX8) hown hK g rfl 8 (by decide) rfl (hts _ (List.mem_cons_of_mem _ t_294)) (fun _ h9 => h9) 1 rfl dX2_readField_186 ?_
                have kb_0 : bd 0 0 (0 : Int32) := ⟨by decide, by decide⟩
                refine lv_if_ne (tgt := 204) hx hb dX2_readField_189 (by decide) (fun c_558 => ?_) (fun c_558 => ?_)
                · have fc_558 := neq_f c_558
                  subst hQ
                  exact W.vret hx hb hr (fun t ht hW => ⟨⟨_, rfl, Or.inr (⟨x_555, h_556, x_534, h_535, (g.fcts [0, 1] rfl)⟩), q3_of g hK ht hW⟩, g.2.2.1.F ht⟩) g.2.2.1.2.2 dX2_readField_204
                · have fc_558 := eq_f c_558
                  have b_559 : bd 1 0 x_534 := eqX fc_558 h_535 kb_0 (by decide)
                  exact bd_no b_559 (by decide)
          · obtain rfl : r_94 = 6 := h_161
            have g := g.more hF_166
            refine lv_istore (lv' := [(4, .int 6), (2, .long r_6), (1, .int r_5), (0, .ref a0_)]) hx hb dX2_readField_117 hl (by decide) rfl (fun ls hl => ?_)
            refine lv_goto (tgt := 143) hx hb dX2_readField_119 (by decide) ?_
            refine lv_iconst (v := 0) hx hb dX2_readField_143 (by decide) ?_
            refine lv_istore (lv' := [(5, .int 0), (4, .int 6), (2, .long r_6), (1, .int r_5), (0, .ref a0_)]) hx hb dX2_readField_144 hl (by decide) rfl (fun ls hl => ?_)
            refine lv_aload_n hx hb dX2_readField_146 rfl (lv_at hl 4 rfl) ?_
            refine g_getk (C := RX2) (T := TX2) (N := 16) hx hb hts (mc_ inX2) hown hK g rfl 0 (by decide) rfl (hts _ (List.mem_cons_of_mem _ t_416)) (fun _ h9 => h9) 3 rfl dX2_readField_147 ?_
            refine g_calli (va_runV (As := []) (rest := []) ⟨hx, hb, hml, hown, hts⟩ (r_X8_kind_2 l dC dI L kd tys fr_94 H.size g.2.2.2.1 q0_ mq0_ kq0_ x_162 h_163 (g.fcts [0] rfl)) (cwV 0 hts (gV_ t_1118 t_1119 t_1120 t_184 t_1121) rfl rfl rfl (by decide +kernel) ⟨(Nat.le_of_ble_eq_true rfl), (Nat.le_of_ble_eq_true rfl)⟩) (pre3V g hK mq0_ kq0_ (by decide) (q := (RX8, TX8, 10)) rfl) rfl rfl hl.1 rfl (lv_room (Nat.le_of_ble_eq_true rfl)) dX2_readField_150 ⟨(Nat.le_of_ble_eq_true rfl), (Nat.le_of_ble_eq_true rfl)⟩) g hK (by decide) (by decide) (fx' := [(8, 6, q0_, .int x_162), (8, 8, q0_, .int x_164), (9, 2, q1_, .int x_14), (2, 0, a0_, .ref q0_), (2, 4, a0_, .ref q1_)]) rfl (fun r_560 fr_560 H locs hp hMr_560 g => ?_)
            obtain ⟨h_561, -⟩ := hp
            obtain rfl : r_560 = 0 := h_561
            refine lv_bipush (v := 61) hx hb dX2_readField_153 (by decide) ?_
            refine lv_icmp_ne (tgt := 173) hx hb dX2_readField_155 (by decide) (fun c_ => ?_) (fun c_ => absurd c_ (by decide))
            refine lv_aload_n hx hb dX2_readField_173 rfl (lv_at hl 4 rfl) ?_
            refine g_getk (C := RX2) (T := TX2) (N := 16) hx hb hts (mc_ inX2) hown hK g rfl 0 (by decide) rfl (hts _ (List.mem_cons_of_mem _ t_416)) (fun _ h9 => h9) 3 rfl dX2_readField_174 ?_
            refine lv_bipush (v := 59) hx hb dX2_readField_177 (by decide) ?_
            refine g_callv (va_runV (As := [.int 59]) (rest := []) ⟨hx, hb, hml, hown, hts⟩ (r_X8_take_2 l dC dI L kd tys fr_560 H.size g.2.2.2.1 q0_ mq0_ kq0_ 59 x_162 h_163 x_164 h_165 (g.fcts [0, 1] rfl)) (cwV 1 hts (gV_ t_1098 t_1099 t_1100 t_184 t_1101) rfl rfl rfl (by decide +kernel) ⟨(Nat.le_of_ble_eq_true rfl), (Nat.le_of_ble_eq_true rfl)⟩) (pre3V g hK mq0_ kq0_ (by decide) (q := (RX8, TX8, 10)) rfl) rfl rfl hl.1 rfl (lv_room (Nat.le_of_ble_eq_true rfl)) dX2_readField_179 ⟨(Nat.le_of_ble_eq_true rfl), (Nat.le_of_ble_eq_true rfl)⟩) g hK (by decide) (by decide) (fx' := [(8, 8, q0_, .int x_164), (9, 2, q1_, .int x_14), (2, 0, a0_, .ref q0_), (2, 4, a0_, .ref q1_)]) rfl (fun fr_562 H locs hp hMr_562 g => ?_)
            obtain ⟨x_563, h_564, hF_565⟩ := hp
            have g := g.more hF_565
            refine lv_aload_n hx hb dX2_readField_182 rfl (lv_at hl 4 rfl) ?_
            refine g_getk (C := RX2) (T := TX2) (N := 16) hx hb hts (mc_ inX2) hown hK g rfl 0 (by decide) rfl (hts _ (List.mem_cons_of_mem _ t_416)) (fun _ h9 => h9) 3 rfl dX2_readField_183 ?_
            refine g_getk (C := RX8) (T := TX8) (N := 10) hx hb hts (mc_ inX8) hown hK g rfl 8 (by decide) rfl (hts _ (List.mem_cons_of_mem _ t_294)) (fun _ h9 => h9) 1 rfl dX2_readField_186 ?_
            have kb_0 : bd 0 0 (0 : Int32) := ⟨by decide, by decide⟩
            refine lv_if_ne (tgt := 204) hx hb dX2_readField_189 (by decide) (fun c_566 => ?_) (fun c_566 => ?_)
            · have fc_566 := neq_f c_566
              subst hQ
              exact W.vret hx hb hr (fun t ht hW => ⟨⟨_, rfl, Or.inr (⟨x_563, h_564, x_164, h_165, (g.fcts [0, 1] rfl)⟩), q3_of g hK ht hW⟩, g.2.2.1.F ht⟩) g.2.2.1.2.2 dX2_readField_204
            · have fc_566 := eq_f c_566
              have b_567 : bd 1 0 x_164 := eqX fc_566 h_165 kb_0 (by decide)
              exact bd_no b_567 (by decide)
          · obtain rfl : r_94 = 7 := h_167
            have g := g.more hF_172
            refine lv_istore (lv' := [(4, .int 7), (2, .long r_6), (1, .int r_5), (0, .ref a0_)]) hx hb dX2_readField_117 hl (by decide) rfl (fun ls hl => ?_)
            refine lv_goto (tgt := 143) hx hb dX2_readField_119 (by decide) ?_
            refine lv_iconst (v := 0) hx hb dX2_readField_143 (by decide) ?_
            refine lv_istore (lv' := [(5, .int 0), (4, .int 7), (2, .long r_6), (1, .int r_5), (0, .ref a0_)]) hx hb dX2_readField_144 hl (by decide) rfl (fun ls hl => ?_)
            refine lv_aload_n hx hb dX2_readField_146 rfl (lv_at hl 4 rfl) ?_
            refine g_getk (C := RX2) (T := TX2) (N := 16) hx hb hts (mc_ inX2) hown hK g rfl 0 (by decide) rfl (hts _ (List.mem_cons_of_mem _ t_416)) (fun _ h9 => h9) 4 rfl dX2_readField_147 ?_
            refine g_calli (va_runV (As := []) (rest := []) ⟨hx, hb, hml, hown, hts⟩ (r_X8_kind l dC dI L kd tys fr_94 H.size g.2.2.2.1 q0_ mq0_ kq0_) (cwV 0 hts (gV_ t_1118 t_1119 t_1120 t_184 t_1121) rfl rfl rfl (by decide +kernel) ⟨(Nat.le_of_ble_eq_true rfl), (Nat.le_of_ble_eq_true rfl)⟩) (pre3V g hK mq0_ kq0_ (by decide) (q := (RX8, TX8, 10)) rfl) rfl rfl hl.1 rfl (lv_room (Nat.le_of_ble_eq_true rfl)) dX2_readField_150 ⟨(Nat.le_of_ble_eq_true rfl), (Nat.le_of_ble_eq_true rfl)⟩) g hK (by decide) (by decide) (fx' := [(8, 6, q0_, .int x_168), (8, 8, q0_, .int y0_), (9, 7, q1_, .int x_170), (9, 2, q1_, .int x_14), (2, 0, a0_, .ref q0_), (2, 4, a0_, .ref q1_)]) rfl (fun r_568 fr_568 H locs hp hMr_568 g => ?_)
            refine lv_bipush (v := 61) hx hb dX2_readField_153 (by decide) ?_
            have kb_61 : bd 61 61 (61 : Int32) := ⟨by decide, by decide⟩
            refine lv_icmp_ne (tgt := 173) hx hb dX2_readField_155 (by decide) (fun c_569 => ?_) (fun c_569 => ?_)
            · have fc_569 := neq_f c_569
              refine lv_aload_n hx hb dX2_readField_173 rfl (lv_at hl 4 rfl) ?_
              refine g_getk (C := RX2) (T := TX2) (N := 16) hx hb hts (mc_ inX2) hown hK g rfl 0 (by decide) rfl (hts _ (List.mem_cons_of_mem _ t_416)) (fun _ h9 => h9) 4 rfl dX2_readField_174 ?_
              refine lv_bipush (v := 59) hx hb dX2_readField_177 (by decide) ?_
              refine g_callv (va_runV (As := [.int 59]) (rest := []) ⟨hx, hb, hml, hown, hts⟩ (r_X8_take l dC dI L kd tys fr_568 H.size g.2.2.2.1 q0_ mq0_ kq0_ 59 y0_ by0_ (g.fcts [1] rfl)) (cwV 1 hts (gV_ t_1098 t_1099 t_1100 t_184 t_1101) rfl rfl rfl (by decide +kernel) ⟨(Nat.le_of_ble_eq_true rfl), (Nat.le_of_ble_eq_true rfl)⟩) (pre3V g hK mq0_ kq0_ (by decide) (q := (RX8, TX8, 10)) rfl) rfl rfl hl.1 rfl (lv_room (Nat.le_of_ble_eq_true rfl)) dX2_readField_179 ⟨(Nat.le_of_ble_eq_true rfl), (Nat.le_of_ble_eq_true rfl)⟩) g hK (by decide) (by decide) (fx' := [(9, 7, q1_, .int x_170), (9, 2, q1_, .int x_14), (2, 0, a0_, .ref q0_), (2, 4, a0_, .ref q1_)]) rfl (fun fr_570 H locs hp hMr_570 g => ?_)
              rcases hp with ⟨x_571, h_572, hF_573⟩ | ⟨x_574, h_575, hF_576⟩
              · have g := g.more hF_573
                refine lv_aload_n hx hb dX2_readField_182 rfl (lv_at hl 4 rfl) ?_
                refine g_getk (C := RX2) (T := TX2) (N := 16) hx hb hts (mc_ inX2) hown hK g rfl 0 (by decide) rfl (hts _ (List.mem_cons_of_mem _ t_416)) (fun _ h9 => h9) 4 rfl dX2_readField_183 ?_
                refine g_getk (C := RX8) (T := TX8) (N := 10) hx hb hts (mc_ inX8) hown hK g rfl 8 (by decide) rfl (hts _ (List.mem_cons_of_mem _ t_294)) (fun _ h9 => h9) 1 rfl dX2_readField_186 ?_
                have kb_0 : bd 0 0 (0 : Int32) := ⟨by decide, by decide⟩
                refine lv_if_ne (tgt := 204) hx hb dX2_readField_189 (by decide) (fun c_577 => ?_) (fun c_577 => ?_)
                · have fc_577 := neq_f c_577
                  have b_578 : bd 1 (-1) y0_ := neX fc_577 by0_ kb_0 (by decide)
                  exact bd_no b_578 (by decide)
                · have fc_577 := eq_f c_577
                  refine lv_aload_n hx hb dX2_readField_192 rfl (lv_at hl 4 rfl) ?_
                  refine g_getk (C := RX2) (T := TX2) (N := 16) hx hb hts (mc_ inX2) hown hK g rfl 4 (by decide) rfl (hts _ (List.mem_cons_of_mem _ t_420)) (fun _ h9 => h9) 5 rfl dX2_readField_193 ?_
                  refine lv_lload_n hx hb dX2_readField_196 rfl (lv_at hl 2 rfl) ?_
                  refine lv_iload hx hb dX2_readField_197 (lv_at hl 1 rfl) ?_
                  refine lv_iload hx hb dX2_readField_199 (lv_at hl 0 rfl) ?_
                  have kb_7 : bd 7 7 (7 : Int32) := ⟨by decide, by decide⟩
                  refine g_callv (va_runV (As := [.long r_6, .int 7, .int 0]) (rest := []) ⟨hx, hb, hml, hown, hts⟩ (r_X9_addField_15 l dC dI L kd tys fr_570 H.size g.2.2.2.1 q1_ mq1_ kq1_ r_6 7 kb_7 0 kb_0 x_170 h_171 x_14 b_16 (g.fcts [2, 3] rfl)) (cwV 3 hts (gV_ t_1164 t_1165 t_1166 t_192 t_1167) rfl rfl rfl (by decide +kernel) ⟨(Nat.le_of_ble_eq_true rfl), (Nat.le_of_ble_eq_true rfl)⟩) (pre3V g hK mq1_ kq1_ (by decide) (q := (RX9, TX9, 13)) rfl) rfl rfl hl.1 rfl (lv_room (Nat.le_of_ble_eq_true rfl)) dX2_readField_201 ⟨(Nat.le_of_ble_eq_true rfl), (Nat.le_of_ble_eq_true rfl)⟩) g hK (by decide) (by decide) (fx' := [(8, 6, q0_, .int x_571), (8, 8, q0_, .int y0_), (2, 0, a0_, .ref q0_), (2, 4, a0_, .ref q1_)]) rfl (fun fr_579 H locs hp hMr_579 g => ?_)
                  obtain ⟨x_580, h_581, x_582, h_583, hF_584⟩ := hp
                  have g := g.more hF_584
                  subst hQ
                  exact W.vret hx hb hr (fun t ht hW => ⟨⟨_, rfl, Or.inl ⟨x_580, h_581, x_582, (bd_sub h_583 (by decide)), x_571, h_572, (g.fcts [0, 1, 2, 3] rfl)⟩, q3_of g hK ht hW⟩, g.2.2.1.F ht⟩) g.2.2.1.2.2 dX2_readField_204
              · have g := g.more hF_576
                refine lv_aload_n hx hb dX2_readField_182 rfl (lv_at hl 4 rfl) ?_
                refine g_getk (C := RX2) (T := TX2) (N := 16) hx hb hts (mc_ inX2) hown hK g rfl 0 (by decide) rfl (hts _ (List.mem_cons_of_mem _ t_416)) (fun _ h9 => h9) 4 rfl dX2_readField_183 ?_
                refine g_getk (C := RX8) (T := TX8) (N := 10) hx hb hts (mc_ inX8) hown hK g rfl 8 (by decide) rfl (hts _ (List.mem_cons_of_mem _ t_294)) (fun _ h9 => h9) 1 rfl dX2_readField_186 ?_
                have kb_0 : bd 0 0 (0 : Int32) := ⟨by decide, by decide⟩
                refine lv_if_ne (tgt := 204) hx hb dX2_readField_189 (by decide) (fun c_585 => ?_) (fun c_585 => ?_)
                · have fc_585 := neq_f c_585
                  have kb_1201 : bd 1201 1201 (1201 : Int32) := ⟨by decide, by decide⟩
                  subst hQ
                  exact W.vret hx hb hr (fun t ht hW => ⟨⟨_, rfl, Or.inr (⟨1201, kb_1201, x_574, h_575, (g.fcts [0, 1] rfl)⟩), q3_of g hK ht hW⟩, g.2.2.1.F ht⟩) g.2.2.1.2.2 dX2_readField_204
                · have fc_585 := eq_f c_585
                  have b_586 : bd 1 0 x_574 := eqX fc_585 h_575 kb_0 (by decide)
                  exact bd_no b_586 (by decide)
            · have fc_569 := eq_f c_569
              have b_587 : bd 61 61 r_568 := eqX fc_569 (bdT r_568) kb_61 (by decide)
              refine lv_aload_n hx hb dX2_readField_158 rfl (lv_at hl 4 rfl) ?_
              refine g_getk (C := RX2) (T := TX2) (N := 16) hx hb hts (mc_ inX2) hown hK g rfl 0 (by decide) rfl (hts _ (List.mem_cons_of_mem _ t_416)) (fun _ h9 => h9) 4 rfl dX2_readField_159 ?_
              refine g_callv (va_runV (As := []) (rest := []) ⟨hx, hb, hml, hown, hts⟩ (r_X8_next l dC dI L kd tys fr_568 H.size g.2.2.2.1 q0_ mq0_ kq0_) (cwV 0 hts (gV_ t_1131 t_1103 t_1104 t_184 t_1105) rfl rfl rfl (by decide +kernel) ⟨(Nat.le_of_ble_eq_true rfl), (Nat.le_of_ble_eq_true rfl)⟩) (pre3V g hK mq0_ kq0_ (by decide) (q := (RX8, TX8, 10)) rfl) rfl rfl hl.1 rfl (lv_room (Nat.le_of_ble_eq_true rfl)) dX2_readField_162 ⟨(Nat.le_of_ble_eq_true rfl), (Nat.le_of_ble_eq_true rfl)⟩) g hK (by decide) (by decide) (fx' := [(8, 8, q0_, .int y0_), (9, 7, q1_, .int x_170), (9, 2, q1_, .int x_14), (2, 0, a0_, .ref q0_), (2, 4, a0_, .ref q1_)]) rfl (fun fr_588 H locs hp hMr_588 g => ?_)
              obtain ⟨x_589, h_590, hF_591⟩ := hp
              have g := g.more hF_591
              refine lv_aload_n hx hb dX2_readField_165 rfl (lv_at hl 4 rfl) ?_
              refine lv_ldc (v := (-2147483648)) hx hb hown (hts _ (List.mem_cons_of_mem _ t_1159)) dX2_readField_166 ?_
              refine g_calli (va_runV (As := [.int (-2147483648)]) (rest := []) ⟨hx, hb, hml, hown, hts⟩ (r_X2_readNumber l dC dI L kd tys fr_588 H.size g.2.2.2.1 a0_ ma0_ ka0_ (-2147483648) q0_ mq0_ kq0_ y0_ by0_ (g.fcts [4, 1] rfl)) (cwV 1 hts (gV_ t_1160 t_1162 t_11 t_183 t_1163) rfl rfl rfl (by decide +kernel) ⟨(Nat.le_of_ble_eq_true rfl), (Nat.le_of_ble_eq_true rfl)⟩) (pre3V g hK ma0_ ka0_ (by decide) (q := (RX2, TX2, 16)) rfl) rfl rfl hl.1 rfl (lv_room (Nat.le_of_ble_eq_true rfl)) dX2_readField_168 ⟨(Nat.le_of_ble_eq_true rfl), (Nat.le_of_ble_eq_true rfl)⟩) g hK (by decide) (by decide) (fx' := [(9, 7, q1_, .int x_170), (9, 2, q1_, .int x_14), (2, 0, a0_, .ref q0_), (2, 4, a0_, .ref q1_)]) rfl (fun r_592 fr_592 H locs hp hMr_592 g => ?_)
              rcases hp with ⟨x_593, h_594, hF_595⟩ | ⟨x_596, h_597, hF_598⟩
              · have g := g.more hF_595
                refine lv_istore (lv' := [(5, .int r_592), (4, .int 7), (2, .long r_6), (1, .int r_5), (0, .ref a0_)]) hx hb dX2_readField_171 hl (by decide) rfl (fun ls hl => ?_)
                refine lv_aload_n hx hb dX2_readField_173 rfl (lv_at hl 4 rfl) ?_
                refine g_getk (C := RX2) (T := TX2) (N := 16) hx hb hts (mc_ inX2) hown hK g rfl 0 (by decide) rfl (hts _ (List.mem_cons_of_mem _ t_416)) (fun _ h9 => h9) 4 rfl dX2_readField_174 ?_
                refine lv_bipush (v := 59) hx hb dX2_readField_177 (by decide) ?_
                refine g_callv (va_runV (As := [.int 59]) (rest := []) ⟨hx, hb, hml, hown, hts⟩ (r_X8_take l dC dI L kd tys fr_592 H.size g.2.2.2.1 q0_ mq0_ kq0_ 59 y0_ by0_ (g.fcts [1] rfl)) (cwV 1 hts (gV_ t_1098 t_1099 t_1100 t_184 t_1101) rfl rfl rfl (by decide +kernel) ⟨(Nat.le_of_ble_eq_true rfl), (Nat.le_of_ble_eq_true rfl)⟩) (pre3V g hK mq0_ kq0_ (by decide) (q := (RX8, TX8, 10)) rfl) rfl rfl hl.1 rfl (lv_room (Nat.le_of_ble_eq_true rfl)) dX2_readField_179 ⟨(Nat.le_of_ble_eq_true rfl), (Nat.le_of_ble_eq_true rfl)⟩) g hK (by decide) (by decide) (fx' := [(9, 7, q1_, .int x_170), (9, 2, q1_, .int x_14), (2, 0, a0_, .ref q0_), (2, 4, a0_, .ref q1_)]) rfl (fun fr_599 H locs hp hMr_599 g => ?_)
                rcases hp with ⟨x_600, h_601, hF_602⟩ | ⟨x_603, h_604, hF_605⟩
                · have g := g.more hF_602
                  refine lv_aload_n hx hb dX2_readField_182 rfl (lv_at hl 4 rfl) ?_
                  refine g_getk (C := RX2) (T := TX2) (N := 16) hx hb hts (mc_ inX2) hown hK g rfl 0 (by decide) rfl (hts _ (List.mem_cons_of_mem _ t_416)) (fun _ h9 => h9) 4 rfl dX2_readField_183 ?_
                  refine g_getk (C := RX8) (T := TX8) (N := 10) hx hb hts (mc_ inX8) hown hK g rfl 8 (by decide) rfl (hts _ (List.mem_cons_of_mem _ t_294)) (fun _ h9 => h9) 1 rfl dX2_readField_186 ?_
                  have kb_0 : bd 0 0 (0 : Int32) := ⟨by decide, by decide⟩
                  refine lv_if_ne (tgt := 204) hx hb dX2_readField_189 (by decide) (fun c_606 => ?_) (fun c_606 => ?_)
                  · have fc_606 := neq_f c_606
                    have b_607 : bd 1 (-1) y0_ := neX fc_606 by0_ kb_0 (by decide)
                    exact bd_no b_607 (by decide)
                  · have fc_606 := eq_f c_606
                    refine lv_aload_n hx hb dX2_readField_192 rfl (lv_at hl 4 rfl) ?_
                    refine g_getk (C := RX2) (T := TX2) (N := 16) hx hb hts (mc_ inX2) hown hK g rfl 4 (by decide) rfl (hts _ (List.mem_cons_of_mem _ t_420)) (fun _ h9 => h9) 5 rfl dX2_readField_193 ?_
                    refine lv_lload_n hx hb dX2_readField_196 rfl (lv_at hl 2 rfl) ?_
                    refine lv_iload hx hb dX2_readField_197 (lv_at hl 1 rfl) ?_
                    refine lv_iload hx hb dX2_readField_199 (lv_at hl 0 rfl) ?_
                    have kb_7 : bd 7 7 (7 : Int32) := ⟨by decide, by decide⟩
                    refine g_callv (va_runV (As := [.long r_6, .int 7, .int r_592]) (rest := []) ⟨hx, hb, hml, hown, hts⟩ (r_X9_addField_16 l dC dI L kd tys fr_599 H.size g.2.2.2.1 q1_ mq1_ kq1_ r_6 7 kb_7 r_592 x_170 h_171 x_14 b_16 (g.fcts [2, 3] rfl)) (cwV 3 hts (gV_ t_1164 t_1165 t_1166 t_192 t_1167) rfl rfl rfl (by decide +kernel) ⟨(Nat.le_of_ble_eq_true rfl), (Nat.le_of_ble_eq_true rfl)⟩) (pre3V g hK mq1_ kq1_ (by decide) (q := (RX9, TX9, 13)) rfl) rfl rfl hl.1 rfl (lv_room (Nat.le_of_ble_eq_true rfl)) dX2_readField_201 ⟨(Nat.le_of_ble_eq_true rfl), (Nat.le_of_ble_eq_true rfl)⟩) g hK (by decide) (by decide) (fx' := [(8, 6, q0_, .int x_600), (8, 8, q0_, .int y0_), (2, 0, a0_, .ref q0_), (2, 4, a0_, .ref q1_)]) rfl (fun fr_608 H locs hp hMr_608 g => ?_)
                    obtain ⟨x_609, h_610, x_611, h_612, hF_613⟩ := hp
                    have g := g.more hF_613
                    subst hQ
                    exact W.vret hx hb hr (fun t ht hW => ⟨⟨_, rfl, Or.inl ⟨x_609, h_610, x_611, (bd_sub h_612 (by decide)), x_600, h_601, (g.fcts [0, 1, 2, 3] rfl)⟩, q3_of g hK ht hW⟩, g.2.2.1.F ht⟩) g.2.2.1.2.2 dX2_readField_204
                · have g := g.more hF_605
                  refine lv_aload_n hx hb dX2_readField_182 rfl (lv_at hl 4 rfl) ?_
                  refine g_getk (C := RX2) (T := TX2) (N := 16) hx hb hts (mc_ inX2) hown hK g rfl 0 (by decide) rfl (hts _ (List.mem_cons_of_mem _ t_416)) (fun _ h9 => h9) 4 rfl dX2_readField_183 ?_
                  refine g_getk (C := RX8) (T := TX8) (N := 10) hx hb hts (mc_ inX8) hown hK g rfl 8 (by decide) rfl (hts _ (List.mem_cons_of_mem _ t_294)) (fun _ h9 => h9) 1 rfl dX2_readField_186 ?_
                  have kb_0 : bd 0 0 (0 : Int32) := ⟨by decide, by decide⟩
                  refine lv_if_ne (tgt := 204) hx hb dX2_readField_189 (by decide) (fun c_614 => ?_) (fun c_614 => ?_)
                  · have fc_614 := neq_f c_614
                    have kb_1201 : bd 1201 1201 (1201 : Int32) := ⟨by decide, by decide⟩
                    subst hQ
                    exact W.vret hx hb hr (fun t ht hW => ⟨⟨_, rfl, Or.inr (⟨1201, kb_1201, x_603, h_604, (g.fcts [0, 1] rfl)⟩), q3_of g hK ht hW⟩, g.2.2.1.F ht⟩) g.2.2.1.2.2 dX2_readField_204
                  · have fc_614 := eq_f c_614
                    have b_615 : bd 1 0 x_603 := eqX fc_614 h_604 kb_0 (by decide)
                    exact bd_no b_615 (by decide)
              · have g := g.more hF_598
                refine lv_istore (lv' := [(5, .int r_592), (4, .int 7), (2, .long r_6), (1, .int r_5), (0, .ref a0_)]) hx hb dX2_readField_171 hl (by decide) rfl (fun ls hl => ?_)
                refine lv_aload_n hx hb dX2_readField_173 rfl (lv_at hl 4 rfl) ?_
                refine g_getk (C := RX2) (T := TX2) (N := 16) hx hb hts (mc_ inX2) hown hK g rfl 0 (by decide) rfl (hts _ (List.mem_cons_of_mem _ t_416)) (fun _ h9 => h9) 4 rfl dX2_readField_174 ?_
                refine lv_bipush (v := 59) hx hb dX2_readField_177 (by decide) ?_
                have kb_1201 : bd 1201 1201 (1201 : Int32) := ⟨by decide, by decide⟩
                refine g_callv (va_runV (As := [.int 59]) (rest := []) ⟨hx, hb, hml, hown, hts⟩ (r_X8_take_2 l dC dI L kd tys fr_592 H.size g.2.2.2.1 q0_ mq0_ kq0_ 59 1201 kb_1201 x_596 h_597 (g.fcts [0, 1] rfl)) (cwV 1 hts (gV_ t_1098 t_1099 t_1100 t_184 t_1101) rfl rfl rfl (by decide +kernel) ⟨(Nat.le_of_ble_eq_true rfl), (Nat.le_of_ble_eq_true rfl)⟩) (pre3V g hK mq0_ kq0_ (by decide) (q := (RX8, TX8, 10)) rfl) rfl rfl hl.1 rfl (lv_room (Nat.le_of_ble_eq_true rfl)) dX2_readField_179 ⟨(Nat.le_of_ble_eq_true rfl), (Nat.le_of_ble_eq_true rfl)⟩) g hK (by decide) (by decide) (fx' := [(8, 8, q0_, .int x_596), (9, 7, q1_, .int x_170), (9, 2, q1_, .int x_14), (2, 0, a0_, .ref q0_), (2, 4, a0_, .ref q1_)]) rfl (fun fr_616 H locs hp hMr_616 g => ?_)
                obtain ⟨x_617, h_618, hF_619⟩ := hp
                have g := g.more hF_619
                refine lv_aload_n hx hb dX2_readField_182 rfl (lv_at hl 4 rfl) ?_
                refine g_getk (C := RX2) (T := TX2) (N := 16) hx hb hts (mc_ inX2) hown hK g rfl 0 (by decide) rfl (hts _ (List.mem_cons_of_mem _ t_416)) (fun _ h9 => h9) 4 rfl dX2_readField_183 ?_
                refine g_getk (C := RX8) (T := TX8) (N := 10) hx hb hts (mc_ inX8) hown hK g rfl 8 (by decide) rfl (hts _ (List.mem_cons_of_mem _ t_294)) (fun _ h9 => h9) 1 rfl dX2_readField_186 ?_
                have kb_0 : bd 0 0 (0 : Int32) := ⟨by decide, by decide⟩
                refine lv_if_ne (tgt := 204) hx hb dX2_readField_189 (by decide) (fun c_620 => ?_) (fun c_620 => ?_)
                · have fc_620 := neq_f c_620
                  subst hQ
                  exact W.vret hx hb hr (fun t ht hW => ⟨⟨_, rfl, Or.inr (⟨x_617, h_618, x_596, h_597, (g.fcts [0, 1] rfl)⟩), q3_of g hK ht hW⟩, g.2.2.1.F ht⟩) g.2.2.1.2.2 dX2_readField_204
                · have fc_620 := eq_f c_620
                  have b_621 : bd 1 0 x_596 := eqX fc_620 h_597 kb_0 (by decide)
                  exact bd_no b_621 (by decide)
          · obtain rfl : r_94 = 7 := h_173
            have g := g.more hF_178
            refine lv_istore (lv' := [(4, .int 7), (2, .long r_6), (1, .int r_5), (0, .ref a0_)]) hx hb dX2_readField_117 hl (by decide) rfl (fun ls hl => ?_)
            refine lv_goto (tgt := 143) hx hb dX2_readField_119 (by decide) ?_
            refine lv_iconst (v := 0) hx hb dX2_readField_143 (by decide) ?_
            refine lv_istore (lv' := [(5, .int 0), (4, .int 7), (2, .long r_6), (1, .int r_5), (0, .ref a0_)]) hx hb dX2_readField_144 hl (by decide) rfl (fun ls hl => ?_)
            refine lv_aload_n hx hb dX2_readField_146 rfl (lv_at hl 4 rfl) ?_
            refine g_getk (C := RX2) (T := TX2) (N := 16) hx hb hts (mc_ inX2) hown hK g rfl 0 (by decide) rfl (hts _ (List.mem_cons_of_mem _ t_416)) (fun _ h9 => h9) 3 rfl dX2_readField_147 ?_
            refine g_calli (va_runV (As := []) (rest := []) ⟨hx, hb, hml, hown, hts⟩ (r_X8_kind_2 l dC dI L kd tys fr_94 H.size g.2.2.2.1 q0_ mq0_ kq0_ x_174 h_175 (g.fcts [0] rfl)) (cwV 0 hts (gV_ t_1118 t_1119 t_1120 t_184 t_1121) rfl rfl rfl (by decide +kernel) ⟨(Nat.le_of_ble_eq_true rfl), (Nat.le_of_ble_eq_true rfl)⟩) (pre3V g hK mq0_ kq0_ (by decide) (q := (RX8, TX8, 10)) rfl) rfl rfl hl.1 rfl (lv_room (Nat.le_of_ble_eq_true rfl)) dX2_readField_150 ⟨(Nat.le_of_ble_eq_true rfl), (Nat.le_of_ble_eq_true rfl)⟩) g hK (by decide) (by decide) (fx' := [(8, 6, q0_, .int x_174), (8, 8, q0_, .int x_176), (9, 2, q1_, .int x_14), (2, 0, a0_, .ref q0_), (2, 4, a0_, .ref q1_)]) rfl (fun r_622 fr_622 H locs hp hMr_622 g => ?_)
            obtain ⟨h_623, -⟩ := hp
            obtain rfl : r_622 = 0 := h_623
            refine lv_bipush (v := 61) hx hb dX2_readField_153 (by decide) ?_
            refine lv_icmp_ne (tgt := 173) hx hb dX2_readField_155 (by decide) (fun c_ => ?_) (fun c_ => absurd c_ (by decide))
            refine lv_aload_n hx hb dX2_readField_173 rfl (lv_at hl 4 rfl) ?_
            refine g_getk (C := RX2) (T := TX2) (N := 16) hx hb hts (mc_ inX2) hown hK g rfl 0 (by decide) rfl (hts _ (List.mem_cons_of_mem _ t_416)) (fun _ h9 => h9) 3 rfl dX2_readField_174 ?_
            refine lv_bipush (v := 59) hx hb dX2_readField_177 (by decide) ?_
            refine g_callv (va_runV (As := [.int 59]) (rest := []) ⟨hx, hb, hml, hown, hts⟩ (r_X8_take_2 l dC dI L kd tys fr_622 H.size g.2.2.2.1 q0_ mq0_ kq0_ 59 x_174 h_175 x_176 h_177 (g.fcts [0, 1] rfl)) (cwV 1 hts (gV_ t_1098 t_1099 t_1100 t_184 t_1101) rfl rfl rfl (by decide +kernel) ⟨(Nat.le_of_ble_eq_true rfl), (Nat.le_of_ble_eq_true rfl)⟩) (pre3V g hK mq0_ kq0_ (by decide) (q := (RX8, TX8, 10)) rfl) rfl rfl hl.1 rfl (lv_room (Nat.le_of_ble_eq_true rfl)) dX2_readField_179 ⟨(Nat.le_of_ble_eq_true rfl), (Nat.le_of_ble_eq_true rfl)⟩) g hK (by decide) (by decide) (fx' := [(8, 8, q0_, .int x_176), (9, 2, q1_, .int x_14), (2, 0, a0_, .ref q0_), (2, 4, a0_, .ref q1_)]) rfl (fun fr_624 H locs hp hMr_624 g => ?_)
            obtain ⟨x_625, h_626, hF_627⟩ := hp
            have g := g.more hF_627
            refine lv_aload_n hx hb dX2_readField_182 rfl (lv_at hl 4 rfl) ?_
            refine g_getk (C := RX2) (T := TX2) (N := 16) hx hb hts (mc_ inX2) hown hK g rfl 0 (by decide) rfl (hts _ (List.mem_cons_of_mem _ t_416)) (fun _ h9 => h9) 3 rfl dX2_readField_183 ?_
            refine g_getk (C := RX8) (T := TX8) (N := 10) hx hb hts (mc_ inX8) hown hK g rfl 8 (by decide) rfl (hts _ (List.mem_cons_of_mem _ t_294)) (fun _ h9 => h9) 1 rfl dX2_readField_186 ?_
            have kb_0 : bd 0 0 (0 : Int32) := ⟨by decide, by decide⟩
            refine lv_if_ne (tgt := 204) hx hb dX2_readField_189 (by decide) (fun c_628 => ?_) (fun c_628 => ?_)
            · have fc_628 := neq_f c_628
              subst hQ
              exact W.vret hx hb hr (fun t ht hW => ⟨⟨_, rfl, Or.inr (⟨x_625, h_626, x_176, h_177, (g.fcts [0, 1] rfl)⟩), q3_of g hK ht hW⟩, g.2.2.1.F ht⟩) g.2.2.1.2.2 dX2_readField_204
            · have fc_628 := eq_f c_628
              have b_629 : bd 1 0 x_176 := eqX fc_628 h_177 kb_0 (by decide)
              exact bd_no b_629 (by decide)
          · obtain rfl : r_94 = 8 := h_179
            have g := g.more hF_184
            refine lv_istore (lv' := [(4, .int 8), (2, .long r_6), (1, .int r_5), (0, .ref a0_)]) hx hb dX2_readField_117 hl (by decide) rfl (fun ls hl => ?_)
            refine lv_goto (tgt := 143) hx hb dX2_readField_119 (by decide) ?_
            refine lv_iconst (v := 0) hx hb dX2_readField_143 (by decide) ?_
            refine lv_istore (lv' := [(5, .int 0), (4, .int 8), (2, .long r_6), (1, .int r_5), (0, .ref a0_)]) hx hb dX2_readField_144 hl (by decide) rfl (fun ls hl => ?_)
            refine lv_aload_n hx hb dX2_readField_146 rfl (lv_at hl 4 rfl) ?_
            refine g_getk (C := RX2) (T := TX2) (N := 16) hx hb hts (mc_ inX2) hown hK g rfl 0 (by decide) rfl (hts _ (List.mem_cons_of_mem _ t_416)) (fun _ h9 => h9) 4 rfl dX2_readField_147 ?_
            refine g_calli (va_runV (As := []) (rest := []) ⟨hx, hb, hml, hown, hts⟩ (r_X8_kind l dC dI L kd tys fr_94 H.size g.2.2.2.1 q0_ mq0_ kq0_) (cwV 0 hts (gV_ t_1118 t_1119 t_1120 t_184 t_1121) rfl rfl rfl (by decide +kernel) ⟨(Nat.le_of_ble_eq_true rfl), (Nat.le_of_ble_eq_true rfl)⟩) (pre3V g hK mq0_ kq0_ (by decide) (q := (RX8, TX8, 10)) rfl) rfl rfl hl.1 rfl (lv_room (Nat.le_of_ble_eq_true rfl)) dX2_readField_150 ⟨(Nat.le_of_ble_eq_true rfl), (Nat.le_of_ble_eq_true rfl)⟩) g hK (by decide) (by decide) (fx' := [(8, 6, q0_, .int x_180), (8, 8, q0_, .int y0_), (9, 7, q1_, .int x_182), (9, 2, q1_, .int x_14), (2, 0, a0_, .ref q0_), (2, 4, a0_, .ref q1_)]) rfl (fun r_630 fr_630 H locs hp hMr_630 g => ?_)
            refine lv_bipush (v := 61) hx hb dX2_readField_153 (by decide) ?_
            have kb_61 : bd 61 61 (61 : Int32) := ⟨by decide, by decide⟩
            refine lv_icmp_ne (tgt := 173) hx hb dX2_readField_155 (by decide) (fun c_631 => ?_) (fun c_631 => ?_)
            · have fc_631 := neq_f c_631
              refine lv_aload_n hx hb dX2_readField_173 rfl (lv_at hl 4 rfl) ?_
              refine g_getk (C := RX2) (T := TX2) (N := 16) hx hb hts (mc_ inX2) hown hK g rfl 0 (by decide) rfl (hts _ (List.mem_cons_of_mem _ t_416)) (fun _ h9 => h9) 4 rfl dX2_readField_174 ?_
              refine lv_bipush (v := 59) hx hb dX2_readField_177 (by decide) ?_
              refine g_callv (va_runV (As := [.int 59]) (rest := []) ⟨hx, hb, hml, hown, hts⟩ (r_X8_take l dC dI L kd tys fr_630 H.size g.2.2.2.1 q0_ mq0_ kq0_ 59 y0_ by0_ (g.fcts [1] rfl)) (cwV 1 hts (gV_ t_1098 t_1099 t_1100 t_184 t_1101) rfl rfl rfl (by decide +kernel) ⟨(Nat.le_of_ble_eq_true rfl), (Nat.le_of_ble_eq_true rfl)⟩) (pre3V g hK mq0_ kq0_ (by decide) (q := (RX8, TX8, 10)) rfl) rfl rfl hl.1 rfl (lv_room (Nat.le_of_ble_eq_true rfl)) dX2_readField_179 ⟨(Nat.le_of_ble_eq_true rfl), (Nat.le_of_ble_eq_true rfl)⟩) g hK (by decide) (by decide) (fx' := [(9, 7, q1_, .int x_182), (9, 2, q1_, .int x_14), (2, 0, a0_, .ref q0_), (2, 4, a0_, .ref q1_)]) rfl (fun fr_632 H locs hp hMr_632 g => ?_)
              rcases hp with ⟨x_633, h_634, hF_635⟩ | ⟨x_636, h_637, hF_638⟩
              · have g := g.more hF_635
                refine lv_aload_n hx hb dX2_readField_182 rfl (lv_at hl 4 rfl) ?_
                refine g_getk (C := RX2) (T := TX2) (N := 16) hx hb hts (mc_ inX2) hown hK g rfl 0 (by decide) rfl (hts _ (List.mem_cons_of_mem _ t_416)) (fun _ h9 => h9) 4 rfl dX2_readField_183 ?_
                refine g_getk (C := RX8) (T := TX8) (N := 10) hx hb hts (mc_ inX8) hown hK g rfl 8 (by decide) rfl (hts _ (List.mem_cons_of_mem _ t_294)) (fun _ h9 => h9) 1 rfl dX2_readField_186 ?_
                have kb_0 : bd 0 0 (0 : Int32) := ⟨by decide, by decide⟩
                refine lv_if_ne (tgt := 204) hx hb dX2_readField_189 (by decide) (fun c_639 => ?_) (fun c_639 => ?_)
                · have fc_639 := neq_f c_639
                  have b_640 : bd 1 (-1) y0_ := neX fc_639 by0_ kb_0 (by decide)
                  exact bd_no b_640 (by decide)
                · have fc_639 := eq_f c_639
                  refine lv_aload_n hx hb dX2_readField_192 rfl (lv_at hl 4 rfl) ?_
                  refine g_getk (C := RX2) (T := TX2) (N := 16) hx hb hts (mc_ inX2) hown hK g rfl 4 (by decide) rfl (hts _ (List.mem_cons_of_mem _ t_420)) (fun _ h9 => h9) 5 rfl dX2_readField_193 ?_
                  refine lv_lload_n hx hb dX2_readField_196 rfl (lv_at hl 2 rfl) ?_
                  refine lv_iload hx hb dX2_readField_197 (lv_at hl 1 rfl) ?_
                  refine lv_iload hx hb dX2_readField_199 (lv_at hl 0 rfl) ?_
                  have kb_8 : bd 8 8 (8 : Int32) := ⟨by decide, by decide⟩
                  refine g_callv (va_runV (As := [.long r_6, .int 8, .int 0]) (rest := []) ⟨hx, hb, hml, hown, hts⟩ (r_X9_addField_17 l dC dI L kd tys fr_632 H.size g.2.2.2.1 q1_ mq1_ kq1_ r_6 8 kb_8 0 kb_0 x_182 h_183 x_14 b_16 (g.fcts [2, 3] rfl)) (cwV 3 hts (gV_ t_1164 t_1165 t_1166 t_192 t_1167) rfl rfl rfl (by decide +kernel) ⟨(Nat.le_of_ble_eq_true rfl), (Nat.le_of_ble_eq_true rfl)⟩) (pre3V g hK mq1_ kq1_ (by decide) (q := (RX9, TX9, 13)) rfl) rfl rfl hl.1 rfl (lv_room (Nat.le_of_ble_eq_true rfl)) dX2_readField_201 ⟨(Nat.le_of_ble_eq_true rfl), (Nat.le_of_ble_eq_true rfl)⟩) g hK (by decide) (by decide) (fx' := [(8, 6, q0_, .int x_633), (8, 8, q0_, .int y0_), (2, 0, a0_, .ref q0_), (2, 4, a0_, .ref q1_)]) rfl (fun fr_641 H locs hp hMr_641 g => ?_)
                  obtain ⟨x_642, h_643, x_644, h_645, hF_646⟩ := hp
                  have g := g.more hF_646
                  subst hQ
                  exact W.vret hx hb hr (fun t ht hW => ⟨⟨_, rfl, Or.inl ⟨x_642, h_643, x_644, (bd_sub h_645 (by decide)), x_633, h_634, (g.fcts [0, 1, 2, 3] rfl)⟩, q3_of g hK ht hW⟩, g.2.2.1.F ht⟩) g.2.2.1.2.2 dX2_readField_204
              · have g := g.more hF_638
                refine lv_aload_n hx hb dX2_readField_182 rfl (lv_at hl 4 rfl) ?_
                refine g_getk (C := RX2) (T := TX2) (N := 16) hx hb hts (mc_ inX2) hown hK g rfl 0 (by decide) rfl (hts _ (List.mem_cons_of_mem _ t_416)) (fun _ h9 => h9) 4 rfl dX2_readField_183 ?_
                refine g_getk (C := RX8) (T := TX8) (N := 10) hx hb hts (mc_ inX8) hown hK g rfl 8 (by decide) rfl (hts _ (List.mem_cons_of_mem _ t_294)) (fun _ h9 => h9) 1 rfl dX2_readField_186 ?_
                have kb_0 : bd 0 0 (0 : Int32) := ⟨by decide, by decide⟩
                refine lv_if_ne (tgt := 204) hx hb dX2_readField_189 (by decide) (fun c_647 => ?_) (fun c_647 => ?_)
                · have fc_647 := neq_f c_647
                  have kb_1201 : bd 1201 1201 (1201 : Int32) := ⟨by decide, by decide⟩
                  subst hQ
                  exact W.vret hx hb hr (fun t ht hW => ⟨⟨_, rfl, Or.inr (⟨1201, kb_1201, x_636, h_637, (g.fcts [0, 1] rfl)⟩), q3_of g hK ht hW⟩, g.2.2.1.F ht⟩) g.2.2.1.2.2 dX2_readField_204
                · have fc_647 := eq_f c_647
                  have b_648 : bd 1 0 x_636 := eqX fc_647 h_637 kb_0 (by decide)
                  exact bd_no b_648 (by decide)
            · have fc_631 := eq_f c_631
              have b_649 : bd 61 61 r_630 := eqX fc_631 (bdT r_630) kb_61 (by decide)
              refine lv_aload_n hx hb dX2_readField_158 rfl (lv_at hl 4 rfl) ?_
              refine g_getk (C := RX2) (T := TX2) (N := 16) hx hb hts (mc_ inX2) hown hK g rfl 0 (by decide) rfl (hts _ (List.mem_cons_of_mem _ t_416)) (fun _ h9 => h9) 4 rfl dX2_readField_159 ?_
              refine g_callv (va_runV (As := []) (rest := []) ⟨hx, hb, hml, hown, hts⟩ (r_X8_next l dC dI L kd tys fr_630 H.size g.2.2.2.1 q0_ mq0_ kq0_) (cwV 0 hts (gV_ t_1131 t_1103 t_1104 t_184 t_1105) rfl rfl rfl (by decide +kernel) ⟨(Nat.le_of_ble_eq_true rfl), (Nat.le_of_ble_eq_true rfl)⟩) (pre3V g hK mq0_ kq0_ (by decide) (q := (RX8, TX8, 10)) rfl) rfl rfl hl.1 rfl (lv_room (Nat.le_of_ble_eq_true rfl)) dX2_readField_162 ⟨(Nat.le_of_ble_eq_true rfl), (Nat.le_of_ble_eq_true rfl)⟩) g hK (by decide) (by decide) (fx' := [(8, 8, q0_, .int y0_), (9, 7, q1_, .int x_182), (9, 2, q1_, .int x_14), (2, 0, a0_, .ref q0_), (2, 4, a0_, .ref q1_)]) rfl (fun fr_650 H locs hp hMr_650 g => ?_)
              obtain ⟨x_651, h_652, hF_653⟩ := hp
              have g := g.more hF_653
              refine lv_aload_n hx hb dX2_readField_165 rfl (lv_at hl 4 rfl) ?_
              refine lv_ldc (v := (-2147483648)) hx hb hown (hts _ (List.mem_cons_of_mem _ t_1159)) dX2_readField_166 ?_
              refine g_calli (va_runV (As := [.int (-2147483648)]) (rest := []) ⟨hx, hb, hml, hown, hts⟩ (r_X2_readNumber l dC dI L kd tys fr_650 H.size g.2.2.2.1 a0_ ma0_ ka0_ (-2147483648) q0_ mq0_ kq0_ y0_ by0_ (g.fcts [4, 1] rfl)) (cwV 1 hts (gV_ t_1160 t_1162 t_11 t_183 t_1163) rfl rfl rfl (by decide +kernel) ⟨(Nat.le_of_ble_eq_true rfl), (Nat.le_of_ble_eq_true rfl)⟩) (pre3V g hK ma0_ ka0_ (by decide) (q := (RX2, TX2, 16)) rfl) rfl rfl hl.1 rfl (lv_room (Nat.le_of_ble_eq_true rfl)) dX2_readField_168 ⟨(Nat.le_of_ble_eq_true rfl), (Nat.le_of_ble_eq_true rfl)⟩) g hK (by decide) (by decide) (fx' := [(9, 7, q1_, .int x_182), (9, 2, q1_, .int x_14), (2, 0, a0_, .ref q0_), (2, 4, a0_, .ref q1_)]) rfl (fun r_654 fr_654 H locs hp hMr_654 g => ?_)
              rcases hp with ⟨x_655, h_656, hF_657⟩ | ⟨x_658, h_659, hF_660⟩
              · have g := g.more hF_657
                refine lv_istore (lv' := [(5, .int r_654), (4, .int 8), (2, .long r_6), (1, .int r_5), (0, .ref a0_)]) hx hb dX2_readField_171 hl (by decide) rfl (fun ls hl => ?_)
                refine lv_aload_n hx hb dX2_readField_173 rfl (lv_at hl 4 rfl) ?_
                refine g_getk (C := RX2) (T := TX2) (N := 16) hx hb hts (mc_ inX2) hown hK g rfl 0 (by decide) rfl (hts _ (List.mem_cons_of_mem _ t_416)) (fun _ h9 => h9) 4 rfl dX2_readField_174 ?_
                refine lv_bipush (v := 59) hx hb dX2_readField_177 (by decide) ?_
                refine g_callv (va_runV (As := [.int 59]) (rest := []) ⟨hx, hb, hml, hown, hts⟩ (r_X8_take l dC dI L kd tys fr_654 H.size g.2.2.2.1 q0_ mq0_ kq0_ 59 y0_ by0_ (g.fcts [1] rfl)) (cwV 1 hts (gV_ t_1098 t_1099 t_1100 t_184 t_1101) rfl rfl rfl (by decide +kernel) ⟨(Nat.le_of_ble_eq_true rfl), (Nat.le_of_ble_eq_true rfl)⟩) (pre3V g hK mq0_ kq0_ (by decide) (q := (RX8, TX8, 10)) rfl) rfl rfl hl.1 rfl (lv_room (Nat.le_of_ble_eq_true rfl)) dX2_readField_179 ⟨(Nat.le_of_ble_eq_true rfl), (Nat.le_of_ble_eq_true rfl)⟩) g hK (by decide) (by decide) (fx' := [(9, 7, q1_, .int x_182), (9, 2, q1_, .int x_14), (2, 0, a0_, .ref q0_), (2, 4, a0_, .ref q1_)]) rfl (fun fr_661 H locs hp hMr_661 g => ?_)
                rcases hp with ⟨x_662, h_663, hF_664⟩ | ⟨x_665, h_666, hF_667⟩
                · have g := g.more hF_664
                  refine lv_aload_n hx hb dX2_readField_182 rfl (lv_at hl 4 rfl) ?_
                  refine g_getk (C := RX2) (T := TX2) (N := 16) hx hb hts (mc_ inX2) hown hK g rfl 0 (by decide) rfl (hts _ (List.mem_cons_of_mem _ t_416)) (fun _ h9 => h9) 4 rfl dX2_readField_183 ?_
                  refine g_getk (C := RX8) (T := TX8) (N := 10) hx hb hts (mc_ inX8) hown hK g rfl 8 (by decide) rfl (hts _ (List.mem_cons_of_mem _ t_294)) (fun _ h9 => h9) 1 rfl dX2_readField_186 ?_
                  have kb_0 : bd 0 0 (0 : Int32) := ⟨by decide, by decide⟩
                  refine lv_if_ne (tgt := 204) hx hb dX2_readField_189 (by decide) (fun c_668 => ?_) (fun c_668 => ?_)
                  · have fc_668 := neq_f c_668
                    have b_669 : bd 1 (-1) y0_ := neX fc_668 by0_ kb_0 (by decide)
                    exact bd_no b_669 (by decide)
                  · have fc_668 := eq_f c_668
                    refine lv_aload_n hx hb dX2_readField_192 rfl (lv_at hl 4 rfl) ?_
                    refine g_getk (C := RX2) (T := TX2) (N := 16) hx hb hts (mc_ inX2) hown hK g rfl 4 (by decide) rfl (hts _ (List.mem_cons_of_mem _ t_420)) (fun _ h9 => h9) 5 rfl dX2_readField_193 ?_
                    refine lv_lload_n hx hb dX2_readField_196 rfl (lv_at hl 2 rfl) ?_
                    refine lv_iload hx hb dX2_readField_197 (lv_at hl 1 rfl) ?_
                    refine lv_iload hx hb dX2_readField_199 (lv_at hl 0 rfl) ?_
                    have kb_8 : bd 8 8 (8 : Int32) := ⟨by decide, by decide⟩
                    refine g_callv (va_runV (As := [.long r_6, .int 8, .int r_654]) (rest := []) ⟨hx, hb, hml, hown, hts⟩ (r_X9_addField_18 l dC dI L kd tys fr_661 H.size g.2.2.2.1 q1_ mq1_ kq1_ r_6 8 kb_8 r_654 x_182 h_183 x_14 b_16 (g.fcts [2, 3] rfl)) (cwV 3 hts (gV_ t_1164 t_1165 t_1166 t_192 t_1167) rfl rfl rfl (by decide +kernel) ⟨(Nat.le_of_ble_eq_true rfl), (Nat.le_of_ble_eq_true rfl)⟩) (pre3V g hK mq1_ kq1_ (by decide) (q := (RX9, TX9, 13)) rfl) rfl rfl hl.1 rfl (lv_room (Nat.le_of_ble_eq_true rfl)) dX2_readField_201 ⟨(Nat.le_of_ble_eq_true rfl), (Nat.le_of_ble_eq_true rfl)⟩) g hK (by decide) (by decide) (fx' := [(8, 6, q0_, .int x_662), (8, 8, q0_, .int y0_), (2, 0, a0_, .ref q0_), (2, 4, a0_, .ref q1_)]) rfl (fun fr_670 H locs hp hMr_670 g => ?_)
                    obtain ⟨x_671, h_672, x_673, h_674, hF_675⟩ := hp
                    have g := g.more hF_675
                    subst hQ
                    exact W.vret hx hb hr (fun t ht hW => ⟨⟨_, rfl, Or.inl ⟨x_671, h_672, x_673, (bd_sub h_674 (by decide)), x_662, h_663, (g.fcts [0, 1, 2, 3] rfl)⟩, q3_of g hK ht hW⟩, g.2.2.1.F ht⟩) g.2.2.1.2.2 dX2_readField_204
                · have g := g.more hF_667
                  refine lv_aload_n hx hb dX2_readField_182 rfl (lv_at hl 4 rfl) ?_
                  refine g_getk (C := RX2) (T := TX2) (N := 16) hx hb hts (mc_ inX2) hown hK g rfl 0 (by decide) rfl (hts _ (List.mem_cons_of_mem _ t_416)) (fun _ h9 => h9) 4 rfl dX2_readField_183 ?_
                  refine g_getk (C := RX8) (T := TX8) (N := 10) hx hb hts (mc_ inX8) hown hK g rfl 8 (by decide) rfl (hts _ (List.mem_cons_of_mem _ t_294)) (fun _ h9 => h9) 1 rfl dX2_readField_186 ?_
                  have kb_0 : bd 0 0 (0 : Int32) := ⟨by decide, by decide⟩
                  refine lv_if_ne (tgt := 204) hx hb dX2_readField_189 (by decide) (fun c_676 => ?_) (fun c_676 => ?_)
                  · have fc_676 := neq_f c_676
                    have kb_1201 : bd 1201 1201 (1201 : Int32) := ⟨by decide, by decide⟩
                    subst hQ
                    exact W.vret hx hb hr (fun t ht hW => ⟨⟨_, rfl, Or.inr (⟨1201, kb_1201, x_665, h_666, (g.fcts [0, 1] rfl)⟩), q3_of g hK ht hW⟩, g.2.2.1.F ht⟩) g.2.2.1.2.2 dX2_readField_204
                  · have fc_676 := eq_f c_676
                    have b_677 : bd 1 0 x_665 := eqX fc_676 h_666 kb_0 (by decide)
                    exact bd_no b_677 (by decide)
              · have g := g.more hF_660
                refine lv_istore (lv' := [(5, .int r_654), (4, .int 8), (2, .long r_6), (1, .int r_5), (0, .ref a0_)]) hx hb dX2_readField_171 hl (by decide) rfl (fun ls hl => ?_)
                refine lv_aload_n hx hb dX2_readField_173 rfl (lv_at hl 4 rfl) ?_
                refine g_getk (C := RX2) (T := TX2) (N := 16) hx hb hts (mc_ inX2) hown hK g rfl 0 (by decide) rfl (hts _ (List.mem_cons_of_mem _ t_416)) (fun _ h9 => h9) 4 rfl dX2_readField_174 ?_
                refine lv_bipush (v := 59) hx hb dX2_readField_177 (by decide) ?_
                have kb_1201 : bd 1201 1201 (1201 : Int32) := ⟨by decide, by decide⟩
                refine g_callv (va_runV (As := [.int 59]) (rest := []) ⟨hx, hb, hml, hown, hts⟩ (r_X8_take_2 l dC dI L kd tys fr_654 H.size g.2.2.2.1 q0_ mq0_ kq0_ 59 1201 kb_1201 x_658 h_659 (g.fcts [0, 1] rfl)) (cwV 1 hts (gV_ t_1098 t_1099 t_1100 t_184 t_1101) rfl rfl rfl (by decide +kernel) ⟨(Nat.le_of_ble_eq_true rfl), (Nat.le_of_ble_eq_true rfl)⟩) (pre3V g hK mq0_ kq0_ (by decide) (q := (RX8, TX8, 10)) rfl) rfl rfl hl.1 rfl (lv_room (Nat.le_of_ble_eq_true rfl)) dX2_readField_179 ⟨(Nat.le_of_ble_eq_true rfl), (Nat.le_of_ble_eq_true rfl)⟩) g hK (by decide) (by decide) (fx' := [(8, 8, q0_, .int x_658), (9, 7, q1_, .int x_182), (9, 2, q1_, .int x_14), (2, 0, a0_, .ref q0_), (2, 4, a0_, .ref q1_)]) rfl (fun fr_678 H locs hp hMr_678 g => ?_)
                obtain ⟨x_679, h_680, hF_681⟩ := hp
                have g := g.more hF_681
                refine lv_aload_n hx hb dX2_readField_182 rfl (lv_at hl 4 rfl) ?_
                refine g_getk (C := RX2) (T := TX2) (N := 16) hx hb hts (mc_ inX2) hown hK g rfl 0 (by decide) rfl (hts _ (List.mem_cons_of_mem _ t_416)) (fun _ h9 => h9) 4 rfl dX2_readField_183 ?_
                refine g_getk (C := RX8) (T := TX8) (N := 10) hx hb hts (mc_ inX8) hown hK g rfl 8 (by decide) rfl (hts _ (List.mem_cons_of_mem _ t_294)) (fun _ h9 => h9) 1 rfl dX2_readField_186 ?_
                have kb_0 : bd 0 0 (0 : Int32) := ⟨by decide, by decide⟩
                refine lv_if_ne (tgt := 204) hx hb dX2_readField_189 (by decide) (fun c_682 => ?_) (fun c_682 => ?_)
                · have fc_682 := neq_f c_682
                  subst hQ
                  exact W.vret hx hb hr (fun t ht hW => ⟨⟨_, rfl, Or.inr (⟨x_679, h_680, x_658, h_659, (g.fcts [0, 1] rfl)⟩), q3_of g hK ht hW⟩, g.2.2.1.F ht⟩) g.2.2.1.2.2 dX2_readField_204
                · have fc_682 := eq_f c_682
                  have b_683 : bd 1 0 x_658 := eqX fc_682 h_659 kb_0 (by decide)
                  exact bd_no b_683 (by decide)
          · obtain rfl : r_94 = 8 := h_185
            have g := g.more hF_190
            refine lv_istore (lv' := [(4, .int 8), (2, .long r_6), (1, .int r_5), (0, .ref a0_)]) hx hb dX2_readField_117 hl (by decide) rfl (fun ls hl => ?_)
            refine lv_goto (tgt := 143) hx hb dX2_readField_119 (by decide) ?_
            refine lv_iconst (v := 0) hx hb dX2_readField_143 (by decide) ?_
            refine lv_istore (lv' := [(5, .int 0), (4, .int 8), (2, .long r_6), (1, .int r_5), (0, .ref a0_)]) hx hb dX2_readField_144 hl (by decide) rfl (fun ls hl => ?_)
            refine lv_aload_n hx hb dX2_readField_146 rfl (lv_at hl 4 rfl) ?_
            refine g_getk (C := RX2) (T := TX2) (N := 16) hx hb hts (mc_ inX2) hown hK g rfl 0 (by decide) rfl (hts _ (List.mem_cons_of_mem _ t_416)) (fun _ h9 => h9) 3 rfl dX2_readField_147 ?_
            refine g_calli (va_runV (As := []) (rest := []) ⟨hx, hb, hml, hown, hts⟩ (r_X8_kind_2 l dC dI L kd tys fr_94 H.size g.2.2.2.1 q0_ mq0_ kq0_ x_186 h_187 (g.fcts [0] rfl)) (cwV 0 hts (gV_ t_1118 t_1119 t_1120 t_184 t_1121) rfl rfl rfl (by decide +kernel) ⟨(Nat.le_of_ble_eq_true rfl), (Nat.le_of_ble_eq_true rfl)⟩) (pre3V g hK mq0_ kq0_ (by decide) (q := (RX8, TX8, 10)) rfl) rfl rfl hl.1 rfl (lv_room (Nat.le_of_ble_eq_true rfl)) dX2_readField_150 ⟨(Nat.le_of_ble_eq_true rfl), (Nat.le_of_ble_eq_true rfl)⟩) g hK (by decide) (by decide) (fx' := [(8, 6, q0_, .int x_186), (8, 8, q0_, .int x_188), (9, 2, q1_, .int x_14), (2, 0, a0_, .ref q0_), (2, 4, a0_, .ref q1_)]) rfl (fun r_684 fr_684 H locs hp hMr_684 g => ?_)
            obtain ⟨h_685, -⟩ := hp
            obtain rfl : r_684 = 0 := h_685
            refine lv_bipush (v := 61) hx hb dX2_readField_153 (by decide) ?_
            refine lv_icmp_ne (tgt := 173) hx hb dX2_readField_155 (by decide) (fun c_ => ?_) (fun c_ => absurd c_ (by decide))
            refine lv_aload_n hx hb dX2_readField_173 rfl (lv_at hl 4 rfl) ?_
            refine g_getk (C := RX2) (T := TX2) (N := 16) hx hb hts (mc_ inX2) hown hK g rfl 0 (by decide) rfl (hts _ (List.mem_cons_of_mem _ t_416)) (fun _ h9 => h9) 3 rfl dX2_readField_174 ?_
            refine lv_bipush (v := 59) hx hb dX2_readField_177 (by decide) ?_
            refine g_callv (va_runV (As := [.int 59]) (rest := []) ⟨hx, hb, hml, hown, hts⟩ (r_X8_take_2 l dC dI L kd tys fr_684 H.size g.2.2.2.1 q0_ mq0_ kq0_ 59 x_186 h_187 x_188 h_189 (g.fcts [0, 1] rfl)) (cwV 1 hts (gV_ t_1098 t_1099 t_1100 t_184 t_1101) rfl rfl rfl (by decide +kernel) ⟨(Nat.le_of_ble_eq_true rfl), (Nat.le_of_ble_eq_true rfl)⟩) (pre3V g hK mq0_ kq0_ (by decide) (q := (RX8, TX8, 10)) rfl) rfl rfl hl.1 rfl (lv_room (Nat.le_of_ble_eq_true rfl)) dX2_readField_179 ⟨(Nat.le_of_ble_eq_true rfl), (Nat.le_of_ble_eq_true rfl)⟩) g hK (by decide) (by decide) (fx' := [(8, 8, q0_, .int x_188), (9, 2, q1_, .int x_14), (2, 0, a0_, .ref q0_), (2, 4, a0_, .ref q1_)]) rfl (fun fr_686 H locs hp hMr_686 g => ?_)
            obtain ⟨x_687, h_688, hF_689⟩ := hp
            have g := g.more hF_689
            refine lv_aload_n hx hb dX2_readField_182 rfl (lv_at hl 4 rfl) ?_
            refine g_getk (C := RX2) (T := TX2) (N := 16) hx hb hts (mc_ inX2) hown hK g rfl 0 (by decide) rfl (hts _ (List.mem_cons_of_mem _ t_416)) (fun _ h9 => h9) 3 rfl dX2_readField_183 ?_
            refine g_getk (C := RX8) (T := TX8) (N := 10) hx hb hts (mc_ inX8) hown hK g rfl 8 (by decide) rfl (hts _ (List.mem_cons_of_mem _ t_294)) (fun _ h9 => h9) 1 rfl dX2_readField_186 ?_
            have kb_0 : bd 0 0 (0 : Int32) := ⟨by decide, by decide⟩
            refine lv_if_ne (tgt := 204) hx hb dX2_readField_189 (by decide) (fun c_690 => ?_) (fun c_690 => ?_)
            · have fc_690 := neq_f c_690
              subst hQ
              exact W.vret hx hb hr (fun t ht hW => ⟨⟨_, rfl, Or.inr (⟨x_687, h_688, x_188, h_189, (g.fcts [0, 1] rfl)⟩), q3_of g hK ht hW⟩, g.2.2.1.F ht⟩) g.2.2.1.2.2 dX2_readField_204
            · have fc_690 := eq_f c_690
              have b_691 : bd 1 0 x_188 := eqX fc_690 h_189 kb_0 (by decide)
              exact bd_no b_691 (by decide)
          · have g := g.more hF_195
            refine lv_istore (lv' := [(4, .int r_94), (2, .long r_6), (1, .int r_5), (0, .ref a0_)]) hx hb dX2_readField_117 hl (by decide) rfl (fun ls hl => ?_)
            refine lv_goto (tgt := 143) hx hb dX2_readField_119 (by decide) ?_
            refine lv_iconst (v := 0) hx hb dX2_readField_143 (by decide) ?_
            refine lv_istore (lv' := [(5, .int 0), (4, .int r_94), (2, .long r_6), (1, .int r_5), (0, .ref a0_)]) hx hb dX2_readField_144 hl (by decide) rfl (fun ls hl => ?_)
            refine lv_aload_n hx hb dX2_readField_146 rfl (lv_at hl 4 rfl) ?_
            refine g_getk (C := RX2) (T := TX2) (N := 16) hx hb hts (mc_ inX2) hown hK g rfl 0 (by decide) rfl (hts _ (List.mem_cons_of_mem _ t_416)) (fun _ h9 => h9) 3 rfl dX2_readField_147 ?_
            refine g_calli (va_runV (As := []) (rest := []) ⟨hx, hb, hml, hown, hts⟩ (r_X8_kind_2 l dC dI L kd tys fr_94 H.size g.2.2.2.1 q0_ mq0_ kq0_ x_191 h_192 (g.fcts [0] rfl)) (cwV 0 hts (gV_ t_1118 t_1119 t_1120 t_184 t_1121) rfl rfl rfl (by decide +kernel) ⟨(Nat.le_of_ble_eq_true rfl), (Nat.le_of_ble_eq_true rfl)⟩) (pre3V g hK mq0_ kq0_ (by decide) (q := (RX8, TX8, 10)) rfl) rfl rfl hl.1 rfl (lv_room (Nat.le_of_ble_eq_true rfl)) dX2_readField_150 ⟨(Nat.le_of_ble_eq_true rfl), (Nat.le_of_ble_eq_true rfl)⟩) g hK (by decide) (by decide) (fx' := [(8, 6, q0_, .int x_191), (8, 8, q0_, .int x_193), (9, 2, q1_, .int x_14), (2, 0, a0_, .ref q0_), (2, 4, a0_, .ref q1_)]) rfl (fun r_692 fr_692 H locs hp hMr_692 g => ?_)
            obtain ⟨h_693, -⟩ := hp
            obtain rfl : r_692 = 0 := h_693
            refine lv_bipush (v := 61) hx hb dX2_readField_153 (by decide) ?_
            refine lv_icmp_ne (tgt := 173) hx hb dX2_readField_155 (by decide) (fun c_ => ?_) (fun c_ => absurd c_ (by decide))
            refine lv_aload_n hx hb dX2_readField_173 rfl (lv_at hl 4 rfl) ?_
            refine g_getk (C := RX2) (T := TX2) (N := 16) hx hb hts (mc_ inX2) hown hK g rfl 0 (by decide) rfl (hts _ (List.mem_cons_of_mem _ t_416)) (fun _ h9 => h9) 3 rfl dX2_readField_174 ?_
            refine lv_bipush (v := 59) hx hb dX2_readField_177 (by decide) ?_
            refine g_callv (va_runV (As := [.int 59]) (rest := []) ⟨hx, hb, hml, hown, hts⟩ (r_X8_take_2 l dC dI L kd tys fr_692 H.size g.2.2.2.1 q0_ mq0_ kq0_ 59 x_191 h_192 x_193 h_194 (g.fcts [0, 1] rfl)) (cwV 1 hts (gV_ t_1098 t_1099 t_1100 t_184 t_1101) rfl rfl rfl (by decide +kernel) ⟨(Nat.le_of_ble_eq_true rfl), (Nat.le_of_ble_eq_true rfl)⟩) (pre3V g hK mq0_ kq0_ (by decide) (q := (RX8, TX8, 10)) rfl) rfl rfl hl.1 rfl (lv_room (Nat.le_of_ble_eq_true rfl)) dX2_readField_179 ⟨(Nat.le_of_ble_eq_true rfl), (Nat.le_of_ble_eq_true rfl)⟩) g hK (by decide) (by decide) (fx' := [(8, 8, q0_, .int x_193), (9, 2, q1_, .int x_14), (2, 0, a0_, .ref q0_), (2, 4, a0_, .ref q1_)]) rfl (fun fr_694 H locs hp hMr_694 g => ?_)
            obtain ⟨x_695, h_696, hF_697⟩ := hp
            have g := g.more hF_697
            refine lv_aload_n hx hb dX2_readField_182 rfl (lv_at hl 4 rfl) ?_
            refine g_getk (C := RX2) (T := TX2) (N := 16) hx hb hts (mc_ inX2) hown hK g rfl 0 (by decide) rfl (hts _ (List.mem_cons_of_mem _ t_416)) (fun _ h9 => h9) 3 rfl dX2_readField_183 ?_
            refine g_getk (C := RX8) (T := TX8) (N := 10) hx hb hts (mc_ inX8) hown hK g rfl 8 (by decide) rfl (hts _ (List.mem_cons_of_mem _ t_294)) (fun _ h9 => h9) 1 rfl dX2_readField_186 ?_
            have kb_0 : bd 0 0 (0 : Int32) := ⟨by decide, by decide⟩
            refine lv_if_ne (tgt := 204) hx hb dX2_readField_189 (by decide) (fun c_698 => ?_) (fun c_698 => ?_)
            · have fc_698 := neq_f c_698
              subst hQ
              exact W.vret hx hb hr (fun t ht hW => ⟨⟨_, rfl, Or.inr (⟨x_695, h_696, x_193, h_194, (g.fcts [0, 1] rfl)⟩), q3_of g hK ht hW⟩, g.2.2.1.F ht⟩) g.2.2.1.2.2 dX2_readField_204
            · have fc_698 := eq_f c_698
              have b_699 : bd 1 0 x_193 := eqX fc_698 h_194 kb_0 (by decide)
              exact bd_no b_699 (by decide)
      · have fc_15 := nlt_f c_15
        have b_700 : bd 10 10 x_14 := leR fc_15 kb_10 bx_14 (by decide)
        refine lv_aload_n hx hb dX2_readField_82 rfl (lv_at hl 2 rfl) ?_
        refine g_getk (C := RX2) (T := TX2) (N := 16) hx hb hts (mc_ inX2) hown hK g rfl 0 (by decide) rfl (hts _ (List.mem_cons_of_mem _ t_416)) (fun _ h9 => h9) 2 rfl dX2_readField_83 ?_
        refine lv_iconst (v := 4) hx hb dX2_readField_86 (by decide) ?_
        refine lv_iload_n hx hb dX2_readField_87 rfl (lv_at hl 1 rfl) ?_
        have kb_4 : bd 4 4 (4 : Int32) := ⟨by decide, by decide⟩
        refine g_callv (va_runV (As := [.int 4, .int r_5]) (rest := []) ⟨hx, hb, hml, hown, hts⟩ (r_X8_fail l dC dI L kd tys fr_10 H.size g.2.2.2.1 q0_ mq0_ kq0_ 4 (bd_sub kb_4 (by decide)) r_5 y0_ by0_ (g.fcts [4] rfl)) (cwV 2 hts (gV_ t_1122 t_1107 t_1108 t_184 t_1109) rfl rfl rfl (by decide +kernel) ⟨(Nat.le_of_ble_eq_true rfl), (Nat.le_of_ble_eq_true rfl)⟩) (pre3V g hK mq0_ kq0_ (by decide) (q := (RX8, TX8, 10)) rfl) rfl rfl hl.1 rfl (lv_room (Nat.le_of_ble_eq_true rfl)) dX2_readField_88 ⟨(Nat.le_of_ble_eq_true rfl), (Nat.le_of_ble_eq_true rfl)⟩) g hK (by decide) (by decide) (fx' := [(9, 2, q1_, .int x_14), (2, 0, a0_, .ref q0_), (2, 4, a0_, .ref q1_)]) rfl (fun fr_701 H locs hp hMr_701 g => ?_)
        obtain ⟨x_702, h_703, hF_704⟩ := hp
        have g := g.more hF_704
        refine lv_aload_n hx hb dX2_readField_91 rfl (lv_at hl 2 rfl) ?_
        refine g_getk (C := RX2) (T := TX2) (N := 16) hx hb hts (mc_ inX2) hown hK g rfl 0 (by decide) rfl (hts _ (List.mem_cons_of_mem _ t_416)) (fun _ h9 => h9) 3 rfl dX2_readField_92 ?_
        have kb_1201 : bd 1201 1201 (1201 : Int32) := ⟨by decide, by decide⟩
        refine g_callv (va_runV (As := []) (rest := []) ⟨hx, hb, hml, hown, hts⟩ (r_X8_next_2 l dC dI L kd tys fr_701 H.size g.2.2.2.1 q0_ mq0_ kq0_ 1201 kb_1201 (g.fcts [0] rfl)) (cwV 0 hts (gV_ t_1131 t_1103 t_1104 t_184 t_1105) rfl rfl rfl (by decide +kernel) ⟨(Nat.le_of_ble_eq_true rfl), (Nat.le_of_ble_eq_true rfl)⟩) (pre3V g hK mq0_ kq0_ (by decide) (q := (RX8, TX8, 10)) rfl) rfl rfl hl.1 rfl (lv_room (Nat.le_of_ble_eq_true rfl)) dX2_readField_95 ⟨(Nat.le_of_ble_eq_true rfl), (Nat.le_of_ble_eq_true rfl)⟩) g hK (by decide) (by decide) (fx' := [(8, 6, q0_, .int 1201), (8, 8, q0_, .int x_702), (9, 2, q1_, .int x_14), (2, 0, a0_, .ref q0_), (2, 4, a0_, .ref q1_)]) rfl (fun fr_705 H locs hp hMr_705 g => ?_)
        refine lv_iconst (v := 0) hx hb dX2_readField_98 (by decide) ?_
        refine lv_istore (lv' := [(4, .int 0), (2, .long r_6), (1, .int r_5), (0, .ref a0_)]) hx hb dX2_readField_99 hl (by decide) rfl (fun ls hl => ?_)
        refine lv_aload_n hx hb dX2_readField_101 rfl (lv_at hl 3 rfl) ?_
        refine g_getk (C := RX2) (T := TX2) (N := 16) hx hb hts (mc_ inX2) hown hK g rfl 0 (by decide) rfl (hts _ (List.mem_cons_of_mem _ t_416)) (fun _ h9 => h9) 3 rfl dX2_readField_102 ?_
        refine g_calli (va_runV (As := []) (rest := []) ⟨hx, hb, hml, hown, hts⟩ (r_X8_kind_2 l dC dI L kd tys fr_705 H.size g.2.2.2.1 q0_ mq0_ kq0_ 1201 kb_1201 (g.fcts [0] rfl)) (cwV 0 hts (gV_ t_1118 t_1119 t_1120 t_184 t_1121) rfl rfl rfl (by decide +kernel) ⟨(Nat.le_of_ble_eq_true rfl), (Nat.le_of_ble_eq_true rfl)⟩) (pre3V g hK mq0_ kq0_ (by decide) (q := (RX8, TX8, 10)) rfl) rfl rfl hl.1 rfl (lv_room (Nat.le_of_ble_eq_true rfl)) dX2_readField_105 ⟨(Nat.le_of_ble_eq_true rfl), (Nat.le_of_ble_eq_true rfl)⟩) g hK (by decide) (by decide) (fx' := [(8, 6, q0_, .int 1201), (8, 8, q0_, .int x_702), (9, 2, q1_, .int x_14), (2, 0, a0_, .ref q0_), (2, 4, a0_, .ref q1_)]) rfl (fun r_706 fr_706 H locs hp hMr_706 g => ?_)
        obtain ⟨h_707, -⟩ := hp
        obtain rfl : r_706 = 0 := h_707
        refine lv_bipush (v := 91) hx hb dX2_readField_108 (by decide) ?_
        refine lv_icmp_ne (tgt := 122) hx hb dX2_readField_110 (by decide) (fun c_ => ?_) (fun c_ => absurd c_ (by decide))
        refine lv_aload_n hx hb dX2_readField_122 rfl (lv_at hl 3 rfl) ?_
        refine g_getk (C := RX2) (T := TX2) (N := 16) hx hb hts (mc_ inX2) hown hK g rfl 4 (by decide) rfl (hts _ (List.mem_cons_of_mem _ t_420)) (fun _ h9 => h9) 4 rfl dX2_readField_123 ?_
        refine g_geti (C := RX9) (T := TX9) (N := 13) hx hb hts (mc_ inX9) hown hK g mq1_ kq1_ (by decide) rfl 7 (by decide) rfl (hts _ (List.mem_cons_of_mem _ t_496)) (fun _ h9 => h9) rfl dX2_readField_126 (fun x_708 bx_708 g => ?_)
        refine lv_bipush (v := 24) hx hb dX2_readField_129 (by decide) ?_
        have kb_24 : bd 24 24 (24 : Int32) := ⟨by decide, by decide⟩
        refine lv_icmp_lt (tgt := 143) hx hb dX2_readField_131 (by decide) (fun c_709 => ?_) (fun c_709 => ?_)
        · have fc_709 := lt_f c_709
          have b_710 : bd 0 23 x_708 := ltL fc_709 bx_708 kb_24 (by decide)
          refine lv_iconst (v := 0) hx hb dX2_readField_143 (by decide) ?_
          refine lv_istore (lv' := [(5, .int 0), (4, .int 0), (2, .long r_6), (1, .int r_5), (0, .ref a0_)]) hx hb dX2_readField_144 hl (by decide) rfl (fun ls hl => ?_)
          refine lv_aload_n hx hb dX2_readField_146 rfl (lv_at hl 4 rfl) ?_
          refine g_getk (C := RX2) (T := TX2) (N := 16) hx hb hts (mc_ inX2) hown hK g rfl 0 (by decide) rfl (hts _ (List.mem_cons_of_mem _ t_416)) (fun _ h9 => h9) 4 rfl dX2_readField_147 ?_
          refine g_calli (va_runV (As := []) (rest := []) ⟨hx, hb, hml, hown, hts⟩ (r_X8_kind_2 l dC dI L kd tys fr_706 H.size g.2.2.2.1 q0_ mq0_ kq0_ 1201 kb_1201 (g.fcts [1] rfl)) (cwV 0 hts (gV_ t_1118 t_1119 t_1120 t_184 t_1121) rfl rfl rfl (by decide +kernel) ⟨(Nat.le_of_ble_eq_true rfl), (Nat.le_of_ble_eq_true rfl)⟩) (pre3V g hK mq0_ kq0_ (by decide) (q := (RX8, TX8, 10)) rfl) rfl rfl hl.1 rfl (lv_room (Nat.le_of_ble_eq_true rfl)) dX2_readField_150 ⟨(Nat.le_of_ble_eq_true rfl), (Nat.le_of_ble_eq_true rfl)⟩) g hK (by decide) (by decide) (fx' := [(9, 7, q1_, .int x_708), (8, 6, q0_, .int 1201), (8, 8, q0_, .int x_702), (9, 2, q1_, .int x_14), (2, 0, a0_, .ref q0_), (2, 4, a0_, .ref q1_)]) rfl (fun r_711 fr_711 H locs hp hMr_711 g => ?_)
          obtain ⟨h_712, -⟩ := hp
          obtain rfl : r_711 = 0 := h_712
          refine lv_bipush (v := 61) hx hb dX2_readField_153 (by decide) ?_
          refine lv_icmp_ne (tgt := 173) hx hb dX2_readField_155 (by decide) (fun c_ => ?_) (fun c_ => absurd c_ (by decide))
          refine lv_aload_n hx hb dX2_readField_173 rfl (lv_at hl 4 rfl) ?_
          refine g_getk (C := RX2) (T := TX2) (N := 16) hx hb hts (mc_ inX2) hown hK g rfl 0 (by decide) rfl (hts _ (List.mem_cons_of_mem _ t_416)) (fun _ h9 => h9) 4 rfl dX2_readField_174 ?_
          refine lv_bipush (v := 59) hx hb dX2_readField_177 (by decide) ?_
          refine g_callv (va_runV (As := [.int 59]) (rest := []) ⟨hx, hb, hml, hown, hts⟩ (r_X8_take_2 l dC dI L kd tys fr_711 H.size g.2.2.2.1 q0_ mq0_ kq0_ 59 1201 kb_1201 x_702 h_703 (g.fcts [1, 2] rfl)) (cwV 1 hts (gV_ t_1098 t_1099 t_1100 t_184 t_1101) rfl rfl rfl (by decide +kernel) ⟨(Nat.le_of_ble_eq_true rfl), (Nat.le_of_ble_eq_true rfl)⟩) (pre3V g hK mq0_ kq0_ (by decide) (q := (RX8, TX8, 10)) rfl) rfl rfl hl.1 rfl (lv_room (Nat.le_of_ble_eq_true rfl)) dX2_readField_179 ⟨(Nat.le_of_ble_eq_true rfl), (Nat.le_of_ble_eq_true rfl)⟩) g hK (by decide) (by decide) (fx' := [(9, 7, q1_, .int x_708), (8, 8, q0_, .int x_702), (9, 2, q1_, .int x_14), (2, 0, a0_, .ref q0_), (2, 4, a0_, .ref q1_)]) rfl (fun fr_713 H locs hp hMr_713 g => ?_)
          obtain ⟨x_714, h_715, hF_716⟩ := hp
          have g := g.more hF_716
          refine lv_aload_n hx hb dX2_readField_182 rfl (lv_at hl 4 rfl) ?_
          refine g_getk (C := RX2) (T := TX2) (N := 16) hx hb hts (mc_ inX2) hown hK g rfl 0 (by decide) rfl (hts _ (List.mem_cons_of_mem _ t_416)) (fun _ h9 => h9) 4 rfl dX2_readField_183 ?_
          refine g_getk (C := RX8) (T := TX8) (N := 10) hx hb hts (mc_ inX8) hown hK g rfl 8 (by decide) rfl (hts _ (List.mem_cons_of_mem _ t_294)) (fun _ h9 => h9) 2 rfl dX2_readField_186 ?_
          have kb_0 : bd 0 0 (0 : Int32) := ⟨by decide, by decide⟩
          refine lv_if_ne (tgt := 204) hx hb dX2_readField_189 (by decide) (fun c_717 => ?_) (fun c_717 => ?_)
          · have fc_717 := neq_f c_717
            subst hQ
            exact W.vret hx hb hr (fun t ht hW => ⟨⟨_, rfl, Or.inr (⟨x_714, h_715, x_702, h_703, (g.fcts [0, 2] rfl)⟩), q3_of g hK ht hW⟩, g.2.2.1.F ht⟩) g.2.2.1.2.2 dX2_readField_204
          · have fc_717 := eq_f c_717
            have b_718 : bd 1 0 x_702 := eqX fc_717 h_703 kb_0 (by decide)
            exact bd_no b_718 (by decide)
        · have fc_709 := nlt_f c_709
          have b_719 : bd 24 24 x_708 := leR fc_709 kb_24 bx_708 (by decide)
          refine lv_aload_n hx hb dX2_readField_134 rfl (lv_at hl 3 rfl) ?_
          refine g_getk (C := RX2) (T := TX2) (N := 16) hx hb hts (mc_ inX2) hown hK g rfl 0 (by decide) rfl (hts _ (List.mem_cons_of_mem _ t_416)) (fun _ h9 => h9) 4 rfl dX2_readField_135 ?_
          refine lv_iconst (v := 4) hx hb dX2_readField_138 (by decide) ?_
          refine lv_iload_n hx hb dX2_readField_139 rfl (lv_at hl 2 rfl) ?_
          refine g_callv (va_runV (As := [.int 4, .int r_5]) (rest := []) ⟨hx, hb, hml, hown, hts⟩ (r_X8_fail_2 l dC dI L kd tys fr_706 H.size g.2.2.2.1 q0_ mq0_ kq0_ 4 (bd_sub kb_4 (by decide)) r_5 x_702 h_703 (g.fcts [2] rfl)) (cwV 2 hts (gV_ t_1122 t_1107 t_1108 t_184 t_1109) rfl rfl rfl (by decide +kernel) ⟨(Nat.le_of_ble_eq_true rfl), (Nat.le_of_ble_eq_true rfl)⟩) (pre3V g hK mq0_ kq0_ (by decide) (q := (RX8, TX8, 10)) rfl) rfl rfl hl.1 rfl (lv_room (Nat.le_of_ble_eq_true rfl)) dX2_readField_140 ⟨(Nat.le_of_ble_eq_true rfl), (Nat.le_of_ble_eq_true rfl)⟩) g hK (by decide) (by decide) (fx' := [(9, 7, q1_, .int x_708), (8, 8, q0_, .int x_702), (9, 2, q1_, .int x_14), (2, 0, a0_, .ref q0_), (2, 4, a0_, .ref q1_)]) rfl (fun fr_720 H locs hp hMr_720 g => ?_)
          have hF_721 := hp
          have g := g.more hF_721
          refine lv_iconst (v := 0) hx hb dX2_readField_143 (by decide) ?_
          refine lv_istore (lv' := [(5, .int 0), (4, .int 0), (2, .long r_6), (1, .int r_5), (0, .ref a0_)]) hx hb dX2_readField_144 hl (by decide) rfl (fun ls hl => ?_)
          refine lv_aload_n hx hb dX2_readField_146 rfl (lv_at hl 4 rfl) ?_
          refine g_getk (C := RX2) (T := TX2) (N := 16) hx hb hts (mc_ inX2) hown hK g rfl 0 (by decide) rfl (hts _ (List.mem_cons_of_mem _ t_416)) (fun _ h9 => h9) 4 rfl dX2_readField_147 ?_
          refine g_calli (va_runV (As := []) (rest := []) ⟨hx, hb, hml, hown, hts⟩ (r_X8_kind_2 l dC dI L kd tys fr_720 H.size g.2.2.2.1 q0_ mq0_ kq0_ 1201 kb_1201 (g.fcts [0] rfl)) (cwV 0 hts (gV_ t_1118 t_1119 t_1120 t_184 t_1121) rfl rfl rfl (by decide +kernel) ⟨(Nat.le_of_ble_eq_true rfl), (Nat.le_of_ble_eq_true rfl)⟩) (pre3V g hK mq0_ kq0_ (by decide) (q := (RX8, TX8, 10)) rfl) rfl rfl hl.1 rfl (lv_room (Nat.le_of_ble_eq_true rfl)) dX2_readField_150 ⟨(Nat.le_of_ble_eq_true rfl), (Nat.le_of_ble_eq_true rfl)⟩) g hK (by decide) (by decide) (fx' := [(8, 6, q0_, .int 1201), (9, 7, q1_, .int x_708), (8, 8, q0_, .int x_702), (9, 2, q1_, .int x_14), (2, 0, a0_, .ref q0_), (2, 4, a0_, .ref q1_)]) rfl (fun r_722 fr_722 H locs hp hMr_722 g => ?_)
          obtain ⟨h_723, -⟩ := hp
          obtain rfl : r_722 = 0 := h_723
          refine lv_bipush (v := 61) hx hb dX2_readField_153 (by decide) ?_
          refine lv_icmp_ne (tgt := 173) hx hb dX2_readField_155 (by decide) (fun c_ => ?_) (fun c_ => absurd c_ (by decide))
          refine lv_aload_n hx hb dX2_readField_173 rfl (lv_at hl 4 rfl) ?_
          refine g_getk (C := RX2) (T := TX2) (N := 16) hx hb hts (mc_ inX2) hown hK g rfl 0 (by decide) rfl (hts _ (List.mem_cons_of_mem _ t_416)) (fun _ h9 => h9) 4 rfl dX2_readField_174 ?_
          refine lv_bipush (v := 59) hx hb dX2_readField_177 (by decide) ?_
          refine g_callv (va_runV (As := [.int 59]) (rest := []) ⟨hx, hb, hml, hown, hts⟩ (r_X8_take_2 l dC dI L kd tys fr_722 H.size g.2.2.2.1 q0_ mq0_ kq0_ 59 1201 kb_1201 x_702 h_703 (g.fcts [0, 2] rfl)) (cwV 1 hts (gV_ t_1098 t_1099 t_1100 t_184 t_1101) rfl rfl rfl (by decide +kernel) ⟨(Nat.le_of_ble_eq_true rfl), (Nat.le_of_ble_eq_true rfl)⟩) (pre3V g hK mq0_ kq0_ (by decide) (q := (RX8, TX8, 10)) rfl) rfl rfl hl.1 rfl (lv_room (Nat.le_of_ble_eq_true rfl)) dX2_readField_179 ⟨(Nat.le_of_ble_eq_true rfl), (Nat.le_of_ble_eq_true rfl)⟩) g hK (by decide) (by decide) (fx' := [(9, 7, q1_, .int x_708), (8, 8, q0_, .int x_702), (9, 2, q1_, .int x_14), (2, 0, a0_, .ref q0_), (2, 4, a0_, .ref q1_)]) rfl (fun fr_724 H locs hp hMr_724 g => ?_)
          obtain ⟨x_725, h_726, hF_727⟩ := hp
          have g := g.more hF_727
          refine lv_aload_n hx hb dX2_readField_182 rfl (lv_at hl 4 rfl) ?_
          refine g_getk (C := RX2) (T := TX2) (N := 16) hx hb hts (mc_ inX2) hown hK g rfl 0 (by decide) rfl (hts _ (List.mem_cons_of_mem _ t_416)) (fun _ h9 => h9) 4 rfl dX2_readField_183 ?_
          refine g_getk (C := RX8) (T := TX8) (N := 10) hx hb hts (mc_ inX8) hown hK g rfl 8 (by decide) rfl (hts _ (List.mem_cons_of_mem _ t_294)) (fun _ h9 => h9) 2 rfl dX2_readField_186 ?_
          have kb_0 : bd 0 0 (0 : Int32) := ⟨by decide, by decide⟩
          refine lv_if_ne (tgt := 204) hx hb dX2_readField_189 (by decide) (fun c_728 => ?_) (fun c_728 => ?_)
          · have fc_728 := neq_f c_728
            subst hQ
            exact W.vret hx hb hr (fun t ht hW => ⟨⟨_, rfl, Or.inr (⟨x_725, h_726, x_702, h_703, (g.fcts [0, 2] rfl)⟩), q3_of g hK ht hW⟩, g.2.2.1.F ht⟩) g.2.2.1.2.2 dX2_readField_204
          · have fc_728 := eq_f c_728
            have b_729 : bd 1 0 x_702 := eqX fc_728 h_703 kb_0 (by decide)
            exact bd_no b_729 (by decide)
    · have fc_12 := neq_f c_12
      have b_730 : bd 0 9 r_10 := neX fc_12 h_11 kb_m1 (by decide)
      refine lv_aload_n hx hb dX2_readField_58 rfl (lv_at hl 2 rfl) ?_
      refine g_getk (C := RX2) (T := TX2) (N := 16) hx hb hts (mc_ inX2) hown hK g rfl 0 (by decide) rfl (hts _ (List.mem_cons_of_mem _ t_416)) (fun _ h9 => h9) 1 rfl dX2_readField_59 ?_
      refine lv_iconst (v := 2) hx hb dX2_readField_62 (by decide) ?_
      refine lv_iload_n hx hb dX2_readField_63 rfl (lv_at hl 1 rfl) ?_
      have kb_2 : bd 2 2 (2 : Int32) := ⟨by decide, by decide⟩
      refine g_callv (va_runV (As := [.int 2, .int r_5]) (rest := []) ⟨hx, hb, hml, hown, hts⟩ (r_X8_fail l dC dI L kd tys fr_10 H.size g.2.2.2.1 q0_ mq0_ kq0_ 2 (bd_sub kb_2 (by decide)) r_5 y0_ by0_ (g.fcts [3] rfl)) (cwV 2 hts (gV_ t_1122 t_1107 t_1108 t_184 t_1109) rfl rfl rfl (by decide +kernel) ⟨(Nat.le_of_ble_eq_true rfl), (Nat.le_of_ble_eq_true rfl)⟩) (pre3V g hK mq0_ kq0_ (by decide) (q := (RX8, TX8, 10)) rfl) rfl rfl hl.1 rfl (lv_room (Nat.le_of_ble_eq_true rfl)) dX2_readField_64 ⟨(Nat.le_of_ble_eq_true rfl), (Nat.le_of_ble_eq_true rfl)⟩) g hK (by decide) (by decide) (fx' := [(2, 0, a0_, .ref q0_), (2, 4, a0_, .ref q1_)]) rfl (fun fr_731 H locs hp hMr_731 g => ?_)
      obtain ⟨x_732, h_733, hF_734⟩ := hp
      have g := g.more hF_734
      refine lv_goto (tgt := 91) hx hb dX2_readField_67 (by decide) ?_
      refine lv_aload_n hx hb dX2_readField_91 rfl (lv_at hl 2 rfl) ?_
      refine g_getk (C := RX2) (T := TX2) (N := 16) hx hb hts (mc_ inX2) hown hK g rfl 0 (by decide) rfl (hts _ (List.mem_cons_of_mem _ t_416)) (fun _ h9 => h9) 2 rfl dX2_readField_92 ?_
      have kb_1201 : bd 1201 1201 (1201 : Int32) := ⟨by decide, by decide⟩
      refine g_callv (va_runV (As := []) (rest := []) ⟨hx, hb, hml, hown, hts⟩ (r_X8_next_2 l dC dI L kd tys fr_731 H.size g.2.2.2.1 q0_ mq0_ kq0_ 1201 kb_1201 (g.fcts [0] rfl)) (cwV 0 hts (gV_ t_1131 t_1103 t_1104 t_184 t_1105) rfl rfl rfl (by decide +kernel) ⟨(Nat.le_of_ble_eq_true rfl), (Nat.le_of_ble_eq_true rfl)⟩) (pre3V g hK mq0_ kq0_ (by decide) (q := (RX8, TX8, 10)) rfl) rfl rfl hl.1 rfl (lv_room (Nat.le_of_ble_eq_true rfl)) dX2_readField_95 ⟨(Nat.le_of_ble_eq_true rfl), (Nat.le_of_ble_eq_true rfl)⟩) g hK (by decide) (by decide) (fx' := [(8, 6, q0_, .int 1201), (8, 8, q0_, .int x_732), (2, 0, a0_, .ref q0_), (2, 4, a0_, .ref q1_)]) rfl (fun fr_735 H locs hp hMr_735 g => ?_)
      refine lv_iconst (v := 0) hx hb dX2_readField_98 (by decide) ?_
      refine lv_istore (lv' := [(4, .int 0), (2, .long r_6), (1, .int r_5), (0, .ref a0_)]) hx hb dX2_readField_99 hl (by decide) rfl (fun ls hl => ?_)
      refine lv_aload_n hx hb dX2_readField_101 rfl (lv_at hl 3 rfl) ?_
      refine g_getk (C := RX2) (T := TX2) (N := 16) hx hb hts (mc_ inX2) hown hK g rfl 0 (by decide) rfl (hts _ (List.mem_cons_of_mem _ t_416)) (fun _ h9 => h9) 2 rfl dX2_readField_102 ?_
      refine g_calli (va_runV (As := []) (rest := []) ⟨hx, hb, hml, hown, hts⟩ (r_X8_kind_2 l dC dI L kd tys fr_735 H.size g.2.2.2.1 q0_ mq0_ kq0_ 1201 kb_1201 (g.fcts [0] rfl)) (cwV 0 hts (gV_ t_1118 t_1119 t_1120 t_184 t_1121) rfl rfl rfl (by decide +kernel) ⟨(Nat.le_of_ble_eq_true rfl), (Nat.le_of_ble_eq_true rfl)⟩) (pre3V g hK mq0_ kq0_ (by decide) (q := (RX8, TX8, 10)) rfl) rfl rfl hl.1 rfl (lv_room (Nat.le_of_ble_eq_true rfl)) dX2_readField_105 ⟨(Nat.le_of_ble_eq_true rfl), (Nat.le_of_ble_eq_true rfl)⟩) g hK (by decide) (by decide) (fx' := [(8, 6, q0_, .int 1201), (8, 8, q0_, .int x_732), (2, 0, a0_, .ref q0_), (2, 4, a0_, .ref q1_)]) rfl (fun r_736 fr_736 H locs hp hMr_736 g => ?_)
      obtain ⟨h_737, -⟩ := hp
      obtain rfl : r_736 = 0 := h_737
      refine lv_bipush (v := 91) hx hb dX2_readField_108 (by decide) ?_
      refine lv_icmp_ne (tgt := 122) hx hb dX2_readField_110 (by decide) (fun c_ => ?_) (fun c_ => absurd c_ (by decide))
      refine lv_aload_n hx hb dX2_readField_122 rfl (lv_at hl 3 rfl) ?_
      refine g_getk (C := RX2) (T := TX2) (N := 16) hx hb hts (mc_ inX2) hown hK g rfl 4 (by decide) rfl (hts _ (List.mem_cons_of_mem _ t_420)) (fun _ h9 => h9) 3 rfl dX2_readField_123 ?_
      refine g_geti (C := RX9) (T := TX9) (N := 13) hx hb hts (mc_ inX9) hown hK g mq1_ kq1_ (by decide) rfl 7 (by decide) rfl (hts _ (List.mem_cons_of_mem _ t_496)) (fun _ h9 => h9) rfl dX2_readField_126 (fun x_738 bx_738 g => ?_)
      refine lv_bipush (v := 24) hx hb dX2_readField_129 (by decide) ?_
      have kb_24 : bd 24 24 (24 : Int32) := ⟨by decide, by decide⟩
      refine lv_icmp_lt (tgt := 143) hx hb dX2_readField_131 (by decide) (fun c_739 => ?_) (fun c_739 => ?_)
      · have fc_739 := lt_f c_739
        have b_740 : bd 0 23 x_738 := ltL fc_739 bx_738 kb_24 (by decide)
        refine lv_iconst (v := 0) hx hb dX2_readField_143 (by decide) ?_
        refine lv_istore (lv' := [(5, .int 0), (4, .int 0), (2, .long r_6), (1, .int r_5), (0, .ref a0_)]) hx hb dX2_readField_144 hl (by decide) rfl (fun ls hl => ?_)
        refine lv_aload_n hx hb dX2_readField_146 rfl (lv_at hl 4 rfl) ?_
        refine g_getk (C := RX2) (T := TX2) (N := 16) hx hb hts (mc_ inX2) hown hK g rfl 0 (by decide) rfl (hts _ (List.mem_cons_of_mem _ t_416)) (fun _ h9 => h9) 3 rfl dX2_readField_147 ?_
        refine g_calli (va_runV (As := []) (rest := []) ⟨hx, hb, hml, hown, hts⟩ (r_X8_kind_2 l dC dI L kd tys fr_736 H.size g.2.2.2.1 q0_ mq0_ kq0_ 1201 kb_1201 (g.fcts [1] rfl)) (cwV 0 hts (gV_ t_1118 t_1119 t_1120 t_184 t_1121) rfl rfl rfl (by decide +kernel) ⟨(Nat.le_of_ble_eq_true rfl), (Nat.le_of_ble_eq_true rfl)⟩) (pre3V g hK mq0_ kq0_ (by decide) (q := (RX8, TX8, 10)) rfl) rfl rfl hl.1 rfl (lv_room (Nat.le_of_ble_eq_true rfl)) dX2_readField_150 ⟨(Nat.le_of_ble_eq_true rfl), (Nat.le_of_ble_eq_true rfl)⟩) g hK (by decide) (by decide) (fx' := [(9, 7, q1_, .int x_738), (8, 6, q0_, .int 1201), (8, 8, q0_, .int x_732), (2, 0, a0_, .ref q0_), (2, 4, a0_, .ref q1_)]) rfl (fun r_741 fr_741 H locs hp hMr_741 g => ?_)
        obtain ⟨h_742, -⟩ := hp
        obtain rfl : r_741 = 0 := h_742
        refine lv_bipush (v := 61) hx hb dX2_readField_153 (by decide) ?_
        refine lv_icmp_ne (tgt := 173) hx hb dX2_readField_155 (by decide) (fun c_ => ?_) (fun c_ => absurd c_ (by decide))
        refine lv_aload_n hx hb dX2_readField_173 rfl (lv_at hl 4 rfl) ?_
        refine g_getk (C := RX2) (T := TX2) (N := 16) hx hb hts (mc_ inX2) hown hK g rfl 0 (by decide) rfl (hts _ (List.mem_cons_of_mem _ t_416)) (fun _ h9 => h9) 3 rfl dX2_readField_174 ?_
        refine lv_bipush (v := 59) hx hb dX2_readField_177 (by decide) ?_
        refine g_callv (va_runV (As := [.int 59]) (rest := []) ⟨hx, hb, hml, hown, hts⟩ (r_X8_take_2 l dC dI L kd tys fr_741 H.size g.2.2.2.1 q0_ mq0_ kq0_ 59 1201 kb_1201 x_732 h_733 (g.fcts [1, 2] rfl)) (cwV 1 hts (gV_ t_1098 t_1099 t_1100 t_184 t_1101) rfl rfl rfl (by decide +kernel) ⟨(Nat.le_of_ble_eq_true rfl), (Nat.le_of_ble_eq_true rfl)⟩) (pre3V g hK mq0_ kq0_ (by decide) (q := (RX8, TX8, 10)) rfl) rfl rfl hl.1 rfl (lv_room (Nat.le_of_ble_eq_true rfl)) dX2_readField_179 ⟨(Nat.le_of_ble_eq_true rfl), (Nat.le_of_ble_eq_true rfl)⟩) g hK (by decide) (by decide) (fx' := [(9, 7, q1_, .int x_738), (8, 8, q0_, .int x_732), (2, 0, a0_, .ref q0_), (2, 4, a0_, .ref q1_)]) rfl (fun fr_743 H locs hp hMr_743 g => ?_)
        obtain ⟨x_744, h_745, hF_746⟩ := hp
        have g := g.more hF_746
        refine lv_aload_n hx hb dX2_readField_182 rfl (lv_at hl 4 rfl) ?_
        refine g_getk (C := RX2) (T := TX2) (N := 16) hx hb hts (mc_ inX2) hown hK g rfl 0 (by decide) rfl (hts _ (List.mem_cons_of_mem _ t_416)) (fun _ h9 => h9) 3 rfl dX2_readField_183 ?_
        refine g_getk (C := RX8) (T := TX8) (N := 10) hx hb hts (mc_ inX8) hown hK g rfl 8 (by decide) rfl (hts _ (List.mem_cons_of_mem _ t_294)) (fun _ h9 => h9) 2 rfl dX2_readField_186 ?_
        have kb_0 : bd 0 0 (0 : Int32) := ⟨by decide, by decide⟩
        refine lv_if_ne (tgt := 204) hx hb dX2_readField_189 (by decide) (fun c_747 => ?_) (fun c_747 => ?_)
        · have fc_747 := neq_f c_747
          subst hQ
          exact W.vret hx hb hr (fun t ht hW => ⟨⟨_, rfl, Or.inr (⟨x_744, h_745, x_732, h_733, (g.fcts [0, 2] rfl)⟩), q3_of g hK ht hW⟩, g.2.2.1.F ht⟩) g.2.2.1.2.2 dX2_readField_204
        · have fc_747 := eq_f c_747
          have b_748 : bd 1 0 x_732 := eqX fc_747 h_733 kb_0 (by decide)
          exact bd_no b_748 (by decide)
      · have fc_739 := nlt_f c_739
        have b_749 : bd 24 24 x_738 := leR fc_739 kb_24 bx_738 (by decide)
        refine lv_aload_n hx hb dX2_readField_134 rfl (lv_at hl 3 rfl) ?_
        refine g_getk (C := RX2) (T := TX2) (N := 16) hx hb hts (mc_ inX2) hown hK g rfl 0 (by decide) rfl (hts _ (List.mem_cons_of_mem _ t_416)) (fun _ h9 => h9) 3 rfl dX2_readField_135 ?_
        refine lv_iconst (v := 4) hx hb dX2_readField_138 (by decide) ?_
        refine lv_iload_n hx hb dX2_readField_139 rfl (lv_at hl 2 rfl) ?_
        have kb_4 : bd 4 4 (4 : Int32) := ⟨by decide, by decide⟩
        refine g_callv (va_runV (As := [.int 4, .int r_5]) (rest := []) ⟨hx, hb, hml, hown, hts⟩ (r_X8_fail_2 l dC dI L kd tys fr_736 H.size g.2.2.2.1 q0_ mq0_ kq0_ 4 (bd_sub kb_4 (by decide)) r_5 x_732 h_733 (g.fcts [2] rfl)) (cwV 2 hts (gV_ t_1122 t_1107 t_1108 t_184 t_1109) rfl rfl rfl (by decide +kernel) ⟨(Nat.le_of_ble_eq_true rfl), (Nat.le_of_ble_eq_true rfl)⟩) (pre3V g hK mq0_ kq0_ (by decide) (q := (RX8, TX8, 10)) rfl) rfl rfl hl.1 rfl (lv_room (Nat.le_of_ble_eq_true rfl)) dX2_readField_140 ⟨(Nat.le_of_ble_eq_true rfl), (Nat.le_of_ble_eq_true rfl)⟩) g hK (by decide) (by decide) (fx' := [(9, 7, q1_, .int x_738), (8, 8, q0_, .int x_732), (2, 0, a0_, .ref q0_), (2, 4, a0_, .ref q1_)]) rfl (fun fr_750 H locs hp hMr_750 g => ?_)
        have hF_751 := hp
        have g := g.more hF_751
        refine lv_iconst (v := 0) hx hb dX2_readField_143 (by decide) ?_
        refine lv_istore (lv' := [(5, .int 0), (4, .int 0), (2, .long r_6), (1, .int r_5), (0, .ref a0_)]) hx hb dX2_readField_144 hl (by decide) rfl (fun ls hl => ?_)
        refine lv_aload_n hx hb dX2_readField_146 rfl (lv_at hl 4 rfl) ?_
        refine g_getk (C := RX2) (T := TX2) (N := 16) hx hb hts (mc_ inX2) hown hK g rfl 0 (by decide) rfl (hts _ (List.mem_cons_of_mem _ t_416)) (fun _ h9 => h9) 3 rfl dX2_readField_147 ?_
        refine g_calli (va_runV (As := []) (rest := []) ⟨hx, hb, hml, hown, hts⟩ (r_X8_kind_2 l dC dI L kd tys fr_750 H.size g.2.2.2.1 q0_ mq0_ kq0_ 1201 kb_1201 (g.fcts [0] rfl)) (cwV 0 hts (gV_ t_1118 t_1119 t_1120 t_184 t_1121) rfl rfl rfl (by decide +kernel) ⟨(Nat.le_of_ble_eq_true rfl), (Nat.le_of_ble_eq_true rfl)⟩) (pre3V g hK mq0_ kq0_ (by decide) (q := (RX8, TX8, 10)) rfl) rfl rfl hl.1 rfl (lv_room (Nat.le_of_ble_eq_true rfl)) dX2_readField_150 ⟨(Nat.le_of_ble_eq_true rfl), (Nat.le_of_ble_eq_true rfl)⟩) g hK (by decide) (by decide) (fx' := [(8, 6, q0_, .int 1201), (9, 7, q1_, .int x_738), (8, 8, q0_, .int x_732), (2, 0, a0_, .ref q0_), (2, 4, a0_, .ref q1_)]) rfl (fun r_752 fr_752 H locs hp hMr_752 g => ?_)
        obtain ⟨h_753, -⟩ := hp
        obtain rfl : r_752 = 0 := h_753
        refine lv_bipush (v := 61) hx hb dX2_readField_153 (by decide) ?_
        refine lv_icmp_ne (tgt := 173) hx hb dX2_readField_155 (by decide) (fun c_ => ?_) (fun c_ => absurd c_ (by decide))
        refine lv_aload_n hx hb dX2_readField_173 rfl (lv_at hl 4 rfl) ?_
        refine g_getk (C := RX2) (T := TX2) (N := 16) hx hb hts (mc_ inX2) hown hK g rfl 0 (by decide) rfl (hts _ (List.mem_cons_of_mem _ t_416)) (fun _ h9 => h9) 3 rfl dX2_readField_174 ?_
        refine lv_bipush (v := 59) hx hb dX2_readField_177 (by decide) ?_
        refine g_callv (va_runV (As := [.int 59]) (rest := []) ⟨hx, hb, hml, hown, hts⟩ (r_X8_take_2 l dC dI L kd tys fr_752 H.size g.2.2.2.1 q0_ mq0_ kq0_ 59 1201 kb_1201 x_732 h_733 (g.fcts [0, 2] rfl)) (cwV 1 hts (gV_ t_1098 t_1099 t_1100 t_184 t_1101) rfl rfl rfl (by decide +kernel) ⟨(Nat.le_of_ble_eq_true rfl), (Nat.le_of_ble_eq_true rfl)⟩) (pre3V g hK mq0_ kq0_ (by decide) (q := (RX8, TX8, 10)) rfl) rfl rfl hl.1 rfl (lv_room (Nat.le_of_ble_eq_true rfl)) dX2_readField_179 ⟨(Nat.le_of_ble_eq_true rfl), (Nat.le_of_ble_eq_true rfl)⟩) g hK (by decide) (by decide) (fx' := [(9, 7, q1_, .int x_738), (8, 8, q0_, .int x_732), (2, 0, a0_, .ref q0_), (2, 4, a0_, .ref q1_)]) rfl (fun fr_754 H locs hp hMr_754 g => ?_)
        obtain ⟨x_755, h_756, hF_757⟩ := hp
        have g := g.more hF_757
        refine lv_aload_n hx hb dX2_readField_182 rfl (lv_at hl 4 rfl) ?_
        refine g_getk (C := RX2) (T := TX2) (N := 16) hx hb hts (mc_ inX2) hown hK g rfl 0 (by decide) rfl (hts _ (List.mem_cons_of_mem _ t_416)) (fun _ h9 => h9) 3 rfl dX2_readField_183 ?_
        refine g_getk (C := RX8) (T := TX8) (N := 10) hx hb hts (mc_ inX8) hown hK g rfl 8 (by decide) rfl (hts _ (List.mem_cons_of_mem _ t_294)) (fun _ h9 => h9) 2 rfl dX2_readField_186 ?_
        have kb_0 : bd 0 0 (0 : Int32) := ⟨by decide, by decide⟩
        refine lv_if_ne (tgt := 204) hx hb dX2_readField_189 (by decide) (fun c_758 => ?_) (fun c_758 => ?_)
        · have fc_758 := neq_f c_758
          subst hQ
          exact W.vret hx hb hr (fun t ht hW => ⟨⟨_, rfl, Or.inr (⟨x_755, h_756, x_732, h_733, (g.fcts [0, 2] rfl)⟩), q3_of g hK ht hW⟩, g.2.2.1.F ht⟩) g.2.2.1.2.2 dX2_readField_204
        · have fc_758 := eq_f c_758
          have b_759 : bd 1 0 x_732 := eqX fc_758 h_733 kb_0 (by decide)
          exact bd_no b_759 (by decide)
  · have fc_8 := neq_f c_8
    refine lv_aload_n hx hb dX2_readField_34 rfl (lv_at hl 2 rfl) ?_
    refine g_getk (C := RX2) (T := TX2) (N := 16) hx hb hts (mc_ inX2) hown hK g rfl 0 (by decide) rfl (hts _ (List.mem_cons_of_mem _ t_416)) (fun _ h9 => h9) 1 rfl dX2_readField_35 ?_
    refine lv_iconst (v := 1) hx hb dX2_readField_38 (by decide) ?_
    refine lv_iload_n hx hb dX2_readField_39 rfl (lv_at hl 1 rfl) ?_
    have kb_1 : bd 1 1 (1 : Int32) := ⟨by decide, by decide⟩
    refine g_callv (va_runV (As := [.int 1, .int r_5]) (rest := []) ⟨hx, hb, hml, hown, hts⟩ (r_X8_fail l dC dI L kd tys fr_7 H.size g.2.2.2.1 q0_ mq0_ kq0_ 1 (bd_sub kb_1 (by decide)) r_5 y0_ by0_ (g.fcts [3] rfl)) (cwV 2 hts (gV_ t_1122 t_1107 t_1108 t_184 t_1109) rfl rfl rfl (by decide +kernel) ⟨(Nat.le_of_ble_eq_true rfl), (Nat.le_of_ble_eq_true rfl)⟩) (pre3V g hK mq0_ kq0_ (by decide) (q := (RX8, TX8, 10)) rfl) rfl rfl hl.1 rfl (lv_room (Nat.le_of_ble_eq_true rfl)) dX2_readField_40 ⟨(Nat.le_of_ble_eq_true rfl), (Nat.le_of_ble_eq_true rfl)⟩) g hK (by decide) (by decide) (fx' := [(2, 0, a0_, .ref q0_), (2, 4, a0_, .ref q1_)]) rfl (fun fr_760 H locs hp hMr_760 g => ?_)
    obtain ⟨x_761, h_762, hF_763⟩ := hp
    have g := g.more hF_763
    refine lv_goto (tgt := 91) hx hb dX2_readField_43 (by decide) ?_
    refine lv_aload_n hx hb dX2_readField_91 rfl (lv_at hl 2 rfl) ?_
    refine g_getk (C := RX2) (T := TX2) (N := 16) hx hb hts (mc_ inX2) hown hK g rfl 0 (by decide) rfl (hts _ (List.mem_cons_of_mem _ t_416)) (fun _ h9 => h9) 2 rfl dX2_readField_92 ?_
    have kb_1201 : bd 1201 1201 (1201 : Int32) := ⟨by decide, by decide⟩
    refine g_callv (va_runV (As := []) (rest := []) ⟨hx, hb, hml, hown, hts⟩ (r_X8_next_2 l dC dI L kd tys fr_760 H.size g.2.2.2.1 q0_ mq0_ kq0_ 1201 kb_1201 (g.fcts [0] rfl)) (cwV 0 hts (gV_ t_1131 t_1103 t_1104 t_184 t_1105) rfl rfl rfl (by decide +kernel) ⟨(Nat.le_of_ble_eq_true rfl), (Nat.le_of_ble_eq_true rfl)⟩) (pre3V g hK mq0_ kq0_ (by decide) (q := (RX8, TX8, 10)) rfl) rfl rfl hl.1 rfl (lv_room (Nat.le_of_ble_eq_true rfl)) dX2_readField_95 ⟨(Nat.le_of_ble_eq_true rfl), (Nat.le_of_ble_eq_true rfl)⟩) g hK (by decide) (by decide) (fx' := [(8, 6, q0_, .int 1201), (8, 8, q0_, .int x_761), (2, 0, a0_, .ref q0_), (2, 4, a0_, .ref q1_)]) rfl (fun fr_764 H locs hp hMr_764 g => ?_)
    refine lv_iconst (v := 0) hx hb dX2_readField_98 (by decide) ?_
    refine lv_istore (lv' := [(4, .int 0), (2, .long r_6), (1, .int r_5), (0, .ref a0_)]) hx hb dX2_readField_99 hl (by decide) rfl (fun ls hl => ?_)
    refine lv_aload_n hx hb dX2_readField_101 rfl (lv_at hl 3 rfl) ?_
    refine g_getk (C := RX2) (T := TX2) (N := 16) hx hb hts (mc_ inX2) hown hK g rfl 0 (by decide) rfl (hts _ (List.mem_cons_of_mem _ t_416)) (fun _ h9 => h9) 2 rfl dX2_readField_102 ?_
    refine g_calli (va_runV (As := []) (rest := []) ⟨hx, hb, hml, hown, hts⟩ (r_X8_kind_2 l dC dI L kd tys fr_764 H.size g.2.2.2.1 q0_ mq0_ kq0_ 1201 kb_1201 (g.fcts [0] rfl)) (cwV 0 hts (gV_ t_1118 t_1119 t_1120 t_184 t_1121) rfl rfl rfl (by decide +kernel) ⟨(Nat.le_of_ble_eq_true rfl), (Nat.le_of_ble_eq_true rfl)⟩) (pre3V g hK mq0_ kq0_ (by decide) (q := (RX8, TX8, 10)) rfl) rfl rfl hl.1 rfl (lv_room (Nat.le_of_ble_eq_true rfl)) dX2_readField_105 ⟨(Nat.le_of_ble_eq_true rfl), (Nat.le_of_ble_eq_true rfl)⟩) g hK (by decide) (by decide) (fx' := [(8, 6, q0_, .int 1201), (8, 8, q0_, .int x_761), (2, 0, a0_, .ref q0_), (2, 4, a0_, .ref q1_)]) rfl (fun r_765 fr_765 H locs hp hMr_765 g => ?_)
    obtain ⟨h_766, -⟩ := hp
    obtain rfl : r_765 = 0 := h_766
    refine lv_bipush (v := 91) hx hb dX2_readField_108 (by decide) ?_
    refine lv_icmp_ne (tgt := 122) hx hb dX2_readField_110 (by decide) (fun c_ => ?_) (fun c_ => absurd c_ (by decide))
    refine lv_aload_n hx hb dX2_readField_122 rfl (lv_at hl 3 rfl) ?_
    refine g_getk (C := RX2) (T := TX2) (N := 16) hx hb hts (mc_ inX2) hown hK g rfl 4 (by decide) rfl (hts _ (List.mem_cons_of_mem _ t_420)) (fun _ h9 => h9) 3 rfl dX2_readField_123 ?_
    refine g_geti (C := RX9) (T := TX9) (N := 13) hx hb hts (mc_ inX9) hown hK g mq1_ kq1_ (by decide) rfl 7 (by decide) rfl (hts _ (List.mem_cons_of_mem _ t_496)) (fun _ h9 => h9) rfl dX2_readField_126 (fun x_767 bx_767 g => ?_)
    refine lv_bipush (v := 24) hx hb dX2_readField_129 (by decide) ?_
    have kb_24 : bd 24 24 (24 : Int32) := ⟨by decide, by decide⟩
    refine lv_icmp_lt (tgt := 143) hx hb dX2_readField_131 (by decide) (fun c_768 => ?_) (fun c_768 => ?_)
    · have fc_768 := lt_f c_768
      have b_769 : bd 0 23 x_767 := ltL fc_768 bx_767 kb_24 (by decide)
      refine lv_iconst (v := 0) hx hb dX2_readField_143 (by decide) ?_
      refine lv_istore (lv' := [(5, .int 0), (4, .int 0), (2, .long r_6), (1, .int r_5), (0, .ref a0_)]) hx hb dX2_readField_144 hl (by decide) rfl (fun ls hl => ?_)
      refine lv_aload_n hx hb dX2_readField_146 rfl (lv_at hl 4 rfl) ?_
      refine g_getk (C := RX2) (T := TX2) (N := 16) hx hb hts (mc_ inX2) hown hK g rfl 0 (by decide) rfl (hts _ (List.mem_cons_of_mem _ t_416)) (fun _ h9 => h9) 3 rfl dX2_readField_147 ?_
      refine g_calli (va_runV (As := []) (rest := []) ⟨hx, hb, hml, hown, hts⟩ (r_X8_kind_2 l dC dI L kd tys fr_765 H.size g.2.2.2.1 q0_ mq0_ kq0_ 1201 kb_1201 (g.fcts [1] rfl)) (cwV 0 hts (gV_ t_1118 t_1119 t_1120 t_184 t_1121) rfl rfl rfl (by decide +kernel) ⟨(Nat.le_of_ble_eq_true rfl), (Nat.le_of_ble_eq_true rfl)⟩) (pre3V g hK mq0_ kq0_ (by decide) (q := (RX8, TX8, 10)) rfl) rfl rfl hl.1 rfl (lv_room (Nat.le_of_ble_eq_true rfl)) dX2_readField_150 ⟨(Nat.le_of_ble_eq_true rfl), (Nat.le_of_ble_eq_true rfl)⟩) g hK (by decide) (by decide) (fx' := [(9, 7, q1_, .int x_767), (8, 6, q0_, .int 1201), (8, 8, q0_, .int x_761), (2, 0, a0_, .ref q0_), (2, 4, a0_, .ref q1_)]) rfl (fun r_770 fr_770 H locs hp hMr_770 g => ?_)
      obtain ⟨h_771, -⟩ := hp
      obtain rfl : r_770 = 0 := h_771
      refine lv_bipush (v := 61) hx hb dX2_readField_153 (by decide) ?_
      refine lv_icmp_ne (tgt := 173) hx hb dX2_readField_155 (by decide) (fun c_ => ?_) (fun c_ => absurd c_ (by decide))
      refine lv_aload_n hx hb dX2_readField_173 rfl (lv_at hl 4 rfl) ?_
      refine g_getk (C := RX2) (T := TX2) (N := 16) hx hb hts (mc_ inX2) hown hK g rfl 0 (by decide) rfl (hts _ (List.mem_cons_of_mem _ t_416)) (fun _ h9 => h9) 3 rfl dX2_readField_174 ?_
      refine lv_bipush (v := 59) hx hb dX2_readField_177 (by decide) ?_
      refine g_callv (va_runV (As := [.int 59]) (rest := []) ⟨hx, hb, hml, hown, hts⟩ (r_X8_take_2 l dC dI L kd tys fr_770 H.size g.2.2.2.1 q0_ mq0_ kq0_ 59 1201 kb_1201 x_761 h_762 (g.fcts [1, 2] rfl)) (cwV 1 hts (gV_ t_1098 t_1099 t_1100 t_184 t_1101) rfl rfl rfl (by decide +kernel) ⟨(Nat.le_of_ble_eq_true rfl), (Nat.le_of_ble_eq_true rfl)⟩) (pre3V g hK mq0_ kq0_ (by decide) (q := (RX8, TX8, 10)) rfl) rfl rfl hl.1 rfl (lv_room (Nat.le_of_ble_eq_true rfl)) dX2_readField_179 ⟨(Nat.le_of_ble_eq_true rfl), (Nat.le_of_ble_eq_true rfl)⟩) g hK (by decide) (by decide) (fx' := [(9, 7, q1_, .int x_767), (8, 8, q0_, .int x_761), (2, 0, a0_, .ref q0_), (2, 4, a0_, .ref q1_)]) rfl (fun fr_772 H locs hp hMr_772 g => ?_)
      obtain ⟨x_773, h_774, hF_775⟩ := hp
      have g := g.more hF_775
      refine lv_aload_n hx hb dX2_readField_182 rfl (lv_at hl 4 rfl) ?_
      refine g_getk (C := RX2) (T := TX2) (N := 16) hx hb hts (mc_ inX2) hown hK g rfl 0 (by decide) rfl (hts _ (List.mem_cons_of_mem _ t_416)) (fun _ h9 => h9) 3 rfl dX2_readField_183 ?_
      refine g_getk (C := RX8) (T := TX8) (N := 10) hx hb hts (mc_ inX8) hown hK g rfl 8 (by decide) rfl (hts _ (List.mem_cons_of_mem _ t_294)) (fun _ h9 => h9) 2 rfl dX2_readField_186 ?_
      have kb_0 : bd 0 0 (0 : Int32) := ⟨by decide, by decide⟩
      refine lv_if_ne (tgt := 204) hx hb dX2_readField_189 (by decide) (fun c_776 => ?_) (fun c_776 => ?_)
      · have fc_776 := neq_f c_776
        subst hQ
        exact W.vret hx hb hr (fun t ht hW => ⟨⟨_, rfl, Or.inr (⟨x_773, h_774, x_761, h_762, (g.fcts [0, 2] rfl)⟩), q3_of g hK ht hW⟩, g.2.2.1.F ht⟩) g.2.2.1.2.2 dX2_readField_204
      · have fc_776 := eq_f c_776
        have b_777 : bd 1 0 x_761 := eqX fc_776 h_762 kb_0 (by decide)
        exact bd_no b_777 (by decide)
    · have fc_768 := nlt_f c_768
      have b_778 : bd 24 24 x_767 := leR fc_768 kb_24 bx_767 (by decide)
      refine lv_aload_n hx hb dX2_readField_134 rfl (lv_at hl 3 rfl) ?_
      refine g_getk (C := RX2) (T := TX2) (N := 16) hx hb hts (mc_ inX2) hown hK g rfl 0 (by decide) rfl (hts _ (List.mem_cons_of_mem _ t_416)) (fun _ h9 => h9) 3 rfl dX2_readField_135 ?_
      refine lv_iconst (v := 4) hx hb dX2_readField_138 (by decide) ?_
      refine lv_iload_n hx hb dX2_readField_139 rfl (lv_at hl 2 rfl) ?_
      have kb_4 : bd 4 4 (4 : Int32) := ⟨by decide, by decide⟩
      refine g_callv (va_runV (As := [.int 4, .int r_5]) (rest := []) ⟨hx, hb, hml, hown, hts⟩ (r_X8_fail_2 l dC dI L kd tys fr_765 H.size g.2.2.2.1 q0_ mq0_ kq0_ 4 (bd_sub kb_4 (by decide)) r_5 x_761 h_762 (g.fcts [2] rfl)) (cwV 2 hts (gV_ t_1122 t_1107 t_1108 t_184 t_1109) rfl rfl rfl (by decide +kernel) ⟨(Nat.le_of_ble_eq_true rfl), (Nat.le_of_ble_eq_true rfl)⟩) (pre3V g hK mq0_ kq0_ (by decide) (q := (RX8, TX8, 10)) rfl) rfl rfl hl.1 rfl (lv_room (Nat.le_of_ble_eq_true rfl)) dX2_readField_140 ⟨(Nat.le_of_ble_eq_true rfl), (Nat.le_of_ble_eq_true rfl)⟩) g hK (by decide) (by decide) (fx' := [(9, 7, q1_, .int x_767), (8, 8, q0_, .int x_761), (2, 0, a0_, .ref q0_), (2, 4, a0_, .ref q1_)]) rfl (fun fr_779 H locs hp hMr_779 g => ?_)
      have hF_780 := hp
      have g := g.more hF_780
      refine lv_iconst (v := 0) hx hb dX2_readField_143 (by decide) ?_
      refine lv_istore (lv' := [(5, .int 0), (4, .int 0), (2, .long r_6), (1, .int r_5), (0, .ref a0_)]) hx hb dX2_readField_144 hl (by decide) rfl (fun ls hl => ?_)
      refine lv_aload_n hx hb dX2_readField_146 rfl (lv_at hl 4 rfl) ?_
      refine g_getk (C := RX2) (T := TX2) (N := 16) hx hb hts (mc_ inX2) hown hK g rfl 0 (by decide) rfl (hts _ (List.mem_cons_of_mem _ t_416)) (fun _ h9 => h9) 3 rfl dX2_readField_147 ?_
      refine g_calli (va_runV (As := []) (rest := []) ⟨hx, hb, hml, hown, hts⟩ (r_X8_kind_2 l dC dI L kd tys fr_779 H.size g.2.2.2.1 q0_ mq0_ kq0_ 1201 kb_1201 (g.fcts [0] rfl)) (cwV 0 hts (gV_ t_1118 t_1119 t_1120 t_184 t_1121) rfl rfl rfl (by decide +kernel) ⟨(Nat.le_of_ble_eq_true rfl), (Nat.le_of_ble_eq_true rfl)⟩) (pre3V g hK mq0_ kq0_ (by decide) (q := (RX8, TX8, 10)) rfl) rfl rfl hl.1 rfl (lv_room (Nat.le_of_ble_eq_true rfl)) dX2_readField_150 ⟨(Nat.le_of_ble_eq_true rfl), (Nat.le_of_ble_eq_true rfl)⟩) g hK (by decide) (by decide) (fx' := [(8, 6, q0_, .int 1201), (9, 7, q1_, .int x_767), (8, 8, q0_, .int x_761), (2, 0, a0_, .ref q0_), (2, 4, a0_, .ref q1_)]) rfl (fun r_781 fr_781 H locs hp hMr_781 g => ?_)
      obtain ⟨h_782, -⟩ := hp
      obtain rfl : r_781 = 0 := h_782
      refine lv_bipush (v := 61) hx hb dX2_readField_153 (by decide) ?_
      refine lv_icmp_ne (tgt := 173) hx hb dX2_readField_155 (by decide) (fun c_ => ?_) (fun c_ => absurd c_ (by decide))
      refine lv_aload_n hx hb dX2_readField_173 rfl (lv_at hl 4 rfl) ?_
      refine g_getk (C := RX2) (T := TX2) (N := 16) hx hb hts (mc_ inX2) hown hK g rfl 0 (by decide) rfl (hts _ (List.mem_cons_of_mem _ t_416)) (fun _ h9 => h9) 3 rfl dX2_readField_174 ?_
      refine lv_bipush (v := 59) hx hb dX2_readField_177 (by decide) ?_
      refine g_callv (va_runV (As := [.int 59]) (rest := []) ⟨hx, hb, hml, hown, hts⟩ (r_X8_take_2 l dC dI L kd tys fr_781 H.size g.2.2.2.1 q0_ mq0_ kq0_ 59 1201 kb_1201 x_761 h_762 (g.fcts [0, 2] rfl)) (cwV 1 hts (gV_ t_1098 t_1099 t_1100 t_184 t_1101) rfl rfl rfl (by decide +kernel) ⟨(Nat.le_of_ble_eq_true rfl), (Nat.le_of_ble_eq_true rfl)⟩) (pre3V g hK mq0_ kq0_ (by decide) (q := (RX8, TX8, 10)) rfl) rfl rfl hl.1 rfl (lv_room (Nat.le_of_ble_eq_true rfl)) dX2_readField_179 ⟨(Nat.le_of_ble_eq_true rfl), (Nat.le_of_ble_eq_true rfl)⟩) g hK (by decide) (by decide) (fx' := [(9, 7, q1_, .int x_767), (8, 8, q0_, .int x_761), (2, 0, a0_, .ref q0_), (2, 4, a0_, .ref q1_)]) rfl (fun fr_783 H locs hp hMr_783 g => ?_)
      obtain ⟨x_784, h_785, hF_786⟩ := hp
      have g := g.more hF_786
      refine lv_aload_n hx hb dX2_readField_182 rfl (lv_at hl 4 rfl) ?_
      refine g_getk (C := RX2) (T := TX2) (N := 16) hx hb hts (mc_ inX2) hown hK g rfl 0 (by decide) rfl (hts _ (List.mem_cons_of_mem _ t_416)) (fun _ h9 => h9) 3 rfl dX2_readField_183 ?_
      refine g_getk (C := RX8) (T := TX8) (N := 10) hx hb hts (mc_ inX8) hown hK g rfl 8 (by decide) rfl (hts _ (List.mem_cons_of_mem _ t_294)) (fun _ h9 => h9) 2 rfl dX2_readField_186 ?_
      have kb_0 : bd 0 0 (0 : Int32) := ⟨by decide, by decide⟩
      refine lv_if_ne (tgt := 204) hx hb dX2_readField_189 (by decide) (fun c_787 => ?_) (fun c_787 => ?_)
      · have fc_787 := neq_f c_787
        subst hQ
        exact W.vret hx hb hr (fun t ht hW => ⟨⟨_, rfl, Or.inr (⟨x_784, h_785, x_761, h_762, (g.fcts [0, 2] rfl)⟩), q3_of g hK ht hW⟩, g.2.2.1.F ht⟩) g.2.2.1.2.2 dX2_readField_204
      · have fc_787 := eq_f c_787
        have b_788 : bd 1 0 x_761 := eqX fc_787 h_762 kb_0 (by decide)
        exact bd_no b_788 (by decide)
