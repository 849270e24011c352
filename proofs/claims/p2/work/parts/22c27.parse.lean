set_option maxHeartbeats 4000000 in
set_option maxRecDepth 100000 in
theorem r_X2_readAssignment_2 (l : Launch) (dC : Nat → ClassId) (dI : Nat → Nat → Nat) (L : List Nat) (kd : Nat → Nat) (tys : List (ClassId × FieldType)) (f0 : Nat → va_E) (sz : Nat) (hWT : WT L kd tys f0) (a0_ : Nat) (ma0_ : a0_ ∈ L) (ka0_ : kd a0_ = 2) (q0_ : Nat) (mq0_ : q0_ ∈ L) (kq0_ : kd q0_ = 8) (q1_ : Nat) (mq1_ : q1_ ∈ L) (kq1_ : kd q1_ = 5) (q2_ : Nat) (mq2_ : q2_ ∈ L) (kq2_ : kd q2_ = 0) (q3_ : Nat) (mq3_ : q3_ ∈ L) (kq3_ : kd q3_ = 7) (q4_ : Nat) (mq4_ : q4_ ∈ L) (kq4_ : kd q4_ = 9) (q7_ : Nat) (mq7_ : q7_ ∈ L) (kq7_ : kd q7_ = 7) (q8_ : Nat) (mq8_ : q8_ ∈ L) (kq8_ : kd q8_ = 9) (y0_ : Int32) (by0_ : bd 0 0 y0_) (hGeq2_ : eOK f0 q2_) (hfx : Fs L kd f0 [(2, 0, a0_, .ref q0_), (2, 1, a0_, .ref q1_), (2, 2, a0_, .ref q2_), (2, 3, a0_, .ref q3_), (2, 4, a0_, .ref q4_), (0, 0, q2_, .ref q0_), (0, 1, q2_, .ref q1_), (5, 0, q1_, .ref q7_), (5, 1, q1_, .ref q8_), (8, 8, q0_, .int y0_)]) : Met l yX2_readAssignment (.code yX2_readAssignment cX2_readAssignment 3 none :: lw_g) ({ frames := 4, cells := 0, slots := 0, locals := 97 }) (va_Pc [.ref a0_] (P3 (dC, dI) L tys f0 sz)) (va_Qv (fun (f : Nat → va_E) => (eOK f q2_ ∧ ∃ z0_ : Int32, bd 1 1201 z0_ ∧ ∃ z1_ : Int32, bd 0 0 z1_ ∧ ∃ z2_ : Int32, bd 1 2000 z2_ ∧ Fs L kd f [(8, 6, q0_, .int z0_), (8, 8, q0_, .int z1_), (7, 6, q3_, .int z2_), (0, 2, q2_, .ref q7_)]) ∨ (eOK f q2_ ∧ ∃ z0_ : Int32, bd 1201 1201 z0_ ∧ ∃ z1_ : Int32, bd 1 7 z1_ ∧ ∃ z2_ : Int32, bd 1 2000 z2_ ∧ Fs L kd f [(8, 6, q0_, .int z0_), (8, 8, q0_, .int z1_), (7, 6, q3_, .int z2_), (0, 2, q2_, .ref q7_)])) (Q3 (dC, dI) L kd tys [(0, 2), (0, 8), (0, 10), (0, 11), (0, 12), (0, 13), (7, 6), (7, 18), (8, 6), (8, 8), (8, 9)] [110, 111, 112, 113, 114, 115, 138, 139] f0 sz) (pA L sz)) 0 0 (pA L sz) := by
  refine Met.ofW (cc := cX2_readAssignment) (maxL := 3) (ret := none) (by decide) rfl ?_
  intro p e s m args below meth c s₁ B hml hv
  obtain ⟨rfl, hsz, hP, hK, hD0⟩ := hv
  have hx := B.exec
  have hb := B.bytes
  have hr := B.returns
  have hts := atoms_spec (ws := (.code yX2_readAssignment cX2_readAssignment 3 none :: lw_g)) B.pre
  have hown : s.vm.findClass RX2 = some m.cls := findClass_of_methodNamed B.named
  have hlocks := B.notSynchronized
  subst hsz
  have g : G3 (dC, dI) L kd tys s f0 [(0, 2), (0, 8), (0, 10), (0, 11), (0, 12), (0, 13), (7, 6), (7, 18), (8, 6), (8, 8), (8, 9)] [110, 111, 112, 113, 114, 115, 138, 139] f0 s.heap [] [(2, 0, a0_, .ref q0_), (2, 1, a0_, .ref q1_), (2, 2, a0_, .ref q2_), (2, 3, a0_, .ref q3_), (2, 4, a0_, .ref q4_), (0, 0, q2_, .ref q0_), (0, 1, q2_, .ref q1_), (5, 0, q1_, .ref q7_), (5, 1, q1_, .ref q8_), (8, 8, q0_, .int y0_)] := G3.start hP hD0 hWT hfx
  have hl := lv_entry ([.ref a0_]) (n := 3) (Nat.le_of_ble_eq_true rfl)
  rw [lg_entry_eq]
  generalize (lg_sl ([.ref a0_]) ++ List.replicate (3 - (lg_sl ([.ref a0_])).length) Slot.unset).toArray = ls at hl ⊢
  have hl : lv_has ls 3 [(0, .ref a0_)] := hl
  refine W_q (fun Q hQ => ?_)
  refine lv_aload_n hx hb dX2_readAssignment_0 rfl (lv_at hl 0 rfl) ?_
  refine g_geti (C := RX2) (T := TX2) (N := 16) hx hb hts (mc_ inX2) hown hK g ma0_ ka0_ (by decide) rfl 15 (by decide) rfl (hts _ (List.mem_cons_of_mem _ t_431)) (fun _ h9 => h9) rfl dX2_readAssignment_1 (fun x_1 bx_1 g => ?_)
  refine lv_istore_n (lv' := [(1, .int x_1), (0, .ref a0_)]) hx hb dX2_readAssignment_4 rfl hl (by decide) rfl (fun ls hl => ?_)
  refine lv_aload_n hx hb dX2_readAssignment_5 rfl (lv_at hl 1 rfl) ?_
  refine g_getk (C := RX2) (T := TX2) (N := 16) hx hb hts (mc_ inX2) hown hK g rfl 4 (by decide) rfl (hts _ (List.mem_cons_of_mem _ t_420)) (fun _ h9 => h9) 5 rfl dX2_readAssignment_6 ?_
  refine lv_iload_n hx hb dX2_readAssignment_9 rfl (lv_at hl 0 rfl) ?_
  have go_ := g
  refine g_calli (va_runV (As := [.int x_1]) (rest := []) ⟨hx, hb, hml, hown, hts⟩ (r_X9_isRow l dC dI L kd tys f0 s.heap.size g.2.2.2.1 q4_ mq4_ kq4_ x_1) (cwV 1 hts (gV_ t_1392 t_1257 t_1258 t_192 t_1259) rfl rfl rfl (by decide +kernel) ⟨(Nat.le_of_ble_eq_true rfl), (Nat.le_of_ble_eq_true rfl)⟩) (pre3V g hK mq4_ kq4_ (by decide) (q := (RX9, TX9, 13)) rfl) rfl rfl hl.1 rfl (lv_room (Nat.le_of_ble_eq_true rfl)) dX2_readAssignment_10 ⟨(Nat.le_of_ble_eq_true rfl), (Nat.le_of_ble_eq_true rfl)⟩) g hK (by decide) (by decide) (fx' := [(2, 15, a0_, .int x_1), (2, 0, a0_, .ref q0_), (2, 1, a0_, .ref q1_), (2, 2, a0_, .ref q2_), (2, 3, a0_, .ref q3_), (2, 4, a0_, .ref q4_), (0, 0, q2_, .ref q0_), (0, 1, q2_, .ref q1_), (5, 0, q1_, .ref q7_), (5, 1, q1_, .ref q8_), (8, 8, q0_, .int y0_)]) rfl (fun r_2 fr_2 H locs hp hMr_2 g => ?_)
  rcases hp with ⟨h_3, -⟩ | ⟨h_4, h_5, x_6, h_7, hF_8⟩
  · have hG_9 := eOK.frame hMr_2 go_.2.2.2.1 mq2_ kq2_ (by decide) (by decide) hGeq2_
    obtain rfl : r_2 = 0 := h_3
    refine lv_istore_n (lv' := [(2, .int 0), (1, .int x_1), (0, .ref a0_)]) hx hb dX2_readAssignment_13 rfl hl (by decide) rfl (fun ls hl => ?_)
    refine lv_iload_n hx hb dX2_readAssignment_14 rfl (lv_at hl 0 rfl) ?_
    refine lv_if_eq (tgt := 60) hx hb dX2_readAssignment_15 (by decide) (fun c_ => ?_) (fun c_ => absurd (by decide) c_)
    refine lv_aload_n hx hb dX2_readAssignment_60 rfl (lv_at hl 2 rfl) ?_
    refine g_getk (C := RX2) (T := TX2) (N := 16) hx hb hts (mc_ inX2) hown hK g rfl 0 (by decide) rfl (hts _ (List.mem_cons_of_mem _ t_416)) (fun _ h9 => h9) 1 rfl dX2_readAssignment_61 ?_
    refine lv_bipush (v := 61) hx hb dX2_readAssignment_64 (by decide) ?_
    have go_ := g
    refine g_callv (va_runV (As := [.int 61]) (rest := []) ⟨hx, hb, hml, hown, hts⟩ (r_X8_take l dC dI L kd tys fr_2 H.size g.2.2.2.1 q0_ mq0_ kq0_ 61 y0_ by0_ (g.fcts [10] rfl)) (cwV 1 hts (gV_ t_1098 t_1099 t_1100 t_184 t_1101) rfl rfl rfl (by decide +kernel) ⟨(Nat.le_of_ble_eq_true rfl), (Nat.le_of_ble_eq_true rfl)⟩) (pre3V g hK mq0_ kq0_ (by decide) (q := (RX8, TX8, 10)) rfl) rfl rfl hl.1 rfl (lv_room (Nat.le_of_ble_eq_true rfl)) dX2_readAssignment_66 ⟨(Nat.le_of_ble_eq_true rfl), (Nat.le_of_ble_eq_true rfl)⟩) g hK (by decide) (by decide) (fx' := [(2, 15, a0_, .int x_1), (2, 0, a0_, .ref q0_), (2, 1, a0_, .ref q1_), (2, 2, a0_, .ref q2_), (2, 3, a0_, .ref q3_), (2, 4, a0_, .ref q4_), (0, 0, q2_, .ref q0_), (0, 1, q2_, .ref q1_), (5, 0, q1_, .ref q7_), (5, 1, q1_, .ref q8_)]) rfl (fun fr_10 H locs hp hMr_10 g => ?_)
    rcases hp with ⟨x_11, h_12, x_13, h_14, hF_15⟩ | ⟨x_16, h_17, hF_18⟩
    · have hG_19 := eOK.frame hMr_10 go_.2.2.2.1 mq2_ kq2_ (by decide) (by decide) hG_9
      have g := g.more hF_15
      refine lv_aload_n hx hb dX2_readAssignment_69 rfl (lv_at hl 2 rfl) ?_
      refine g_getk (C := RX2) (T := TX2) (N := 16) hx hb hts (mc_ inX2) hown hK g rfl 2 (by decide) rfl (hts _ (List.mem_cons_of_mem _ t_418)) (fun _ h9 => h9) 5 rfl dX2_readAssignment_70 ?_
      have go_ := g
      refine g_callv (va_runV (As := []) (rest := []) ⟨hx, hb, hml, hown, hts⟩ (r_X0_read l dC dI L kd tys fr_10 H.size g.2.2.2.1 q2_ mq2_ kq2_ q0_ mq0_ kq0_ q1_ mq1_ kq1_ q7_ mq7_ kq7_ q8_ mq8_ kq8_ x_13 h_14 hG_19 (g.fcts [8, 9, 10, 11, 1] rfl)) (cwV 0 hts (gV_ t_1182 t_1183 t_1184 t_190 t_1185) rfl rfl rfl (by decide +kernel) ⟨(Nat.le_of_ble_eq_true rfl), (Nat.le_of_ble_eq_true rfl)⟩) (pre3V g hK mq2_ kq2_ (by decide) (q := (RX0, TX0, 14)) rfl) rfl rfl hl.1 rfl (lv_room (Nat.le_of_ble_eq_true rfl)) dX2_readAssignment_73 ⟨(Nat.le_of_ble_eq_true rfl), (Nat.le_of_ble_eq_true rfl)⟩) g hK (by decide) (by decide) (fx' := [(2, 15, a0_, .int x_1), (2, 0, a0_, .ref q0_), (2, 1, a0_, .ref q1_), (2, 2, a0_, .ref q2_), (2, 3, a0_, .ref q3_), (2, 4, a0_, .ref q4_), (0, 0, q2_, .ref q0_), (0, 1, q2_, .ref q1_), (5, 0, q1_, .ref q7_), (5, 1, q1_, .ref q8_)]) rfl (fun fr_20 H locs hp hMr_20 g => ?_)
      rcases hp with ⟨hG_21, x_22, h_23, hF_24⟩ | ⟨hG_25, x_26, h_27, x_28, h_29, hF_30⟩
      · have g := g.more hF_24
        refine lv_iload_n hx hb dX2_readAssignment_76 rfl (lv_at hl 1 rfl) ?_
        refine lv_bipush (v := 16) hx hb dX2_readAssignment_77 (by decide) ?_
        have kb_16 : bd 16 16 (16 : Int32) := ⟨by decide, by decide⟩
        refine lv_icmp_lt (tgt := 98) hx hb dX2_readAssignment_79 (by decide) (fun c_31 => ?_) (fun c_31 => ?_)
        · have fc_31 := lt_f c_31
          have b_32 : bd (-1) 15 x_1 := ltL fc_31 bx_1 kb_16 (by decide)
          refine lv_aload_n hx hb dX2_readAssignment_98 rfl (lv_at hl 2 rfl) ?_
          refine g_getk (C := RX2) (T := TX2) (N := 16) hx hb hts (mc_ inX2) hown hK g rfl 3 (by decide) rfl (hts _ (List.mem_cons_of_mem _ t_419)) (fun _ h9 => h9) 6 rfl dX2_readAssignment_99 ?_
          refine lv_iload_n hx hb dX2_readAssignment_102 rfl (lv_at hl 0 rfl) ?_
          refine lv_if_eq (tgt := 111) hx hb dX2_readAssignment_103 (by decide) (fun c_ => ?_) (fun c_ => absurd (by decide) c_)
          refine lv_bipush (v := 21) hx hb dX2_readAssignment_111 (by decide) ?_
          refine lv_aload_n hx hb dX2_readAssignment_113 rfl (lv_at hl 2 rfl) ?_
          refine g_getk (C := RX2) (T := TX2) (N := 16) hx hb hts (mc_ inX2) hown hK g rfl 4 (by decide) rfl (hts _ (List.mem_cons_of_mem _ t_420)) (fun _ h9 => h9) 7 rfl dX2_readAssignment_114 ?_
          refine lv_iload_n hx hb dX2_readAssignment_117 rfl (lv_at hl 1 rfl) ?_
          have go_ := g
          refine g_calli (va_runV (As := [.int x_1]) (rest := [.int 21, .ref q3_]) ⟨hx, hb, hml, hown, hts⟩ (r_X9_spanOf l dC dI L kd tys fr_20 H.size g.2.2.2.1 q4_ mq4_ kq4_ x_1) (cwV 1 hts (gV_ t_1401 t_1265 t_1266 t_192 t_1267) rfl rfl rfl (by decide +kernel) ⟨(Nat.le_of_ble_eq_true rfl), (Nat.le_of_ble_eq_true rfl)⟩) (pre3V g hK mq4_ kq4_ (by decide) (q := (RX9, TX9, 13)) rfl) rfl rfl hl.1 rfl (lv_room (Nat.le_of_ble_eq_true rfl)) dX2_readAssignment_118 ⟨(Nat.le_of_ble_eq_true rfl), (Nat.le_of_ble_eq_true rfl)⟩) g hK (by decide) (by decide) (fx' := [(0, 2, q2_, .ref q7_), (8, 8, q0_, .int x_22), (2, 15, a0_, .int x_1), (2, 0, a0_, .ref q0_), (2, 1, a0_, .ref q1_), (2, 2, a0_, .ref q2_), (2, 3, a0_, .ref q3_), (2, 4, a0_, .ref q4_), (0, 0, q2_, .ref q0_), (0, 1, q2_, .ref q1_), (5, 0, q1_, .ref q7_), (5, 1, q1_, .ref q8_)]) rfl (fun r_33 fr_33 H locs hp hMr_33 g => ?_)
          obtain ⟨h_34, -⟩ := hp
          have hG_35 := eOK.frame hMr_33 go_.2.2.2.1 mq2_ kq2_ (by decide) (by decide) hG_21
          have go_ := g
          refine g_callv (va_runV (As := [.int 21, .int r_33]) (rest := []) ⟨hx, hb, hml, hown, hts⟩ (r_X7_emit l dC dI L kd tys fr_33 H.size g.2.2.2.1 q3_ mq3_ kq3_ 21 r_33) (cwV 2 hts (gV_ t_1301 t_1204 t_1205 t_191 t_1206) rfl rfl rfl (by decide +kernel) ⟨(Nat.le_of_ble_eq_true rfl), (Nat.le_of_ble_eq_true rfl)⟩) (pre3V g hK mq3_ kq3_ (by decide) (q := (RX7, TX7, 19)) rfl) rfl rfl hl.1 rfl (lv_room (Nat.le_of_ble_eq_true rfl)) dX2_readAssignment_121 ⟨(Nat.le_of_ble_eq_true rfl), (Nat.le_of_ble_eq_true rfl)⟩) g hK (by decide) (by decide) (fx' := [(0, 2, q2_, .ref q7_), (8, 8, q0_, .int x_22), (2, 15, a0_, .int x_1), (2, 0, a0_, .ref q0_), (2, 1, a0_, .ref q1_), (2, 2, a0_, .ref q2_), (2, 3, a0_, .ref q3_), (2, 4, a0_, .ref q4_), (0, 0, q2_, .ref q0_), (0, 1, q2_, .ref q1_), (5, 0, q1_, .ref q7_), (5, 1, q1_, .ref q8_)]) rfl (fun fr_36 H locs hp hMr_36 g => ?_)
          obtain ⟨x_37, h_38, hF_39⟩ := hp
          have hG_40 := eOK.frame hMr_36 go_.2.2.2.1 mq2_ kq2_ (by decide) (by decide) hG_35
          have g := g.more hF_39
          refine lv_aload_n hx hb dX2_readAssignment_124 rfl (lv_at hl 2 rfl) ?_
          refine g_getk (C := RX2) (T := TX2) (N := 16) hx hb hts (mc_ inX2) hown hK g rfl 0 (by decide) rfl (hts _ (List.mem_cons_of_mem _ t_416)) (fun _ h9 => h9) 4 rfl dX2_readAssignment_125 ?_
          refine lv_bipush (v := 59) hx hb dX2_readAssignment_128 (by decide) ?_
          have go_ := g
          refine g_callv (va_runV (As := [.int 59]) (rest := []) ⟨hx, hb, hml, hown, hts⟩ (r_X8_take l dC dI L kd tys fr_36 H.size g.2.2.2.1 q0_ mq0_ kq0_ 59 x_22 h_23 (g.fcts [2] rfl)) (cwV 1 hts (gV_ t_1098 t_1099 t_1100 t_184 t_1101) rfl rfl rfl (by decide +kernel) ⟨(Nat.le_of_ble_eq_true rfl), (Nat.le_of_ble_eq_true rfl)⟩) (pre3V g hK mq0_ kq0_ (by decide) (q := (RX8, TX8, 10)) rfl) rfl rfl hl.1 rfl (lv_room (Nat.le_of_ble_eq_true rfl)) dX2_readAssignment_130 ⟨(Nat.le_of_ble_eq_true rfl), (Nat.le_of_ble_eq_true rfl)⟩) g hK (by decide) (by decide) (fx' := [(7, 6, q3_, .int x_37), (0, 2, q2_, .ref q7_), (2, 15, a0_, .int x_1), (2, 0, a0_, .ref q0_), (2, 1, a0_, .ref q1_), (2, 2, a0_, .ref q2_), (2, 3, a0_, .ref q3_), (2, 4, a0_, .ref q4_), (0, 0, q2_, .ref q0_), (0, 1, q2_, .ref q1_), (5, 0, q1_, .ref q7_), (5, 1, q1_, .ref q8_)]) rfl (fun fr_41 H locs hp hMr_41 g => ?_)
          rcases hp with ⟨x_42, h_43, x_44, h_45, hF_46⟩ | ⟨x_47, h_48, hF_49⟩
          · have hG_50 := eOK.frame hMr_41 go_.2.2.2.1 mq2_ kq2_ (by decide) (by decide) hG_40
            have g := g.more hF_46
            subst hQ
            exact W.vret hx hb hr (fun t ht hW => ⟨⟨_, rfl, Or.inl ⟨hG_50, x_42, h_43, x_44, h_45, x_37, h_38, (g.fcts [0, 1, 2, 3] rfl)⟩, q3_of g hK ht hW⟩, g.2.2.1.F ht⟩) g.2.2.1.2.2 dX2_readAssignment_133
          · have hG_51 := eOK.frame hMr_41 go_.2.2.2.1 mq2_ kq2_ (by decide) (by decide) hG_40
            have g := g.more hF_49
            have kb_1201 : bd 1201 1201 (1201 : Int32) := ⟨by decide, by decide⟩
            subst hQ
            exact W.vret hx hb hr (fun t ht hW => ⟨⟨_, rfl, Or.inr (⟨hG_51, 1201, kb_1201, x_47, h_48, x_37, h_38, (g.fcts [0, 1, 2, 3] rfl)⟩), q3_of g hK ht hW⟩, g.2.2.1.F ht⟩) g.2.2.1.2.2 dX2_readAssignment_133
        · have fc_31 := nlt_f c_31
          have b_52 : bd 16 26 x_1 := leR fc_31 kb_16 bx_1 (by decide)
          refine lv_aload_n hx hb dX2_readAssignment_82 rfl (lv_at hl 2 rfl) ?_
          refine g_getk (C := RX2) (T := TX2) (N := 16) hx hb hts (mc_ inX2) hown hK g rfl 3 (by decide) rfl (hts _ (List.mem_cons_of_mem _ t_419)) (fun _ h9 => h9) 6 rfl dX2_readAssignment_83 ?_
          refine lv_bipush (v := 20) hx hb dX2_readAssignment_86 (by decide) ?_
          refine lv_iload_n hx hb dX2_readAssignment_88 rfl (lv_at hl 1 rfl) ?_
          refine lv_bipush (v := 16) hx hb dX2_readAssignment_89 (by decide) ?_
          refine lv_isub hx hb dX2_readAssignment_91 ?_
          refine lv_topi (fun y_53 ey_53 => ?_)
          have ty_53 := sub_bd ey_53 b_52 kb_16 (by decide)
          have b_54 : bd 0 10 y_53 := sub_rg ty_53 b_52 kb_16 (by decide)
          have go_ := g
          refine g_callv (va_runV (As := [.int 20, .int y_53]) (rest := []) ⟨hx, hb, hml, hown, hts⟩ (r_X7_emit l dC dI L kd tys fr_20 H.size g.2.2.2.1 q3_ mq3_ kq3_ 20 y_53) (cwV 2 hts (gV_ t_1301 t_1204 t_1205 t_191 t_1206) rfl rfl rfl (by decide +kernel) ⟨(Nat.le_of_ble_eq_true rfl), (Nat.le_of_ble_eq_true rfl)⟩) (pre3V g hK mq3_ kq3_ (by decide) (q := (RX7, TX7, 19)) rfl) rfl rfl hl.1 rfl (lv_room (Nat.le_of_ble_eq_true rfl)) dX2_readAssignment_92 ⟨(Nat.le_of_ble_eq_true rfl), (Nat.le_of_ble_eq_true rfl)⟩) g hK (by decide) (by decide) (fx' := [(0, 2, q2_, .ref q7_), (8, 8, q0_, .int x_22), (2, 15, a0_, .int x_1), (2, 0, a0_, .ref q0_), (2, 1, a0_, .ref q1_), (2, 2, a0_, .ref q2_), (2, 3, a0_, .ref q3_), (2, 4, a0_, .ref q4_), (0, 0, q2_, .ref q0_), (0, 1, q2_, .ref q1_), (5, 0, q1_, .ref q7_), (5, 1, q1_, .ref q8_)]) rfl (fun fr_55 H locs hp hMr_55 g => ?_)
          obtain ⟨x_56, h_57, hF_58⟩ := hp
          have hG_59 := eOK.frame hMr_55 go_.2.2.2.1 mq2_ kq2_ (by decide) (by decide) hG_21
          have g := g.more hF_58
          refine lv_goto (tgt := 124) hx hb dX2_readAssignment_95 (by decide) ?_
          refine lv_aload_n hx hb dX2_readAssignment_124 rfl (lv_at hl 2 rfl) ?_
          refine g_getk (C := RX2) (T := TX2) (N := 16) hx hb hts (mc_ inX2) hown hK g rfl 0 (by decide) rfl (hts _ (List.mem_cons_of_mem _ t_416)) (fun _ h9 => h9) 4 rfl dX2_readAssignment_125 ?_
          refine lv_bipush (v := 59) hx hb dX2_readAssignment_128 (by decide) ?_
          have go_ := g
          refine g_callv (va_runV (As := [.int 59]) (rest := []) ⟨hx, hb, hml, hown, hts⟩ (r_X8_take l dC dI L kd tys fr_55 H.size g.2.2.2.1 q0_ mq0_ kq0_ 59 x_22 h_23 (g.fcts [2] rfl)) (cwV 1 hts (gV_ t_1098 t_1099 t_1100 t_184 t_1101) rfl rfl rfl (by decide +kernel) ⟨(Nat.le_of_ble_eq_true rfl), (Nat.le_of_ble_eq_true rfl)⟩) (pre3V g hK mq0_ kq0_ (by decide) (q := (RX8, TX8, 10)) rfl) rfl rfl hl.1 rfl (lv_room (Nat.le_of_ble_eq_true rfl)) dX2_readAssignment_130 ⟨(Nat.le_of_ble_eq_true rfl), (Nat.le_of_ble_eq_true rfl)⟩) g hK (by decide) (by decide) (fx' := [(7, 6, q3_, .int x_56), (0, 2, q2_, .ref q7_), (2, 15, a0_, .int x_1), (2, 0, a0_, .ref q0_), (2, 1, a0_, .ref q1_), (2, 2, a0_, .ref q2_), (2, 3, a0_, .ref q3_), (2, 4, a0_, .ref q4_), (0, 0, q2_, .ref q0_), (0, 1, q2_, .ref q1_), (5, 0, q1_, .ref q7_), (5, 1, q1_, .ref q8_)]) rfl (fun fr_60 H locs hp hMr_60 g => ?_)
          rcases hp with ⟨x_61, h_62, x_63, h_64, hF_65⟩ | ⟨x_66, h_67, hF_68⟩
          · have hG_69 := eOK.frame hMr_60 go_.2.2.2.1 mq2_ kq2_ (by decide) (by decide) hG_59
            have g := g.more hF_65
            subst hQ
            exact W.vret hx hb hr (fun t ht hW => ⟨⟨_, rfl, Or.inl ⟨hG_69, x_61, h_62, x_63, h_64, x_56, h_57, (g.fcts [0, 1, 2, 3] rfl)⟩, q3_of g hK ht hW⟩, g.2.2.1.F ht⟩) g.2.2.1.2.2 dX2_readAssignment_133
          · have hG_70 := eOK.frame hMr_60 go_.2.2.2.1 mq2_ kq2_ (by decide) (by decide) hG_59
            have g := g.more hF_68
            have kb_1201 : bd 1201 1201 (1201 : Int32) := ⟨by decide, by decide⟩
            subst hQ
            exact W.vret hx hb hr (fun t ht hW => ⟨⟨_, rfl, Or.inr (⟨hG_70, 1201, kb_1201, x_66, h_67, x_56, h_57, (g.fcts [0, 1, 2, 3] rfl)⟩), q3_of g hK ht hW⟩, g.2.2.1.F ht⟩) g.2.2.1.2.2 dX2_readAssignment_133
      · have g := g.more hF_30
        refine lv_iload_n hx hb dX2_readAssignment_76 rfl (lv_at hl 1 rfl) ?_
        refine lv_bipush (v := 16) hx hb dX2_readAssignment_77 (by decide) ?_
        have kb_16 : bd 16 16 (16 : Int32) := ⟨by decide, by decide⟩
        refine lv_icmp_lt (tgt := 98) hx hb dX2_readAssignment_79 (by decide) (fun c_71 => ?_) (fun c_71 => ?_)
        · have fc_71 := lt_f c_71
          have b_72 : bd (-1) 15 x_1 := ltL fc_71 bx_1 kb_16 (by decide)
          refine lv_aload_n hx hb dX2_readAssignment_98 rfl (lv_at hl 2 rfl) ?_
          refine g_getk (C := RX2) (T := TX2) (N := 16) hx hb hts (mc_ inX2) hown hK g rfl 3 (by decide) rfl (hts _ (List.mem_cons_of_mem _ t_419)) (fun _ h9 => h9) 7 rfl dX2_readAssignment_99 ?_
          refine lv_iload_n hx hb dX2_readAssignment_102 rfl (lv_at hl 0 rfl) ?_
          refine lv_if_eq (tgt := 111) hx hb dX2_readAssignment_103 (by decide) (fun c_ => ?_) (fun c_ => absurd (by decide) c_)
          refine lv_bipush (v := 21) hx hb dX2_readAssignment_111 (by decide) ?_
          refine lv_aload_n hx hb dX2_readAssignment_113 rfl (lv_at hl 2 rfl) ?_
          refine g_getk (C := RX2) (T := TX2) (N := 16) hx hb hts (mc_ inX2) hown hK g rfl 4 (by decide) rfl (hts _ (List.mem_cons_of_mem _ t_420)) (fun _ h9 => h9) 8 rfl dX2_readAssignment_114 ?_
          refine lv_iload_n hx hb dX2_readAssignment_117 rfl (lv_at hl 1 rfl) ?_
          have go_ := g
          refine g_calli (va_runV (As := [.int x_1]) (rest := [.int 21, .ref q3_]) ⟨hx, hb, hml, hown, hts⟩ (r_X9_spanOf l dC dI L kd tys fr_20 H.size g.2.2.2.1 q4_ mq4_ kq4_ x_1) (cwV 1 hts (gV_ t_1401 t_1265 t_1266 t_192 t_1267) rfl rfl rfl (by decide +kernel) ⟨(Nat.le_of_ble_eq_true rfl), (Nat.le_of_ble_eq_true rfl)⟩) (pre3V g hK mq4_ kq4_ (by decide) (q := (RX9, TX9, 13)) rfl) rfl rfl hl.1 rfl (lv_room (Nat.le_of_ble_eq_true rfl)) dX2_readAssignment_118 ⟨(Nat.le_of_ble_eq_true rfl), (Nat.le_of_ble_eq_true rfl)⟩) g hK (by decide) (by decide) (fx' := [(8, 6, q0_, .int x_26), (8, 8, q0_, .int x_28), (0, 2, q2_, .ref q7_), (2, 15, a0_, .int x_1), (2, 0, a0_, .ref q0_), (2, 1, a0_, .ref q1_), (2, 2, a0_, .ref q2_), (2, 3, a0_, .ref q3_), (2, 4, a0_, .ref q4_), (0, 0, q2_, .ref q0_), (0, 1, q2_, .ref q1_), (5, 0, q1_, .ref q7_), (5, 1, q1_, .ref q8_)]) rfl (fun r_73 fr_73 H locs hp hMr_73 g => ?_)
          obtain ⟨h_74, -⟩ := hp
          have hG_75 := eOK.frame hMr_73 go_.2.2.2.1 mq2_ kq2_ (by decide) (by decide) hG_25
          have go_ := g
          refine g_callv (va_runV (As := [.int 21, .int r_73]) (rest := []) ⟨hx, hb, hml, hown, hts⟩ (r_X7_emit l dC dI L kd tys fr_73 H.size g.2.2.2.1 q3_ mq3_ kq3_ 21 r_73) (cwV 2 hts (gV_ t_1301 t_1204 t_1205 t_191 t_1206) rfl rfl rfl (by decide +kernel) ⟨(Nat.le_of_ble_eq_true rfl), (Nat.le_of_ble_eq_true rfl)⟩) (pre3V g hK mq3_ kq3_ (by decide) (q := (RX7, TX7, 19)) rfl) rfl rfl hl.1 rfl (lv_room (Nat.le_of_ble_eq_true rfl)) dX2_readAssignment_121 ⟨(Nat.le_of_ble_eq_true rfl), (Nat.le_of_ble_eq_true rfl)⟩) g hK (by decide) (by decide) (fx' := [(8, 6, q0_, .int x_26), (8, 8, q0_, .int x_28), (0, 2, q2_, .ref q7_), (2, 15, a0_, .int x_1), (2, 0, a0_, .ref q0_), (2, 1, a0_, .ref q1_), (2, 2, a0_, .ref q2_), (2, 3, a0_, .ref q3_), (2, 4, a0_, .ref q4_), (0, 0, q2_, .ref q0_), (0, 1, q2_, .ref q1_), (5, 0, q1_, .ref q7_), (5, 1, q1_, .ref q8_)]) rfl (fun fr_76 H locs hp hMr_76 g => ?_)
          obtain ⟨x_77, h_78, hF_79⟩ := hp
          have hG_80 := eOK.frame hMr_76 go_.2.2.2.1 mq2_ kq2_ (by decide) (by decide) hG_75
          have g := g.more hF_79
          refine lv_aload_n hx hb dX2_readAssignment_124 rfl (lv_at hl 2 rfl) ?_
          refine g_getk (C := RX2) (T := TX2) (N := 16) hx hb hts (mc_ inX2) hown hK g rfl 0 (by decide) rfl (hts _ (List.mem_cons_of_mem _ t_416)) (fun _ h9 => h9) 5 rfl dX2_readAssignment_125 ?_
          refine lv_bipush (v := 59) hx hb dX2_readAssignment_128 (by decide) ?_
          have go_ := g
          refine g_callv (va_runV (As := [.int 59]) (rest := []) ⟨hx, hb, hml, hown, hts⟩ (r_X8_take_2 l dC dI L kd tys fr_76 H.size g.2.2.2.1 q0_ mq0_ kq0_ 59 x_26 h_27 x_28 h_29 (g.fcts [1, 2] rfl)) (cwV 1 hts (gV_ t_1098 t_1099 t_1100 t_184 t_1101) rfl rfl rfl (by decide +kernel) ⟨(Nat.le_of_ble_eq_true rfl), (Nat.le_of_ble_eq_true rfl)⟩) (pre3V g hK mq0_ kq0_ (by decide) (q := (RX8, TX8, 10)) rfl) rfl rfl hl.1 rfl (lv_room (Nat.le_of_ble_eq_true rfl)) dX2_readAssignment_130 ⟨(Nat.le_of_ble_eq_true rfl), (Nat.le_of_ble_eq_true rfl)⟩) g hK (by decide) (by decide) (fx' := [(7, 6, q3_, .int x_77), (8, 8, q0_, .int x_28), (0, 2, q2_, .ref q7_), (2, 15, a0_, .int x_1), (2, 0, a0_, .ref q0_), (2, 1, a0_, .ref q1_), (2, 2, a0_, .ref q2_), (2, 3, a0_, .ref q3_), (2, 4, a0_, .ref q4_), (0, 0, q2_, .ref q0_), (0, 1, q2_, .ref q1_), (5, 0, q1_, .ref q7_), (5, 1, q1_, .ref q8_)]) rfl (fun fr_81 H locs hp hMr_81 g => ?_)
          obtain ⟨x_82, h_83, hF_84⟩ := hp
          have hG_85 := eOK.frame hMr_81 go_.2.2.2.1 mq2_ kq2_ (by decide) (by decide) hG_80
          have g := g.more hF_84
          subst hQ
          exact W.vret hx hb hr (fun t ht hW => ⟨⟨_, rfl, Or.inr (⟨hG_85, x_82, h_83, x_28, h_29, x_77, h_78, (g.fcts [0, 2, 1, 3] rfl)⟩), q3_of g hK ht hW⟩, g.2.2.1.F ht⟩) g.2.2.1.2.2 dX2_readAssignment_133
        · have fc_71 := nlt_f c_71
          have b_86 : bd 16 26 x_1 := leR fc_71 kb_16 bx_1 (by decide)
          refine lv_aload_n hx hb dX2_readAssignment_82 rfl (lv_at hl 2 rfl) ?_
          refine g_getk (C := RX2) (T := TX2) (N := 16) hx hb hts (mc_ inX2) hown hK g rfl 3 (by decide) rfl (hts _ (List.mem_cons_of_mem _ t_419)) (fun _ h9 => h9) 7 rfl dX2_readAssignment_83 ?_
          refine lv_bipush (v := 20) hx hb dX2_readAssignment_86 (by decide) ?_
          refine lv_iload_n hx hb dX2_readAssignment_88 rfl (lv_at hl 1 rfl) ?_
          refine lv_bipush (v := 16) hx hb dX2_readAssignment_89 (by decide) ?_
          refine lv_isub hx hb dX2_readAssignment_91 ?_
          refine lv_topi (fun y_87 ey_87 => ?_)
          have ty_87 := sub_bd ey_87 b_86 kb_16 (by decide)
          have b_88 : bd 0 10 y_87 := sub_rg ty_87 b_86 kb_16 (by decide)
          have go_ := g
          refine g_callv (va_runV (As := [.int 20, .int y_87]) (rest := []) ⟨hx, hb, hml, hown, hts⟩ (r_X7_emit l dC dI L kd tys fr_20 H.size g.2.2.2.1 q3_ mq3_ kq3_ 20 y_87) (cwV 2 hts (gV_ t_1301 t_1204 t_1205 t_191 t_1206) rfl rfl rfl (by decide +kernel) ⟨(Nat.le_of_ble_eq_true rfl), (Nat.le_of_ble_eq_true rfl)⟩) (pre3V g hK mq3_ kq3_ (by decide) (q := (RX7, TX7, 19)) rfl) rfl rfl hl.1 rfl (lv_room (Nat.le_of_ble_eq_true rfl)) dX2_readAssignment_92 ⟨(Nat.le_of_ble_eq_true rfl), (Nat.le_of_ble_eq_true rfl)⟩) g hK (by decide) (by decide) (fx' := [(8, 6, q0_, .int x_26), (8, 8, q0_, .int x_28), (0, 2, q2_, .ref q7_), (2, 15, a0_, .int x_1), (2, 0, a0_, .ref q0_), (2, 1, a0_, .ref q1_), (2, 2, a0_, .ref q2_), (2, 3, a0_, .ref q3_), (2, 4, a0_, .ref q4_), (0, 0, q2_, .ref q0_), (0, 1, q2_, .ref q1_), (5, 0, q1_, .ref q7_), (5, 1, q1_, .ref q8_)]) rfl (fun fr_89 H locs hp hMr_89 g => ?_)
          obtain ⟨x_90, h_91, hF_92⟩ := hp
          have hG_93 := eOK.frame hMr_89 go_.2.2.2.1 mq2_ kq2_ (by decide) (by decide) hG_25
          have g := g.more hF_92
          refine lv_goto (tgt := 124) hx hb dX2_readAssignment_95 (by decide) ?_
          refine lv_aload_n hx hb dX2_readAssignment_124 rfl (lv_at hl 2 rfl) ?_
          refine g_getk (C := RX2) (T := TX2) (N := 16) hx hb hts (mc_ inX2) hown hK g rfl 0 (by decide) rfl (hts _ (List.mem_cons_of_mem _ t_416)) (fun _ h9 => h9) 5 rfl dX2_readAssignment_125 ?_
          refine lv_bipush (v := 59) hx hb dX2_readAssignment_128 (by decide) ?_
          have go_ := g
          refine g_callv (va_runV (As := [.int 59]) (rest := []) ⟨hx, hb, hml, hown, hts⟩ (r_X8_take_2 l dC dI L kd tys fr_89 H.size g.2.2.2.1 q0_ mq0_ kq0_ 59 x_26 h_27 x_28 h_29 (g.fcts [1, 2] rfl)) (cwV 1 hts (gV_ t_1098 t_1099 t_1100 t_184 t_1101) rfl rfl rfl (by decide +kernel) ⟨(Nat.le_of_ble_eq_true rfl), (Nat.le_of_ble_eq_true rfl)⟩) (pre3V g hK mq0_ kq0_ (by decide) (q := (RX8, TX8, 10)) rfl) rfl rfl hl.1 rfl (lv_room (Nat.le_of_ble_eq_true rfl)) dX2_readAssignment_130 ⟨(Nat.le_of_ble_eq_true rfl), (Nat.le_of_ble_eq_true rfl)⟩) g hK (by decide) (by decide) (fx' := [(7, 6, q3_, .int x_90), (8, 8, q0_, .int x_28), (0, 2, q2_, .ref q7_), (2, 15, a0_, .int x_1), (2, 0, a0_, .ref q0_), (2, 1, a0_, .ref q1_), (2, 2, a0_, .ref q2_), (2, 3, a0_, .ref q3_), (2, 4, a0_, .ref q4_), (0, 0, q2_, .ref q0_), (0, 1, q2_, .ref q1_), (5, 0, q1_, .ref q7_), (5, 1, q1_, .ref q8_)]) rfl (fun fr_94 H locs hp hMr_94 g => ?_)
          obtain ⟨x_95, h_96, hF_97⟩ := hp
          have hG_98 := eOK.frame hMr_94 go_.2.2.2.1 mq2_ kq2_ (by decide) (by decide) hG_93
          have g := g.more hF_97
          subst hQ
          exact W.vret hx hb hr (fun t ht hW => ⟨⟨_, rfl, Or.inr (⟨hG_98, x_95, h_96, x_28, h_29, x_90, h_91, (g.fcts [0, 2, 1, 3] rfl)⟩), q3_of g hK ht hW⟩, g.2.2.1.F ht⟩) g.2.2.1.2.2 dX2_readAssignment_133
    · have hG_99 := eOK.frame hMr_10 go_.2.2.2.1 mq2_ kq2_ (by decide) (by decide) hG_9
      have g := g.more hF_18
      refine lv_aload_n hx hb dX2_readAssignment_69 rfl (lv_at hl 2 rfl) ?_
      refine g_getk (C := RX2) (T := TX2) (N := 16) hx hb hts (mc_ inX2) hown hK g rfl 2 (by decide) rfl (hts _ (List.mem_cons_of_mem _ t_418)) (fun _ h9 => h9) 5 rfl dX2_readAssignment_70 ?_
      have kb_1201 : bd 1201 1201 (1201 : Int32) := ⟨by decide, by decide⟩
      have go_ := g
      refine g_callv (va_runV (As := []) (rest := []) ⟨hx, hb, hml, hown, hts⟩ (r_X0_read_2 l dC dI L kd tys fr_10 H.size g.2.2.2.1 q2_ mq2_ kq2_ q0_ mq0_ kq0_ q1_ mq1_ kq1_ q7_ mq7_ kq7_ q8_ mq8_ kq8_ 1201 kb_1201 x_16 h_17 hG_99 (g.fcts [8, 9, 10, 11, 0, 1] rfl)) (cwV 0 hts (gV_ t_1182 t_1183 t_1184 t_190 t_1185) rfl rfl rfl (by decide +kernel) ⟨(Nat.le_of_ble_eq_true rfl), (Nat.le_of_ble_eq_true rfl)⟩) (pre3V g hK mq2_ kq2_ (by decide) (q := (RX0, TX0, 14)) rfl) rfl rfl hl.1 rfl (lv_room (Nat.le_of_ble_eq_true rfl)) dX2_readAssignment_73 ⟨(Nat.le_of_ble_eq_true rfl), (Nat.le_of_ble_eq_true rfl)⟩) g hK (by decide) (by decide) (fx' := [(8, 6, q0_, .int 1201), (8, 8, q0_, .int x_16), (2, 15, a0_, .int x_1), (2, 0, a0_, .ref q0_), (2, 1, a0_, .ref q1_), (2, 2, a0_, .ref q2_), (2, 3, a0_, .ref q3_), (2, 4, a0_, .ref q4_), (0, 0, q2_, .ref q0_), (0, 1, q2_, .ref q1_), (5, 0, q1_, .ref q7_), (5, 1, q1_, .ref q8_)]) rfl (fun fr_100 H locs hp hMr_100 g => ?_)
      have hF_101 := hp
      have hG_102 := eOK.frame hMr_100 go_.2.2.2.1 mq2_ kq2_ (by decide) (by decide) hG_99
      have g := g.more hF_101
      refine lv_iload_n hx hb dX2_readAssignment_76 rfl (lv_at hl 1 rfl) ?_
      refine lv_bipush (v := 16) hx hb dX2_readAssignment_77 (by decide) ?_
      have kb_16 : bd 16 16 (16 : Int32) := ⟨by decide, by decide⟩
      refine lv_icmp_lt (tgt := 98) hx hb dX2_readAssignment_79 (by decide) (fun c_103 => ?_) (fun c_103 => ?_)
      · have fc_103 := lt_f c_103
        have b_104 : bd (-1) 15 x_1 := ltL fc_103 bx_1 kb_16 (by decide)
        refine lv_aload_n hx hb dX2_readAssignment_98 rfl (lv_at hl 2 rfl) ?_
        refine g_getk (C := RX2) (T := TX2) (N := 16) hx hb hts (mc_ inX2) hown hK g rfl 3 (by decide) rfl (hts _ (List.mem_cons_of_mem _ t_419)) (fun _ h9 => h9) 12 rfl dX2_readAssignment_99 ?_
        refine lv_iload_n hx hb dX2_readAssignment_102 rfl (lv_at hl 0 rfl) ?_
        refine lv_if_eq (tgt := 111) hx hb dX2_readAssignment_103 (by decide) (fun c_ => ?_) (fun c_ => absurd (by decide) c_)
        refine lv_bipush (v := 21) hx hb dX2_readAssignment_111 (by decide) ?_
        refine lv_aload_n hx hb dX2_readAssignment_113 rfl (lv_at hl 2 rfl) ?_
        refine g_getk (C := RX2) (T := TX2) (N := 16) hx hb hts (mc_ inX2) hown hK g rfl 4 (by decide) rfl (hts _ (List.mem_cons_of_mem _ t_420)) (fun _ h9 => h9) 13 rfl dX2_readAssignment_114 ?_
        refine lv_iload_n hx hb dX2_readAssignment_117 rfl (lv_at hl 1 rfl) ?_
        have go_ := g
        refine g_calli (va_runV (As := [.int x_1]) (rest := [.int 21, .ref q3_]) ⟨hx, hb, hml, hown, hts⟩ (r_X9_spanOf l dC dI L kd tys fr_100 H.size g.2.2.2.1 q4_ mq4_ kq4_ x_1) (cwV 1 hts (gV_ t_1401 t_1265 t_1266 t_192 t_1267) rfl rfl rfl (by decide +kernel) ⟨(Nat.le_of_ble_eq_true rfl), (Nat.le_of_ble_eq_true rfl)⟩) (pre3V g hK mq4_ kq4_ (by decide) (q := (RX9, TX9, 13)) rfl) rfl rfl hl.1 rfl (lv_room (Nat.le_of_ble_eq_true rfl)) dX2_readAssignment_118 ⟨(Nat.le_of_ble_eq_true rfl), (Nat.le_of_ble_eq_true rfl)⟩) g hK (by decide) (by decide) (fx' := [(0, 13, q2_, .int 0), (0, 12, q2_, .int 1), (0, 11, q2_, .int 0), (0, 10, q2_, .int 0), (0, 8, q2_, .int 0), (0, 2, q2_, .ref q7_), (8, 6, q0_, .int 1201), (8, 8, q0_, .int x_16), (2, 15, a0_, .int x_1), (2, 0, a0_, .ref q0_), (2, 1, a0_, .ref q1_), (2, 2, a0_, .ref q2_), (2, 3, a0_, .ref q3_), (2, 4, a0_, .ref q4_), (0, 0, q2_, .ref q0_), (0, 1, q2_, .ref q1_), (5, 0, q1_, .ref q7_), (5, 1, q1_, .ref q8_)]) rfl (fun r_105 fr_105 H locs hp hMr_105 g => ?_)
        obtain ⟨h_106, -⟩ := hp
        have hG_107 := eOK.frame hMr_105 go_.2.2.2.1 mq2_ kq2_ (by decide) (by decide) hG_102
        have go_ := g
        refine g_callv (va_runV (As := [.int 21, .int r_105]) (rest := []) ⟨hx, hb, hml, hown, hts⟩ (r_X7_emit l dC dI L kd tys fr_105 H.size g.2.2.2.1 q3_ mq3_ kq3_ 21 r_105) (cwV 2 hts (gV_ t_1301 t_1204 t_1205 t_191 t_1206) rfl rfl rfl (by decide +kernel) ⟨(Nat.le_of_ble_eq_true rfl), (Nat.le_of_ble_eq_true rfl)⟩) (pre3V g hK mq3_ kq3_ (by decide) (q := (RX7, TX7, 19)) rfl) rfl rfl hl.1 rfl (lv_room (Nat.le_of_ble_eq_true rfl)) dX2_readAssignment_121 ⟨(Nat.le_of_ble_eq_true rfl), (Nat.le_of_ble_eq_true rfl)⟩) g hK (by decide) (by decide) (fx' := [(0, 13, q2_, .int 0), (0, 12, q2_, .int 1), (0, 11, q2_, .int 0), (0, 10, q2_, .int 0), (0, 8, q2_, .int 0), (0, 2, q2_, .ref q7_), (8, 6, q0_, .int 1201), (8, 8, q0_, .int x_16), (2, 15, a0_, .int x_1), (2, 0, a0_, .ref q0_), (2, 1, a0_, .ref q1_), (2, 2, a0_, .ref q2_), (2, 3, a0_, .ref q3_), (2, 4, a0_, .ref q4_), (0, 0, q2_, .ref q0_), (0, 1, q2_, .ref q1_), (5, 0, q1_, .ref q7_), (5, 1, q1_, .ref q8_)]) rfl (fun fr_108 H locs hp hMr_108 g => ?_)
        obtain ⟨x_109, h_110, hF_111⟩ := hp
        have hG_112 := eOK.frame hMr_108 go_.2.2.2.1 mq2_ kq2_ (by decide) (by decide) hG_107
        have g := g.more hF_111
        refine lv_aload_n hx hb dX2_readAssignment_124 rfl (lv_at hl 2 rfl) ?_
        refine g_getk (C := RX2) (T := TX2) (N := 16) hx hb hts (mc_ inX2) hown hK g rfl 0 (by decide) rfl (hts _ (List.mem_cons_of_mem _ t_416)) (fun _ h9 => h9) 10 rfl dX2_readAssignment_125 ?_
        refine lv_bipush (v := 59) hx hb dX2_readAssignment_128 (by decide) ?_
        have go_ := g
        refine g_callv (va_runV (As := [.int 59]) (rest := []) ⟨hx, hb, hml, hown, hts⟩ (r_X8_take_2 l dC dI L kd tys fr_108 H.size g.2.2.2.1 q0_ mq0_ kq0_ 59 1201 kb_1201 x_16 h_17 (g.fcts [7, 8] rfl)) (cwV 1 hts (gV_ t_1098 t_1099 t_1100 t_184 t_1101) rfl rfl rfl (by decide +kernel) ⟨(Nat.le_of_ble_eq_true rfl), (Nat.le_of_ble_eq_true rfl)⟩) (pre3V g hK mq0_ kq0_ (by decide) (q := (RX8, TX8, 10)) rfl) rfl rfl hl.1 rfl (lv_room (Nat.le_of_ble_eq_true rfl)) dX2_readAssignment_130 ⟨(Nat.le_of_ble_eq_true rfl), (Nat.le_of_ble_eq_true rfl)⟩) g hK (by decide) (by decide) (fx' := [(7, 6, q3_, .int x_109), (0, 13, q2_, .int 0), (0, 12, q2_, .int 1), (0, 11, q2_, .int 0), (0, 10, q2_, .int 0), (0, 8, q2_, .int 0), (0, 2, q2_, .ref q7_), (8, 8, q0_, .int x_16), (2, 15, a0_, .int x_1), (2, 0, a0_, .ref q0_), (2, 1, a0_, .ref q1_), (2, 2, a0_, .ref q2_), (2, 3, a0_, .ref q3_), (2, 4, a0_, .ref q4_), (0, 0, q2_, .ref q0_), (0, 1, q2_, .ref q1_), (5, 0, q1_, .ref q7_), (5, 1, q1_, .ref q8_)]) rfl (fun fr_113 H locs hp hMr_113 g => ?_)
        obtain ⟨x_114, h_115, hF_116⟩ := hp
        have hG_117 := eOK.frame hMr_113 go_.2.2.2.1 mq2_ kq2_ (by decide) (by decide) hG_112
        have g := g.more hF_116
        subst hQ
        exact W.vret hx hb hr (fun t ht hW => ⟨⟨_, rfl, Or.inr (⟨hG_117, x_114, h_115, x_16, h_17, x_109, h_110, (g.fcts [0, 8, 1, 7] rfl)⟩), q3_of g hK ht hW⟩, g.2.2.1.F ht⟩) g.2.2.1.2.2 dX2_readAssignment_133
      · have fc_103 := nlt_f c_103
        have b_118 : bd 16 26 x_1 := leR fc_103 kb_16 bx_1 (by decide)
        refine lv_aload_n hx hb dX2_readAssignment_82 rfl (lv_at hl 2 rfl) ?_
        refine g_getk (C := RX2) (T := TX2) (N := 16) hx hb hts (mc_ inX2) hown hK g rfl 3 (by decide) rfl (hts _ (List.mem_cons_of_mem _ t_419)) (fun _ h9 => h9) 12 rfl dX2_readAssignment_83 ?_
        refine lv_bipush (v := 20) hx hb dX2_readAssignment_86 (by decide) ?_
        refine lv_iload_n hx hb dX2_readAssignment_88 rfl (lv_at hl 1 rfl) ?_
        refine lv_bipush (v := 16) hx hb dX2_readAssignment_89 (by decide) ?_
        refine lv_isub hx hb dX2_readAssignment_91 ?_
        refine lv_topi (fun y_119 ey_119 => ?_)
        have ty_119 := sub_bd ey_119 b_118 kb_16 (by decide)
        have b_120 : bd 0 10 y_119 := sub_rg ty_119 b_118 kb_16 (by decide)
        have go_ := g
        refine g_callv (va_runV (As := [.int 20, .int y_119]) (rest := []) ⟨hx, hb, hml, hown, hts⟩ (r_X7_emit l dC dI L kd tys fr_100 H.size g.2.2.2.1 q3_ mq3_ kq3_ 20 y_119) (cwV 2 hts (gV_ t_1301 t_1204 t_1205 t_191 t_1206) rfl rfl rfl (by decide +kernel) ⟨(Nat.le_of_ble_eq_true rfl), (Nat.le_of_ble_eq_true rfl)⟩) (pre3V g hK mq3_ kq3_ (by decide) (q := (RX7, TX7, 19)) rfl) rfl rfl hl.1 rfl (lv_room (Nat.le_of_ble_eq_true rfl)) dX2_readAssignment_92 ⟨(Nat.le_of_ble_eq_true rfl), (Nat.le_of_ble_eq_true rfl)⟩) g hK (by decide) (by decide) (fx' := [(0, 13, q2_, .int 0), (0, 12, q2_, .int 1), (0, 11, q2_, .int 0), (0, 10, q2_, .int 0), (0, 8, q2_, .int 0), (0, 2, q2_, .ref q7_), (8, 6, q0_, .int 1201), (8, 8, q0_, .int x_16), (2, 15, a0_, .int x_1), (2, 0, a0_, .ref q0_), (2, 1, a0_, .ref q1_), (2, 2, a0_, .ref q2_), (2, 3, a0_, .ref q3_), (2, 4, a0_, .ref q4_), (0, 0, q2_, .ref q0_), (0, 1, q2_, .ref q1_), (5, 0, q1_, .ref q7_), (5, 1, q1_, .ref q8_)]) rfl (fun fr_121 H locs hp hMr_121 g => ?_)
        obtain ⟨x_122, h_123, hF_124⟩ := hp
        have hG_125 := eOK.frame hMr_121 go_.2.2.2.1 mq2_ kq2_ (by decide) (by decide) hG_102
        have g := g.more hF_124
        refine lv_goto (tgt := 124) hx hb dX2_readAssignment_95 (by decide) ?_
        refine lv_aload_n hx hb dX2_readAssignment_124 rfl (lv_at hl 2 rfl) ?_
        refine g_getk (C := RX2) (T := TX2) (N := 16) hx hb hts (mc_ inX2) hown hK g rfl 0 (by decide) rfl (hts _ (List.mem_cons_of_mem _ t_416)) (fun _ h9 => h9) 10 rfl dX2_readAssignment_125 ?_
        refine lv_bipush (v := 59) hx hb dX2_readAssignment_128 (by decide) ?_
        have go_ := g
        refine g_callv (va_runV (As := [.int 59]) (rest := []) ⟨hx, hb, hml, hown, hts⟩ (r_X8_take_2 l dC dI L kd tys fr_121 H.size g.2.2.2.1 q0_ mq0_ kq0_ 59 1201 kb_1201 x_16 h_17 (g.fcts [7, 8] rfl)) (cwV 1 hts (gV_ t_1098 t_1099 t_1100 t_184 t_1101) rfl rfl rfl (by decide +kernel) ⟨(Nat.le_of_ble_eq_true rfl), (Nat.le_of_ble_eq_true rfl)⟩) (pre3V g hK mq0_ kq0_ (by decide) (q := (RX8, TX8, 10)) rfl) rfl rfl hl.1 rfl (lv_room (Nat.le_of_ble_eq_true rfl)) dX2_readAssignment_130 ⟨(Nat.le_of_ble_eq_true rfl), (Nat.le_of_ble_eq_true rfl)⟩) g hK (by decide) (by decide) (fx' := [(7, 6, q3_, .int x_122), (0, 13, q2_, .int 0), (0, 12, q2_, .int 1), (0, 11, q2_, .int 0), (0, 10, q2_, .int 0), (0, 8, q2_, .int 0), (0, 2, q2_, .ref q7_), (8, 8, q0_, .int x_16), (2, 15, a0_, .int x_1), (2, 0, a0_, .ref q0_), (2, 1, a0_, .ref q1_), (2, 2, a0_, .ref q2_), (2, 3, a0_, .ref q3_), (2, 4, a0_, .ref q4_), (0, 0, q2_, .ref q0_), (0, 1, q2_, .ref q1_), (5, 0, q1_, .ref q7_), (5, 1, q1_, .ref q8_)]) rfl (fun fr_126 H locs hp hMr_126 g => ?_)
        obtain ⟨x_127, h_128, hF_129⟩ := hp
        have hG_130 := eOK.frame hMr_126 go_.2.2.2.1 mq2_ kq2_ (by decide) (by decide) hG_125
        have g := g.more hF_129
        subst hQ
        exact W.vret hx hb hr (fun t ht hW => ⟨⟨_, rfl, Or.inr (⟨hG_130, x_127, h_128, x_16, h_17, x_122, h_123, (g.fcts [0, 8, 1, 7] rfl)⟩), q3_of g hK ht hW⟩, g.2.2.1.F ht⟩) g.2.2.1.2.2 dX2_readAssignment_133
  · have hG_131 := eOK.frame hMr_2 go_.2.2.2.1 mq2_ kq2_ (by decide) (by decide) hGeq2_
    obtain rfl : r_2 = 1 := h_4
    have b_132 : bd 0 9 x_1 := eqX rfl bx_1 h_5 (by decide)
    have g := g.more hF_8
    refine lv_istore_n (lv' := [(2, .int 1), (1, .int x_1), (0, .ref a0_)]) hx hb dX2_readAssignment_13 rfl hl (by decide) rfl (fun ls hl => ?_)
    refine lv_iload_n hx hb dX2_readAssignment_14 rfl (lv_at hl 0 rfl) ?_
    refine lv_if_eq (tgt := 60) hx hb dX2_readAssignment_15 (by decide) (fun c_ => absurd c_ (by decide)) (fun c_ => ?_)
    refine lv_aload_n hx hb dX2_readAssignment_18 rfl (lv_at hl 2 rfl) ?_
    refine g_getk (C := RX2) (T := TX2) (N := 16) hx hb hts (mc_ inX2) hown hK g rfl 0 (by decide) rfl (hts _ (List.mem_cons_of_mem _ t_416)) (fun _ h9 => h9) 2 rfl dX2_readAssignment_19 ?_
    refine lv_bipush (v := 91) hx hb dX2_readAssignment_22 (by decide) ?_
    have go_ := g
    refine g_callv (va_runV (As := [.int 91]) (rest := []) ⟨hx, hb, hml, hown, hts⟩ (r_X8_take l dC dI L kd tys fr_2 H.size g.2.2.2.1 q0_ mq0_ kq0_ 91 y0_ by0_ (g.fcts [11] rfl)) (cwV 1 hts (gV_ t_1098 t_1099 t_1100 t_184 t_1101) rfl rfl rfl (by decide +kernel) ⟨(Nat.le_of_ble_eq_true rfl), (Nat.le_of_ble_eq_true rfl)⟩) (pre3V g hK mq0_ kq0_ (by decide) (q := (RX8, TX8, 10)) rfl) rfl rfl hl.1 rfl (lv_room (Nat.le_of_ble_eq_true rfl)) dX2_readAssignment_24 ⟨(Nat.le_of_ble_eq_true rfl), (Nat.le_of_ble_eq_true rfl)⟩) g hK (by decide) (by decide) (fx' := [(9, 2, q4_, .int x_6), (2, 15, a0_, .int x_1), (2, 0, a0_, .ref q0_), (2, 1, a0_, .ref q1_), (2, 2, a0_, .ref q2_), (2, 3, a0_, .ref q3_), (2, 4, a0_, .ref q4_), (0, 0, q2_, .ref q0_), (0, 1, q2_, .ref q1_), (5, 0, q1_, .ref q7_), (5, 1, q1_, .ref q8_)]) rfl (fun fr_133 H locs hp hMr_133 g => ?_)
    rcases hp with ⟨x_134, h_135, x_136, h_137, hF_138⟩ | ⟨x_139, h_140, hF_141⟩
    · have hG_142 := eOK.frame hMr_133 go_.2.2.2.1 mq2_ kq2_ (by decide) (by decide) hG_131
      have g := g.more hF_138
      refine lv_aload_n hx hb dX2_readAssignment_27 rfl (lv_at hl 2 rfl) ?_
      refine g_getk (C := RX2) (T := TX2) (N := 16) hx hb hts (mc_ inX2) hown hK g rfl 2 (by decide) rfl (hts _ (List.mem_cons_of_mem _ t_418)) (fun _ h9 => h9) 6 rfl dX2_readAssignment_28 ?_
      have go_ := g
      refine g_callv (va_runV (As := []) (rest := []) ⟨hx, hb, hml, hown, hts⟩ (r_X0_read l dC dI L kd tys fr_133 H.size g.2.2.2.1 q2_ mq2_ kq2_ q0_ mq0_ kq0_ q1_ mq1_ kq1_ q7_ mq7_ kq7_ q8_ mq8_ kq8_ x_136 h_137 hG_142 (g.fcts [9, 10, 11, 12, 1] rfl)) (cwV 0 hts (gV_ t_1182 t_1183 t_1184 t_190 t_1185) rfl rfl rfl (by decide +kernel) ⟨(Nat.le_of_ble_eq_true rfl), (Nat.le_of_ble_eq_true rfl)⟩) (pre3V g hK mq2_ kq2_ (by decide) (q := (RX0, TX0, 14)) rfl) rfl rfl hl.1 rfl (lv_room (Nat.le_of_ble_eq_true rfl)) dX2_readAssignment_31 ⟨(Nat.le_of_ble_eq_true rfl), (Nat.le_of_ble_eq_true rfl)⟩) g hK (by decide) (by decide) (fx' := [(9, 2, q4_, .int x_6), (2, 15, a0_, .int x_1), (2, 0, a0_, .ref q0_), (2, 1, a0_, .ref q1_), (2, 2, a0_, .ref q2_), (2, 3, a0_, .ref q3_), (2, 4, a0_, .ref q4_), (0, 0, q2_, .ref q0_), (0, 1, q2_, .ref q1_), (5, 0, q1_, .ref q7_), (5, 1, q1_, .ref q8_)]) rfl (fun fr_143 H locs hp hMr_143 g => ?_)
      rcases hp with ⟨hG_144, x_145, h_146, hF_147⟩ | ⟨hG_148, x_149, h_150, x_151, h_152, hF_153⟩
      · have g := g.more hF_147
        refine lv_aload_n hx hb dX2_readAssignment_34 rfl (lv_at hl 2 rfl) ?_
        refine g_getk (C := RX2) (T := TX2) (N := 16) hx hb hts (mc_ inX2) hown hK g rfl 0 (by decide) rfl (hts _ (List.mem_cons_of_mem _ t_416)) (fun _ h9 => h9) 4 rfl dX2_readAssignment_35 ?_
        refine lv_bipush (v := 93) hx hb dX2_readAssignment_38 (by decide) ?_
        have go_ := g
        refine g_callv (va_runV (As := [.int 93]) (rest := []) ⟨hx, hb, hml, hown, hts⟩ (r_X8_take l dC dI L kd tys fr_143 H.size g.2.2.2.1 q0_ mq0_ kq0_ 93 x_145 h_146 (g.fcts [1] rfl)) (cwV 1 hts (gV_ t_1098 t_1099 t_1100 t_184 t_1101) rfl rfl rfl (by decide +kernel) ⟨(Nat.le_of_ble_eq_true rfl), (Nat.le_of_ble_eq_true rfl)⟩) (pre3V g hK mq0_ kq0_ (by decide) (q := (RX8, TX8, 10)) rfl) rfl rfl hl.1 rfl (lv_room (Nat.le_of_ble_eq_true rfl)) dX2_readAssignment_40 ⟨(Nat.le_of_ble_eq_true rfl), (Nat.le_of_ble_eq_true rfl)⟩) g hK (by decide) (by decide) (fx' := [(0, 2, q2_, .ref q7_), (9, 2, q4_, .int x_6), (2, 15, a0_, .int x_1), (2, 0, a0_, .ref q0_), (2, 1, a0_, .ref q1_), (2, 2, a0_, .ref q2_), (2, 3, a0_, .ref q3_), (2, 4, a0_, .ref q4_), (0, 0, q2_, .ref q0_), (0, 1, q2_, .ref q1_), (5, 0, q1_, .ref q7_), (5, 1, q1_, .ref q8_)]) rfl (fun fr_154 H locs hp hMr_154 g => ?_)
        rcases hp with ⟨x_155, h_156, x_157, h_158, hF_159⟩ | ⟨x_160, h_161, hF_162⟩
        · have hG_163 := eOK.frame hMr_154 go_.2.2.2.1 mq2_ kq2_ (by decide) (by decide) hG_144
          have g := g.more hF_159
          refine lv_aload_n hx hb dX2_readAssignment_43 rfl (lv_at hl 2 rfl) ?_
          refine g_getk (C := RX2) (T := TX2) (N := 16) hx hb hts (mc_ inX2) hown hK g rfl 3 (by decide) rfl (hts _ (List.mem_cons_of_mem _ t_419)) (fun _ h9 => h9) 8 rfl dX2_readAssignment_44 ?_
          refine lv_bipush (v := 11) hx hb dX2_readAssignment_47 (by decide) ?_
          refine lv_aload_n hx hb dX2_readAssignment_49 rfl (lv_at hl 2 rfl) ?_
          refine g_getk (C := RX2) (T := TX2) (N := 16) hx hb hts (mc_ inX2) hown hK g rfl 4 (by decide) rfl (hts _ (List.mem_cons_of_mem _ t_420)) (fun _ h9 => h9) 9 rfl dX2_readAssignment_50 ?_
          refine lv_iload_n hx hb dX2_readAssignment_53 rfl (lv_at hl 1 rfl) ?_
          have go_ := g
          refine g_calli (va_runV (As := [.int x_1]) (rest := [.int 11, .ref q3_]) ⟨hx, hb, hml, hown, hts⟩ (r_X9_spanOf l dC dI L kd tys fr_154 H.size g.2.2.2.1 q4_ mq4_ kq4_ x_1) (cwV 1 hts (gV_ t_1401 t_1265 t_1266 t_192 t_1267) rfl rfl rfl (by decide +kernel) ⟨(Nat.le_of_ble_eq_true rfl), (Nat.le_of_ble_eq_true rfl)⟩) (pre3V g hK mq4_ kq4_ (by decide) (q := (RX9, TX9, 13)) rfl) rfl rfl hl.1 rfl (lv_room (Nat.le_of_ble_eq_true rfl)) dX2_readAssignment_54 ⟨(Nat.le_of_ble_eq_true rfl), (Nat.le_of_ble_eq_true rfl)⟩) g hK (by decide) (by decide) (fx' := [(8, 6, q0_, .int x_155), (8, 8, q0_, .int x_157), (0, 2, q2_, .ref q7_), (9, 2, q4_, .int x_6), (2, 15, a0_, .int x_1), (2, 0, a0_, .ref q0_), (2, 1, a0_, .ref q1_), (2, 2, a0_, .ref q2_), (2, 3, a0_, .ref q3_), (2, 4, a0_, .ref q4_), (0, 0, q2_, .ref q0_), (0, 1, q2_, .ref q1_), (5, 0, q1_, .ref q7_), (5, 1, q1_, .ref q8_)]) rfl (fun r_164 fr_164 H locs hp hMr_164 g => ?_)
          obtain ⟨h_165, -⟩ := hp
          have hG_166 := eOK.frame hMr_164 go_.2.2.2.1 mq2_ kq2_ (by decide) (by decide) hG_163
          have go_ := g
          refine g_callv (va_runV (As := [.int 11, .int r_164]) (rest := []) ⟨hx, hb, hml, hown, hts⟩ (r_X7_emit l dC dI L kd tys fr_164 H.size g.2.2.2.1 q3_ mq3_ kq3_ 11 r_164) (cwV 2 hts (gV_ t_1301 t_1204 t_1205 t_191 t_1206) rfl rfl rfl (by decide +kernel) ⟨(Nat.le_of_ble_eq_true rfl), (Nat.le_of_ble_eq_true rfl)⟩) (pre3V g hK mq3_ kq3_ (by decide) (q := (RX7, TX7, 19)) rfl) rfl rfl hl.1 rfl (lv_room (Nat.le_of_ble_eq_true rfl)) dX2_readAssignment_57 ⟨(Nat.le_of_ble_eq_true rfl), (Nat.le_of_ble_eq_true rfl)⟩) g hK (by decide) (by decide) (fx' := [(8, 6, q0_, .int x_155), (8, 8, q0_, .int x_157), (0, 2, q2_, .ref q7_), (9, 2, q4_, .int x_6), (2, 15, a0_, .int x_1), (2, 0, a0_, .ref q0_), (2, 1, a0_, .ref q1_), (2, 2, a0_, .ref q2_), (2, 3, a0_, .ref q3_), (2, 4, a0_, .ref q4_), (0, 0, q2_, .ref q0_), (0, 1, q2_, .ref q1_), (5, 0, q1_, .ref q7_), (5, 1, q1_, .ref q8_)]) rfl (fun fr_167 H locs hp hMr_167 g => ?_)
          obtain ⟨x_168, h_169, hF_170⟩ := hp
          have hG_171 := eOK.frame hMr_167 go_.2.2.2.1 mq2_ kq2_ (by decide) (by decide) hG_166
          have g := g.more hF_170
          refine lv_aload_n hx hb dX2_readAssignment_60 rfl (lv_at hl 2 rfl) ?_
          refine g_getk (C := RX2) (T := TX2) (N := 16) hx hb hts (mc_ inX2) hown hK g rfl 0 (by decide) rfl (hts _ (List.mem_cons_of_mem _ t_416)) (fun _ h9 => h9) 6 rfl dX2_readAssignment_61 ?_
          refine lv_bipush (v := 61) hx hb dX2_readAssignment_64 (by decide) ?_
          have go_ := g
          refine g_callv (va_runV (As := [.int 61]) (rest := []) ⟨hx, hb, hml, hown, hts⟩ (r_X8_take l dC dI L kd tys fr_167 H.size g.2.2.2.1 q0_ mq0_ kq0_ 61 x_157 h_158 (g.fcts [2] rfl)) (cwV 1 hts (gV_ t_1098 t_1099 t_1100 t_184 t_1101) rfl rfl rfl (by decide +kernel) ⟨(Nat.le_of_ble_eq_true rfl), (Nat.le_of_ble_eq_true rfl)⟩) (pre3V g hK mq0_ kq0_ (by decide) (q := (RX8, TX8, 10)) rfl) rfl rfl hl.1 rfl (lv_room (Nat.le_of_ble_eq_true rfl)) dX2_readAssignment_66 ⟨(Nat.le_of_ble_eq_true rfl), (Nat.le_of_ble_eq_true rfl)⟩) g hK (by decide) (by decide) (fx' := [(7, 6, q3_, .int x_168), (0, 2, q2_, .ref q7_), (9, 2, q4_, .int x_6), (2, 15, a0_, .int x_1), (2, 0, a0_, .ref q0_), (2, 1, a0_, .ref q1_), (2, 2, a0_, .ref q2_), (2, 3, a0_, .ref q3_), (2, 4, a0_, .ref q4_), (0, 0, q2_, .ref q0_), (0, 1, q2_, .ref q1_), (5, 0, q1_, .ref q7_), (5, 1, q1_, .ref q8_)]) rfl (fun fr_172 H locs hp hMr_172 g => ?_)
          rcases hp with ⟨x_173, h_174, x_175, h_176, hF_177⟩ | ⟨x_178, h_179, hF_180⟩
          · have hG_181 := eOK.frame hMr_172 go_.2.2.2.1 mq2_ kq2_ (by decide) (by decide) hG_171
            have g := g.more hF_177
            refine lv_aload_n hx hb dX2_readAssignment_69 rfl (lv_at hl 2 rfl) ?_
            refine g_getk (C := RX2) (T := TX2) (N := 16) hx hb hts (mc_ inX2) hown hK g rfl 2 (by decide) rfl (hts _ (List.mem_cons_of_mem _ t_418)) (fun _ h9 => h9) 8 rfl dX2_readAssignment_70 ?_
            have go_ := g
            refine g_callv (va_runV (As := []) (rest := []) ⟨hx, hb, hml, hown, hts⟩ (r_X0_read l dC dI L kd tys fr_172 H.size g.2.2.2.1 q2_ mq2_ kq2_ q0_ mq0_ kq0_ q1_ mq1_ kq1_ q7_ mq7_ kq7_ q8_ mq8_ kq8_ x_175 h_176 hG_181 (g.fcts [11, 12, 13, 14, 1] rfl)) (cwV 0 hts (gV_ t_1182 t_1183 t_1184 t_190 t_1185) rfl rfl rfl (by decide +kernel) ⟨(Nat.le_of_ble_eq_true rfl), (Nat.le_of_ble_eq_true rfl)⟩) (pre3V g hK mq2_ kq2_ (by decide) (q := (RX0, TX0, 14)) rfl) rfl rfl hl.1 rfl (lv_room (Nat.le_of_ble_eq_true rfl)) dX2_readAssignment_73 ⟨(Nat.le_of_ble_eq_true rfl), (Nat.le_of_ble_eq_true rfl)⟩) g hK (by decide) (by decide) (fx' := [(9, 2, q4_, .int x_6), (2, 15, a0_, .int x_1), (2, 0, a0_, .ref q0_), (2, 1, a0_, .ref q1_), (2, 2, a0_, .ref q2_), (2, 3, a0_, .ref q3_), (2, 4, a0_, .ref q4_), (0, 0, q2_, .ref q0_), (0, 1, q2_, .ref q1_), (5, 0, q1_, .ref q7_), (5, 1, q1_, .ref q8_)]) rfl (fun fr_182 H locs hp hMr_182 g => ?_)
            rcases hp with ⟨hG_183, x_184, h_185, hF_186⟩ | ⟨hG_187, x_188, h_189, x_190, h_191, hF_192⟩
            · have g := g.more hF_186
              refine lv_iload_n hx hb dX2_readAssignment_76 rfl (lv_at hl 1 rfl) ?_
              refine lv_bipush (v := 16) hx hb dX2_readAssignment_77 (by decide) ?_
              have kb_16 : bd 16 16 (16 : Int32) := ⟨by decide, by decide⟩
              refine lv_icmp_lt (tgt := 98) hx hb dX2_readAssignment_79 (by decide) (fun c_193 => ?_) (fun c_193 => ?_)
              · have fc_193 := lt_f c_193
                refine lv_aload_n hx hb dX2_readAssignment_98 rfl (lv_at hl 2 rfl) ?_
                refine g_getk (C := RX2) (T := TX2) (N := 16) hx hb hts (mc_ inX2) hown hK g rfl 3 (by decide) rfl (hts _ (List.mem_cons_of_mem _ t_419)) (fun _ h9 => h9) 7 rfl dX2_readAssignment_99 ?_
                refine lv_iload_n hx hb dX2_readAssignment_102 rfl (lv_at hl 0 rfl) ?_
                refine lv_if_eq (tgt := 111) hx hb dX2_readAssignment_103 (by decide) (fun c_ => absurd c_ (by decide)) (fun c_ => ?_)
                refine lv_bipush (v := 27) hx hb dX2_readAssignment_106 (by decide) ?_
                refine lv_goto (tgt := 113) hx hb dX2_readAssignment_108 (by decide) ?_
                refine lv_aload_n hx hb dX2_readAssignment_113 rfl (lv_at hl 2 rfl) ?_
                refine g_getk (C := RX2) (T := TX2) (N := 16) hx hb hts (mc_ inX2) hown hK g rfl 4 (by decide) rfl (hts _ (List.mem_cons_of_mem _ t_420)) (fun _ h9 => h9) 8 rfl dX2_readAssignment_114 ?_
                refine lv_iload_n hx hb dX2_readAssignment_117 rfl (lv_at hl 1 rfl) ?_
                have go_ := g
                refine g_calli (va_runV (As := [.int x_1]) (rest := [.int 27, .ref q3_]) ⟨hx, hb, hml, hown, hts⟩ (r_X9_spanOf l dC dI L kd tys fr_182 H.size g.2.2.2.1 q4_ mq4_ kq4_ x_1) (cwV 1 hts (gV_ t_1401 t_1265 t_1266 t_192 t_1267) rfl rfl rfl (by decide +kernel) ⟨(Nat.le_of_ble_eq_true rfl), (Nat.le_of_ble_eq_true rfl)⟩) (pre3V g hK mq4_ kq4_ (by decide) (q := (RX9, TX9, 13)) rfl) rfl rfl hl.1 rfl (lv_room (Nat.le_of_ble_eq_true rfl)) dX2_readAssignment_118 ⟨(Nat.le_of_ble_eq_true rfl), (Nat.le_of_ble_eq_true rfl)⟩) g hK (by decide) (by decide) (fx' := [(0, 2, q2_, .ref q7_), (8, 8, q0_, .int x_184), (9, 2, q4_, .int x_6), (2, 15, a0_, .int x_1), (2, 0, a0_, .ref q0_), (2, 1, a0_, .ref q1_), (2, 2, a0_, .ref q2_), (2, 3, a0_, .ref q3_), (2, 4, a0_, .ref q4_), (0, 0, q2_, .ref q0_), (0, 1, q2_, .ref q1_), (5, 0, q1_, .ref q7_), (5, 1, q1_, .ref q8_)]) rfl (fun r_194 fr_194 H locs hp hMr_194 g => ?_)
                obtain ⟨h_195, -⟩ := hp
                have hG_196 := eOK.frame hMr_194 go_.2.2.2.1 mq2_ kq2_ (by decide) (by decide) hG_183
                have go_ := g
                refine g_callv (va_runV (As := [.int 27, .int r_194]) (rest := []) ⟨hx, hb, hml, hown, hts⟩ (r_X7_emit l dC dI L kd tys fr_194 H.size g.2.2.2.1 q3_ mq3_ kq3_ 27 r_194) (cwV 2 hts (gV_ t_1301 t_1204 t_1205 t_191 t_1206) rfl rfl rfl (by decide +kernel) ⟨(Nat.le_of_ble_eq_true rfl), (Nat.le_of_ble_eq_true rfl)⟩) (pre3V g hK mq3_ kq3_ (by decide) (q := (RX7, TX7, 19)) rfl) rfl rfl hl.1 rfl (lv_room (Nat.le_of_ble_eq_true rfl)) dX2_readAssignment_121 ⟨(Nat.le_of_ble_eq_true rfl), (Nat.le_of_ble_eq_true rfl)⟩) g hK (by decide) (by decide) (fx' := [(0, 2, q2_, .ref q7_), (8, 8, q0_, .int x_184), (9, 2, q4_, .int x_6), (2, 15, a0_, .int x_1), (2, 0, a0_, .ref q0_), (2, 1, a0_, .ref q1_), (2, 2, a0_, .ref q2_), (2, 3, a0_, .ref q3_), (2, 4, a0_, .ref q4_), (0, 0, q2_, .ref q0_), (0, 1, q2_, .ref q1_), (5, 0, q1_, .ref q7_), (5, 1, q1_, .ref q8_)]) rfl (fun fr_197 H locs hp hMr_197 g => ?_)
                obtain ⟨x_198, h_199, hF_200⟩ := hp
                have hG_201 := eOK.frame hMr_197 go_.2.2.2.1 mq2_ kq2_ (by decide) (by decide) hG_196
                have g := g.more hF_200
                refine lv_aload_n hx hb dX2_readAssignment_124 rfl (lv_at hl 2 rfl) ?_
                refine g_getk (C := RX2) (T := TX2) (N := 16) hx hb hts (mc_ inX2) hown hK g rfl 0 (by decide) rfl (hts _ (List.mem_cons_of_mem _ t_416)) (fun _ h9 => h9) 5 rfl dX2_readAssignment_125 ?_
                refine lv_bipush (v := 59) hx hb dX2_readAssignment_128 (by decide) ?_
                have go_ := g
                refine g_callv (va_runV (As := [.int 59]) (rest := []) ⟨hx, hb, hml, hown, hts⟩ (r_X8_take l dC dI L kd tys fr_197 H.size g.2.2.2.1 q0_ mq0_ kq0_ 59 x_184 h_185 (g.fcts [2] rfl)) (cwV 1 hts (gV_ t_1098 t_1099 t_1100 t_184 t_1101) rfl rfl rfl (by decide +kernel) ⟨(Nat.le_of_ble_eq_true rfl), (Nat.le_of_ble_eq_true rfl)⟩) (pre3V g hK mq0_ kq0_ (by decide) (q := (RX8, TX8, 10)) rfl) rfl rfl hl.1 rfl (lv_room (Nat.le_of_ble_eq_true rfl)) dX2_readAssignment_130 ⟨(Nat.le_of_ble_eq_true rfl), (Nat.le_of_ble_eq_true rfl)⟩) g hK (by decide) (by decide) (fx' := [(7, 6, q3_, .int x_198), (0, 2, q2_, .ref q7_), (9, 2, q4_, .int x_6), (2, 15, a0_, .int x_1), (2, 0, a0_, .ref q0_), (2, 1, a0_, .ref q1_), (2, 2, a0_, .ref q2_), (2, 3, a0_, .ref q3_), (2, 4, a0_, .ref q4_), (0, 0, q2_, .ref q0_), (0, 1, q2_, .ref q1_), (5, 0, q1_, .ref q7_), (5, 1, q1_, .ref q8_)]) rfl (fun fr_202 H locs hp hMr_202 g => ?_)
                rcases hp with ⟨x_203, h_204, x_205, h_206, hF_207⟩ | ⟨x_208, h_209, hF_210⟩
                · have hG_211 := eOK.frame hMr_202 go_.2.2.2.1 mq2_ kq2_ (by decide) (by decide) hG_201
                  have g := g.more hF_207
                  subst hQ
                  exact W.vret hx hb hr (fun t ht hW => ⟨⟨_, rfl, Or.inl ⟨hG_211, x_203, h_204, x_205, h_206, x_198, h_199, (g.fcts [0, 1, 2, 3] rfl)⟩, q3_of g hK ht hW⟩, g.2.2.1.F ht⟩) g.2.2.1.2.2 dX2_readAssignment_133
                · have hG_212 := eOK.frame hMr_202 go_.2.2.2.1 mq2_ kq2_ (by decide) (by decide) hG_201
                  have g := g.more hF_210
                  have kb_1201 : bd 1201 1201 (1201 : Int32) := ⟨by decide, by decide⟩
                  subst hQ
                  exact W.vret hx hb hr (fun t ht hW => ⟨⟨_, rfl, Or.inr (⟨hG_212, 1201, kb_1201, x_208, h_209, x_198, h_199, (g.fcts [0, 1, 2, 3] rfl)⟩), q3_of g hK ht hW⟩, g.2.2.1.F ht⟩) g.2.2.1.2.2 dX2_readAssignment_133
              · have fc_193 := nlt_f c_193
                have b_213 : bd 16 9 (16 : Int32) := leL fc_193 kb_16 b_132 (by decide)
                exact bd_no (eqX rfl b_213 kb_16 (lo := 16) (hi := 9) (by decide)) (by decide)
            · have g := g.more hF_192
              refine lv_iload_n hx hb dX2_readAssignment_76 rfl (lv_at hl 1 rfl) ?_
              refine lv_bipush (v := 16) hx hb dX2_readAssignment_77 (by decide) ?_
              have kb_16 : bd 16 16 (16 : Int32) := ⟨by decide, by decide⟩
              refine lv_icmp_lt (tgt := 98) hx hb dX2_readAssignment_79 (by decide) (fun c_214 => ?_) (fun c_214 => ?_)
              · have fc_214 := lt_f c_214
                refine lv_aload_n hx hb dX2_readAssignment_98 rfl (lv_at hl 2 rfl) ?_
                refine g_getk (C := RX2) (T := TX2) (N := 16) hx hb hts (mc_ inX2) hown hK g rfl 3 (by decide) rfl (hts _ (List.mem_cons_of_mem _ t_419)) (fun _ h9 => h9) 8 rfl dX2_readAssignment_99 ?_
                refine lv_iload_n hx hb dX2_readAssignment_102 rfl (lv_at hl 0 rfl) ?_
                refine lv_if_eq (tgt := 111) hx hb dX2_readAssignment_103 (by decide) (fun c_ => absurd c_ (by decide)) (fun c_ => ?_)
                refine lv_bipush (v := 27) hx hb dX2_readAssignment_106 (by decide) ?_
                refine lv_goto (tgt := 113) hx hb dX2_readAssignment_108 (by decide) ?_
                refine lv_aload_n hx hb dX2_readAssignment_113 rfl (lv_at hl 2 rfl) ?_
                refine g_getk (C := RX2) (T := TX2) (N := 16) hx hb hts (mc_ inX2) hown hK g rfl 4 (by decide) rfl (hts _ (List.mem_cons_of_mem _ t_420)) (fun _ h9 => h9) 9 rfl dX2_readAssignment_114 ?_
                refine lv_iload_n hx hb dX2_readAssignment_117 rfl (lv_at hl 1 rfl) ?_
                have go_ := g
                refine g_calli (va_runV (As := [.int x_1]) (rest := [.int 27, .ref q3_]) ⟨hx, hb, hml, hown, hts⟩ (r_X9_spanOf l dC dI L kd tys fr_182 H.size g.2.2.2.1 q4_ mq4_ kq4_ x_1) (cwV 1 hts (gV_ t_1401 t_1265 t_1266 t_192 t_1267) rfl rfl rfl (by decide +kernel) ⟨(Nat.le_of_ble_eq_true rfl), (Nat.le_of_ble_eq_true rfl)⟩) (pre3V g hK mq4_ kq4_ (by decide) (q := (RX9, TX9, 13)) rfl) rfl rfl hl.1 rfl (lv_room (Nat.le_of_ble_eq_true rfl)) dX2_readAssignment_118 ⟨(Nat.le_of_ble_eq_true rfl), (Nat.le_of_ble_eq_true rfl)⟩) g hK (by decide) (by decide) (fx' := [(8, 6, q0_, .int x_188), (8, 8, q0_, .int x_190), (0, 2, q2_, .ref q7_), (9, 2, q4_, .int x_6), (2, 15, a0_, .int x_1), (2, 0, a0_, .ref q0_), (2, 1, a0_, .ref q1_), (2, 2, a0_, .ref q2_), (2, 3, a0_, .ref q3_), (2, 4, a0_, .ref q4_), (0, 0, q2_, .ref q0_), (0, 1, q2_, .ref q1_), (5, 0, q1_, .ref q7_), (5, 1, q1_, .ref q8_)]) rfl (fun r_215 fr_215 H locs hp hMr_215 g => ?_)
                obtain ⟨h_216, -⟩ := hp
                have hG_217 := eOK.frame hMr_215 go_.2.2.2.1 mq2_ kq2_ (by decide) (by decide) hG_187
                have go_ := g
                refine g_callv (va_runV (As := [.int 27, .int r_215]) (rest := []) ⟨hx, hb, hml, hown, hts⟩ (r_X7_emit l dC dI L kd tys fr_215 H.size g.2.2.2.1 q3_ mq3_ kq3_ 27 r_215) (cwV 2 hts (gV_ t_1301 t_1204 t_1205 t_191 t_1206) rfl rfl rfl (by decide +kernel) ⟨(Nat.le_of_ble_eq_true rfl), (Nat.le_of_ble_eq_true rfl)⟩) (pre3V g hK mq3_ kq3_ (by decide) (q := (RX7, TX7, 19)) rfl) rfl rfl hl.1 rfl (lv_room (Nat.le_of_ble_eq_true rfl)) dX2_readAssignment_121 ⟨(Nat.le_of_ble_eq_true rfl), (Nat.le_of_ble_eq_true rfl)⟩) g hK (by decide) (by decide) (fx' := [(8, 6, q0_, .int x_188), (8, 8, q0_, .int x_190), (0, 2, q2_, .ref q7_), (9, 2, q4_, .int x_6), (2, 15, a0_, .int x_1), (2, 0, a0_, .ref q0_), (2, 1, a0_, .ref q1_), (2, 2, a0_, .ref q2_), (2, 3, a0_, .ref q3_), (2, 4, a0_, .ref q4_), (0, 0, q2_, .ref q0_), (0, 1, q2_, .ref q1_), (5, 0, q1_, .ref q7_), (5, 1, q1_, .ref q8_)]) rfl (fun fr_218 H locs hp hMr_218 g => ?_)
                obtain ⟨x_219, h_220, hF_221⟩ := hp
                have hG_222 := eOK.frame hMr_218 go_.2.2.2.1 mq2_ kq2_ (by decide) (by decide) hG_217
                have g := g.more hF_221
                refine lv_aload_n hx hb dX2_readAssignment_124 rfl (lv_at hl 2 rfl) ?_
                refine g_getk (C := RX2) (T := TX2) (N := 16) hx hb hts (mc_ inX2) hown hK g rfl 0 (by decide) rfl (hts _ (List.mem_cons_of_mem _ t_416)) (fun _ h9 => h9) 6 rfl dX2_readAssignment_125 ?_
                refine lv_bipush (v := 59) hx hb dX2_readAssignment_128 (by decide) ?_
                have go_ := g
                refine g_callv (va_runV (As := [.int 59]) (rest := []) ⟨hx, hb, hml, hown, hts⟩ (r_X8_take_2 l dC dI L kd tys fr_218 H.size g.2.2.2.1 q0_ mq0_ kq0_ 59 x_188 h_189 x_190 h_191 (g.fcts [1, 2] rfl)) (cwV 1 hts (gV_ t_1098 t_1099 t_1100 t_184 t_1101) rfl rfl rfl (by decide +kernel) ⟨(Nat.le_of_ble_eq_true rfl), (Nat.le_of_ble_eq_true rfl)⟩) (pre3V g hK mq0_ kq0_ (by decide) (q := (RX8, TX8, 10)) rfl) rfl rfl hl.1 rfl (lv_room (Nat.le_of_ble_eq_true rfl)) dX2_readAssignment_130 ⟨(Nat.le_of_ble_eq_true rfl), (Nat.le_of_ble_eq_true rfl)⟩) g hK (by decide) (by decide) (fx' := [(7, 6, q3_, .int x_219), (8, 8, q0_, .int x_190), (0, 2, q2_, .ref q7_), (9, 2, q4_, .int x_6), (2, 15, a0_, .int x_1), (2, 0, a0_, .ref q0_), (2, 1, a0_, .ref q1_), (2, 2, a0_, .ref q2_), (2, 3, a0_, .ref q3_), (2, 4, a0_, .ref q4_), (0, 0, q2_, .ref q0_), (0, 1, q2_, .ref q1_), (5, 0, q1_, .ref q7_), (5, 1, q1_, .ref q8_)]) rfl (fun fr_223 H locs hp hMr_223 g => ?_)
                obtain ⟨x_224, h_225, hF_226⟩ := hp
                have hG_227 := eOK.frame hMr_223 go_.2.2.2.1 mq2_ kq2_ (by decide) (by decide) hG_222
                have g := g.more hF_226
                subst hQ
                exact W.vret hx hb hr (fun t ht hW => ⟨⟨_, rfl, Or.inr (⟨hG_227, x_224, h_225, x_190, h_191, x_219, h_220, (g.fcts [0, 2, 1, 3] rfl)⟩), q3_of g hK ht hW⟩, g.2.2.1.F ht⟩) g.2.2.1.2.2 dX2_readAssignment_133
              · have fc_214 := nlt_f c_214
                have b_228 : bd 16 9 (16 : Int32) := leL fc_214 kb_16 b_132 (by decide)
                exact bd_no (eqX rfl b_228 kb_16 (lo := 16) (hi := 9) (by decide)) (by decide)
          · have hG_229 := eOK.frame hMr_172 go_.2.2.2.1 mq2_ kq2_ (by decide) (by decide) hG_171
            have g := g.more hF_180
            refine lv_aload_n hx hb dX2_readAssignment_69 rfl (lv_at hl 2 rfl) ?_
            refine g_getk (C := RX2) (T := TX2) (N := 16) hx hb hts (mc_ inX2) hown hK g rfl 2 (by decide) rfl (hts _ (List.mem_cons_of_mem _ t_418)) (fun _ h9 => h9) 8 rfl dX2_readAssignment_70 ?_
            have kb_1201 : bd 1201 1201 (1201 : Int32) := ⟨by decide, by decide⟩
            have go_ := g
            refine g_callv (va_runV (As := []) (rest := []) ⟨hx, hb, hml, hown, hts⟩ (r_X0_read_2 l dC dI L kd tys fr_172 H.size g.2.2.2.1 q2_ mq2_ kq2_ q0_ mq0_ kq0_ q1_ mq1_ kq1_ q7_ mq7_ kq7_ q8_ mq8_ kq8_ 1201 kb_1201 x_178 h_179 hG_229 (g.fcts [11, 12, 13, 14, 0, 1] rfl)) (cwV 0 hts (gV_ t_1182 t_1183 t_1184 t_190 t_1185) rfl rfl rfl (by decide +kernel) ⟨(Nat.le_of_ble_eq_true rfl), (Nat.le_of_ble_eq_true rfl)⟩) (pre3V g hK mq2_ kq2_ (by decide) (q := (RX0, TX0, 14)) rfl) rfl rfl hl.1 rfl (lv_room (Nat.le_of_ble_eq_true rfl)) dX2_readAssignment_73 ⟨(Nat.le_of_ble_eq_true rfl), (Nat.le_of_ble_eq_true rfl)⟩) g hK (by decide) (by decide) (fx' := [(8, 6, q0_, .int 1201), (8, 8, q0_, .int x_178), (7, 6, q3_, .int x_168), (9, 2, q4_, .int x_6), (2, 15, a0_, .int x_1), (2, 0, a0_, .ref q0_), (2, 1, a0_, .ref q1_), (2, 2, a0_, .ref q2_), (2, 3, a0_, .ref q3_), (2, 4, a0_, .ref q4_), (0, 0, q2_, .ref q0_), (0, 1, q2_, .ref q1_), (5, 0, q1_, .ref q7_), (5, 1, q1_, .ref q8_)]) rfl (fun fr_230 H locs hp hMr_230 g => ?_)
            have hF_231 := hp
            have hG_232 := eOK.frame hMr_230 go_.2.2.2.1 mq2_ kq2_ (by decide) (by decide) hG_229
            have g := g.more hF_231
            refine lv_iload_n hx hb dX2_readAssignment_76 rfl (lv_at hl 1 rfl) ?_
            refine lv_bipush (v := 16) hx hb dX2_readAssignment_77 (by decide) ?_
            have kb_16 : bd 16 16 (16 : Int32) := ⟨by decide, by decide⟩
            refine lv_icmp_lt (tgt := 98) hx hb dX2_readAssignment_79 (by decide) (fun c_233 => ?_) (fun c_233 => ?_)
            · have fc_233 := lt_f c_233
              refine lv_aload_n hx hb dX2_readAssignment_98 rfl (lv_at hl 2 rfl) ?_
              refine g_getk (C := RX2) (T := TX2) (N := 16) hx hb hts (mc_ inX2) hown hK g rfl 3 (by decide) rfl (hts _ (List.mem_cons_of_mem _ t_419)) (fun _ h9 => h9) 14 rfl dX2_readAssignment_99 ?_
              refine lv_iload_n hx hb dX2_readAssignment_102 rfl (lv_at hl 0 rfl) ?_
              refine lv_if_eq (tgt := 111) hx hb dX2_readAssignment_103 (by decide) (fun c_ => absurd c_ (by decide)) (fun c_ => ?_)
              refine lv_bipush (v := 27) hx hb dX2_readAssignment_106 (by decide) ?_
              refine lv_goto (tgt := 113) hx hb dX2_readAssignment_108 (by decide) ?_
              refine lv_aload_n hx hb dX2_readAssignment_113 rfl (lv_at hl 2 rfl) ?_
              refine g_getk (C := RX2) (T := TX2) (N := 16) hx hb hts (mc_ inX2) hown hK g rfl 4 (by decide) rfl (hts _ (List.mem_cons_of_mem _ t_420)) (fun _ h9 => h9) 15 rfl dX2_readAssignment_114 ?_
              refine lv_iload_n hx hb dX2_readAssignment_117 rfl (lv_at hl 1 rfl) ?_
              have go_ := g
              refine g_calli (va_runV (As := [.int x_1]) (rest := [.int 27, .ref q3_]) ⟨hx, hb, hml, hown, hts⟩ (r_X9_spanOf l dC dI L kd tys fr_230 H.size g.2.2.2.1 q4_ mq4_ kq4_ x_1) (cwV 1 hts (gV_ t_1401 t_1265 t_1266 t_192 t_1267) rfl rfl rfl (by decide +kernel) ⟨(Nat.le_of_ble_eq_true rfl), (Nat.le_of_ble_eq_true rfl)⟩) (pre3V g hK mq4_ kq4_ (by decide) (q := (RX9, TX9, 13)) rfl) rfl rfl hl.1 rfl (lv_room (Nat.le_of_ble_eq_true rfl)) dX2_readAssignment_118 ⟨(Nat.le_of_ble_eq_true rfl), (Nat.le_of_ble_eq_true rfl)⟩) g hK (by decide) (by decide) (fx' := [(0, 13, q2_, .int 0), (0, 12, q2_, .int 1), (0, 11, q2_, .int 0), (0, 10, q2_, .int 0), (0, 8, q2_, .int 0), (0, 2, q2_, .ref q7_), (8, 6, q0_, .int 1201), (8, 8, q0_, .int x_178), (7, 6, q3_, .int x_168), (9, 2, q4_, .int x_6), (2, 15, a0_, .int x_1), (2, 0, a0_, .ref q0_), (2, 1, a0_, .ref q1_), (2, 2, a0_, .ref q2_), (2, 3, a0_, .ref q3_), (2, 4, a0_, .ref q4_), (0, 0, q2_, .ref q0_), (0, 1, q2_, .ref q1_), (5, 0, q1_, .ref q7_), (5, 1, q1_, .ref q8_)]) rfl (fun r_234 fr_234 H locs hp hMr_234 g => ?_)
              obtain ⟨h_235, -⟩ := hp
              have hG_236 := eOK.frame hMr_234 go_.2.2.2.1 mq2_ kq2_ (by decide) (by decide) hG_232
              have go_ := g
              refine g_callv (va_runV (As := [.int 27, .int r_234]) (rest := []) ⟨hx, hb, hml, hown, hts⟩ (r_X7_emit l dC dI L kd tys fr_234 H.size g.2.2.2.1 q3_ mq3_ kq3_ 27 r_234) (cwV 2 hts (gV_ t_1301 t_1204 t_1205 t_191 t_1206) rfl rfl rfl (by decide +kernel) ⟨(Nat.le_of_ble_eq_true rfl), (Nat.le_of_ble_eq_true rfl)⟩) (pre3V g hK mq3_ kq3_ (by decide) (q := (RX7, TX7, 19)) rfl) rfl rfl hl.1 rfl (lv_room (Nat.le_of_ble_eq_true rfl)) dX2_readAssignment_121 ⟨(Nat.le_of_ble_eq_true rfl), (Nat.le_of_ble_eq_true rfl)⟩) g hK (by decide) (by decide) (fx' := [(0, 13, q2_, .int 0), (0, 12, q2_, .int 1), (0, 11, q2_, .int 0), (0, 10, q2_, .int 0), (0, 8, q2_, .int 0), (0, 2, q2_, .ref q7_), (8, 6, q0_, .int 1201), (8, 8, q0_, .int x_178), (9, 2, q4_, .int x_6), (2, 15, a0_, .int x_1), (2, 0, a0_, .ref q0_), (2, 1, a0_, .ref q1_), (2, 2, a0_, .ref q2_), (2, 3, a0_, .ref q3_), (2, 4, a0_, .ref q4_), (0, 0, q2_, .ref q0_), (0, 1, q2_, .ref q1_), (5, 0, q1_, .ref q7_), (5, 1, q1_, .ref q8_)]) rfl (fun fr_237 H locs hp hMr_237 g => ?_)
              obtain ⟨x_238, h_239, hF_240⟩ := hp
              have hG_241 := eOK.frame hMr_237 go_.2.2.2.1 mq2_ kq2_ (by decide) (by decide) hG_236
              have g := g.more hF_240
              refine lv_aload_n hx hb dX2_readAssignment_124 rfl (lv_at hl 2 rfl) ?_
              refine g_getk (C := RX2) (T := TX2) (N := 16) hx hb hts (mc_ inX2) hown hK g rfl 0 (by decide) rfl (hts _ (List.mem_cons_of_mem _ t_416)) (fun _ h9 => h9) 11 rfl dX2_readAssignment_125 ?_
              refine lv_bipush (v := 59) hx hb dX2_readAssignment_128 (by decide) ?_
              have go_ := g
              refine g_callv (va_runV (As := [.int 59]) (rest := []) ⟨hx, hb, hml, hown, hts⟩ (r_X8_take_2 l dC dI L kd tys fr_237 H.size g.2.2.2.1 q0_ mq0_ kq0_ 59 1201 kb_1201 x_178 h_179 (g.fcts [7, 8] rfl)) (cwV 1 hts (gV_ t_1098 t_1099 t_1100 t_184 t_1101) rfl rfl rfl (by decide +kernel) ⟨(Nat.le_of_ble_eq_true rfl), (Nat.le_of_ble_eq_true rfl)⟩) (pre3V g hK mq0_ kq0_ (by decide) (q := (RX8, TX8, 10)) rfl) rfl rfl hl.1 rfl (lv_room (Nat.le_of_ble_eq_true rfl)) dX2_readAssignment_130 ⟨(Nat.le_of_ble_eq_true rfl), (Nat.le_of_ble_eq_true rfl)⟩) g hK (by decide) (by decide) (fx' := [(7, 6, q3_, .int x_238), (0, 13, q2_, .int 0), (0, 12, q2_, .int 1), (0, 11, q2_, .int 0), (0, 10, q2_, .int 0), (0, 8, q2_, .int 0), (0, 2, q2_, .ref q7_), (8, 8, q0_, .int x_178), (9, 2, q4_, .int x_6), (2, 15, a0_, .int x_1), (2, 0, a0_, .ref q0_), (2, 1, a0_, .ref q1_), (2, 2, a0_, .ref q2_), (2, 3, a0_, .ref q3_), (2, 4, a0_, .ref q4_), (0, 0, q2_, .ref q0_), (0, 1, q2_, .ref q1_), (5, 0, q1_, .ref q7_), (5, 1, q1_, .ref q8_)]) rfl (fun fr_242 H locs hp hMr_242 g => ?_)
              obtain ⟨x_243, h_244, hF_245⟩ := hp
              have hG_246 := eOK.frame hMr_242 go_.2.2.2.1 mq2_ kq2_ (by decide) (by decide) hG_241
              have g := g.more hF_245
              subst hQ
              exact W.vret hx hb hr (fun t ht hW => ⟨⟨_, rfl, Or.inr (⟨hG_246, x_243, h_244, x_178, h_179, x_238, h_239, (g.fcts [0, 8, 1, 7] rfl)⟩), q3_of g hK ht hW⟩, g.2.2.1.F ht⟩) g.2.2.1.2.2 dX2_readAssignment_133
            · have fc_233 := nlt_f c_233
              have b_247 : bd 16 9 (16 : Int32) := leL fc_233 kb_16 b_132 (by decide)
              exact bd_no (eqX rfl b_247 kb_16 (lo := 16) (hi := 9) (by decide)) (by decide)
        · have hG_248 := eOK.frame hMr_154 go_.2.2.2.1 mq2_ kq2_ (by decide) (by decide) hG_144
          have g := g.more hF_162
          refine lv_aload_n hx hb dX2_readAssignment_43 rfl (lv_at hl 2 rfl) ?_
          refine g_getk (C := RX2) (T := TX2) (N := 16) hx hb hts (mc_ inX2) hown hK g rfl 3 (by decide) rfl (hts _ (List.mem_cons_of_mem _ t_419)) (fun _ h9 => h9) 8 rfl dX2_readAssignment_44 ?_
          refine lv_bipush (v := 11) hx hb dX2_readAssignment_47 (by decide) ?_
          refine lv_aload_n hx hb dX2_readAssignment_49 rfl (lv_at hl 2 rfl) ?_
          refine g_getk (C := RX2) (T := TX2) (N := 16) hx hb hts (mc_ inX2) hown hK g rfl 4 (by decide) rfl (hts _ (List.mem_cons_of_mem _ t_420)) (fun _ h9 => h9) 9 rfl dX2_readAssignment_50 ?_
          refine lv_iload_n hx hb dX2_readAssignment_53 rfl (lv_at hl 1 rfl) ?_
          have go_ := g
          refine g_calli (va_runV (As := [.int x_1]) (rest := [.int 11, .ref q3_]) ⟨hx, hb, hml, hown, hts⟩ (r_X9_spanOf l dC dI L kd tys fr_154 H.size g.2.2.2.1 q4_ mq4_ kq4_ x_1) (cwV 1 hts (gV_ t_1401 t_1265 t_1266 t_192 t_1267) rfl rfl rfl (by decide +kernel) ⟨(Nat.le_of_ble_eq_true rfl), (Nat.le_of_ble_eq_true rfl)⟩) (pre3V g hK mq4_ kq4_ (by decide) (q := (RX9, TX9, 13)) rfl) rfl rfl hl.1 rfl (lv_room (Nat.le_of_ble_eq_true rfl)) dX2_readAssignment_54 ⟨(Nat.le_of_ble_eq_true rfl), (Nat.le_of_ble_eq_true rfl)⟩) g hK (by decide) (by decide) (fx' := [(8, 6, q0_, .int 1201), (8, 8, q0_, .int x_160), (0, 2, q2_, .ref q7_), (9, 2, q4_, .int x_6), (2, 15, a0_, .int x_1), (2, 0, a0_, .ref q0_), (2, 1, a0_, .ref q1_), (2, 2, a0_, .ref q2_), (2, 3, a0_, .ref q3_), (2, 4, a0_, .ref q4_), (0, 0, q2_, .ref q0_), (0, 1, q2_, .ref q1_), (5, 0, q1_, .ref q7_), (5, 1, q1_, .ref q8_)]) rfl (fun r_249 fr_249 H locs hp hMr_249 g => ?_)
          obtain ⟨h_250, -⟩ := hp
          have hG_251 := eOK.frame hMr_249 go_.2.2.2.1 mq2_ kq2_ (by decide) (by decide) hG_248
          have go_ := g
          refine g_callv (va_runV (As := [.int 11, .int r_249]) (rest := []) ⟨hx, hb, hml, hown, hts⟩ (r_X7_emit l dC dI L kd tys fr_249 H.size g.2.2.2.1 q3_ mq3_ kq3_ 11 r_249) (cwV 2 hts (gV_ t_1301 t_1204 t_1205 t_191 t_1206) rfl rfl rfl (by decide +kernel) ⟨(Nat.le_of_ble_eq_true rfl), (Nat.le_of_ble_eq_true rfl)⟩) (pre3V g hK mq3_ kq3_ (by decide) (q := (RX7, TX7, 19)) rfl) rfl rfl hl.1 rfl (lv_room (Nat.le_of_ble_eq_true rfl)) dX2_readAssignment_57 ⟨(Nat.le_of_ble_eq_true rfl), (Nat.le_of_ble_eq_true rfl)⟩) g hK (by decide) (by decide) (fx' := [(8, 6, q0_, .int 1201), (8, 8, q0_, .int x_160), (0, 2, q2_, .ref q7_), (9, 2, q4_, .int x_6), (2, 15, a0_, .int x_1), (2, 0, a0_, .ref q0_), (2, 1, a0_, .ref q1_), (2, 2, a0_, .ref q2_), (2, 3, a0_, .ref q3_), (2, 4, a0_, .ref q4_), (0, 0, q2_, .ref q0_), (0, 1, q2_, .ref q1_), (5, 0, q1_, .ref q7_), (5, 1, q1_, .ref q8_)]) rfl (fun fr_252 H locs hp hMr_252 g => ?_)
          obtain ⟨x_253, h_254, hF_255⟩ := hp
          have hG_256 := eOK.frame hMr_252 go_.2.2.2.1 mq2_ kq2_ (by decide) (by decide) hG_251
          have g := g.more hF_255
          refine lv_aload_n hx hb dX2_readAssignment_60 rfl (lv_at hl 2 rfl) ?_
          refine g_getk (C := RX2) (T := TX2) (N := 16) hx hb hts (mc_ inX2) hown hK g rfl 0 (by decide) rfl (hts _ (List.mem_cons_of_mem _ t_416)) (fun _ h9 => h9) 6 rfl dX2_readAssignment_61 ?_
          refine lv_bipush (v := 61) hx hb dX2_readAssignment_64 (by decide) ?_
          have kb_1201 : bd 1201 1201 (1201 : Int32) := ⟨by decide, by decide⟩
          have go_ := g
          refine g_callv (va_runV (As := [.int 61]) (rest := []) ⟨hx, hb, hml, hown, hts⟩ (r_X8_take_2 l dC dI L kd tys fr_252 H.size g.2.2.2.1 q0_ mq0_ kq0_ 61 1201 kb_1201 x_160 h_161 (g.fcts [1, 2] rfl)) (cwV 1 hts (gV_ t_1098 t_1099 t_1100 t_184 t_1101) rfl rfl rfl (by decide +kernel) ⟨(Nat.le_of_ble_eq_true rfl), (Nat.le_of_ble_eq_true rfl)⟩) (pre3V g hK mq0_ kq0_ (by decide) (q := (RX8, TX8, 10)) rfl) rfl rfl hl.1 rfl (lv_room (Nat.le_of_ble_eq_true rfl)) dX2_readAssignment_66 ⟨(Nat.le_of_ble_eq_true rfl), (Nat.le_of_ble_eq_true rfl)⟩) g hK (by decide) (by decide) (fx' := [(7, 6, q3_, .int x_253), (8, 8, q0_, .int x_160), (0, 2, q2_, .ref q7_), (9, 2, q4_, .int x_6), (2, 15, a0_, .int x_1), (2, 0, a0_, .ref q0_), (2, 1, a0_, .ref q1_), (2, 2, a0_, .ref q2_), (2, 3, a0_, .ref q3_), (2, 4, a0_, .ref q4_), (0, 0, q2_, .ref q0_), (0, 1, q2_, .ref q1_), (5, 0, q1_, .ref q7_), (5, 1, q1_, .ref q8_)]) rfl (fun fr_257 H locs hp hMr_257 g => ?_)
          obtain ⟨x_258, h_259, hF_260⟩ := hp
          have hG_261 := eOK.frame hMr_257 go_.2.2.2.1 mq2_ kq2_ (by decide) (by decide) hG_256
          have g := g.more hF_260
          refine lv_aload_n hx hb dX2_readAssignment_69 rfl (lv_at hl 2 rfl) ?_
          refine g_getk (C := RX2) (T := TX2) (N := 16) hx hb hts (mc_ inX2) hown hK g rfl 2 (by decide) rfl (hts _ (List.mem_cons_of_mem _ t_418)) (fun _ h9 => h9) 8 rfl dX2_readAssignment_70 ?_
          have go_ := g
          refine g_callv (va_runV (As := []) (rest := []) ⟨hx, hb, hml, hown, hts⟩ (r_X0_read_2 l dC dI L kd tys fr_257 H.size g.2.2.2.1 q2_ mq2_ kq2_ q0_ mq0_ kq0_ q1_ mq1_ kq1_ q7_ mq7_ kq7_ q8_ mq8_ kq8_ x_258 h_259 x_160 h_161 hG_261 (g.fcts [11, 12, 13, 14, 0, 2] rfl)) (cwV 0 hts (gV_ t_1182 t_1183 t_1184 t_190 t_1185) rfl rfl rfl (by decide +kernel) ⟨(Nat.le_of_ble_eq_true rfl), (Nat.le_of_ble_eq_true rfl)⟩) (pre3V g hK mq2_ kq2_ (by decide) (q := (RX0, TX0, 14)) rfl) rfl rfl hl.1 rfl (lv_room (Nat.le_of_ble_eq_true rfl)) dX2_readAssignment_73 ⟨(Nat.le_of_ble_eq_true rfl), (Nat.le_of_ble_eq_true rfl)⟩) g hK (by decide) (by decide) (fx' := [(8, 6, q0_, .int x_258), (7, 6, q3_, .int x_253), (8, 8, q0_, .int x_160), (9, 2, q4_, .int x_6), (2, 15, a0_, .int x_1), (2, 0, a0_, .ref q0_), (2, 1, a0_, .ref q1_), (2, 2, a0_, .ref q2_), (2, 3, a0_, .ref q3_), (2, 4, a0_, .ref q4_), (0, 0, q2_, .ref q0_), (0, 1, q2_, .ref q1_), (5, 0, q1_, .ref q7_), (5, 1, q1_, .ref q8_)]) rfl (fun fr_262 H locs hp hMr_262 g => ?_)
          have hF_263 := hp
          have hG_264 := eOK.frame hMr_262 go_.2.2.2.1 mq2_ kq2_ (by decide) (by decide) hG_261
          have g := g.more hF_263
          refine lv_iload_n hx hb dX2_readAssignment_76 rfl (lv_at hl 1 rfl) ?_
          refine lv_bipush (v := 16) hx hb dX2_readAssignment_77 (by decide) ?_
          have kb_16 : bd 16 16 (16 : Int32) := ⟨by decide, by decide⟩
          refine lv_icmp_lt (tgt := 98) hx hb dX2_readAssignment_79 (by decide) (fun c_265 => ?_) (fun c_265 => ?_)
          · have fc_265 := lt_f c_265
            refine lv_aload_n hx hb dX2_readAssignment_98 rfl (lv_at hl 2 rfl) ?_
            refine g_getk (C := RX2) (T := TX2) (N := 16) hx hb hts (mc_ inX2) hown hK g rfl 3 (by decide) rfl (hts _ (List.mem_cons_of_mem _ t_419)) (fun _ h9 => h9) 14 rfl dX2_readAssignment_99 ?_
            refine lv_iload_n hx hb dX2_readAssignment_102 rfl (lv_at hl 0 rfl) ?_
            refine lv_if_eq (tgt := 111) hx hb dX2_readAssignment_103 (by decide) (fun c_ => absurd c_ (by decide)) (fun c_ => ?_)
            refine lv_bipush (v := 27) hx hb dX2_readAssignment_106 (by decide) ?_
            refine lv_goto (tgt := 113) hx hb dX2_readAssignment_108 (by decide) ?_
            refine lv_aload_n hx hb dX2_readAssignment_113 rfl (lv_at hl 2 rfl) ?_
            refine g_getk (C := RX2) (T := TX2) (N := 16) hx hb hts (mc_ inX2) hown hK g rfl 4 (by decide) rfl (hts _ (List.mem_cons_of_mem _ t_420)) (fun _ h9 => h9) 15 rfl dX2_readAssignment_114 ?_
            refine lv_iload_n hx hb dX2_readAssignment_117 rfl (lv_at hl 1 rfl) ?_
            have go_ := g
            refine g_calli (va_runV (As := [.int x_1]) (rest := [.int 27, .ref q3_]) ⟨hx, hb, hml, hown, hts⟩ (r_X9_spanOf l dC dI L kd tys fr_262 H.size g.2.2.2.1 q4_ mq4_ kq4_ x_1) (cwV 1 hts (gV_ t_1401 t_1265 t_1266 t_192 t_1267) rfl rfl rfl (by decide +kernel) ⟨(Nat.le_of_ble_eq_true rfl), (Nat.le_of_ble_eq_true rfl)⟩) (pre3V g hK mq4_ kq4_ (by decide) (q := (RX9, TX9, 13)) rfl) rfl rfl hl.1 rfl (lv_room (Nat.le_of_ble_eq_true rfl)) dX2_readAssignment_118 ⟨(Nat.le_of_ble_eq_true rfl), (Nat.le_of_ble_eq_true rfl)⟩) g hK (by decide) (by decide) (fx' := [(0, 13, q2_, .int 0), (0, 12, q2_, .int 1), (0, 11, q2_, .int 0), (0, 10, q2_, .int 0), (0, 8, q2_, .int 0), (0, 2, q2_, .ref q7_), (8, 6, q0_, .int x_258), (7, 6, q3_, .int x_253), (8, 8, q0_, .int x_160), (9, 2, q4_, .int x_6), (2, 15, a0_, .int x_1), (2, 0, a0_, .ref q0_), (2, 1, a0_, .ref q1_), (2, 2, a0_, .ref q2_), (2, 3, a0_, .ref q3_), (2, 4, a0_, .ref q4_), (0, 0, q2_, .ref q0_), (0, 1, q2_, .ref q1_), (5, 0, q1_, .ref q7_), (5, 1, q1_, .ref q8_)]) rfl (fun r_266 fr_266 H locs hp hMr_266 g => ?_)
            obtain ⟨h_267, -⟩ := hp
            have hG_268 := eOK.frame hMr_266 go_.2.2.2.1 mq2_ kq2_ (by decide) (by decide) hG_264
            have go_ := g
            refine g_callv (va_runV (As := [.int 27, .int r_266]) (rest := []) ⟨hx, hb, hml, hown, hts⟩ (r_X7_emit l dC dI L kd tys fr_266 H.size g.2.2.2.1 q3_ mq3_ kq3_ 27 r_266) (cwV 2 hts (gV_ t_1301 t_1204 t_1205 t_191 t_1206) rfl rfl rfl (by decide +kernel) ⟨(Nat.le_of_ble_eq_true rfl), (Nat.le_of_ble_eq_true rfl)⟩) (pre3V g hK mq3_ kq3_ (by decide) (q := (RX7, TX7, 19)) rfl) rfl rfl hl.1 rfl (lv_room (Nat.le_of_ble_eq_true rfl)) dX2_readAssignment_121 ⟨(Nat.le_of_ble_eq_true rfl), (Nat.le_of_ble_eq_true rfl)⟩) g hK (by decide) (by decide) (fx' := [(0, 13, q2_, .int 0), (0, 12, q2_, .int 1), (0, 11, q2_, .int 0), (0, 10, q2_, .int 0), (0, 8, q2_, .int 0), (0, 2, q2_, .ref q7_), (8, 6, q0_, .int x_258), (8, 8, q0_, .int x_160), (9, 2, q4_, .int x_6), (2, 15, a0_, .int x_1), (2, 0, a0_, .ref q0_), (2, 1, a0_, .ref q1_), (2, 2, a0_, .ref q2_), (2, 3, a0_, .ref q3_), (2, 4, a0_, .ref q4_), (0, 0, q2_, .ref q0_), (0, 1, q2_, .ref q1_), (5, 0, q1_, .ref q7_), (5, 1, q1_, .ref q8_)]) rfl (fun fr_269 H locs hp hMr_269 g => ?_)
            obtain ⟨x_270, h_271, hF_272⟩ := hp
            have hG_273 := eOK.frame hMr_269 go_.2.2.2.1 mq2_ kq2_ (by decide) (by decide) hG_268
            have g := g.more hF_272
            refine lv_aload_n hx hb dX2_readAssignment_124 rfl (lv_at hl 2 rfl) ?_
            refine g_getk (C := RX2) (T := TX2) (N := 16) hx hb hts (mc_ inX2) hown hK g rfl 0 (by decide) rfl (hts _ (List.mem_cons_of_mem _ t_416)) (fun _ h9 => h9) 11 rfl dX2_readAssignment_125 ?_
            refine lv_bipush (v := 59) hx hb dX2_readAssignment_128 (by decide) ?_
            have go_ := g
            refine g_callv (va_runV (As := [.int 59]) (rest := []) ⟨hx, hb, hml, hown, hts⟩ (r_X8_take_2 l dC dI L kd tys fr_269 H.size g.2.2.2.1 q0_ mq0_ kq0_ 59 x_258 h_259 x_160 h_161 (g.fcts [7, 8] rfl)) (cwV 1 hts (gV_ t_1098 t_1099 t_1100 t_184 t_1101) rfl rfl rfl (by decide +kernel) ⟨(Nat.le_of_ble_eq_true rfl), (Nat.le_of_ble_eq_true rfl)⟩) (pre3V g hK mq0_ kq0_ (by decide) (q := (RX8, TX8, 10)) rfl) rfl rfl hl.1 rfl (lv_room (Nat.le_of_ble_eq_true rfl)) dX2_readAssignment_130 ⟨(Nat.le_of_ble_eq_true rfl), (Nat.le_of_ble_eq_true rfl)⟩) g hK (by decide) (by decide) (fx' := [(7, 6, q3_, .int x_270), (0, 13, q2_, .int 0), (0, 12, q2_, .int 1), (0, 11, q2_, .int 0), (0, 10, q2_, .int 0), (0, 8, q2_, .int 0), (0, 2, q2_, .ref q7_), (8, 8, q0_, .int x_160), (9, 2, q4_, .int x_6), (2, 15, a0_, .int x_1), (2, 0, a0_, .ref q0_), (2, 1, a0_, .ref q1_), (2, 2, a0_, .ref q2_), (2, 3, a0_, .ref q3_), (2, 4, a0_, .ref q4_), (0, 0, q2_, .ref q0_), (0, 1, q2_, .ref q1_), (5, 0, q1_, .ref q7_), (5, 1, q1_, .ref q8_)]) rfl (fun fr_274 H locs hp hMr_274 g => ?_)
            obtain ⟨x_275, h_276, hF_277⟩ := hp
            have hG_278 := eOK.frame hMr_274 go_.2.2.2.1 mq2_ kq2_ (by decide) (by decide) hG_273
            have g := g.more hF_277
            subst hQ
            exact W.vret hx hb hr (fun t ht hW => ⟨⟨_, rfl, Or.inr (⟨hG_278, x_275, h_276, x_160, h_161, x_270, h_271, (g.fcts [0, 8, 1, 7] rfl)⟩), q3_of g hK ht hW⟩, g.2.2.1.F ht⟩) g.2.2.1.2.2 dX2_readAssignment_133
          · have fc_265 := nlt_f c_265
            have b_279 : bd 16 9 (16 : Int32) := leL fc_265 kb_16 b_132 (by decide)
            exact bd_no (eqX rfl b_279 kb_16 (lo := 16) (hi := 9) (by decide)) (by decide)
      · have g := g.more hF_153
        refine lv_aload_n hx hb dX2_readAssignment_34 rfl (lv_at hl 2 rfl) ?_
        refine g_getk (C := RX2) (T := TX2) (N := 16) hx hb hts (mc_ inX2) hown hK g rfl 0 (by decide) rfl (hts _ (List.mem_cons_of_mem _ t_416)) (fun _ h9 => h9) 5 rfl dX2_readAssignment_35 ?_
        refine lv_bipush (v := 93) hx hb dX2_readAssignment_38 (by decide) ?_
        have go_ := g
        refine g_callv (va_runV (As := [.int 93]) (rest := []) ⟨hx, hb, hml, hown, hts⟩ (r_X8_take_2 l dC dI L kd tys fr_143 H.size g.2.2.2.1 q0_ mq0_ kq0_ 93 x_149 h_150 x_151 h_152 (g.fcts [0, 1] rfl)) (cwV 1 hts (gV_ t_1098 t_1099 t_1100 t_184 t_1101) rfl rfl rfl (by decide +kernel) ⟨(Nat.le_of_ble_eq_true rfl), (Nat.le_of_ble_eq_true rfl)⟩) (pre3V g hK mq0_ kq0_ (by decide) (q := (RX8, TX8, 10)) rfl) rfl rfl hl.1 rfl (lv_room (Nat.le_of_ble_eq_true rfl)) dX2_readAssignment_40 ⟨(Nat.le_of_ble_eq_true rfl), (Nat.le_of_ble_eq_true rfl)⟩) g hK (by decide) (by decide) (fx' := [(8, 8, q0_, .int x_151), (0, 2, q2_, .ref q7_), (9, 2, q4_, .int x_6), (2, 15, a0_, .int x_1), (2, 0, a0_, .ref q0_), (2, 1, a0_, .ref q1_), (2, 2, a0_, .ref q2_), (2, 3, a0_, .ref q3_), (2, 4, a0_, .ref q4_), (0, 0, q2_, .ref q0_), (0, 1, q2_, .ref q1_), (5, 0, q1_, .ref q7_), (5, 1, q1_, .ref q8_)]) rfl (fun fr_280 H locs hp hMr_280 g => ?_)
        obtain ⟨x_281, h_282, hF_283⟩ := hp
        have hG_284 := eOK.frame hMr_280 go_.2.2.2.1 mq2_ kq2_ (by decide) (by decide) hG_148
        have g := g.more hF_283
        refine lv_aload_n hx hb dX2_readAssignment_43 rfl (lv_at hl 2 rfl) ?_
        refine g_getk (C := RX2) (T := TX2) (N := 16) hx hb hts (mc_ inX2) hown hK g rfl 3 (by decide) rfl (hts _ (List.mem_cons_of_mem _ t_419)) (fun _ h9 => h9) 8 rfl dX2_readAssignment_44 ?_
        refine lv_bipush (v := 11) hx hb dX2_readAssignment_47 (by decide) ?_
        refine lv_aload_n hx hb dX2_readAssignment_49 rfl (lv_at hl 2 rfl) ?_
        refine g_getk (C := RX2) (T := TX2) (N := 16) hx hb hts (mc_ inX2) hown hK g rfl 4 (by decide) rfl (hts _ (List.mem_cons_of_mem _ t_420)) (fun _ h9 => h9) 9 rfl dX2_readAssignment_50 ?_
        refine lv_iload_n hx hb dX2_readAssignment_53 rfl (lv_at hl 1 rfl) ?_
        have go_ := g
        refine g_calli (va_runV (As := [.int x_1]) (rest := [.int 11, .ref q3_]) ⟨hx, hb, hml, hown, hts⟩ (r_X9_spanOf l dC dI L kd tys fr_280 H.size g.2.2.2.1 q4_ mq4_ kq4_ x_1) (cwV 1 hts (gV_ t_1401 t_1265 t_1266 t_192 t_1267) rfl rfl rfl (by decide +kernel) ⟨(Nat.le_of_ble_eq_true rfl), (Nat.le_of_ble_eq_true rfl)⟩) (pre3V g hK mq4_ kq4_ (by decide) (q := (RX9, TX9, 13)) rfl) rfl rfl hl.1 rfl (lv_room (Nat.le_of_ble_eq_true rfl)) dX2_readAssignment_54 ⟨(Nat.le_of_ble_eq_true rfl), (Nat.le_of_ble_eq_true rfl)⟩) g hK (by decide) (by decide) (fx' := [(8, 6, q0_, .int x_281), (8, 8, q0_, .int x_151), (0, 2, q2_, .ref q7_), (9, 2, q4_, .int x_6), (2, 15, a0_, .int x_1), (2, 0, a0_, .ref q0_), (2, 1, a0_, .ref q1_), (2, 2, a0_, .ref q2_), (2, 3, a0_, .ref q3_), (2, 4, a0_, .ref q4_), (0, 0, q2_, .ref q0_), (0, 1, q2_, .ref q1_), (5, 0, q1_, .ref q7_), (5, 1, q1_, .ref q8_)]) rfl (fun r_285 fr_285 H locs hp hMr_285 g => ?_)
        obtain ⟨h_286, -⟩ := hp
        have hG_287 := eOK.frame hMr_285 go_.2.2.2.1 mq2_ kq2_ (by decide) (by decide) hG_284
        have go_ := g
        refine g_callv (va_runV (As := [.int 11, .int r_285]) (rest := []) ⟨hx, hb, hml, hown, hts⟩ (r_X7_emit l dC dI L kd tys fr_285 H.size g.2.2.2.1 q3_ mq3_ kq3_ 11 r_285) (cwV 2 hts (gV_ t_1301 t_1204 t_1205 t_191 t_1206) rfl rfl rfl (by decide +kernel) ⟨(Nat.le_of_ble_eq_true rfl), (Nat.le_of_ble_eq_true rfl)⟩) (pre3V g hK mq3_ kq3_ (by decide) (q := (RX7, TX7, 19)) rfl) rfl rfl hl.1 rfl (lv_room (Nat.le_of_ble_eq_true rfl)) dX2_readAssignment_57 ⟨(Nat.le_of_ble_eq_true rfl), (Nat.le_of_ble_eq_true rfl)⟩) g hK (by decide) (by decide) (fx' := [(8, 6, q0_, .int x_281), (8, 8, q0_, .int x_151), (0, 2, q2_, .ref q7_), (9, 2, q4_, .int x_6), (2, 15, a0_, .int x_1), (2, 0, a0_, .ref q0_), (2, 1, a0_, .ref q1_), (2, 2, a0_, .ref q2_), (2, 3, a0_, .ref q3_), (2, 4, a0_, .ref q4_), (0, 0, q2_, .ref q0_), (0, 1, q2_, .ref q1_), (5, 0, q1_, .ref q7_), (5, 1, q1_, .ref q8_)]) rfl (fun fr_288 H locs hp hMr_288 g => ?_)
        obtain ⟨x_289, h_290, hF_291⟩ := hp
        have hG_292 := eOK.frame hMr_288 go_.2.2.2.1 mq2_ kq2_ (by decide) (by decide) hG_287
        have g := g.more hF_291
        refine lv_aload_n hx hb dX2_readAssignment_60 rfl (lv_at hl 2 rfl) ?_
        refine g_getk (C := RX2) (T := TX2) (N := 16) hx hb hts (mc_ inX2) hown hK g rfl 0 (by decide) rfl (hts _ (List.mem_cons_of_mem _ t_416)) (fun _ h9 => h9) 6 rfl dX2_readAssignment_61 ?_
        refine lv_bipush (v := 61) hx hb dX2_readAssignment_64 (by decide) ?_
        have go_ := g
        refine g_callv (va_runV (As := [.int 61]) (rest := []) ⟨hx, hb, hml, hown, hts⟩ (r_X8_take_2 l dC dI L kd tys fr_288 H.size g.2.2.2.1 q0_ mq0_ kq0_ 61 x_281 h_282 x_151 h_152 (g.fcts [1, 2] rfl)) (cwV 1 hts (gV_ t_1098 t_1099 t_1100 t_184 t_1101) rfl rfl rfl (by decide +kernel) ⟨(Nat.le_of_ble_eq_true rfl), (Nat.le_of_ble_eq_true rfl)⟩) (pre3V g hK mq0_ kq0_ (by decide) (q := (RX8, TX8, 10)) rfl) rfl rfl hl.1 rfl (lv_room (Nat.le_of_ble_eq_true rfl)) dX2_readAssignment_66 ⟨(Nat.le_of_ble_eq_true rfl), (Nat.le_of_ble_eq_true rfl)⟩) g hK (by decide) (by decide) (fx' := [(7, 6, q3_, .int x_289), (8, 8, q0_, .int x_151), (0, 2, q2_, .ref q7_), (9, 2, q4_, .int x_6), (2, 15, a0_, .int x_1), (2, 0, a0_, .ref q0_), (2, 1, a0_, .ref q1_), (2, 2, a0_, .ref q2_), (2, 3, a0_, .ref q3_), (2, 4, a0_, .ref q4_), (0, 0, q2_, .ref q0_), (0, 1, q2_, .ref q1_), (5, 0, q1_, .ref q7_), (5, 1, q1_, .ref q8_)]) rfl (fun fr_293 H locs hp hMr_293 g => ?_)
        obtain ⟨x_294, h_295, hF_296⟩ := hp
        have hG_297 := eOK.frame hMr_293 go_.2.2.2.1 mq2_ kq2_ (by decide) (by decide) hG_292
        have g := g.more hF_296
        refine lv_aload_n hx hb dX2_readAssignment_69 rfl (lv_at hl 2 rfl) ?_
        refine g_getk (C := RX2) (T := TX2) (N := 16) hx hb hts (mc_ inX2) hown hK g rfl 2 (by decide) rfl (hts _ (List.mem_cons_of_mem _ t_418)) (fun _ h9 => h9) 8 rfl dX2_readAssignment_70 ?_
        have go_ := g
        refine g_callv (va_runV (As := []) (rest := []) ⟨hx, hb, hml, hown, hts⟩ (r_X0_read_2 l dC dI L kd tys fr_293 H.size g.2.2.2.1 q2_ mq2_ kq2_ q0_ mq0_ kq0_ q1_ mq1_ kq1_ q7_ mq7_ kq7_ q8_ mq8_ kq8_ x_294 h_295 x_151 h_152 hG_297 (g.fcts [11, 12, 13, 14, 0, 2] rfl)) (cwV 0 hts (gV_ t_1182 t_1183 t_1184 t_190 t_1185) rfl rfl rfl (by decide +kernel) ⟨(Nat.le_of_ble_eq_true rfl), (Nat.le_of_ble_eq_true rfl)⟩) (pre3V g hK mq2_ kq2_ (by decide) (q := (RX0, TX0, 14)) rfl) rfl rfl hl.1 rfl (lv_room (Nat.le_of_ble_eq_true rfl)) dX2_readAssignment_73 ⟨(Nat.le_of_ble_eq_true rfl), (Nat.le_of_ble_eq_true rfl)⟩) g hK (by decide) (by decide) (fx' := [(8, 6, q0_, .int x_294), (7, 6, q3_, .int x_289), (8, 8, q0_, .int x_151), (9, 2, q4_, .int x_6), (2, 15, a0_, .int x_1), (2, 0, a0_, .ref q0_), (2, 1, a0_, .ref q1_), (2, 2, a0_, .ref q2_), (2, 3, a0_, .ref q3_), (2, 4, a0_, .ref q4_), (0, 0, q2_, .ref q0_), (0, 1, q2_, .ref q1_), (5, 0, q1_, .ref q7_), (5, 1, q1_, .ref q8_)]) rfl (fun fr_298 H locs hp hMr_298 g => ?_)
        have hF_299 := hp
        have hG_300 := eOK.frame hMr_298 go_.2.2.2.1 mq2_ kq2_ (by decide) (by decide) hG_297
        have g := g.more hF_299
        refine lv_iload_n hx hb dX2_readAssignment_76 rfl (lv_at hl 1 rfl) ?_
        refine lv_bipush (v := 16) hx hb dX2_readAssignment_77 (by decide) ?_
        have kb_16 : bd 16 16 (16 : Int32) := ⟨by decide, by decide⟩
        refine lv_icmp_lt (tgt := 98) hx hb dX2_readAssignment_79 (by decide) (fun c_301 => ?_) (fun c_301 => ?_)
        · have fc_301 := lt_f c_301
          refine lv_aload_n hx hb dX2_readAssignment_98 rfl (lv_at hl 2 rfl) ?_
          refine g_getk (C := RX2) (T := TX2) (N := 16) hx hb hts (mc_ inX2) hown hK g rfl 3 (by decide) rfl (hts _ (List.mem_cons_of_mem _ t_419)) (fun _ h9 => h9) 14 rfl dX2_readAssignment_99 ?_
          refine lv_iload_n hx hb dX2_readAssignment_102 rfl (lv_at hl 0 rfl) ?_
          refine lv_if_eq (tgt := 111) hx hb dX2_readAssignment_103 (by decide) (fun c_ => absurd c_ (by decide)) (fun c_ => ?_)
          refine lv_bipush (v := 27) hx hb dX2_readAssignment_106 (by decide) ?_
          refine lv_goto (tgt := 113) hx hb dX2_readAssignment_108 (by decide) ?_
          refine lv_aload_n hx hb dX2_readAssignment_113 rfl (lv_at hl 2 rfl) ?_
          refine g_getk (C := RX2) (T := TX2) (N := 16) hx hb hts (mc_ inX2) hown hK g rfl 4 (by decide) rfl (hts _ (List.mem_cons_of_mem _ t_420)) (fun _ h9 => h9) 15 rfl dX2_readAssignment_114 ?_
          refine lv_iload_n hx hb dX2_readAssignment_117 rfl (lv_at hl 1 rfl) ?_
          have go_ := g
          refine g_calli (va_runV (As := [.int x_1]) (rest := [.int 27, .ref q3_]) ⟨hx, hb, hml, hown, hts⟩ (r_X9_spanOf l dC dI L kd tys fr_298 H.size g.2.2.2.1 q4_ mq4_ kq4_ x_1) (cwV 1 hts (gV_ t_1401 t_1265 t_1266 t_192 t_1267) rfl rfl rfl (by decide +kernel) ⟨(Nat.le_of_ble_eq_true rfl), (Nat.le_of_ble_eq_true rfl)⟩) (pre3V g hK mq4_ kq4_ (by decide) (q := (RX9, TX9, 13)) rfl) rfl rfl hl.1 rfl (lv_room (Nat.le_of_ble_eq_true rfl)) dX2_readAssignment_118 ⟨(Nat.le_of_ble_eq_true rfl), (Nat.le_of_ble_eq_true rfl)⟩) g hK (by decide) (by decide) (fx' := [(0, 13, q2_, .int 0), (0, 12, q2_, .int 1), (0, 11, q2_, .int 0), (0, 10, q2_, .int 0), (0, 8, q2_, .int 0), (0, 2, q2_, .ref q7_), (8, 6, q0_, .int x_294), (7, 6, q3_, .int x_289), (8, 8, q0_, .int x_151), (9, 2, q4_, .int x_6), (2, 15, a0_, .int x_1), (2, 0, a0_, .ref q0_), (2, 1, a0_, .ref q1_), (2, 2, a0_, .ref q2_), (2, 3, a0_, .ref q3_), (2, 4, a0_, .ref q4_), (0, 0, q2_, .ref q0_), (0, 1, q2_, .ref q1_), (5, 0, q1_, .ref q7_), (5, 1, q1_, .ref q8_)]) rfl (fun r_302 fr_302 H locs hp hMr_302 g => ?_)
          obtain ⟨h_303, -⟩ := hp
          have hG_304 := eOK.frame hMr_302 go_.2.2.2.1 mq2_ kq2_ (by decide) (by decide) hG_300
          have go_ := g
          refine g_callv (va_runV (As := [.int 27, .int r_302]) (rest := []) ⟨hx, hb, hml, hown, hts⟩ (r_X7_emit l dC dI L kd tys fr_302 H.size g.2.2.2.1 q3_ mq3_ kq3_ 27 r_302) (cwV 2 hts (gV_ t_1301 t_1204 t_1205 t_191 t_1206) rfl rfl rfl (by decide +kernel) ⟨(Nat.le_of_ble_eq_true rfl), (Nat.le_of_ble_eq_true rfl)⟩) (pre3V g hK mq3_ kq3_ (by decide) (q := (RX7, TX7, 19)) rfl) rfl rfl hl.1 rfl (lv_room (Nat.le_of_ble_eq_true rfl)) dX2_readAssignment_121 ⟨(Nat.le_of_ble_eq_true rfl), (Nat.le_of_ble_eq_true rfl)⟩) g hK (by decide) (by decide) (fx' := [(0, 13, q2_, .int 0), (0, 12, q2_, .int 1), (0, 11, q2_, .int 0), (0, 10, q2_, .int 0), (0, 8, q2_, .int 0), (0, 2, q2_, .ref q7_), (8, 6, q0_, .int x_294), (8, 8, q0_, .int x_151), (9, 2, q4_, .int x_6), (2, 15, a0_, .int x_1), (2, 0, a0_, .ref q0_), (2, 1, a0_, .ref q1_), (2, 2, a0_, .ref q2_), (2, 3, a0_, .ref q3_), (2, 4, a0_, .ref q4_), (0, 0, q2_, .ref q0_), (0, 1, q2_, .ref q1_), (5, 0, q1_, .ref q7_), (5, 1, q1_, .ref q8_)]) rfl (fun fr_305 H locs hp hMr_305 g => ?_)
          obtain ⟨x_306, h_307, hF_308⟩ := hp
          have hG_309 := eOK.frame hMr_305 go_.2.2.2.1 mq2_ kq2_ (by decide) (by decide) hG_304
          have g := g.more hF_308
          refine lv_aload_n hx hb dX2_readAssignment_124 rfl (lv_at hl 2 rfl) ?_
          refine g_getk (C := RX2) (T := TX2) (N := 16) hx hb hts (mc_ inX2) hown hK g rfl 0 (by decide) rfl (hts _ (List.mem_cons_of_mem _ t_416)) (fun _ h9 => h9) 11 rfl dX2_readAssignment_125 ?_
          refine lv_bipush (v := 59) hx hb dX2_readAssignment_128 (by decide) ?_
          have go_ := g
          refine g_callv (va_runV (As := [.int 59]) (rest := []) ⟨hx, hb, hml, hown, hts⟩ (r_X8_take_2 l dC dI L kd tys fr_305 H.size g.2.2.2.1 q0_ mq0_ kq0_ 59 x_294 h_295 x_151 h_152 (g.fcts [7, 8] rfl)) (cwV 1 hts (gV_ t_1098 t_1099 t_1100 t_184 t_1101) rfl rfl rfl (by decide +kernel) ⟨(Nat.le_of_ble_eq_true rfl), (Nat.le_of_ble_eq_true rfl)⟩) (pre3V g hK mq0_ kq0_ (by decide) (q := (RX8, TX8, 10)) rfl) rfl rfl hl.1 rfl (lv_room (Nat.le_of_ble_eq_true rfl)) dX2_readAssignment_130 ⟨(Nat.le_of_ble_eq_true rfl), (Nat.le_of_ble_eq_true rfl)⟩) g hK (by decide) (by decide) (fx' := [(7, 6, q3_, .int x_306), (0, 13, q2_, .int 0), (0, 12, q2_, .int 1), (0, 11, q2_, .int 0), (0, 10, q2_, .int 0), (0, 8, q2_, .int 0), (0, 2, q2_, .ref q7_), (8, 8, q0_, .int x_151), (9, 2, q4_, .int x_6), (2, 15, a0_, .int x_1), (2, 0, a0_, .ref q0_), (2, 1, a0_, .ref q1_), (2, 2, a0_, .ref q2_), (2, 3, a0_, .ref q3_), (2, 4, a0_, .ref q4_), (0, 0, q2_, .ref q0_), (0, 1, q2_, .ref q1_), (5, 0, q1_, .ref q7_), (5, 1, q1_, .ref q8_)]) rfl (fun fr_310 H locs hp hMr_310 g => ?_)
          obtain ⟨x_311, h_312, hF_313⟩ := hp
          have hG_314 := eOK.frame hMr_310 go_.2.2.2.1 mq2_ kq2_ (by decide) (by decide) hG_309
          have g := g.more hF_313
          subst hQ
          exact W.vret hx hb hr (fun t ht hW => ⟨⟨_, rfl, Or.inr (⟨hG_314, x_311, h_312, x_151, h_152, x_306, h_307, (g.fcts [0, 8, 1, 7] rfl)⟩), q3_of g hK ht hW⟩, g.2.2.1.F ht⟩) g.2.2.1.2.2 dX2_readAssignment_133
        · have fc_301 := nlt_f c_301
          have b_315 : bd 16 9 (16 : Int32) := leL fc_301 kb_16 b_132 (by decide)
          exact bd_no (eqX rfl b_315 kb_16 (lo := 16) (hi := 9) (by decide)) (by decide)
    · have hG_316 := eOK.frame hMr_133 go_.2.2.2.1 mq2_ kq2_ (by decide) (by decide) hG_131
      have g := g.more hF_141
      refine lv_aload_n hx hb dX2_readAssignment_27 rfl (lv_at hl 2 rfl) ?_
      refine g_getk (C := RX2) (T := TX2) (N := 16) hx hb hts (mc_ inX2) hown hK g rfl 2 (by decide) rfl (hts _ (List.mem_cons_of_mem _ t_418)) (fun _ h9 => h9) 6 rfl dX2_readAssignment_28 ?_
      have kb_1201 : bd 1201 1201 (1201 : Int32) := ⟨by decide, by decide⟩
      have go_ := g
      refine g_callv (va_runV (As := []) (rest := []) ⟨hx, hb, hml, hown, hts⟩ (r_X0_read_2 l dC dI L kd tys fr_133 H.size g.2.2.2.1 q2_ mq2_ kq2_ q0_ mq0_ kq0_ q1_ mq1_ kq1_ q7_ mq7_ kq7_ q8_ mq8_ kq8_ 1201 kb_1201 x_139 h_140 hG_316 (g.fcts [9, 10, 11, 12, 0, 1] rfl)) (cwV 0 hts (gV_ t_1182 t_1183 t_1184 t_190 t_1185) rfl rfl rfl (by decide +kernel) ⟨(Nat.le_of_ble_eq_true rfl), (Nat.le_of_ble_eq_true rfl)⟩) (pre3V g hK mq2_ kq2_ (by decide) (q := (RX0, TX0, 14)) rfl) rfl rfl hl.1 rfl (lv_room (Nat.le_of_ble_eq_true rfl)) dX2_readAssignment_31 ⟨(Nat.le_of_ble_eq_true rfl), (Nat.le_of_ble_eq_true rfl)⟩) g hK (by decide) (by decide) (fx' := [(8, 6, q0_, .int 1201), (8, 8, q0_, .int x_139), (9, 2, q4_, .int x_6), (2, 15, a0_, .int x_1), (2, 0, a0_, .ref q0_), (2, 1, a0_, .ref q1_), (2, 2, a0_, .ref q2_), (2, 3, a0_, .ref q3_), (2, 4, a0_, .ref q4_), (0, 0, q2_, .ref q0_), (0, 1, q2_, .ref q1_), (5, 0, q1_, .ref q7_), (5, 1, q1_, .ref q8_)]) rfl (fun fr_317 H locs hp hMr_317 g => ?_)
      have hF_318 := hp
      have hG_319 := eOK.frame hMr_317 go_.2.2.2.1 mq2_ kq2_ (by decide) (by decide) hG_316
      have g := g.more hF_318
      refine lv_aload_n hx hb dX2_readAssignment_34 rfl (lv_at hl 2 rfl) ?_
      refine g_getk (C := RX2) (T := TX2) (N := 16) hx hb hts (mc_ inX2) hown hK g rfl 0 (by decide) rfl (hts _ (List.mem_cons_of_mem _ t_416)) (fun _ h9 => h9) 10 rfl dX2_readAssignment_35 ?_
      refine lv_bipush (v := 93) hx hb dX2_readAssignment_38 (by decide) ?_
      have go_ := g
      refine g_callv (va_runV (As := [.int 93]) (rest := []) ⟨hx, hb, hml, hown, hts⟩ (r_X8_take_2 l dC dI L kd tys fr_317 H.size g.2.2.2.1 q0_ mq0_ kq0_ 93 1201 kb_1201 x_139 h_140 (g.fcts [6, 7] rfl)) (cwV 1 hts (gV_ t_1098 t_1099 t_1100 t_184 t_1101) rfl rfl rfl (by decide +kernel) ⟨(Nat.le_of_ble_eq_true rfl), (Nat.le_of_ble_eq_true rfl)⟩) (pre3V g hK mq0_ kq0_ (by decide) (q := (RX8, TX8, 10)) rfl) rfl rfl hl.1 rfl (lv_room (Nat.le_of_ble_eq_true rfl)) dX2_readAssignment_40 ⟨(Nat.le_of_ble_eq_true rfl), (Nat.le_of_ble_eq_true rfl)⟩) g hK (by decide) (by decide) (fx' := [(0, 13, q2_, .int 0), (0, 12, q2_, .int 1), (0, 11, q2_, .int 0), (0, 10, q2_, .int 0), (0, 8, q2_, .int 0), (0, 2, q2_, .ref q7_), (8, 8, q0_, .int x_139), (9, 2, q4_, .int x_6), (2, 15, a0_, .int x_1), (2, 0, a0_, .ref q0_), (2, 1, a0_, .ref q1_), (2, 2, a0_, .ref q2_), (2, 3, a0_, .ref q3_), (2, 4, a0_, .ref q4_), (0, 0, q2_, .ref q0_), (0, 1, q2_, .ref q1_), (5, 0, q1_, .ref q7_), (5, 1, q1_, .ref q8_)]) rfl (fun fr_320 H locs hp hMr_320 g => ?_)
      obtain ⟨x_321, h_322, hF_323⟩ := hp
      have hG_324 := eOK.frame hMr_320 go_.2.2.2.1 mq2_ kq2_ (by decide) (by decide) hG_319
      have g := g.more hF_323
      refine lv_aload_n hx hb dX2_readAssignment_43 rfl (lv_at hl 2 rfl) ?_
      refine g_getk (C := RX2) (T := TX2) (N := 16) hx hb hts (mc_ inX2) hown hK g rfl 3 (by decide) rfl (hts _ (List.mem_cons_of_mem _ t_419)) (fun _ h9 => h9) 13 rfl dX2_readAssignment_44 ?_
      refine lv_bipush (v := 11) hx hb dX2_readAssignment_47 (by decide) ?_
      refine lv_aload_n hx hb dX2_readAssignment_49 rfl (lv_at hl 2 rfl) ?_
      refine g_getk (C := RX2) (T := TX2) (N := 16) hx hb hts (mc_ inX2) hown hK g rfl 4 (by decide) rfl (hts _ (List.mem_cons_of_mem _ t_420)) (fun _ h9 => h9) 14 rfl dX2_readAssignment_50 ?_
      refine lv_iload_n hx hb dX2_readAssignment_53 rfl (lv_at hl 1 rfl) ?_
      have go_ := g
      refine g_calli (va_runV (As := [.int x_1]) (rest := [.int 11, .ref q3_]) ⟨hx, hb, hml, hown, hts⟩ (r_X9_spanOf l dC dI L kd tys fr_320 H.size g.2.2.2.1 q4_ mq4_ kq4_ x_1) (cwV 1 hts (gV_ t_1401 t_1265 t_1266 t_192 t_1267) rfl rfl rfl (by decide +kernel) ⟨(Nat.le_of_ble_eq_true rfl), (Nat.le_of_ble_eq_true rfl)⟩) (pre3V g hK mq4_ kq4_ (by decide) (q := (RX9, TX9, 13)) rfl) rfl rfl hl.1 rfl (lv_room (Nat.le_of_ble_eq_true rfl)) dX2_readAssignment_54 ⟨(Nat.le_of_ble_eq_true rfl), (Nat.le_of_ble_eq_true rfl)⟩) g hK (by decide) (by decide) (fx' := [(8, 6, q0_, .int x_321), (0, 13, q2_, .int 0), (0, 12, q2_, .int 1), (0, 11, q2_, .int 0), (0, 10, q2_, .int 0), (0, 8, q2_, .int 0), (0, 2, q2_, .ref q7_), (8, 8, q0_, .int x_139), (9, 2, q4_, .int x_6), (2, 15, a0_, .int x_1), (2, 0, a0_, .ref q0_), (2, 1, a0_, .ref q1_), (2, 2, a0_, .ref q2_), (2, 3, a0_, .ref q3_), (2, 4, a0_, .ref q4_), (0, 0, q2_, .ref q0_), (0, 1, q2_, .ref q1_), (5, 0, q1_, .ref q7_), (5, 1, q1_, .ref q8_)]) rfl (fun r_325 fr_325 H locs hp hMr_325 g => ?_)
      obtain ⟨h_326, -⟩ := hp
      have hG_327 := eOK.frame hMr_325 go_.2.2.2.1 mq2_ kq2_ (by decide) (by decide) hG_324
      have go_ := g
      refine g_callv (va_runV (As := [.int 11, .int r_325]) (rest := []) ⟨hx, hb, hml, hown, hts⟩ (r_X7_emit l dC dI L kd tys fr_325 H.size g.2.2.2.1 q3_ mq3_ kq3_ 11 r_325) (cwV 2 hts (gV_ t_1301 t_1204 t_1205 t_191 t_1206) rfl rfl rfl (by decide +kernel) ⟨(Nat.le_of_ble_eq_true rfl), (Nat.le_of_ble_eq_true rfl)⟩) (pre3V g hK mq3_ kq3_ (by decide) (q := (RX7, TX7, 19)) rfl) rfl rfl hl.1 rfl (lv_room (Nat.le_of_ble_eq_true rfl)) dX2_readAssignment_57 ⟨(Nat.le_of_ble_eq_true rfl), (Nat.le_of_ble_eq_true rfl)⟩) g hK (by decide) (by decide) (fx' := [(8, 6, q0_, .int x_321), (0, 13, q2_, .int 0), (0, 12, q2_, .int 1), (0, 11, q2_, .int 0), (0, 10, q2_, .int 0), (0, 8, q2_, .int 0), (0, 2, q2_, .ref q7_), (8, 8, q0_, .int x_139), (9, 2, q4_, .int x_6), (2, 15, a0_, .int x_1), (2, 0, a0_, .ref q0_), (2, 1, a0_, .ref q1_), (2, 2, a0_, .ref q2_), (2, 3, a0_, .ref q3_), (2, 4, a0_, .ref q4_), (0, 0, q2_, .ref q0_), (0, 1, q2_, .ref q1_), (5, 0, q1_, .ref q7_), (5, 1, q1_, .ref q8_)]) rfl (fun fr_328 H locs hp hMr_328 g => ?_)
      obtain ⟨x_329, h_330, hF_331⟩ := hp
      have hG_332 := eOK.frame hMr_328 go_.2.2.2.1 mq2_ kq2_ (by decide) (by decide) hG_327
      have g := g.more hF_331
      refine lv_aload_n hx hb dX2_readAssignment_60 rfl (lv_at hl 2 rfl) ?_
      refine g_getk (C := RX2) (T := TX2) (N := 16) hx hb hts (mc_ inX2) hown hK g rfl 0 (by decide) rfl (hts _ (List.mem_cons_of_mem _ t_416)) (fun _ h9 => h9) 11 rfl dX2_readAssignment_61 ?_
      refine lv_bipush (v := 61) hx hb dX2_readAssignment_64 (by decide) ?_
      have go_ := g
      refine g_callv (va_runV (As := [.int 61]) (rest := []) ⟨hx, hb, hml, hown, hts⟩ (r_X8_take_2 l dC dI L kd tys fr_328 H.size g.2.2.2.1 q0_ mq0_ kq0_ 61 x_321 h_322 x_139 h_140 (g.fcts [1, 8] rfl)) (cwV 1 hts (gV_ t_1098 t_1099 t_1100 t_184 t_1101) rfl rfl rfl (by decide +kernel) ⟨(Nat.le_of_ble_eq_true rfl), (Nat.le_of_ble_eq_true rfl)⟩) (pre3V g hK mq0_ kq0_ (by decide) (q := (RX8, TX8, 10)) rfl) rfl rfl hl.1 rfl (lv_room (Nat.le_of_ble_eq_true rfl)) dX2_readAssignment_66 ⟨(Nat.le_of_ble_eq_true rfl), (Nat.le_of_ble_eq_true rfl)⟩) g hK (by decide) (by decide) (fx' := [(7, 6, q3_, .int x_329), (0, 13, q2_, .int 0), (0, 12, q2_, .int 1), (0, 11, q2_, .int 0), (0, 10, q2_, .int 0), (0, 8, q2_, .int 0), (0, 2, q2_, .ref q7_), (8, 8, q0_, .int x_139), (9, 2, q4_, .int x_6), (2, 15, a0_, .int x_1), (2, 0, a0_, .ref q0_), (2, 1, a0_, .ref q1_), (2, 2, a0_, .ref q2_), (2, 3, a0_, .ref q3_), (2, 4, a0_, .ref q4_), (0, 0, q2_, .ref q0_), (0, 1, q2_, .ref q1_), (5, 0, q1_, .ref q7_), (5, 1, q1_, .ref q8_)]) rfl (fun fr_333 H locs hp hMr_333 g => ?_)
      obtain ⟨x_334, h_335, hF_336⟩ := hp
      have hG_337 := eOK.frame hMr_333 go_.2.2.2.1 mq2_ kq2_ (by decide) (by decide) hG_332
      have g := g.more hF_336
      refine lv_aload_n hx hb dX2_readAssignment_69 rfl (lv_at hl 2 rfl) ?_
      refine g_getk (C := RX2) (T := TX2) (N := 16) hx hb hts (mc_ inX2) hown hK g rfl 2 (by decide) rfl (hts _ (List.mem_cons_of_mem _ t_418)) (fun _ h9 => h9) 13 rfl dX2_readAssignment_70 ?_
      have go_ := g
      refine g_callv (va_runV (As := []) (rest := []) ⟨hx, hb, hml, hown, hts⟩ (r_X0_read_2 l dC dI L kd tys fr_333 H.size g.2.2.2.1 q2_ mq2_ kq2_ q0_ mq0_ kq0_ q1_ mq1_ kq1_ q7_ mq7_ kq7_ q8_ mq8_ kq8_ x_334 h_335 x_139 h_140 hG_337 (g.fcts [16, 17, 18, 19, 0, 8] rfl)) (cwV 0 hts (gV_ t_1182 t_1183 t_1184 t_190 t_1185) rfl rfl rfl (by decide +kernel) ⟨(Nat.le_of_ble_eq_true rfl), (Nat.le_of_ble_eq_true rfl)⟩) (pre3V g hK mq2_ kq2_ (by decide) (q := (RX0, TX0, 14)) rfl) rfl rfl hl.1 rfl (lv_room (Nat.le_of_ble_eq_true rfl)) dX2_readAssignment_73 ⟨(Nat.le_of_ble_eq_true rfl), (Nat.le_of_ble_eq_true rfl)⟩) g hK (by decide) (by decide) (fx' := [(8, 6, q0_, .int x_334), (7, 6, q3_, .int x_329), (8, 8, q0_, .int x_139), (9, 2, q4_, .int x_6), (2, 15, a0_, .int x_1), (2, 0, a0_, .ref q0_), (2, 1, a0_, .ref q1_), (2, 2, a0_, .ref q2_), (2, 3, a0_, .ref q3_), (2, 4, a0_, .ref q4_), (0, 0, q2_, .ref q0_), (0, 1, q2_, .ref q1_), (5, 0, q1_, .ref q7_), (5, 1, q1_, .ref q8_)]) rfl (fun fr_338 H locs hp hMr_338 g => ?_)
      have hF_339 := hp
      have hG_340 := eOK.frame hMr_338 go_.2.2.2.1 mq2_ kq2_ (by decide) (by decide) hG_337
      have g := g.more hF_339
      refine lv_iload_n hx hb dX2_readAssignment_76 rfl (lv_at hl 1 rfl) ?_
      refine lv_bipush (v := 16) hx hb dX2_readAssignment_77 (by decide) ?_
      have kb_16 : bd 16 16 (16 : Int32) := ⟨by decide, by decide⟩
      refine lv_icmp_lt (tgt := 98) hx hb dX2_readAssignment_79 (by decide) (fun c_341 => ?_) (fun c_341 => ?_)
      · have fc_341 := lt_f c_341
        refine lv_aload_n hx hb dX2_readAssignment_98 rfl (lv_at hl 2 rfl) ?_
        refine g_getk (C := RX2) (T := TX2) (N := 16) hx hb hts (mc_ inX2) hown hK g rfl 3 (by decide) rfl (hts _ (List.mem_cons_of_mem _ t_419)) (fun _ h9 => h9) 14 rfl dX2_readAssignment_99 ?_
        refine lv_iload_n hx hb dX2_readAssignment_102 rfl (lv_at hl 0 rfl) ?_
        refine lv_if_eq (tgt := 111) hx hb dX2_readAssignment_103 (by decide) (fun c_ => absurd c_ (by decide)) (fun c_ => ?_)
        refine lv_bipush (v := 27) hx hb dX2_readAssignment_106 (by decide) ?_
        refine lv_goto (tgt := 113) hx hb dX2_readAssignment_108 (by decide) ?_
        refine lv_aload_n hx hb dX2_readAssignment_113 rfl (lv_at hl 2 rfl) ?_
        refine g_getk (C := RX2) (T := TX2) (N := 16) hx hb hts (mc_ inX2) hown hK g rfl 4 (by decide) rfl (hts _ (List.mem_cons_of_mem _ t_420)) (fun _ h9 => h9) 15 rfl dX2_readAssignment_114 ?_
        refine lv_iload_n hx hb dX2_readAssignment_117 rfl (lv_at hl 1 rfl) ?_
        have go_ := g
        refine g_calli (va_runV (As := [.int x_1]) (rest := [.int 27, .ref q3_]) ⟨hx, hb, hml, hown, hts⟩ (r_X9_spanOf l dC dI L kd tys fr_338 H.size g.2.2.2.1 q4_ mq4_ kq4_ x_1) (cwV 1 hts (gV_ t_1401 t_1265 t_1266 t_192 t_1267) rfl rfl rfl (by decide +kernel) ⟨(Nat.le_of_ble_eq_true rfl), (Nat.le_of_ble_eq_true rfl)⟩) (pre3V g hK mq4_ kq4_ (by decide) (q := (RX9, TX9, 13)) rfl) rfl rfl hl.1 rfl (lv_room (Nat.le_of_ble_eq_true rfl)) dX2_readAssignment_118 ⟨(Nat.le_of_ble_eq_true rfl), (Nat.le_of_ble_eq_true rfl)⟩) g hK (by decide) (by decide) (fx' := [(0, 13, q2_, .int 0), (0, 12, q2_, .int 1), (0, 11, q2_, .int 0), (0, 10, q2_, .int 0), (0, 8, q2_, .int 0), (0, 2, q2_, .ref q7_), (8, 6, q0_, .int x_334), (7, 6, q3_, .int x_329), (8, 8, q0_, .int x_139), (9, 2, q4_, .int x_6), (2, 15, a0_, .int x_1), (2, 0, a0_, .ref q0_), (2, 1, a0_, .ref q1_), (2, 2, a0_, .ref q2_), (2, 3, a0_, .ref q3_), (2, 4, a0_, .ref q4_), (0, 0, q2_, .ref q0_), (0, 1, q2_, .ref q1_), (5, 0, q1_, .ref q7_), (5, 1, q1_, .ref q8_)]) rfl (fun r_342 fr_342 H locs hp hMr_342 g => ?_)
        obtain ⟨h_343, -⟩ := hp
        have hG_344 := eOK.frame hMr_342 go_.2.2.2.1 mq2_ kq2_ (by decide) (by decide) hG_340
        have go_ := g
        refine g_callv (va_runV (As := [.int 27, .int r_342]) (rest := []) ⟨hx, hb, hml, hown, hts⟩ (r_X7_emit l dC dI L kd tys fr_342 H.size g.2.2.2.1 q3_ mq3_ kq3_ 27 r_342) (cwV 2 hts (gV_ t_1301 t_1204 t_1205 t_191 t_1206) rfl rfl rfl (by decide +kernel) ⟨(Nat.le_of_ble_eq_true rfl), (Nat.le_of_ble_eq_true rfl)⟩) (pre3V g hK mq3_ kq3_ (by decide) (q := (RX7, TX7, 19)) rfl) rfl rfl hl.1 rfl (lv_room (Nat.le_of_ble_eq_true rfl)) dX2_readAssignment_121 ⟨(Nat.le_of_ble_eq_true rfl), (Nat.le_of_ble_eq_true rfl)⟩) g hK (by decide) (by decide) (fx' := [(0, 13, q2_, .int 0), (0, 12, q2_, .int 1), (0, 11, q2_, .int 0), (0, 10, q2_, .int 0), (0, 8, q2_, .int 0), (0, 2, q2_, .ref q7_), (8, 6, q0_, .int x_334), (8, 8, q0_, .int x_139), (9, 2, q4_, .int x_6), (2, 15, a0_, .int x_1), (2, 0, a0_, .ref q0_), (2, 1, a0_, .ref q1_), (2, 2, a0_, .ref q2_), (2, 3, a0_, .ref q3_), (2, 4, a0_, .ref q4_), (0, 0, q2_, .ref q0_), (0, 1, q2_, .ref q1_), (5, 0, q1_, .ref q7_), (5, 1, q1_, .ref q8_)]) rfl (fun fr_345 H locs hp hMr_345 g => ?_)
        obtain ⟨x_346, h_347, hF_348⟩ := hp
        have hG_349 := eOK.frame hMr_345 go_.2.2.2.1 mq2_ kq2_ (by decide) (by decide) hG_344
        have g := g.more hF_348
        refine lv_aload_n hx hb dX2_readAssignment_124 rfl (lv_at hl 2 rfl) ?_
        refine g_getk (C := RX2) (T := TX2) (N := 16) hx hb hts (mc_ inX2) hown hK g rfl 0 (by decide) rfl (hts _ (List.mem_cons_of_mem _ t_416)) (fun _ h9 => h9) 11 rfl dX2_readAssignment_125 ?_
        refine lv_bipush (v := 59) hx hb dX2_readAssignment_128 (by decide) ?_
        have go_ := g
        refine g_callv (va_runV (As := [.int 59]) (rest := []) ⟨hx, hb, hml, hown, hts⟩ (r_X8_take_2 l dC dI L kd tys fr_345 H.size g.2.2.2.1 q0_ mq0_ kq0_ 59 x_334 h_335 x_139 h_140 (g.fcts [7, 8] rfl)) (cwV 1 hts (gV_ t_1098 t_1099 t_1100 t_184 t_1101) rfl rfl rfl (by decide +kernel) ⟨(Nat.le_of_ble_eq_true rfl), (Nat.le_of_ble_eq_true rfl)⟩) (pre3V g hK mq0_ kq0_ (by decide) (q := (RX8, TX8, 10)) rfl) rfl rfl hl.1 rfl (lv_room (Nat.le_of_ble_eq_true rfl)) dX2_readAssignment_130 ⟨(Nat.le_of_ble_eq_true rfl), (Nat.le_of_ble_eq_true rfl)⟩) g hK (by decide) (by decide) (fx' := [(7, 6, q3_, .int x_346), (0, 13, q2_, .int 0), (0, 12, q2_, .int 1), (0, 11, q2_, .int 0), (0, 10, q2_, .int 0), (0, 8, q2_, .int 0), (0, 2, q2_, .ref q7_), (8, 8, q0_, .int x_139), (9, 2, q4_, .int x_6), (2, 15, a0_, .int x_1), (2, 0, a0_, .ref q0_), (2, 1, a0_, .ref q1_), (2, 2, a0_, .ref q2_), (2, 3, a0_, .ref q3_), (2, 4, a0_, .ref q4_), (0, 0, q2_, .ref q0_), (0, 1, q2_, .ref q1_), (5, 0, q1_, .ref q7_), (5, 1, q1_, .ref q8_)]) rfl (fun fr_350 H locs hp hMr_350 g => ?_)
        obtain ⟨x_351, h_352, hF_353⟩ := hp
        have hG_354 := eOK.frame hMr_350 go_.2.2.2.1 mq2_ kq2_ (by decide) (by decide) hG_349
        have g := g.more hF_353
        subst hQ
        exact W.vret hx hb hr (fun t ht hW => ⟨⟨_, rfl, Or.inr (⟨hG_354, x_351, h_352, x_139, h_140, x_346, h_347, (g.fcts [0, 8, 1, 7] rfl)⟩), q3_of g hK ht hW⟩, g.2.2.1.F ht⟩) g.2.2.1.2.2 dX2_readAssignment_133
      · have fc_341 := nlt_f c_341
        have b_355 : bd 16 9 (16 : Int32) := leL fc_341 kb_16 b_132 (by decide)
        exact bd_no (eqX rfl b_355 kb_16 (lo := 16) (hi := 9) (by decide)) (by decide)
