set_option maxHeartbeats 4000000 in
set_option maxRecDepth 100000 in
theorem r_X2_readAssignment_2 (l : Launch) (dC : Nat → ClassId) (dI : Nat → Nat → Nat) (L : List Nat) (kd : Nat → Nat) (tys : List (ClassId × FieldType)) (f0 : Nat → va_E) (sz : Nat) (hWT : WT L kd tys f0) (a0_ : Nat) (ma0_ : a0_ ∈ L) (ka0_ : kd a0_ = 2) (q0_ : Nat) (mq0_ : q0_ ∈ L) (kq0_ : kd q0_ = 8) (q1_ : Nat) (mq1_ : q1_ ∈ L) (kq1_ : kd q1_ = 5) (q2_ : Nat) (mq2_ : q2_ ∈ L) (kq2_ : kd q2_ = 0) (q3_ : Nat) (mq3_ : q3_ ∈ L) (kq3_ : kd q3_ = 7) (q4_ : Nat) (mq4_ : q4_ ∈ L) (kq4_ : kd q4_ = 9) (q7_ : Nat) (mq7_ : q7_ ∈ L) (kq7_ : kd q7_ = 7) (q8_ : Nat) (mq8_ : q8_ ∈ L) (kq8_ : kd q8_ = 9) (y0_ : Int32) (by0_ : bd 0 0 y0_) (hGeq2_ : eOK f0 q2_) (hfx : Fs L kd f0 [(2, 0, a0_, .ref q0_), (2, 1, a0_, .ref q1_), (2, 2, a0_, .ref q2_), (2, 3, a0_, .ref q3_), (2, 4, a0_, .ref q4_), (0, 0, q2_, .ref q0_), (0, 1, q2_, .ref q1_), (5, 0, q1_, .ref q7_), (5, 1, q1_, .ref q8_), (8, 8, q0_, .int y0_)]) : Met l yX2_readAssignment (.code yX2_readAssignment cX2_readAssignment 3 none :: lw_g) ({ frames := 4, cells := 0, slots := 0, locals := 97 }) (va_Pc [.ref a0_] (P3 (dC, dI) L tys f0 sz)) (va_Qv (fun (f : Nat → va_E) => (eOK f q2_ ∧ ∃ z0_ : Int32, bd 1 1201 z0_ ∧ ∃ z2_ : Int32, bd 1 2000 z2_ ∧ Fs L kd f [(8, 6, q0_, .int z0_), (8, 8, q0_, .int y0_), (7, 6, q3_, .int z2_), (0, 2, q2_, .ref q7_)]) ∨ (eOK f q2_ ∧ ∃ z0_ : Int32, bd 1201 1201 z0_ ∧ ∃ z1_ : Int32, bd 1 7 z1_ ∧ ∃ z2_ : Int32, bd 1 2000 z2_ ∧ Fs L kd f [(8, 6, q0_, .int z0_), (8, 8, q0_, .int z1_), (7, 6, q3_, .int z2_), (0, 2, q2_, .ref q7_)])) (Q3 (dC, dI) L kd tys [(0, 2), (0, 8), (0, 10), (0, 11), (0, 12), (0, 13), (7, 6), (7, 18), (8, 6), (8, 8), (8, 9)] [110, 111, 112, 113, 114, 115, 138, 139] f0 sz) (pA L sz)) 0 0 (pA L sz) := by
  refine Met.ofW (cc := cX2_readAssignment) (maxL := 3) (ret := none) (by decide) rfl ?_
  intro p e s m args below meth c s₁ B hml hv
  obtain ⟨rfl, hsz, hP, hK, hD0⟩ := hv
  have hx := B.exec
  have hb := B.bytes
  have hr := B.returns
  have hts := atoms_spec (ws := (.code yX2_readAssignment cX2_readAssignment 3 none :: lw_g)) B.pre
  have hown : s.vm.findClass RX2 = some m.cls := findClass_of_methodNamed B.named
  have hlocks := B.notSynchronized
  subst hsz
  have g : G3 (dC, dI) L kd tys s f0 [(0, 2), (0, 8), (0, 10), (0, 11), (0, 12), (0, 13), (7, 6), (7, 18), (8, 6), (8, 8), (8, 9)] [110, 111, 112, 113, 114, 115, 138, 139] f0 s.heap [] [(2, 0, a0_, .ref q0_), (2, 1, a0_, .ref q1_), (2, 2, a0_, .ref q2_), (2, 3, a0_, .ref q3_), (2, 4, a0_, .ref q4_), (0, 0, q2_, .ref q0_), (0, 1, q2_, .ref q1_), (5, 0, q1_, .ref q7_), (5, 1, q1_, .ref q8_), (8, 8, q0_, .int y0_)] := G3.start hP hD0 hWT hfx
  have hl := lv_entry ([.ref a0_]) (n := 3) (Nat.le_of_ble_eq_true rfl)
  rw [lg_entry_eq]
  generalize (lg_sl ([.ref a0_]) ++ List.replicate (3 - (lg_sl ([.ref a0_])).length) Slot.unset).toArray = ls at hl ⊢
  have hl : lv_has ls 3 [(0, .ref a0_)] := hl
  refine W_q (fun Q hQ => ?_)
  refine lv_aload_n hx hb dX2_readAssignment_0 rfl (lv_at hl 0 rfl) ?_
  refine g_geti (C := RX2) (T := TX2) (N := 16) hx hb hts (mc_ inX2) hown hK g ma0_ ka0_ (by decide) rfl 15 (by decide) rfl (hts _ (List.mem_cons_of_mem _ t_431)) (fun _ h9 => h9) rfl dX2_readAssignment_1 (fun x_1 bx_1 g => ?_)
  refine lv_istore_n (lv' := [(1, .int x_1), (0, .ref a0_)]) hx hb dX2_readAssignment_4 rfl hl (by decide) rfl (fun ls hl => ?_)
  refine lv_aload_n hx hb dX2_readAssignment_5 rfl (lv_at hl 1 rfl) ?_
  refine g_getk (C := RX2) (T := TX2) (N := 16) hx hb hts (mc_ inX2) hown hK g rfl 4 (by decide) rfl (hts _ (List.mem_cons_of_mem _ t_420)) (fun _ h9 => h9) 5 rfl dX2_readAssignment_6 ?_
  refine lv_iload_n hx hb dX2_readAssignment_9 rfl (lv_at hl 0 rfl) ?_
  have go_ := g
  refine g_calli (va_runV (As := [.int x_1]) (rest := []) ⟨hx, hb, hml, hown, hts⟩ (r_X9_isRow l dC dI L kd tys f0 s.heap.size g.2.2.2.1 q4_ mq4_ kq4_ x_1) (cwV 1 hts (gV_ t_1392 t_1257 t_1258 t_192 t_1259) rfl rfl rfl (by decide +kernel) ⟨(Nat.le_of_ble_eq_true rfl), (Nat.le_of_ble_eq_true rfl)⟩) (pre3V g hK mq4_ kq4_ (by decide) (q := (RX9, TX9, 13)) rfl) rfl rfl hl.1 rfl (lv_room (Nat.le_of_ble_eq_true rfl)) dX2_readAssignment_10 ⟨(Nat.le_of_ble_eq_true rfl), (Nat.le_of_ble_eq_true rfl)⟩) g hK (by decide) (by decide) (fx' := [(2, 15, a0_, .int x_1), (2, 0, a0_, .ref q0_), (2, 1, a0_, .ref q1_), (2, 2, a0_, .ref q2_), (2, 3, a0_, .ref q3_), (2, 4, a0_, .ref q4_), (0, 0, q2_, .ref q0_), (0, 1, q2_, .ref q1_), (5, 0, q1_, .ref q7_), (5, 1, q1_, .ref q8_), (8, 8, q0_, .int y0_)]) rfl (fun r_2 fr_2 H locs hp hMr_2 g => ?_)
  rcases hp with ⟨h_3, -⟩ | ⟨h_4, h_5, x_6, h_7, hF_8⟩
  · have hG_9 := eOK.frame hMr_2 go_.2.2.2.1 mq2_ kq2_ (by decide) (by decide) hGeq2_
    obtain rfl : r_2 = 0 := h_3
    refine lv_istore_n (lv' := [(2, .int 0), (1, .int x_1), (0, .ref a0_)]) hx hb dX2_readAssignment_13 rfl hl (by decide) rfl (fun ls hl => ?_)
    refine lv_iload_n hx hb dX2_readAssignment_14 rfl (lv_at hl 0 rfl) ?_
    refine lv_if_eq (tgt := 60) hx hb dX2_readAssignment_15 (by decide) (fun c_ => ?_) (fun c_ => absurd (by decide) c_)
    refine lv_aload_n hx hb dX2_readAssignment_60 rfl (lv_at hl 2 rfl) ?_
    refine g_getk (C := RX2) (T := TX2) (N := 16) hx hb hts (mc_ inX2) hown hK g rfl 0 (by decide) rfl (hts _ (List.mem_cons_of_mem _ t_416)) (fun _ h9 => h9) 1 rfl dX2_readAssignment_61 ?_
    refine lv_bipush (v := 61) hx hb dX2_readAssignment_64 (by decide) ?_
    have go_ := g
    refine g_callv (va_runV (As := [.int 61]) (rest := []) ⟨hx, hb, hml, hown, hts⟩ (r_X8_take l dC dI L kd tys fr_2 H.size g.2.2.2.1 q0_ mq0_ kq0_ 61 y0_ by0_ (g.fcts [10] rfl)) (cwV 1 hts (gV_ t_1098 t_1099 t_1100 t_184 t_1101) rfl rfl rfl (by decide +kernel) ⟨(Nat.le_of_ble_eq_true rfl), (Nat.le_of_ble_eq_true rfl)⟩) (pre3V g hK mq0_ kq0_ (by decide) (q := (RX8, TX8, 10)) rfl) rfl rfl hl.1 rfl (lv_room (Nat.le_of_ble_eq_true rfl)) dX2_readAssignment_66 ⟨(Nat.le_of_ble_eq_true rfl), (Nat.le_of_ble_eq_true rfl)⟩) g hK (by decide) (by decide) (fx' := [(2, 15, a0_, .int x_1), (2, 0, a0_, .ref q0_), (2, 1, a0_, .ref q1_), (2, 2, a0_, .ref q2_), (2, 3, a0_, .ref q3_), (2, 4, a0_, .ref q4_), (0, 0, q2_, .ref q0_), (0, 1, q2_, .ref q1_), (5, 0, q1_, .ref q7_), (5, 1, q1_, .ref q8_)]) rfl (fun fr_10 H locs hp hMr_10 g => ?_)
    rcases hp with ⟨x_11, h_12, hF_13⟩ | ⟨x_14, h_15, hF_16⟩
    · have hG_17 := eOK.frame hMr_10 go_.2.2.2.1 mq2_ kq2_ (by decide) (by decide) hG_9
      have g := g.more hF_13
      refine lv_aload_n hx hb dX2_readAssignment_69 rfl (lv_at hl 2 rfl) ?_
      refine g_getk (C := RX2) (T := TX2) (N := 16) hx hb hts (mc_ inX2) hown hK g rfl 2 (by decide) rfl (hts _ (List.mem_cons_of_mem _ t_418)) (fun _ h9 => h9) 5 rfl dX2_readAssignment_70 ?_
      have go_ := g
      refine g_callv (va_runV (As := []) (rest := []) ⟨hx, hb, hml, hown, hts⟩ (r_X0_read l dC dI L kd tys fr_10 H.size g.2.2.2.1 q2_ mq2_ kq2_ q0_ mq0_ kq0_ q1_ mq1_ kq1_ q7_ mq7_ kq7_ q8_ mq8_ kq8_ y0_ by0_ hG_17 (g.fcts [8, 9, 10, 11, 1] rfl)) (cwV 0 hts (gV_ t_1182 t_1183 t_1184 t_190 t_1185) rfl rfl rfl (by decide +kernel) ⟨(Nat.le_of_ble_eq_true rfl), (Nat.le_of_ble_eq_true rfl)⟩) (pre3V g hK mq2_ kq2_ (by decide) (q := (RX0, TX0, 14)) rfl) rfl rfl hl.1 rfl (lv_room (Nat.le_of_ble_eq_true rfl)) dX2_readAssignment_73 ⟨(Nat.le_of_ble_eq_true rfl), (Nat.le_of_ble_eq_true rfl)⟩) g hK (by decide) (by decide) (fx' := [(2, 15, a0_, .int x_1), (2, 0, a0_, .ref q0_), (2, 1, a0_, .ref q1_), (2, 2, a0_, .ref q2_), (2, 3, a0_, .ref q3_), (2, 4, a0_, .ref q4_), (0, 0, q2_, .ref q0_), (0, 1, q2_, .ref q1_), (5, 0, q1_, .ref q7_), (5, 1, q1_, .ref q8_)]) rfl (fun fr_18 H locs hp hMr_18 g => ?_)
      rcases hp with ⟨hG_19, hF_20⟩ | ⟨hG_21, x_22, h_23, x_24, h_25, hF_26⟩
      · have g := g.more hF_20
        refine lv_iload_n hx hb dX2_readAssignment_76 rfl (lv_at hl 1 rfl) ?_
        refine lv_bipush (v := 16) hx hb dX2_readAssignment_77 (by decide) ?_
        have kb_16 : bd 16 16 (16 : Int32) := ⟨by decide, by decide⟩
        refine lv_icmp_lt (tgt := 98) hx hb dX2_readAssignment_79 (by decide) (fun c_27 => ?_) (fun c_27 => ?_)
        · have fc_27 := lt_f c_27
          have b_28 : bd (-1) 15 x_1 := ltL fc_27 bx_1 kb_16 (by decide)
          refine lv_aload_n hx hb dX2_readAssignment_98 rfl (lv_at hl 2 rfl) ?_
          refine g_getk (C := RX2) (T := TX2) (N := 16) hx hb hts (mc_ inX2) hown hK g rfl 3 (by decide) rfl (hts _ (List.mem_cons_of_mem _ t_419)) (fun _ h9 => h9) 6 rfl dX2_readAssignment_99 ?_
          refine lv_iload_n hx hb dX2_readAssignment_102 rfl (lv_at hl 0 rfl) ?_
          refine lv_if_eq (tgt := 111) hx hb dX2_readAssignment_103 (by decide) (fun c_ => ?_) (fun c_ => absurd (by decide) c_)
          refine lv_bipush (v := 21) hx hb dX2_readAssignment_111 (by decide) ?_
          refine lv_aload_n hx hb dX2_readAssignment_113 rfl (lv_at hl 2 rfl) ?_
          refine g_getk (C := RX2) (T := TX2) (N := 16) hx hb hts (mc_ inX2) hown hK g rfl 4 (by decide) rfl (hts _ (List.mem_cons_of_mem _ t_420)) (fun _ h9 => h9) 7 rfl dX2_readAssignment_114 ?_
          refine lv_iload_n hx hb dX2_readAssignment_117 rfl (lv_at hl 1 rfl) ?_
          have go_ := g
          refine g_calli (va_runV (As := [.int x_1]) (rest := [.int 21, .ref q3_]) ⟨hx, hb, hml, hown, hts⟩ (r_X9_spanOf l dC dI L kd tys fr_18 H.size g.2.2.2.1 q4_ mq4_ kq4_ x_1) (cwV 1 hts (gV_ t_1401 t_1265 t_1266 t_192 t_1267) rfl rfl rfl (by decide +kernel) ⟨(Nat.le_of_ble_eq_true rfl), (Nat.le_of_ble_eq_true rfl)⟩) (pre3V g hK mq4_ kq4_ (by decide) (q := (RX9, TX9, 13)) rfl) rfl rfl hl.1 rfl (lv_room (Nat.le_of_ble_eq_true rfl)) dX2_readAssignment_118 ⟨(Nat.le_of_ble_eq_true rfl), (Nat.le_of_ble_eq_true rfl)⟩) g hK (by decide) (by decide) (fx' := [(0, 2, q2_, .ref q7_), (8, 8, q0_, .int y0_), (2, 15, a0_, .int x_1), (2, 0, a0_, .ref q0_), (2, 1, a0_, .ref q1_), (2, 2, a0_, .ref q2_), (2, 3, a0_, .ref q3_), (2, 4, a0_, .ref q4_), (0, 0, q2_, .ref q0_), (0, 1, q2_, .ref q1_), (5, 0, q1_, .ref q7_), (5, 1, q1_, .ref q8_)]) rfl (fun r_29 fr_29 H locs hp hMr_29 g => ?_)
          obtain ⟨h_30, -⟩ := hp
          have hG_31 := eOK.frame hMr_29 go_.2.2.2.1 mq2_ kq2_ (by decide) (by decide) hG_19
          have go_ := g
          refine g_callv (va_runV (As := [.int 21, .int r_29]) (rest := []) ⟨hx, hb, hml, hown, hts⟩ (r_X7_emit l dC dI L kd tys fr_29 H.size g.2.2.2.1 q3_ mq3_ kq3_ 21 r_29) (cwV 2 hts (gV_ t_1301 t_1204 t_1205 t_191 t_1206) rfl rfl rfl (by decide +kernel) ⟨(Nat.le_of_ble_eq_true rfl), (Nat.le_of_ble_eq_true rfl)⟩) (pre3V g hK mq3_ kq3_ (by decide) (q := (RX7, TX7, 19)) rfl) rfl rfl hl.1 rfl (lv_room (Nat.le_of_ble_eq_true rfl)) dX2_readAssignment_121 ⟨(Nat.le_of_ble_eq_true rfl), (Nat.le_of_ble_eq_true rfl)⟩) g hK (by decide) (by decide) (fx' := [(0, 2, q2_, .ref q7_), (8, 8, q0_, .int y0_), (2, 15, a0_, .int x_1), (2, 0, a0_, .ref q0_), (2, 1, a0_, .ref q1_), (2, 2, a0_, .ref q2_), (2, 3, a0_, .ref q3_), (2, 4, a0_, .ref q4_), (0, 0, q2_, .ref q0_), (0, 1, q2_, .ref q1_), (5, 0, q1_, .ref q7_), (5, 1, q1_, .ref q8_)]) rfl (fun fr_32 H locs hp hMr_32 g => ?_)
          obtain ⟨x_33, h_34, hF_35⟩ := hp
          have hG_36 := eOK.frame hMr_32 go_.2.2.2.1 mq2_ kq2_ (by decide) (by decide) hG_31
          have g := g.more hF_35
          refine lv_aload_n hx hb dX2_readAssignment_124 rfl (lv_at hl 2 rfl) ?_
          refine g_getk (C := RX2) (T := TX2) (N := 16) hx hb hts (mc_ inX2) hown hK g rfl 0 (by decide) rfl (hts _ (List.mem_cons_of_mem _ t_416)) (fun _ h9 => h9) 4 rfl dX2_readAssignment_125 ?_
          refine lv_bipush (v := 59) hx hb dX2_readAssignment_128 (by decide) ?_
          have go_ := g
          refine g_callv (va_runV (As := [.int 59]) (rest := []) ⟨hx, hb, hml, hown, hts⟩ (r_X8_take l dC dI L kd tys fr_32 H.size g.2.2.2.1 q0_ mq0_ kq0_ 59 y0_ by0_ (g.fcts [2] rfl)) (cwV 1 hts (gV_ t_1098 t_1099 t_1100 t_184 t_1101) rfl rfl rfl (by decide +kernel) ⟨(Nat.le_of_ble_eq_true rfl), (Nat.le_of_ble_eq_true rfl)⟩) (pre3V g hK mq0_ kq0_ (by decide) (q := (RX8, TX8, 10)) rfl) rfl rfl hl.1 rfl (lv_room (Nat.le_of_ble_eq_true rfl)) dX2_readAssignment_130 ⟨(Nat.le_of_ble_eq_true rfl), (Nat.le_of_ble_eq_true rfl)⟩) g hK (by decide) (by decide) (fx' := [(7, 6, q3_, .int x_33), (0, 2, q2_, .ref q7_), (2, 15, a0_, .int x_1), (2, 0, a0_, .ref q0_), (2, 1, a0_, .ref q1_), (2, 2, a0_, .ref q2_), (2, 3, a0_, .ref q3_), (2, 4, a0_, .ref q4_), (0, 0, q2_, .ref q0_), (0, 1, q2_, .ref q1_), (5, 0, q1_, .ref q7_), (5, 1, q1_, .ref q8_)]) rfl (fun fr_37 H locs hp hMr_37 g => ?_)
          rcases hp with ⟨x_38, h_39, hF_40⟩ | ⟨x_41, h_42, hF_43⟩
          · have hG_44 := eOK.frame hMr_37 go_.2.2.2.1 mq2_ kq2_ (by decide) (by decide) hG_36
            have g := g.more hF_40
            subst hQ
            exact W.vret hx hb hr (fun t ht hW => ⟨⟨_, rfl, Or.inl ⟨hG_44, x_38, h_39, x_33, h_34, (g.fcts [0, 1, 2, 3] rfl)⟩, q3_of g hK ht hW⟩, g.2.2.1.F ht⟩) g.2.2.1.2.2 dX2_readAssignment_133
          · have hG_45 := eOK.frame hMr_37 go_.2.2.2.1 mq2_ kq2_ (by decide) (by decide) hG_36
            have g := g.more hF_43
            have kb_1201 : bd 1201 1201 (1201 : Int32) := ⟨by decide, by decide⟩
            subst hQ
            exact W.vret hx hb hr (fun t ht hW => ⟨⟨_, rfl, Or.inr (⟨hG_45, 1201, kb_1201, x_41, h_42, x_33, h_34, (g.fcts [0, 1, 2, 3] rfl)⟩), q3_of g hK ht hW⟩, g.2.2.1.F ht⟩) g.2.2.1.2.2 dX2_readAssignment_133
        · have fc_27 := nlt_f c_27
          have b_46 : bd 16 26 x_1 := leR fc_27 kb_16 bx_1 (by decide)
          refine lv_aload_n hx hb dX2_readAssignment_82 rfl (lv_at hl 2 rfl) ?_
          refine g_getk (C := RX2) (T := TX2) (N := 16) hx hb hts (mc_ inX2) hown hK g rfl 3 (by decide) rfl (hts _ (List.mem_cons_of_mem _ t_419)) (fun _ h9 => h9) 6 rfl dX2_readAssignment_83 ?_
          refine lv_bipush (v := 20) hx hb dX2_readAssignment_86 (by decide) ?_
          refine lv_iload_n hx hb dX2_readAssignment_88 rfl (lv_at hl 1 rfl) ?_
          refine lv_bipush (v := 16) hx hb dX2_readAssignment_89 (by decide) ?_
          refine lv_isub hx hb dX2_readAssignment_91 ?_
          refine lv_topi (fun y_47 ey_47 => ?_)
          have ty_47 := sub_bd ey_47 b_46 kb_16 (by decide)
          have b_48 : bd 0 10 y_47 := sub_rg ty_47 b_46 kb_16 (by decide)
          have go_ := g
          refine g_callv (va_runV (As := [.int 20, .int y_47]) (rest := []) ⟨hx, hb, hml, hown, hts⟩ (r_X7_emit l dC dI L kd tys fr_18 H.size g.2.2.2.1 q3_ mq3_ kq3_ 20 y_47) (cwV 2 hts (gV_ t_1301 t_1204 t_1205 t_191 t_1206) rfl rfl rfl (by decide +kernel) ⟨(Nat.le_of_ble_eq_true rfl), (Nat.le_of_ble_eq_true rfl)⟩) (pre3V g hK mq3_ kq3_ (by decide) (q := (RX7, TX7, 19)) rfl) rfl rfl hl.1 rfl (lv_room (Nat.le_of_ble_eq_true rfl)) dX2_readAssignment_92 ⟨(Nat.le_of_ble_eq_true rfl), (Nat.le_of_ble_eq_true rfl)⟩) g hK (by decide) (by decide) (fx' := [(0, 2, q2_, .ref q7_), (8, 8, q0_, .int y0_), (2, 15, a0_, .int x_1), (2, 0, a0_, .ref q0_), (2, 1, a0_, .ref q1_), (2, 2, a0_, .ref q2_), (2, 3, a0_, .ref q3_), (2, 4, a0_, .ref q4_), (0, 0, q2_, .ref q0_), (0, 1, q2_, .ref q1_), (5, 0, q1_, .ref q7_), (5, 1, q1_, .ref q8_)]) rfl (fun fr_49 H locs hp hMr_49 g => ?_)
          obtain ⟨x_50, h_51, hF_52⟩ := hp
          have hG_53 := eOK.frame hMr_49 go_.2.2.2.1 mq2_ kq2_ (by decide) (by decide) hG_19
          have g := g.more hF_52
          refine lv_goto (tgt := 124) hx hb dX2_readAssignment_95 (by decide) ?_
          refine lv_aload_n hx hb dX2_readAssignment_124 rfl (lv_at hl 2 rfl) ?_
          refine g_getk (C := RX2) (T := TX2) (N := 16) hx hb hts (mc_ inX2) hown hK g rfl 0 (by decide) rfl (hts _ (List.mem_cons_of_mem _ t_416)) (fun _ h9 => h9) 4 rfl dX2_readAssignment_125 ?_
          refine lv_bipush (v := 59) hx hb dX2_readAssignment_128 (by decide) ?_
          have go_ := g
          refine g_callv (va_runV (As := [.int 59]) (rest := []) ⟨hx, hb, hml, hown, hts⟩ (r_X8_take l dC dI L kd tys fr_49 H.size g.2.2.2.1 q0_ mq0_ kq0_ 59 y0_ by0_ (g.fcts [2] rfl)) (cwV 1 hts (gV_ t_1098 t_1099 t_1100 t_184 t_1101) rfl rfl rfl (by decide +kernel) ⟨(Nat.le_of_ble_eq_true rfl), (Nat.le_of_ble_eq_true rfl)⟩) (pre3V g hK mq0_ kq0_ (by decide) (q := (RX8, TX8, 10)) rfl) rfl rfl hl.1 rfl (lv_room (Nat.le_of_ble_eq_true rfl)) dX2_readAssignment_130 ⟨(Nat.le_of_ble_eq_true rfl), (Nat.le_of_ble_eq_true rfl)⟩) g hK (by decide) (by decide) (fx' := [(7, 6, q3_, .int x_50), (0, 2, q2_, .ref q7_), (2, 15, a0_, .int x_1), (2, 0, a0_, .ref q0_), (2, 1, a0_, .ref q1_), (2, 2, a0_, .ref q2_), (2, 3, a0_, .ref q3_), (2, 4, a0_, .ref q4_), (0, 0, q2_, .ref q0_), (0, 1, q2_, .ref q1_), (5, 0, q1_, .ref q7_), (5, 1, q1_, .ref q8_)]) rfl (fun fr_54 H locs hp hMr_54 g => ?_)
          rcases hp with ⟨x_55, h_56, hF_57⟩ | ⟨x_58, h_59, hF_60⟩
          · have hG_61 := eOK.frame hMr_54 go_.2.2.2.1 mq2_ kq2_ (by decide) (by decide) hG_53
            have g := g.more hF_57
            subst hQ
            exact W.vret hx hb hr (fun t ht hW => ⟨⟨_, rfl, Or.inl ⟨hG_61, x_55, h_56, x_50, h_51, (g.fcts [0, 1, 2, 3] rfl)⟩, q3_of g hK ht hW⟩, g.2.2.1.F ht⟩) g.2.2.1.2.2 dX2_readAssignment_133
          · have hG_62 := eOK.frame hMr_54 go_.2.2.2.1 mq2_ kq2_ (by decide) (by decide) hG_53
            have g := g.more hF_60
            have kb_1201 : bd 1201 1201 (1201 : Int32) := ⟨by decide, by decide⟩
            subst hQ
            exact W.vret hx hb hr (fun t ht hW => ⟨⟨_, rfl, Or.inr (⟨hG_62, 1201, kb_1201, x_58, h_59, x_50, h_51, (g.fcts [0, 1, 2, 3] rfl)⟩), q3_of g hK ht hW⟩, g.2.2.1.F ht⟩) g.2.2.1.2.2 dX2_readAssignment_133
      · have g := g.more hF_26
        refine lv_iload_n hx hb dX2_readAssignment_76 rfl (lv_at hl 1 rfl) ?_
        refine lv_bipush (v := 16) hx hb dX2_readAssignment_77 (by decide) ?_
        have kb_16 : bd 16 16 (16 : Int32) := ⟨by decide, by decide⟩
        refine lv_icmp_lt (tgt := 98) hx hb dX2_readAssignment_79 (by decide) (fun c_63 => ?_) (fun c_63 => ?_)
        · have fc_63 := lt_f c_63
          have b_64 : bd (-1) 15 x_1 := ltL fc_63 bx_1 kb_16 (by decide)
          refine lv_aload_n hx hb dX2_readAssignment_98 rfl (lv_at hl 2 rfl) ?_
          refine g_getk (C := RX2) (T := TX2) (N := 16) hx hb hts (mc_ inX2) hown hK g rfl 3 (by decide) rfl (hts _ (List.mem_cons_of_mem _ t_419)) (fun _ h9 => h9) 7 rfl dX2_readAssignment_99 ?_
          refine lv_iload_n hx hb dX2_readAssignment_102 rfl (lv_at hl 0 rfl) ?_
          refine lv_if_eq (tgt := 111) hx hb dX2_readAssignment_103 (by decide) (fun c_ => ?_) (fun c_ => absurd (by decide) c_)
          refine lv_bipush (v := 21) hx hb dX2_readAssignment_111 (by decide) ?_
          refine lv_aload_n hx hb dX2_readAssignment_113 rfl (lv_at hl 2 rfl) ?_
          refine g_getk (C := RX2) (T := TX2) (N := 16) hx hb hts (mc_ inX2) hown hK g rfl 4 (by decide) rfl (hts _ (List.mem_cons_of_mem _ t_420)) (fun _ h9 => h9) 8 rfl dX2_readAssignment_114 ?_
          refine lv_iload_n hx hb dX2_readAssignment_117 rfl (lv_at hl 1 rfl) ?_
          have go_ := g
          refine g_calli (va_runV (As := [.int x_1]) (rest := [.int 21, .ref q3_]) ⟨hx, hb, hml, hown, hts⟩ (r_X9_spanOf l dC dI L kd tys fr_18 H.size g.2.2.2.1 q4_ mq4_ kq4_ x_1) (cwV 1 hts (gV_ t_1401 t_1265 t_1266 t_192 t_1267) rfl rfl rfl (by decide +kernel) ⟨(Nat.le_of_ble_eq_true rfl), (Nat.le_of_ble_eq_true rfl)⟩) (pre3V g hK mq4_ kq4_ (by decide) (q := (RX9, TX9, 13)) rfl) rfl rfl hl.1 rfl (lv_room (Nat.le_of_ble_eq_true rfl)) dX2_readAssignment_118 ⟨(Nat.le_of_ble_eq_true rfl), (Nat.le_of_ble_eq_true rfl)⟩) g hK (by decide) (by decide) (fx' := [(8, 6, q0_, .int x_22), (8, 8, q0_, .int x_24), (0, 2, q2_, .ref q7_), (2, 15, a0_, .int x_1), (2, 0, a0_, .ref q0_), (2, 1, a0_, .ref q1_), (2, 2, a0_, .ref q2_), (2, 3, a0_, .ref q3_), (2, 4, a0_, .ref q4_), (0, 0, q2_, .ref q0_), (0, 1, q2_, .ref q1_), (5, 0, q1_, .ref q7_), (5, 1, q1_, .ref q8_)]) rfl (fun r_65 fr_65 H locs hp hMr_65 g => ?_)
          obtain ⟨h_66, -⟩ := hp
          have hG_67 := eOK.frame hMr_65 go_.2.2.2.1 mq2_ kq2_ (by decide) (by decide) hG_21
          have go_ := g
          refine g_callv (va_runV (As := [.int 21, .int r_65]) (rest := []) ⟨hx, hb, hml, hown, hts⟩ (r_X7_emit l dC dI L kd tys fr_65 H.size g.2.2.2.1 q3_ mq3_ kq3_ 21 r_65) (cwV 2 hts (gV_ t_1301 t_1204 t_1205 t_191 t_1206) rfl rfl rfl (by decide +kernel) ⟨(Nat.le_of_ble_eq_true rfl), (Nat.le_of_ble_eq_true rfl)⟩) (pre3V g hK mq3_ kq3_ (by decide) (q := (RX7, TX7, 19)) rfl) rfl rfl hl.1 rfl (lv_room (Nat.le_of_ble_eq_true rfl)) dX2_readAssignment_121 ⟨(Nat.le_of_ble_eq_true rfl), (Nat.le_of_ble_eq_true rfl)⟩) g hK (by decide) (by decide) (fx' := [(8, 6, q0_, .int x_22), (8, 8, q0_, .int x_24), (0, 2, q2_, .ref q7_), (2, 15, a0_, .int x_1), (2, 0, a0_, .ref q0_), (2, 1, a0_, .ref q1_), (2, 2, a0_, .ref q2_), (2, 3, a0_, .ref q3_), (2, 4, a0_, .ref q4_), (0, 0, q2_, .ref q0_), (0, 1, q2_, .ref q1_), (5, 0, q1_, .ref q7_), (5, 1, q1_, .ref q8_)]) rfl (fun fr_68 H locs hp hMr_68 g => ?_)
          obtain ⟨x_69, h_70, hF_71⟩ := hp
          have hG_72 := eOK.frame hMr_68 go_.2.2.2.1 mq2_ kq2_ (by decide) (by decide) hG_67
          have g := g.more hF_71
          refine lv_aload_n hx hb dX2_readAssignment_124 rfl (lv_at hl 2 rfl) ?_
          refine g_getk (C := RX2) (T := TX2) (N := 16) hx hb hts (mc_ inX2) hown hK g rfl 0 (by decide) rfl (hts _ (List.mem_cons_of_mem _ t_416)) (fun _ h9 => h9) 5 rfl dX2_readAssignment_125 ?_
          refine lv_bipush (v := 59) hx hb dX2_readAssignment_128 (by decide) ?_
          have go_ := g
          refine g_callv (va_runV (As := [.int 59]) (rest := []) ⟨hx, hb, hml, hown, hts⟩ (r_X8_take_2 l dC dI L kd tys fr_68 H.size g.2.2.2.1 q0_ mq0_ kq0_ 59 x_22 h_23 x_24 h_25 (g.fcts [1, 2] rfl)) (cwV 1 hts (gV_ t_1098 t_1099 t_1100 t_184 t_1101) rfl rfl rfl (by decide +kernel) ⟨(Nat.le_of_ble_eq_true rfl), (Nat.le_of_ble_eq_true rfl)⟩) (pre3V g hK mq0_ kq0_ (by decide) (q := (RX8, TX8, 10)) rfl) rfl rfl hl.1 rfl (lv_room (Nat.le_of_ble_eq_true rfl)) dX2_readAssignment_130 ⟨(Nat.le_of_ble_eq_true rfl), (Nat.le_of_ble_eq_true rfl)⟩) g hK (by decide) (by decide) (fx' := [(7, 6, q3_, .int x_69), (8, 8, q0_, .int x_24), (0, 2, q2_, .ref q7_), (2, 15, a0_, .int x_1), (2, 0, a0_, .ref q0_), (2, 1, a0_, .ref q1_), (2, 2, a0_, .ref q2_), (2, 3, a0_, .ref q3_), (2, 4, a0_, .ref q4_), (0, 0, q2_, .ref q0_), (0, 1, q2_, .ref q1_), (5, 0, q1_, .ref q7_), (5, 1, q1_, .ref q8_)]) rfl (fun fr_73 H locs hp hMr_73 g => ?_)
          obtain ⟨x_74, h_75, hF_76⟩ := hp
          have hG_77 := eOK.frame hMr_73 go_.2.2.2.1 mq2_ kq2_ (by decide) (by decide) hG_72
          have g := g.more hF_76
          subst hQ
          exact W.vret hx hb hr (fun t ht hW => ⟨⟨_, rfl, Or.inr (⟨hG_77, x_74, h_75, x_24, h_25, x_69, h_70, (g.fcts [0, 2, 1, 3] rfl)⟩), q3_of g hK ht hW⟩, g.2.2.1.F ht⟩) g.2.2.1.2.2 dX2_readAssignment_133
        · have fc_63 := nlt_f c_63
          have b_78 : bd 16 26 x_1 := leR fc_63 kb_16 bx_1 (by decide)
          refine lv_aload_n hx hb dX2_readAssignment_82 rfl (lv_at hl 2 rfl) ?_
          refine g_getk (C := RX2) (T := TX2) (N := 16) hx hb hts (mc_ inX2) hown hK g rfl 3 (by decide) rfl (hts _ (List.mem_cons_of_mem _ t_419)) (fun _ h9 => h9) 7 rfl dX2_readAssignment_83 ?_
          refine lv_bipush (v := 20) hx hb dX2_readAssignment_86 (by decide) ?_
          refine lv_iload_n hx hb dX2_readAssignment_88 rfl (lv_at hl 1 rfl) ?_
          refine lv_bipush (v := 16) hx hb dX2_readAssignment_89 (by decide) ?_
          refine lv_isub hx hb dX2_readAssignment_91 ?_
          refine lv_topi (fun y_79 ey_79 => ?_)
          have ty_79 := sub_bd ey_79 b_78 kb_16 (by decide)
          have b_80 : bd 0 10 y_79 := sub_rg ty_79 b_78 kb_16 (by decide)
          have go_ := g
          refine g_callv (va_runV (As := [.int 20, .int y_79]) (rest := []) ⟨hx, hb, hml, hown, hts⟩ (r_X7_emit l dC dI L kd tys fr_18 H.size g.2.2.2.1 q3_ mq3_ kq3_ 20 y_79) (cwV 2 hts (gV_ t_1301 t_1204 t_1205 t_191 t_1206) rfl rfl rfl (by decide +kernel) ⟨(Nat.le_of_ble_eq_true rfl), (Nat.le_of_ble_eq_true rfl)⟩) (pre3V g hK mq3_ kq3_ (by decide) (q := (RX7, TX7, 19)) rfl) rfl rfl hl.1 rfl (lv_room (Nat.le_of_ble_eq_true rfl)) dX2_readAssignment_92 ⟨(Nat.le_of_ble_eq_true rfl), (Nat.le_of_ble_eq_true rfl)⟩) g hK (by decide) (by decide) (fx' := [(8, 6, q0_, .int x_22), (8, 8, q0_, .int x_24), (0, 2, q2_, .ref q7_), (2, 15, a0_, .int x_1), (2, 0, a0_, .ref q0_), (2, 1, a0_, .ref q1_), (2, 2, a0_, .ref q2_), (2, 3, a0_, .ref q3_), (2, 4, a0_, .ref q4_), (0, 0, q2_, .ref q0_), (0, 1, q2_, .ref q1_), (5, 0, q1_, .ref q7_), (5, 1, q1_, .ref q8_)]) rfl (fun fr_81 H locs hp hMr_81 g => ?_)
          obtain ⟨x_82, h_83, hF_84⟩ := hp
          have hG_85 := eOK.frame hMr_81 go_.2.2.2.1 mq2_ kq2_ (by decide) (by decide) hG_21
          have g := g.more hF_84
          refine lv_goto (tgt := 124) hx hb dX2_readAssignment_95 (by decide) ?_
          refine lv_aload_n hx hb dX2_readAssignment_124 rfl (lv_at hl 2 rfl) ?_
          refine g_getk (C := RX2) (T := TX2) (N := 16) hx hb hts (mc_ inX2) hown hK g rfl 0 (by decide) rfl (hts _ (List.mem_cons_of_mem _ t_416)) (fun _ h9 => h9) 5 rfl dX2_readAssignment_125 ?_
          refine lv_bipush (v := 59) hx hb dX2_readAssignment_128 (by decide) ?_
          have go_ := g
          refine g_callv (va_runV (As := [.int 59]) (rest := []) ⟨hx, hb, hml, hown, hts⟩ (r_X8_take_2 l dC dI L kd tys fr_81 H.size g.2.2.2.1 q0_ mq0_ kq0_ 59 x_22 h_23 x_24 h_25 (g.fcts [1, 2] rfl)) (cwV 1 hts (gV_ t_1098 t_1099 t_1100 t_184 t_1101) rfl rfl rfl (by decide +kernel) ⟨(Nat.le_of_ble_eq_true rfl), (Nat.le_of_ble_eq_true rfl)⟩) (pre3V g hK mq0_ kq0_ (by decide) (q := (RX8, TX8, 10)) rfl) rfl rfl hl.1 rfl (lv_room (Nat.le_of_ble_eq_true rfl)) dX2_readAssignment_130 ⟨(Nat.le_of_ble_eq_true rfl), (Nat.le_of_ble_eq_true rfl)⟩) g hK (by decide) (by decide) (fx' := [(7, 6, q3_, .int x_82), (8, 8, q0_, .int x_24), (0, 2, q2_, .ref q7_), (2, 15, a0_, .int x_1), (2, 0, a0_, .ref q0_), (2, 1, a0_, .ref q1_), (2, 2, a0_, .ref q2_), (2, 3, a0_, .ref q3_), (2, 4, a0_, .ref q4_), (0, 0, q2_, .ref q0_), (0, 1, q2_, .ref q1_), (5, 0, q1_, .ref q7_), (5, 1, q1_, .ref q8_)]) rfl (fun fr_86 H locs hp hMr_86 g => ?_)
          obtain ⟨x_87, h_88, hF_89⟩ := hp
          have hG_90 := eOK.frame hMr_86 go_.2.2.2.1 mq2_ kq2_ (by decide) (by decide) hG_85
          have g := g.more hF_89
          subst hQ
          exact W.vret hx hb hr (fun t ht hW => ⟨⟨_, rfl, Or.inr (⟨hG_90, x_87, h_88, x_24, h_25, x_82, h_83, (g.fcts [0, 2, 1, 3] rfl)⟩), q3_of g hK ht hW⟩, g.2.2.1.F ht⟩) g.2.2.1.2.2 dX2_readAssignment_133
    · have hG_91 := eOK.frame hMr_10 go_.2.2.2.1 mq2_ kq2_ (by decide) (by decide) hG_9
      have g := g.more hF_16
      refine lv_aload_n hx hb dX2_readAssignment_69 rfl (lv_at hl 2 rfl) ?_
      refine g_getk (C := RX2) (T := TX2) (N := 16) hx hb hts (mc_ inX2) hown hK g rfl 2 (by decide) rfl (hts _ (List.mem_cons_of_mem _ t_418)) (fun _ h9 => h9) 5 rfl dX2_readAssignment_70 ?_
      have kb_1201 : bd 1201 1201 (1201 : Int32) := ⟨by decide, by decide⟩
      have go_ := g
      refine g_callv (va_runV (As := []) (rest := []) ⟨hx, hb, hml, hown, hts⟩ (r_X0_read_2 l dC dI L kd tys fr_10 H.size g.2.2.2.1 q2_ mq2_ kq2_ q0_ mq0_ kq0_ q1_ mq1_ kq1_ q7_ mq7_ kq7_ q8_ mq8_ kq8_ 1201 kb_1201 x_14 h_15 hG_91 (g.fcts [8, 9, 10, 11, 0, 1] rfl)) (cwV 0 hts (gV_ t_1182 t_1183 t_1184 t_190 t_1185) rfl rfl rfl (by decide +kernel) ⟨(Nat.le_of_ble_eq_true rfl), (Nat.le_of_ble_eq_true rfl)⟩) (pre3V g hK mq2_ kq2_ (by decide) (q := (RX0, TX0, 14)) rfl) rfl rfl hl.1 rfl (lv_room (Nat.le_of_ble_eq_true rfl)) dX2_readAssignment_73 ⟨(Nat.le_of_ble_eq_true rfl), (Nat.le_of_ble_eq_true rfl)⟩) g hK (by decide) (by decide) (fx' := [(8, 6, q0_, .int 1201), (8, 8, q0_, .int x_14), (2, 15, a0_, .int x_1), (2, 0, a0_, .ref q0_), (2, 1, a0_, .ref q1_), (2, 2, a0_, .ref q2_), (2, 3, a0_, .ref q3_), (2, 4, a0_, .ref q4_), (0, 0, q2_, .ref q0_), (0, 1, q2_, .ref q1_), (5, 0, q1_, .ref q7_), (5, 1, q1_, .ref q8_)]) rfl (fun fr_92 H locs hp hMr_92 g => ?_)
      have hF_93 := hp
      have hG_94 := eOK.frame hMr_92 go_.2.2.2.1 mq2_ kq2_ (by decide) (by decide) hG_91
      have g := g.more hF_93
      refine lv_iload_n hx hb dX2_readAssignment_76 rfl (lv_at hl 1 rfl) ?_
      refine lv_bipush (v := 16) hx hb dX2_readAssignment_77 (by decide) ?_
      have kb_16 : bd 16 16 (16 : Int32) := ⟨by decide, by decide⟩
      refine lv_icmp_lt (tgt := 98) hx hb dX2_readAssignment_79 (by decide) (fun c_95 => ?_) (fun c_95 => ?_)
      · have fc_95 := lt_f c_95
        have b_96 : bd (-1) 15 x_1 := ltL fc_95 bx_1 kb_16 (by decide)
        refine lv_aload_n hx hb dX2_readAssignment_98 rfl (lv_at hl 2 rfl) ?_
        refine g_getk (C := RX2) (T := TX2) (N := 16) hx hb hts (mc_ inX2) hown hK g rfl 3 (by decide) rfl (hts _ (List.mem_cons_of_mem _ t_419)) (fun _ h9 => h9) 12 rfl dX2_readAssignment_99 ?_
        refine lv_iload_n hx hb dX2_readAssignment_102 rfl (lv_at hl 0 rfl) ?_
        refine lv_if_eq (tgt := 111) hx hb dX2_readAssignment_103 (by decide) (fun c_ => ?_) (fun c_ => absurd (by decide) c_)
        refine lv_bipush (v := 21) hx hb dX2_readAssignment_111 (by decide) ?_
        refine lv_aload_n hx hb dX2_readAssignment_113 rfl (lv_at hl 2 rfl) ?_
        refine g_getk (C := RX2) (T := TX2) (N := 16) hx hb hts (mc_ inX2) hown hK g rfl 4 (by decide) rfl (hts _ (List.mem_cons_of_mem _ t_420)) (fun _ h9 => h9) 13 rfl dX2_readAssignment_114 ?_
        refine lv_iload_n hx hb dX2_readAssignment_117 rfl (lv_at hl 1 rfl) ?_
        have go_ := g
        refine g_calli (va_runV (As := [.int x_1]) (rest := [.int 21, .ref q3_]) ⟨hx, hb, hml, hown, hts⟩ (r_X9_spanOf l dC dI L kd tys fr_92 H.size g.2.2.2.1 q4_ mq4_ kq4_ x_1) (cwV 1 hts (gV_ t_1401 t_1265 t_1266 t_192 t_1267) rfl rfl rfl (by decide +kernel) ⟨(Nat.le_of_ble_eq_true rfl), (Nat.le_of_ble_eq_true rfl)⟩) (pre3V g hK mq4_ kq4_ (by decide) (q := (RX9, TX9, 13)) rfl) rfl rfl hl.1 rfl (lv_room (Nat.le_of_ble_eq_true rfl)) dX2_readAssignment_118 ⟨(Nat.le_of_ble_eq_true rfl), (Nat.le_of_ble_eq_true rfl)⟩) g hK (by decide) (by decide) (fx' := [(0, 13, q2_, .int 0), (0, 12, q2_, .int 1), (0, 11, q2_, .int 0), (0, 10, q2_, .int 0), (0, 8, q2_, .int 0), (0, 2, q2_, .ref q7_), (8, 6, q0_, .int 1201), (8, 8, q0_, .int x_14), (2, 15, a0_, .int x_1), (2, 0, a0_, .ref q0_), (2, 1, a0_, .ref q1_), (2, 2, a0_, .ref q2_), (2, 3, a0_, .ref q3_), (2, 4, a0_, .ref q4_), (0, 0, q2_, .ref q0_), (0, 1, q2_, .ref q1_), (5, 0, q1_, .ref q7_), (5, 1, q1_, .ref q8_)]) rfl (fun r_97 fr_97 H locs hp hMr_97 g => ?_)
        obtain ⟨h_98, -⟩ := hp
        have hG_99 := eOK.frame hMr_97 go_.2.2.2.1 mq2_ kq2_ (by decide) (by decide) hG_94
        have go_ := g
        refine g_callv (va_runV (As := [.int 21, .int r_97]) (rest := []) ⟨hx, hb, hml, hown, hts⟩ (r_X7_emit l dC dI L kd tys fr_97 H.size g.2.2.2.1 q3_ mq3_ kq3_ 21 r_97) (cwV 2 hts (gV_ t_1301 t_1204 t_1205 t_191 t_1206) rfl rfl rfl (by decide +kernel) ⟨(Nat.le_of_ble_eq_true rfl), (Nat.le_of_ble_eq_true rfl)⟩) (pre3V g hK mq3_ kq3_ (by decide) (q := (RX7, TX7, 19)) rfl) rfl rfl hl.1 rfl (lv_room (Nat.le_of_ble_eq_true rfl)) dX2_readAssignment_121 ⟨(Nat.le_of_ble_eq_true rfl), (Nat.le_of_ble_eq_true rfl)⟩) g hK (by decide) (by decide) (fx' := [(0, 13, q2_, .int 0), (0, 12, q2_, .int 1), (0, 11, q2_, .int 0), (0, 10, q2_, .int 0), (0, 8, q2_, .int 0), (0, 2, q2_, .ref q7_), (8, 6, q0_, .int 1201), (8, 8, q0_, .int x_14), (2, 15, a0_, .int x_1), (2, 0, a0_, .ref q0_), (2, 1, a0_, .ref q1_), (2, 2, a0_, .ref q2_), (2, 3, a0_, .ref q3_), (2, 4, a0_, .ref q4_), (0, 0, q2_, .ref q0_), (0, 1, q2_, .ref q1_), (5, 0, q1_, .ref q7_), (5, 1, q1_, .ref q8_)]) rfl (fun fr_100 H locs hp hMr_100 g => ?_)
        obtain ⟨x_101, h_102, hF_103⟩ := hp
        have hG_104 := eOK.frame hMr_100 go_.2.2.2.1 mq2_ kq2_ (by decide) (by decide) hG_99
        have g := g.more hF_103
        refine lv_aload_n hx hb dX2_readAssignment_124 rfl (lv_at hl 2 rfl) ?_
        refine g_getk (C := RX2) (T := TX2) (N := 16) hx hb hts (mc_ inX2) hown hK g rfl 0 (by decide) rfl (hts _ (List.mem_cons_of_mem _ t_416)) (fun _ h9 => h9) 10 rfl dX2_readAssignment_125 ?_
        refine lv_bipush (v := 59) hx hb dX2_readAssignment_128 (by decide) ?_
        have go_ := g
        refine g_callv (va_runV (As := [.int 59]) (rest := []) ⟨hx, hb, hml, hown, hts⟩ (r_X8_take_2 l dC dI L kd tys fr_100 H.size g.2.2.2.1 q0_ mq0_ kq0_ 59 1201 kb_1201 x_14 h_15 (g.fcts [7, 8] rfl)) (cwV 1 hts (gV_ t_1098 t_1099 t_1100 t_184 t_1101) rfl rfl rfl (by decide +kernel) ⟨(Nat.le_of_ble_eq_true rfl), (Nat.le_of_ble_eq_true rfl)⟩) (pre3V g hK mq0_ kq0_ (by decide) (q := (RX8, TX8, 10)) rfl) rfl rfl hl.1 rfl (lv_room (Nat.le_of_ble_eq_true rfl)) dX2_readAssignment_130 ⟨(Nat.le_of_ble_eq_true rfl), (Nat.le_of_ble_eq_true rfl)⟩) g hK (by decide) (by decide) (fx' := [(7, 6, q3_, .int x_101), (0, 13, q2_, .int 0), (0, 12, q2_, .int 1), (0, 11, q2_, .int 0), (0, 10, q2_, .int 0), (0, 8, q2_, .int 0), (0, 2, q2_, .ref q7_), (8, 8, q0_, .int x_14), (2, 15, a0_, .int x_1), (2, 0, a0_, .ref q0_), (2, 1, a0_, .ref q1_), (2, 2, a0_, .ref q2_), (2, 3, a0_, .ref q3_), (2, 4, a0_, .ref q4_), (0, 0, q2_, .ref q0_), (0, 1, q2_, .ref q1_), (5, 0, q1_, .ref q7_), (5, 1, q1_, .ref q8_)]) rfl (fun fr_105 H locs hp hMr_105 g => ?_)
        obtain ⟨x_106, h_107, hF_108⟩ := hp
        have hG_109 := eOK.frame hMr_105 go_.2.2.2.1 mq2_ kq2_ (by decide) (by decide) hG_104
        have g := g.more hF_108
        subst hQ
        exact W.vret hx hb hr (fun t ht hW => ⟨⟨_, rfl, Or.inr (⟨hG_109, x_106, h_107, x_14, h_15, x_101, h_102, (g.fcts [0, 8, 1, 7] rfl)⟩), q3_of g hK ht hW⟩, g.2.2.1.F ht⟩) g.2.2.1.2.2 dX2_readAssignment_133
      · have fc_95 := nlt_f c_95
        have b_110 : bd 16 26 x_1 := leR fc_95 kb_16 bx_1 (by decide)
        refine lv_aload_n hx hb dX2_readAssignment_82 rfl (lv_at hl 2 rfl) ?_
        refine g_getk (C := RX2) (T := TX2) (N := 16) hx hb hts (mc_ inX2) hown hK g rfl 3 (by decide) rfl (hts _ (List.mem_cons_of_mem _ t_419)) (fun _ h9 => h9) 12 rfl dX2_readAssignment_83 ?_
        refine lv_bipush (v := 20) hx hb dX2_readAssignment_86 (by decide) ?_
        refine lv_iload_n hx hb dX2_readAssignment_88 rfl (lv_at hl 1 rfl) ?_
        refine lv_bipush (v := 16) hx hb dX2_readAssignment_89 (by decide) ?_
        refine lv_isub hx hb dX2_readAssignment_91 ?_
        refine lv_topi (fun y_111 ey_111 => ?_)
        have ty_111 := sub_bd ey_111 b_110 kb_16 (by decide)
        have b_112 : bd 0 10 y_111 := sub_rg ty_111 b_110 kb_16 (by decide)
        have go_ := g
        refine g_callv (va_runV (As := [.int 20, .int y_111]) (rest := []) ⟨hx, hb, hml, hown, hts⟩ (r_X7_emit l dC dI L kd tys fr_92 H.size g.2.2.2.1 q3_ mq3_ kq3_ 20 y_111) (cwV 2 hts (gV_ t_1301 t_1204 t_1205 t_191 t_1206) rfl rfl rfl (by decide +kernel) ⟨(Nat.le_of_ble_eq_true rfl), (Nat.le_of_ble_eq_true rfl)⟩) (pre3V g hK mq3_ kq3_ (by decide) (q := (RX7, TX7, 19)) rfl) rfl rfl hl.1 rfl (lv_room (Nat.le_of_ble_eq_true rfl)) dX2_readAssignment_92 ⟨(Nat.le_of_ble_eq_true rfl), (Nat.le_of_ble_eq_true rfl)⟩) g hK (by decide) (by decide) (fx' := [(0, 13, q2_, .int 0), (0, 12, q2_, .int 1), (0, 11, q2_, .int 0), (0, 10, q2_, .int 0), (0, 8, q2_, .int 0), (0, 2, q2_, .ref q7_), (8, 6, q0_, .int 1201), (8, 8, q0_, .int x_14), (2, 15, a0_, .int x_1), (2, 0, a0_, .ref q0_), (2, 1, a0_, .ref q1_), (2, 2, a0_, .ref q2_), (2, 3, a0_, .ref q3_), (2, 4, a0_, .ref q4_), (0, 0, q2_, .ref q0_), (0, 1, q2_, .ref q1_), (5, 0, q1_, .ref q7_), (5, 1, q1_, .ref q8_)]) rfl (fun fr_113 H locs hp hMr_113 g => ?_)
        obtain ⟨x_114, h_115, hF_116⟩ := hp
        have hG_117 := eOK.frame hMr_113 go_.2.2.2.1 mq2_ kq2_ (by decide) (by decide) hG_94
        have g := g.more hF_116
        refine lv_goto (tgt := 124) hx hb dX2_readAssignment_95 (by decide) ?_
        refine lv_aload_n hx hb dX2_readAssignment_124 rfl (lv_at hl 2 rfl) ?_
        refine g_getk (C := RX2) (T := TX2) (N := 16) hx hb hts (mc_ inX2) hown hK g rfl 0 (by decide) rfl (hts _ (List.mem_cons_of_mem _ t_416)) (fun _ h9 => h9) 10 rfl dX2_readAssignment_125 ?_
        refine lv_bipush (v := 59) hx hb dX2_readAssignment_128 (by decide) ?_
        have go_ := g
        refine g_callv (va_runV (As := [.int 59]) (rest := []) ⟨hx, hb, hml, hown, hts⟩ (r_X8_take_2 l dC dI L kd tys fr_113 H.size g.2.2.2.1 q0_ mq0_ kq0_ 59 1201 kb_1201 x_14 h_15 (g.fcts [7, 8] rfl)) (cwV 1 hts (gV_ t_1098 t_1099 t_1100 t_184 t_1101) rfl rfl rfl (by decide +kernel) ⟨(Nat.le_of_ble_eq_true rfl), (Nat.le_of_ble_eq_true rfl)⟩) (pre3V g hK mq0_ kq0_ (by decide) (q := (RX8, TX8, 10)) rfl) rfl rfl hl.1 rfl (lv_room (Nat.le_of_ble_eq_true rfl)) dX2_readAssignment_130 ⟨(Nat.le_of_ble_eq_true rfl), (Nat.le_of_ble_eq_true rfl)⟩) g hK (by decide) (by decide) (fx' := [(7, 6, q3_, .int x_114), (0, 13, q2_, .int 0), (0, 12, q2_, .int 1), (0, 11, q2_, .int 0), (0, 10, q2_, .int 0), (0, 8, q2_, .int 0), (0, 2, q2_, .ref q7_), (8, 8, q0_, .int x_14), (2, 15, a0_, .int x_1), (2, 0, a0_, .ref q0_), (2, 1, a0_, .ref q1_), (2, 2, a0_, .ref q2_), (2, 3, a0_, .ref q3_), (2, 4, a0_, .ref q4_), (0, 0, q2_, .ref q0_), (0, 1, q2_, .ref q1_), (5, 0, q1_, .ref q7_), (5, 1, q1_, .ref q8_)]) rfl (fun fr_118 H locs hp hMr_118 g => ?_)
        obtain ⟨x_119, h_120, hF_121⟩ := hp
        have hG_122 := eOK.frame hMr_118 go_.2.2.2.1 mq2_ kq2_ (by decide) (by decide) hG_117
        have g := g.more hF_121
        subst hQ
        exact W.vret hx hb hr (fun t ht hW => ⟨⟨_, rfl, Or.inr (⟨hG_122, x_119, h_120, x_14, h_15, x_114, h_115, (g.fcts [0, 8, 1, 7] rfl)⟩), q3_of g hK ht hW⟩, g.2.2.1.F ht⟩) g.2.2.1.2.2 dX2_readAssignment_133
  · have hG_123 := eOK.frame hMr_2 go_.2.2.2.1 mq2_ kq2_ (by decide) (by decide) hGeq2_
    obtain rfl : r_2 = 1 := h_4
    have b_124 : bd 0 9 x_1 := eqX rfl bx_1 h_5 (by decide)
    have g := g.more hF_8
    refine lv_istore_n (lv' := [(2, .int 1), (1, .int x_1), (0, .ref a0_)]) hx hb dX2_readAssignment_13 rfl hl (by decide) rfl (fun ls hl => ?_)
    refine lv_iload_n hx hb dX2_readAssignment_14 rfl (lv_at hl 0 rfl) ?_
    refine lv_if_eq (tgt := 60) hx hb dX2_readAssignment_15 (by decide) (fun c_ => absurd c_ (by decide)) (fun c_ => ?_)
    refine lv_aload_n hx hb dX2_readAssignment_18 rfl (lv_at hl 2 rfl) ?_
    refine g_getk (C := RX2) (T := TX2) (N := 16) hx hb hts (mc_ inX2) hown hK g rfl 0 (by decide) rfl (hts _ (List.mem_cons_of_mem _ t_416)) (fun _ h9 => h9) 2 rfl dX2_readAssignment_19 ?_
    refine lv_bipush (v := 91) hx hb dX2_readAssignment_22 (by decide) ?_
    have go_ := g
    refine g_callv (va_runV (As := [.int 91]) (rest := []) ⟨hx, hb, hml, hown, hts⟩ (r_X8_take l dC dI L kd tys fr_2 H.size g.2.2.2.1 q0_ mq0_ kq0_ 91 y0_ by0_ (g.fcts [11] rfl)) (cwV 1 hts (gV_ t_1098 t_1099 t_1100 t_184 t_1101) rfl rfl rfl (by decide +kernel) ⟨(Nat.le_of_ble_eq_true rfl), (Nat.le_of_ble_eq_true rfl)⟩) (pre3V g hK mq0_ kq0_ (by decide) (q := (RX8, TX8, 10)) rfl) rfl rfl hl.1 rfl (lv_room (Nat.le_of_ble_eq_true rfl)) dX2_readAssignment_24 ⟨(Nat.le_of_ble_eq_true rfl), (Nat.le_of_ble_eq_true rfl)⟩) g hK (by decide) (by decide) (fx' := [(9, 2, q4_, .int x_6), (2, 15, a0_, .int x_1), (2, 0, a0_, .ref q0_), (2, 1, a0_, .ref q1_), (2, 2, a0_, .ref q2_), (2, 3, a0_, .ref q3_), (2, 4, a0_, .ref q4_), (0, 0, q2_, .ref q0_), (0, 1, q2_, .ref q1_), (5, 0, q1_, .ref q7_), (5, 1, q1_, .ref q8_)]) rfl (fun fr_125 H locs hp hMr_125 g => ?_)
    rcases hp with ⟨x_126, h_127, hF_128⟩ | ⟨x_129, h_130, hF_131⟩
    · have hG_132 := eOK.frame hMr_125 go_.2.2.2.1 mq2_ kq2_ (by decide) (by decide) hG_123
      have g := g.more hF_128
      refine lv_aload_n hx hb dX2_readAssignment_27 rfl (lv_at hl 2 rfl) ?_
      refine g_getk (C := RX2) (T := TX2) (N := 16) hx hb hts (mc_ inX2) hown hK g rfl 2 (by decide) rfl (hts _ (List.mem_cons_of_mem _ t_418)) (fun _ h9 => h9) 6 rfl dX2_readAssignment_28 ?_
      have go_ := g
      refine g_callv (va_runV (As := []) (rest := []) ⟨hx, hb, hml, hown, hts⟩ (r_X0_read l dC dI L kd tys fr_125 H.size g.2.2.2.1 q2_ mq2_ kq2_ q0_ mq0_ kq0_ q1_ mq1_ kq1_ q7_ mq7_ kq7_ q8_ mq8_ kq8_ y0_ by0_ hG_132 (g.fcts [9, 10, 11, 12, 1] rfl)) (cwV 0 hts (gV_ t_1182 t_1183 t_1184 t_190 t_1185) rfl rfl rfl (by decide +kernel) ⟨(Nat.le_of_ble_eq_true rfl), (Nat.le_of_ble_eq_true rfl)⟩) (pre3V g hK mq2_ kq2_ (by decide) (q := (RX0, TX0, 14)) rfl) rfl rfl hl.1 rfl (lv_room (Nat.le_of_ble_eq_true rfl)) dX2_readAssignment_31 ⟨(Nat.le_of_ble_eq_true rfl), (Nat.le_of_ble_eq_true rfl)⟩) g hK (by decide) (by decide) (fx' := [(9, 2, q4_, .int x_6), (2, 15, a0_, .int x_1), (2, 0, a0_, .ref q0_), (2, 1, a0_, .ref q1_), (2, 2, a0_, .ref q2_), (2, 3, a0_, .ref q3_), (2, 4, a0_, .ref q4_), (0, 0, q2_, .ref q0_), (0, 1, q2_, .ref q1_), (5, 0, q1_, .ref q7_), (5, 1, q1_, .ref q8_)]) rfl (fun fr_133 H locs hp hMr_133 g => ?_)
      rcases hp with ⟨hG_134, hF_135⟩ | ⟨hG_136, x_137, h_138, x_139, h_140, hF_141⟩
      · have g := g.more hF_135
        refine lv_aload_n hx hb dX2_readAssignment_34 rfl (lv_at hl 2 rfl) ?_
        refine g_getk (C := RX2) (T := TX2) (N := 16) hx hb hts (mc_ inX2) hown hK g rfl 0 (by decide) rfl (hts _ (List.mem_cons_of_mem _ t_416)) (fun _ h9 => h9) 4 rfl dX2_readAssignment_35 ?_
        refine lv_bipush (v := 93) hx hb dX2_readAssignment_38 (by decide) ?_
        have go_ := g
        refine g_callv (va_runV (As := [.int 93]) (rest := []) ⟨hx, hb, hml, hown, hts⟩ (r_X8_take l dC dI L kd tys fr_133 H.size g.2.2.2.1 q0_ mq0_ kq0_ 93 y0_ by0_ (g.fcts [1] rfl)) (cwV 1 hts (gV_ t_1098 t_1099 t_1100 t_184 t_1101) rfl rfl rfl (by decide +kernel) ⟨(Nat.le_of_ble_eq_true rfl), (Nat.le_of_ble_eq_true rfl)⟩) (pre3V g hK mq0_ kq0_ (by decide) (q := (RX8, TX8, 10)) rfl) rfl rfl hl.1 rfl (lv_room (Nat.le_of_ble_eq_true rfl)) dX2_readAssignment_40 ⟨(Nat.le_of_ble_eq_true rfl), (Nat.le_of_ble_eq_true rfl)⟩) g hK (by decide) (by decide) (fx' := [(0, 2, q2_, .ref q7_), (9, 2, q4_, .int x_6), (2, 15, a0_, .int x_1), (2, 0, a0_, .ref q0_), (2, 1, a0_, .ref q1_), (2, 2, a0_, .ref q2_), (2, 3, a0_, .ref q3_), (2, 4, a0_, .ref q4_), (0, 0, q2_, .ref q0_), (0, 1, q2_, .ref q1_), (5, 0, q1_, .ref q7_), (5, 1, q1_, .ref q8_)]) rfl (fun fr_142 H locs hp hMr_142 g => ?_)
        rcases hp with ⟨x_143, h_144, hF_145⟩ | ⟨x_146, h_147, hF_148⟩
        · have hG_149 := eOK.frame hMr_142 go_.2.2.2.1 mq2_ kq2_ (by decide) (by decide) hG_134
          have g := g.more hF_145
          refine lv_aload_n hx hb dX2_readAssignment_43 rfl (lv_at hl 2 rfl) ?_
          refine g_getk (C := RX2) (T := TX2) (N := 16) hx hb hts (mc_ inX2) hown hK g rfl 3 (by decide) rfl (hts _ (List.mem_cons_of_mem _ t_419)) (fun _ h9 => h9) 8 rfl dX2_readAssignment_44 ?_
          refine lv_bipush (v := 11) hx hb dX2_readAssignment_47 (by decide) ?_
          refine lv_aload_n hx hb dX2_readAssignment_49 rfl (lv_at hl 2 rfl) ?_
          refine g_getk (C := RX2) (T := TX2) (N := 16) hx hb hts (mc_ inX2) hown hK g rfl 4 (by decide) rfl (hts _ (List.mem_cons_of_mem _ t_420)) (fun _ h9 => h9) 9 rfl dX2_readAssignment_50 ?_
          refine lv_iload_n hx hb dX2_readAssignment_53 rfl (lv_at hl 1 rfl) ?_
          have go_ := g
          refine g_calli (va_runV (As := [.int x_1]) (rest := [.int 11, .ref q3_]) ⟨hx, hb, hml, hown, hts⟩ (r_X9_spanOf l dC dI L kd tys fr_142 H.size g.2.2.2.1 q4_ mq4_ kq4_ x_1) (cwV 1 hts (gV_ t_1401 t_1265 t_1266 t_192 t_1267) rfl rfl rfl (by decide +kernel) ⟨(Nat.le_of_ble_eq_true rfl), (Nat.le_of_ble_eq_true rfl)⟩) (pre3V g hK mq4_ kq4_ (by decide) (q := (RX9, TX9, 13)) rfl) rfl rfl hl.1 rfl (lv_room (Nat.le_of_ble_eq_true rfl)) dX2_readAssignment_54 ⟨(Nat.le_of_ble_eq_true rfl), (Nat.le_of_ble_eq_true rfl)⟩) g hK (by decide) (by decide) (fx' := [(8, 6, q0_, .int x_143), (8, 8, q0_, .int y0_), (0, 2, q2_, .ref q7_), (9, 2, q4_, .int x_6), (2, 15, a0_, .int x_1), (2, 0, a0_, .ref q0_), (2, 1, a0_, .ref q1_), (2, 2, a0_, .ref q2_), (2, 3, a0_, .ref q3_), (2, 4, a0_, .ref q4_), (0, 0, q2_, .ref q0_), (0, 1, q2_, .ref q1_), (5, 0, q1_, .ref q7_), (5, 1, q1_, .ref q8_)]) rfl (fun r_150 fr_150 H locs hp hMr_150 g => ?_)
          obtain ⟨h_151, -⟩ := hp
          have hG_152 := eOK.frame hMr_150 go_.2.2.2.1 mq2_ kq2_ (by decide) (by decide) hG_149
          have go_ := g
          refine g_callv (va_runV (As := [.int 11, .int r_150]) (rest := []) ⟨hx, hb, hml, hown, hts⟩ (r_X7_emit l dC dI L kd tys fr_150 H.size g.2.2.2.1 q3_ mq3_ kq3_ 11 r_150) (cwV 2 hts (gV_ t_1301 t_1204 t_1205 t_191 t_1206) rfl rfl rfl (by decide +kernel) ⟨(Nat.le_of_ble_eq_true rfl), (Nat.le_of_ble_eq_true rfl)⟩) (pre3V g hK mq3_ kq3_ (by decide) (q := (RX7, TX7, 19)) rfl) rfl rfl hl.1 rfl (lv_room (Nat.le_of_ble_eq_true rfl)) dX2_readAssignment_57 ⟨(Nat.le_of_ble_eq_true rfl), (Nat.le_of_ble_eq_true rfl)⟩) g hK (by decide) (by decide) (fx' := [(8, 6, q0_, .int x_143), (8, 8, q0_, .int y0_), (0, 2, q2_, .ref q7_), (9, 2, q4_, .int x_6), (2, 15, a0_, .int x_1), (2, 0, a0_, .ref q0_), (2, 1, a0_, .ref q1_), (2, 2, a0_, .ref q2_), (2, 3, a0_, .ref q3_), (2, 4, a0_, .ref q4_), (0, 0, q2_, .ref q0_), (0, 1, q2_, .ref q1_), (5, 0, q1_, .ref q7_), (5, 1, q1_, .ref q8_)]) rfl (fun fr_153 H locs hp hMr_153 g => ?_)
          obtain ⟨x_154, h_155, hF_156⟩ := hp
          have hG_157 := eOK.frame hMr_153 go_.2.2.2.1 mq2_ kq2_ (by decide) (by decide) hG_152
          have g := g.more hF_156
          refine lv_aload_n hx hb dX2_readAssignment_60 rfl (lv_at hl 2 rfl) ?_
          refine g_getk (C := RX2) (T := TX2) (N := 16) hx hb hts (mc_ inX2) hown hK g rfl 0 (by decide) rfl (hts _ (List.mem_cons_of_mem _ t_416)) (fun _ h9 => h9) 6 rfl dX2_readAssignment_61 ?_
          refine lv_bipush (v := 61) hx hb dX2_readAssignment_64 (by decide) ?_
          have go_ := g
          refine g_callv (va_runV (As := [.int 61]) (rest := []) ⟨hx, hb, hml, hown, hts⟩ (r_X8_take l dC dI L kd tys fr_153 H.size g.2.2.2.1 q0_ mq0_ kq0_ 61 y0_ by0_ (g.fcts [2] rfl)) (cwV 1 hts (gV_ t_1098 t_1099 t_1100 t_184 t_1101) rfl rfl rfl (by decide +kernel) ⟨(Nat.le_of_ble_eq_true rfl), (Nat.le_of_ble_eq_true rfl)⟩) (pre3V g hK mq0_ kq0_ (by decide) (q := (RX8, TX8, 10)) rfl) rfl rfl hl.1 rfl (lv_room (Nat.le_of_ble_eq_true rfl)) dX2_readAssignment_66 ⟨(Nat.le_of_ble_eq_true rfl), (Nat.le_of_ble_eq_true rfl)⟩) g hK (by decide) (by decide) (fx' := [(7, 6, q3_, .int x_154), (0, 2, q2_, .ref q7_), (9, 2, q4_, .int x_6), (2, 15, a0_, .int x_1), (2, 0, a0_, .ref q0_), (2, 1, a0_, .ref q1_), (2, 2, a0_, .ref q2_), (2, 3, a0_, .ref q3_), (2, 4, a0_, .ref q4_), (0, 0, q2_, .ref q0_), (0, 1, q2_, .ref q1_), (5, 0, q1_, .ref q7_), (5, 1, q1_, .ref q8_)]) rfl (fun fr_158 H locs hp hMr_158 g => ?_)
          rcases hp with ⟨x_159, h_160, hF_161⟩ | ⟨x_162, h_163, hF_164⟩
          · have hG_165 := eOK.frame hMr_158 go_.2.2.2.1 mq2_ kq2_ (by decide) (by decide) hG_157
            have g := g.more hF_161
            refine lv_aload_n hx hb dX2_readAssignment_69 rfl (lv_at hl 2 rfl) ?_
            refine g_getk (C := RX2) (T := TX2) (N := 16) hx hb hts (mc_ inX2) hown hK g rfl 2 (by decide) rfl (hts _ (List.mem_cons_of_mem _ t_418)) (fun _ h9 => h9) 8 rfl dX2_readAssignment_70 ?_
            have go_ := g
            refine g_callv (va_runV (As := []) (rest := []) ⟨hx, hb, hml, hown, hts⟩ (r_X0_read l dC dI L kd tys fr_158 H.size g.2.2.2.1 q2_ mq2_ kq2_ q0_ mq0_ kq0_ q1_ mq1_ kq1_ q7_ mq7_ kq7_ q8_ mq8_ kq8_ y0_ by0_ hG_165 (g.fcts [11, 12, 13, 14, 1] rfl)) (cwV 0 hts (gV_ t_1182 t_1183 t_1184 t_190 t_1185) rfl rfl rfl (by decide +kernel) ⟨(Nat.le_of_ble_eq_true rfl), (Nat.le_of_ble_eq_true rfl)⟩) (pre3V g hK mq2_ kq2_ (by decide) (q := (RX0, TX0, 14)) rfl) rfl rfl hl.1 rfl (lv_room (Nat.le_of_ble_eq_true rfl)) dX2_readAssignment_73 ⟨(Nat.le_of_ble_eq_true rfl), (Nat.le_of_ble_eq_true rfl)⟩) g hK (by decide) (by decide) (fx' := [(9, 2, q4_, .int x_6), (2, 15, a0_, .int x_1), (2, 0, a0_, .ref q0_), (2, 1, a0_, .ref q1_), (2, 2, a0_, .ref q2_), (2, 3, a0_, .ref q3_), (2, 4, a0_, .ref q4_), (0, 0, q2_, .ref q0_), (0, 1, q2_, .ref q1_), (5, 0, q1_, .ref q7_), (5, 1, q1_, .ref q8_)]) rfl (fun fr_166 H locs hp hMr_166 g => ?_)
            rcases hp with ⟨hG_167, hF_168⟩ | ⟨hG_169, x_170, h_171, x_172, h_173, hF_174⟩
            · have g := g.more hF_168
              refine lv_iload_n hx hb dX2_readAssignment_76 rfl (lv_at hl 1 rfl) ?_
              refine lv_bipush (v := 16) hx hb dX2_readAssignment_77 (by decide) ?_
              have kb_16 : bd 16 16 (16 : Int32) := ⟨by decide, by decide⟩
              refine lv_icmp_lt (tgt := 98) hx hb dX2_readAssignment_79 (by decide) (fun c_175 => ?_) (fun c_175 => ?_)
              · have fc_175 := lt_f c_175
                refine lv_aload_n hx hb dX2_readAssignment_98 rfl (lv_at hl 2 rfl) ?_
                refine g_getk (C := RX2) (T := TX2) (N := 16) hx hb hts (mc_ inX2) hown hK g rfl 3 (by decide) rfl (hts _ (List.mem_cons_of_mem _ t_419)) (fun _ h9 => h9) 7 rfl dX2_readAssignment_99 ?_
                refine lv_iload_n hx hb dX2_readAssignment_102 rfl (lv_at hl 0 rfl) ?_
                refine lv_if_eq (tgt := 111) hx hb dX2_readAssignment_103 (by decide) (fun c_ => absurd c_ (by decide)) (fun c_ => ?_)
                refine lv_bipush (v := 27) hx hb dX2_readAssignment_106 (by decide) ?_
                refine lv_goto (tgt := 113) hx hb dX2_readAssignment_108 (by decide) ?_
                refine lv_aload_n hx hb dX2_readAssignment_113 rfl (lv_at hl 2 rfl) ?_
                refine g_getk (C := RX2) (T := TX2) (N := 16) hx hb hts (mc_ inX2) hown hK g rfl 4 (by decide) rfl (hts _ (List.mem_cons_of_mem _ t_420)) (fun _ h9 => h9) 8 rfl dX2_readAssignment_114 ?_
                refine lv_iload_n hx hb dX2_readAssignment_117 rfl (lv_at hl 1 rfl) ?_
                have go_ := g
                refine g_calli (va_runV (As := [.int x_1]) (rest := [.int 27, .ref q3_]) ⟨hx, hb, hml, hown, hts⟩ (r_X9_spanOf l dC dI L kd tys fr_166 H.size g.2.2.2.1 q4_ mq4_ kq4_ x_1) (cwV 1 hts (gV_ t_1401 t_1265 t_1266 t_192 t_1267) rfl rfl rfl (by decide +kernel) ⟨(Nat.le_of_ble_eq_true rfl), (Nat.le_of_ble_eq_true rfl)⟩) (pre3V g hK mq4_ kq4_ (by decide) (q := (RX9, TX9, 13)) rfl) rfl rfl hl.1 rfl (lv_room (Nat.le_of_ble_eq_true rfl)) dX2_readAssignment_118 ⟨(Nat.le_of_ble_eq_true rfl), (Nat.le_of_ble_eq_true rfl)⟩) g hK (by decide) (by decide) (fx' := [(0, 2, q2_, .ref q7_), (8, 8, q0_, .int y0_), (9, 2, q4_, .int x_6), (2, 15, a0_, .int x_1), (2, 0, a0_, .ref q0_), (2, 1, a0_, .ref q1_), (2, 2, a0_, .ref q2_), (2, 3, a0_, .ref q3_), (2, 4, a0_, .ref q4_), (0, 0, q2_, .ref q0_), (0, 1, q2_, .ref q1_), (5, 0, q1_, .ref q7_), (5, 1, q1_, .ref q8_)]) rfl (fun r_176 fr_176 H locs hp hMr_176 g => ?_)
                obtain ⟨h_177, -⟩ := hp
                have hG_178 := eOK.frame hMr_176 go_.2.2.2.1 mq2_ kq2_ (by decide) (by decide) hG_167
                have go_ := g
                refine g_callv (va_runV (As := [.int 27, .int r_176]) (rest := []) ⟨hx, hb, hml, hown, hts⟩ (r_X7_emit l dC dI L kd tys fr_176 H.size g.2.2.2.1 q3_ mq3_ kq3_ 27 r_176) (cwV 2 hts (gV_ t_1301 t_1204 t_1205 t_191 t_1206) rfl rfl rfl (by decide +kernel) ⟨(Nat.le_of_ble_eq_true rfl), (Nat.le_of_ble_eq_true rfl)⟩) (pre3V g hK mq3_ kq3_ (by decide) (q := (RX7, TX7, 19)) rfl) rfl rfl hl.1 rfl (lv_room (Nat.le_of_ble_eq_true rfl)) dX2_readAssignment_121 ⟨(Nat.le_of_ble_eq_true rfl), (Nat.le_of_ble_eq_true rfl)⟩) g hK (by decide) (by decide) (fx' := [(0, 2, q2_, .ref q7_), (8, 8, q0_, .int y0_), (9, 2, q4_, .int x_6), (2, 15, a0_, .int x_1), (2, 0, a0_, .ref q0_), (2, 1, a0_, .ref q1_), (2, 2, a0_, .ref q2_), (2, 3, a0_, .ref q3_), (2, 4, a0_, .ref q4_), (0, 0, q2_, .ref q0_), (0, 1, q2_, .ref q1_), (5, 0, q1_, .ref q7_), (5, 1, q1_, .ref q8_)]) rfl (fun fr_179 H locs hp hMr_179 g => ?_)
                obtain ⟨x_180, h_181, hF_182⟩ := hp
                have hG_183 := eOK.frame hMr_179 go_.2.2.2.1 mq2_ kq2_ (by decide) (by decide) hG_178
                have g := g.more hF_182
                refine lv_aload_n hx hb dX2_readAssignment_124 rfl (lv_at hl 2 rfl) ?_
                refine g_getk (C := RX2) (T := TX2) (N := 16) hx hb hts (mc_ inX2) hown hK g rfl 0 (by decide) rfl (hts _ (List.mem_cons_of_mem _ t_416)) (fun _ h9 => h9) 5 rfl dX2_readAssignment_125 ?_
                refine lv_bipush (v := 59) hx hb dX2_readAssignment_128 (by decide) ?_
                have go_ := g
                refine g_callv (va_runV (As := [.int 59]) (rest := []) ⟨hx, hb, hml, hown, hts⟩ (r_X8_take l dC dI L kd tys fr_179 H.size g.2.2.2.1 q0_ mq0_ kq0_ 59 y0_ by0_ (g.fcts [2] rfl)) (cwV 1 hts (gV_ t_1098 t_1099 t_1100 t_184 t_1101) rfl rfl rfl (by decide +kernel) ⟨(Nat.le_of_ble_eq_true rfl), (Nat.le_of_ble_eq_true rfl)⟩) (pre3V g hK mq0_ kq0_ (by decide) (q := (RX8, TX8, 10)) rfl) rfl rfl hl.1 rfl (lv_room (Nat.le_of_ble_eq_true rfl)) dX2_readAssignment_130 ⟨(Nat.le_of_ble_eq_true rfl), (Nat.le_of_ble_eq_true rfl)⟩) g hK (by decide) (by decide) (fx' := [(7, 6, q3_, .int x_180), (0, 2, q2_, .ref q7_), (9, 2, q4_, .int x_6), (2, 15, a0_, .int x_1), (2, 0, a0_, .ref q0_), (2, 1, a0_, .ref q1_), (2, 2, a0_, .ref q2_), (2, 3, a0_, .ref q3_), (2, 4, a0_, .ref q4_), (0, 0, q2_, .ref q0_), (0, 1, q2_, .ref q1_), (5, 0, q1_, .ref q7_), (5, 1, q1_, .ref q8_)]) rfl (fun fr_184 H locs hp hMr_184 g => ?_)
                rcases hp with ⟨x_185, h_186, hF_187⟩ | ⟨x_188, h_189, hF_190⟩
                · have hG_191 := eOK.frame hMr_184 go_.2.2.2.1 mq2_ kq2_ (by decide) (by decide) hG_183
                  have g := g.more hF_187
                  subst hQ
                  exact W.vret hx hb hr (fun t ht hW => ⟨⟨_, rfl, Or.inl ⟨hG_191, x_185, h_186, x_180, h_181, (g.fcts [0, 1, 2, 3] rfl)⟩, q3_of g hK ht hW⟩, g.2.2.1.F ht⟩) g.2.2.1.2.2 dX2_readAssignment_133
                · have hG_192 := eOK.frame hMr_184 go_.2.2.2.1 mq2_ kq2_ (by decide) (by decide) hG_183
                  have g := g.more hF_190
                  have kb_1201 : bd 1201 1201 (1201 : Int32) := ⟨by decide, by decide⟩
                  subst hQ
                  exact W.vret hx hb hr (fun t ht hW => ⟨⟨_, rfl, Or.inr (⟨hG_192, 1201, kb_1201, x_188, h_189, x_180, h_181, (g.fcts [0, 1, 2, 3] rfl)⟩), q3_of g hK ht hW⟩, g.2.2.1.F ht⟩) g.2.2.1.2.2 dX2_readAssignment_133
              · have fc_175 := nlt_f c_175
                have b_193 : bd 16 9 (16 : Int32) := leL fc_175 kb_16 b_124 (by decide)
                exact bd_no (eqX rfl b_193 kb_16 (lo := 16) (hi := 9) (by decide)) (by decide)
            · have g := g.more hF_174
              refine lv_iload_n hx hb dX2_readAssignment_76 rfl (lv_at hl 1 rfl) ?_
              refine lv_bipush (v := 16) hx hb dX2_readAssignment_77 (by decide) ?_
              have kb_16 : bd 16 16 (16 : Int32) := ⟨by decide, by decide⟩
              refine lv_icmp_lt (tgt := 98) hx hb dX2_readAssignment_79 (by decide) (fun c_194 => ?_) (fun c_194 => ?_)
              · have fc_194 := lt_f c_194
                refine lv_aload_n hx hb dX2_readAssignment_98 rfl (lv_at hl 2 rfl) ?_
                refine g_getk (C := RX2) (T := TX2) (N := 16) hx hb hts (mc_ inX2) hown hK g rfl 3 (by decide) rfl (hts _ (List.mem_cons_of_mem _ t_419)) (fun _ h9 => h9) 8 rfl dX2_readAssignment_99 ?_
                refine lv_iload_n hx hb dX2_readAssignment_102 rfl (lv_at hl 0 rfl) ?_
                refine lv_if_eq (tgt := 111) hx hb dX2_readAssignment_103 (by decide) (fun c_ => absurd c_ (by decide)) (fun c_ => ?_)
                refine lv_bipush (v := 27) hx hb dX2_readAssignment_106 (by decide) ?_
                refine lv_goto (tgt := 113) hx hb dX2_readAssignment_108 (by decide) ?_
                refine lv_aload_n hx hb dX2_readAssignment_113 rfl (lv_at hl 2 rfl) ?_
                refine g_getk (C := RX2) (T := TX2) (N := 16) hx hb hts (mc_ inX2) hown hK g rfl 4 (by decide) rfl (hts _ (List.mem_cons_of_mem _ t_420)) (fun _ h9 => h9) 9 rfl dX2_readAssignment_114 ?_
                refine lv_iload_n hx hb dX2_readAssignment_117 rfl (lv_at hl 1 rfl) ?_
                have go_ := g
                refine g_calli (va_runV (As := [.int x_1]) (rest := [.int 27, .ref q3_]) ⟨hx, hb, hml, hown, hts⟩ (r_X9_spanOf l dC dI L kd tys fr_166 H.size g.2.2.2.1 q4_ mq4_ kq4_ x_1) (cwV 1 hts (gV_ t_1401 t_1265 t_1266 t_192 t_1267) rfl rfl rfl (by decide +kernel) ⟨(Nat.le_of_ble_eq_true rfl), (Nat.le_of_ble_eq_true rfl)⟩) (pre3V g hK mq4_ kq4_ (by decide) (q := (RX9, TX9, 13)) rfl) rfl rfl hl.1 rfl (lv_room (Nat.le_of_ble_eq_true rfl)) dX2_readAssignment_118 ⟨(Nat.le_of_ble_eq_true rfl), (Nat.le_of_ble_eq_true rfl)⟩) g hK (by decide) (by decide) (fx' := [(8, 6, q0_, .int x_170), (8, 8, q0_, .int x_172), (0, 2, q2_, .ref q7_), (9, 2, q4_, .int x_6), (2, 15, a0_, .int x_1), (2, 0, a0_, .ref q0_), (2, 1, a0_, .ref q1_), (2, 2, a0_, .ref q2_), (2, 3, a0_, .ref q3_), (2, 4, a0_, .ref q4_), (0, 0, q2_, .ref q0_), (0, 1, q2_, .ref q1_), (5, 0, q1_, .ref q7_), (5, 1, q1_, .ref q8_)]) rfl (fun r_195 fr_195 H locs hp hMr_195 g => ?_)
                obtain ⟨h_196, -⟩ := hp
                have hG_197 := eOK.frame hMr_195 go_.2.2.2.1 mq2_ kq2_ (by decide) (by decide) hG_169
                have go_ := g
                refine g_callv (va_runV (As := [.int 27, .int r_195]) (rest := []) ⟨hx, hb, hml, hown, hts⟩ (r_X7_emit l dC dI L kd tys fr_195 H.size g.2.2.2.1 q3_ mq3_ kq3_ 27 r_195) (cwV 2 hts (gV_ t_1301 t_1204 t_1205 t_191 t_1206) rfl rfl rfl (by decide +kernel) ⟨(Nat.le_of_ble_eq_true rfl), (Nat.le_of_ble_eq_true rfl)⟩) (pre3V g hK mq3_ kq3_ (by decide) (q := (RX7, TX7, 19)) rfl) rfl rfl hl.1 rfl (lv_room (Nat.le_of_ble_eq_true rfl)) dX2_readAssignment_121 ⟨(Nat.le_of_ble_eq_true rfl), (Nat.le_of_ble_eq_true rfl)⟩) g hK (by decide) (by decide) (fx' := [(8, 6, q0_, .int x_170), (8, 8, q0_, .int x_172), (0, 2, q2_, .ref q7_), (9, 2, q4_, .int x_6), (2, 15, a0_, .int x_1), (2, 0, a0_, .ref q0_), (2, 1, a0_, .ref q1_), (2, 2, a0_, .ref q2_), (2, 3, a0_, .ref q3_), (2, 4, a0_, .ref q4_), (0, 0, q2_, .ref q0_), (0, 1, q2_, .ref q1_), (5, 0, q1_, .ref q7_), (5, 1, q1_, .ref q8_)]) rfl (fun fr_198 H locs hp hMr_198 g => ?_)
                obtain ⟨x_199, h_200, hF_201⟩ := hp
                have hG_202 := eOK.frame hMr_198 go_.2.2.2.1 mq2_ kq2_ (by decide) (by decide) hG_197
                have g := g.more hF_201
                refine lv_aload_n hx hb dX2_readAssignment_124 rfl (lv_at hl 2 rfl) ?_
                refine g_getk (C := RX2) (T := TX2) (N := 16) hx hb hts (mc_ inX2) hown hK g rfl 0 (by decide) rfl (hts _ (List.mem_cons_of_mem _ t_416)) (fun _ h9 => h9) 6 rfl dX2_readAssignment_125 ?_
                refine lv_bipush (v := 59) hx hb dX2_readAssignment_128 (by decide) ?_
                have go_ := g
                refine g_callv (va_runV (As := [.int 59]) (rest := []) ⟨hx, hb, hml, hown, hts⟩ (r_X8_take_2 l dC dI L kd tys fr_198 H.size g.2.2.2.1 q0_ mq0_ kq0_ 59 x_170 h_171 x_172 h_173 (g.fcts [1, 2] rfl)) (cwV 1 hts (gV_ t_1098 t_1099 t_1100 t_184 t_1101) rfl rfl rfl (by decide +kernel) ⟨(Nat.le_of_ble_eq_true rfl), (Nat.le_of_ble_eq_true rfl)⟩) (pre3V g hK mq0_ kq0_ (by decide) (q := (RX8, TX8, 10)) rfl) rfl rfl hl.1 rfl (lv_room (Nat.le_of_ble_eq_true rfl)) dX2_readAssignment_130 ⟨(Nat.le_of_ble_eq_true rfl), (Nat.le_of_ble_eq_true rfl)⟩) g hK (by decide) (by decide) (fx' := [(7, 6, q3_, .int x_199), (8, 8, q0_, .int x_172), (0, 2, q2_, .ref q7_), (9, 2, q4_, .int x_6), (2, 15, a0_, .int x_1), (2, 0, a0_, .ref q0_), (2, 1, a0_, .ref q1_), (2, 2, a0_, .ref q2_), (2, 3, a0_, .ref q3_), (2, 4, a0_, .ref q4_), (0, 0, q2_, .ref q0_), (0, 1, q2_, .ref q1_), (5, 0, q1_, .ref q7_), (5, 1, q1_, .ref q8_)]) rfl (fun fr_203 H locs hp hMr_203 g => ?_)
                obtain ⟨x_204, h_205, hF_206⟩ := hp
                have hG_207 := eOK.frame hMr_203 go_.2.2.2.1 mq2_ kq2_ (by decide) (by decide) hG_202
                have g := g.more hF_206
                subst hQ
                exact W.vret hx hb hr (fun t ht hW => ⟨⟨_, rfl, Or.inr (⟨hG_207, x_204, h_205, x_172, h_173, x_199, h_200, (g.fcts [0, 2, 1, 3] rfl)⟩), q3_of g hK ht hW⟩, g.2.2.1.F ht⟩) g.2.2.1.2.2 dX2_readAssignment_133
              · have fc_194 := nlt_f c_194
                have b_208 : bd 16 9 (16 : Int32) := leL fc_194 kb_16 b_124 (by decide)
                exact bd_no (eqX rfl b_208 kb_16 (lo := 16) (hi := 9) (by decide)) (by decide)
          · have hG_209 := eOK.frame hMr_158 go_.2.2.2.1 mq2_ kq2_ (by decide) (by decide) hG_157
            have g := g.more hF_164
            refine lv_aload_n hx hb dX2_readAssignment_69 rfl (lv_at hl 2 rfl) ?_
            refine g_getk (C := RX2) (T := TX2) (N := 16) hx hb hts (mc_ inX2) hown hK g rfl 2 (by decide) rfl (hts _ (List.mem_cons_of_mem _ t_418)) (fun _ h9 => h9) 8 rfl dX2_readAssignment_70 ?_
            have kb_1201 : bd 1201 1201 (1201 : Int32) := ⟨by decide, by decide⟩
            have go_ := g
            refine g_callv (va_runV (As := []) (rest := []) ⟨hx, hb, hml, hown, hts⟩ (r_X0_read_2 l dC dI L kd tys fr_158 H.size g.2.2.2.1 q2_ mq2_ kq2_ q0_ mq0_ kq0_ q1_ mq1_ kq1_ q7_ mq7_ kq7_ q8_ mq8_ kq8_ 1201 kb_1201 x_162 h_163 hG_209 (g.fcts [11, 12, 13, 14, 0, 1] rfl)) (cwV 0 hts (gV_ t_1182 t_1183 t_1184 t_190 t_1185) rfl rfl rfl (by decide +kernel) ⟨(Nat.le_of_ble_eq_true rfl), (Nat.le_of_ble_eq_true rfl)⟩) (pre3V g hK mq2_ kq2_ (by decide) (q := (RX0, TX0, 14)) rfl) rfl rfl hl.1 rfl (lv_room (Nat.le_of_ble_eq_true rfl)) dX2_readAssignment_73 ⟨(Nat.le_of_ble_eq_true rfl), (Nat.le_of_ble_eq_true rfl)⟩) g hK (by decide) (by decide) (fx' := [(8, 6, q0_, .int 1201), (8, 8, q0_, .int x_162), (7, 6, q3_, .int x_154), (9, 2, q4_, .int x_6), (2, 15, a0_, .int x_1), (2, 0, a0_, .ref q0_), (2, 1, a0_, .ref q1_), (2, 2, a0_, .ref q2_), (2, 3, a0_, .ref q3_), (2, 4, a0_, .ref q4_), (0, 0, q2_, .ref q0_), (0, 1, q2_, .ref q1_), (5, 0, q1_, .ref q7_), (5, 1, q1_, .ref q8_)]) rfl (fun fr_210 H locs hp hMr_210 g => ?_)
            have hF_211 := hp
            have hG_212 := eOK.frame hMr_210 go_.2.2.2.1 mq2_ kq2_ (by decide) (by decide) hG_209
            have g := g.more hF_211
            refine lv_iload_n hx hb dX2_readAssignment_76 rfl (lv_at hl 1 rfl) ?_
            refine lv_bipush (v := 16) hx hb dX2_readAssignment_77 (by decide) ?_
            have kb_16 : bd 16 16 (16 : Int32) := ⟨by decide, by decide⟩
            refine lv_icmp_lt (tgt := 98) hx hb dX2_readAssignment_79 (by decide) (fun c_213 => ?_) (fun c_213 => ?_)
            · have fc_213 := lt_f c_213
              refine lv_aload_n hx hb dX2_readAssignment_98 rfl (lv_at hl 2 rfl) ?_
              refine g_getk (C := RX2) (T := TX2) (N := 16) hx hb hts (mc_ inX2) hown hK g rfl 3 (by decide) rfl (hts _ (List.mem_cons_of_mem _ t_419)) (fun _ h9 => h9) 14 rfl dX2_readAssignment_99 ?_
              refine lv_iload_n hx hb dX2_readAssignment_102 rfl (lv_at hl 0 rfl) ?_
              refine lv_if_eq (tgt := 111) hx hb dX2_readAssignment_103 (by decide) (fun c_ => absurd c_ (by decide)) (fun c_ => ?_)
              refine lv_bipush (v := 27) hx hb dX2_readAssignment_106 (by decide) ?_
              refine lv_goto (tgt := 113) hx hb dX2_readAssignment_108 (by decide) ?_
              refine lv_aload_n hx hb dX2_readAssignment_113 rfl (lv_at hl 2 rfl) ?_
              refine g_getk (C := RX2) (T := TX2) (N := 16) hx hb hts (mc_ inX2) hown hK g rfl 4 (by decide) rfl (hts _ (List.mem_cons_of_mem _ t_420)) (fun _ h9 => h9) 15 rfl dX2_readAssignment_114 ?_
              refine lv_iload_n hx hb dX2_readAssignment_117 rfl (lv_at hl 1 rfl) ?_
              have go_ := g
              refine g_calli (va_runV (As := [.int x_1]) (rest := [.int 27, .ref q3_]) ⟨hx, hb, hml, hown, hts⟩ (r_X9_spanOf l dC dI L kd tys fr_210 H.size g.2.2.2.1 q4_ mq4_ kq4_ x_1) (cwV 1 hts (gV_ t_1401 t_1265 t_1266 t_192 t_1267) rfl rfl rfl (by decide +kernel) ⟨(Nat.le_of_ble_eq_true rfl), (Nat.le_of_ble_eq_true rfl)⟩) (pre3V g hK mq4_ kq4_ (by decide) (q := (RX9, TX9, 13)) rfl) rfl rfl hl.1 rfl (lv_room (Nat.le_of_ble_eq_true rfl)) dX2_readAssignment_118 ⟨(Nat.le_of_ble_eq_true rfl), (Nat.le_of_ble_eq_true rfl)⟩) g hK (by decide) (by decide) (fx' := [(0, 13, q2_, .int 0), (0, 12, q2_, .int 1), (0, 11, q2_, .int 0), (0, 10, q2_, .int 0), (0, 8, q2_, .int 0), (0, 2, q2_, .ref q7_), (8, 6, q0_, .int 1201), (8, 8, q0_, .int x_162), (7, 6, q3_, .int x_154), (9, 2, q4_, .int x_6), (2, 15, a0_, .int x_1), (2, 0, a0_, .ref q0_), (2, 1, a0_, .ref q1_), (2, 2, a0_, .ref q2_), (2, 3, a0_, .ref q3_), (2, 4, a0_, .ref q4_), (0, 0, q2_, .ref q0_), (0, 1, q2_, .ref q1_), (5, 0, q1_, .ref q7_), (5, 1, q1_, .ref q8_)]) rfl (fun r_214 fr_214 H locs hp hMr_214 g => ?_)
              obtain ⟨h_215, -⟩ := hp
              have hG_216 := eOK.frame hMr_214 go_.2.2.2.1 mq2_ kq2_ (by decide) (by decide) hG_212
              have go_ := g
              refine g_callv (va_runV (As := [.int 27, .int r_214]) (rest := []) ⟨hx, hb, hml, hown, hts⟩ (r_X7_emit l dC dI L kd tys fr_214 H.size g.2.2.2.1 q3_ mq3_ kq3_ 27 r_214) (cwV 2 hts (gV_ t_1301 t_1204 t_1205 t_191 t_1206) rfl rfl rfl (by decide +kernel) ⟨(Nat.le_of_ble_eq_true rfl), (Nat.le_of_ble_eq_true rfl)⟩) (pre3V g hK mq3_ kq3_ (by decide) (q := (RX7, TX7, 19)) rfl) rfl rfl hl.1 rfl (lv_room (Nat.le_of_ble_eq_true rfl)) dX2_readAssignment_121 ⟨(Nat.le_of_ble_eq_true rfl), (Nat.le_of_ble_eq_true rfl)⟩) g hK (by decide) (by decide) (fx' := [(0, 13, q2_, .int 0), (0, 12, q2_, .int 1), (0, 11, q2_, .int 0), (0, 10, q2_, .int 0), (0, 8, q2_, .int 0), (0, 2, q2_, .ref q7_), (8, 6, q0_, .int 1201), (8, 8, q0_, .int x_162), (9, 2, q4_, .int x_6), (2, 15, a0_, .int x_1), (2, 0, a0_, .ref q0_), (2, 1, a0_, .ref q1_), (2, 2, a0_, .ref q2_), (2, 3, a0_, .ref q3_), (2, 4, a0_, .ref q4_), (0, 0, q2_, .ref q0_), (0, 1, q2_, .ref q1_), (5, 0, q1_, .ref q7_), (5, 1, q1_, .ref q8_)]) rfl (fun fr_217 H locs hp hMr_217 g => ?_)
              obtain ⟨x_218, h_219, hF_220⟩ := hp
              have hG_221 := eOK.frame hMr_217 go_.2.2.2.1 mq2_ kq2_ (by decide) (by decide) hG_216
              have g := g.more hF_220
              refine lv_aload_n hx hb dX2_readAssignment_124 rfl (lv_at hl 2 rfl) ?_
              refine g_getk (C := RX2) (T := TX2) (N := 16) hx hb hts (mc_ inX2) hown hK g rfl 0 (by decide) rfl (hts _ (List.mem_cons_of_mem _ t_416)) (fun _ h9 => h9) 11 rfl dX2_readAssignment_125 ?_
              refine lv_bipush (v := 59) hx hb dX2_readAssignment_128 (by decide) ?_
              have go_ := g
              refine g_callv (va_runV (As := [.int 59]) (rest := []) ⟨hx, hb, hml, hown, hts⟩ (r_X8_take_2 l dC dI L kd tys fr_217 H.size g.2.2.2.1 q0_ mq0_ kq0_ 59 1201 kb_1201 x_162 h_163 (g.fcts [7, 8] rfl)) (cwV 1 hts (gV_ t_1098 t_1099 t_1100 t_184 t_1101) rfl rfl rfl (by decide +kernel) ⟨(Nat.le_of_ble_eq_true rfl), (Nat.le_of_ble_eq_true rfl)⟩) (pre3V g hK mq0_ kq0_ (by decide) (q := (RX8, TX8, 10)) rfl) rfl rfl hl.1 rfl (lv_room (Nat.le_of_ble_eq_true rfl)) dX2_readAssignment_130 ⟨(Nat.le_of_ble_eq_true rfl), (Nat.le_of_ble_eq_true rfl)⟩) g hK (by decide) (by decide) (fx' := [(7, 6, q3_, .int x_218), (0, 13, q2_, .int 0), (0, 12, q2_, .int 1), (0, 11, q2_, .int 0), (0, 10, q2_, .int 0), (0, 8, q2_, .int 0), (0, 2, q2_, .ref q7_), (8, 8, q0_, .int x_162), (9, 2, q4_, .int x_6), (2, 15, a0_, .int x_1), (2, 0, a0_, .ref q0_), (2, 1, a0_, .ref q1_), (2, 2, a0_, .ref q2_), (2, 3, a0_, .ref q3_), (2, 4, a0_, .ref q4_), (0, 0, q2_, .ref q0_), (0, 1, q2_, .ref q1_), (5, 0, q1_, .ref q7_), (5, 1, q1_, .ref q8_)]) rfl (fun fr_222 H locs hp hMr_222 g => ?_)
              obtain ⟨x_223, h_224, hF_225⟩ := hp
              have hG_226 := eOK.frame hMr_222 go_.2.2.2.1 mq2_ kq2_ (by decide) (by decide) hG_221
              have g := g.more hF_225
              subst hQ
              exact W.vret hx hb hr (fun t ht hW => ⟨⟨_, rfl, Or.inr (⟨hG_226, x_223, h_224, x_162, h_163, x_218, h_219, (g.fcts [0, 8, 1, 7] rfl)⟩), q3_of g hK ht hW⟩, g.2.2.1.F ht⟩) g.2.2.1.2.2 dX2_readAssignment_133
            · have fc_213 := nlt_f c_213
              have b_227 : bd 16 9 (16 : Int32) := leL fc_213 kb_16 b_124 (by decide)
              exact bd_no (eqX rfl b_227 kb_16 (lo := 16) (hi := 9) (by decide)) (by decide)
        · have hG_228 := eOK.frame hMr_142 go_.2.2.2.1 mq2_ kq2_ (by decide) (by decide) hG_134
          have g := g.more hF_148
          refine lv_aload_n hx hb dX2_readAssignment_43 rfl (lv_at hl 2 rfl) ?_
          refine g_getk (C := RX2) (T := TX2) (N := 16) hx hb hts (mc_ inX2) hown hK g rfl 3 (by decide) rfl (hts _ (List.mem_cons_of_mem _ t_419)) (fun _ h9 => h9) 8 rfl dX2_readAssignment_44 ?_
          refine lv_bipush (v := 11) hx hb dX2_readAssignment_47 (by decide) ?_
          refine lv_aload_n hx hb dX2_readAssignment_49 rfl (lv_at hl 2 rfl) ?_
          refine g_getk (C := RX2) (T := TX2) (N := 16) hx hb hts (mc_ inX2) hown hK g rfl 4 (by decide) rfl (hts _ (List.mem_cons_of_mem _ t_420)) (fun _ h9 => h9) 9 rfl dX2_readAssignment_50 ?_
          refine lv_iload_n hx hb dX2_readAssignment_53 rfl (lv_at hl 1 rfl) ?_
          have go_ := g
          refine g_calli (va_runV (As := [.int x_1]) (rest := [.int 11, .ref q3_]) ⟨hx, hb, hml, hown, hts⟩ (r_X9_spanOf l dC dI L kd tys fr_142 H.size g.2.2.2.1 q4_ mq4_ kq4_ x_1) (cwV 1 hts (gV_ t_1401 t_1265 t_1266 t_192 t_1267) rfl rfl rfl (by decide +kernel) ⟨(Nat.le_of_ble_eq_true rfl), (Nat.le_of_ble_eq_true rfl)⟩) (pre3V g hK mq4_ kq4_ (by decide) (q := (RX9, TX9, 13)) rfl) rfl rfl hl.1 rfl (lv_room (Nat.le_of_ble_eq_true rfl)) dX2_readAssignment_54 ⟨(Nat.le_of_ble_eq_true rfl), (Nat.le_of_ble_eq_true rfl)⟩) g hK (by decide) (by decide) (fx' := [(8, 6, q0_, .int 1201), (8, 8, q0_, .int x_146), (0, 2, q2_, .ref q7_), (9, 2, q4_, .int x_6), (2, 15, a0_, .int x_1), (2, 0, a0_, .ref q0_), (2, 1, a0_, .ref q1_), (2, 2, a0_, .ref q2_), (2, 3, a0_, .ref q3_), (2, 4, a0_, .ref q4_), (0, 0, q2_, .ref q0_), (0, 1, q2_, .ref q1_), (5, 0, q1_, .ref q7_), (5, 1, q1_, .ref q8_)]) rfl (fun r_229 fr_229 H locs hp hMr_229 g => ?_)
          obtain ⟨h_230, -⟩ := hp
          have hG_231 := eOK.frame hMr_229 go_.2.2.2.1 mq2_ kq2_ (by decide) (by decide) hG_228
          have go_ := g
          refine g_callv (va_runV (As := [.int 11, .int r_229]) (rest := []) ⟨hx, hb, hml, hown, hts⟩ (r_X7_emit l dC dI L kd tys fr_229 H.size g.2.2.2.1 q3_ mq3_ kq3_ 11 r_229) (cwV 2 hts (gV_ t_1301 t_1204 t_1205 t_191 t_1206) rfl rfl rfl (by decide +kernel) ⟨(Nat.le_of_ble_eq_true rfl), (Nat.le_of_ble_eq_true rfl)⟩) (pre3V g hK mq3_ kq3_ (by decide) (q := (RX7, TX7, 19)) rfl) rfl rfl hl.1 rfl (lv_room (Nat.le_of_ble_eq_true rfl)) dX2_readAssignment_57 ⟨(Nat.le_of_ble_eq_true rfl), (Nat.le_of_ble_eq_true rfl)⟩) g hK (by decide) (by decide) (fx' := [(8, 6, q0_, .int 1201), (8, 8, q0_, .int x_146), (0, 2, q2_, .ref q7_), (9, 2, q4_, .int x_6), (2, 15, a0_, .int x_1), (2, 0, a0_, .ref q0_), (2, 1, a0_, .ref q1_), (2, 2, a0_, .ref q2_), (2, 3, a0_, .ref q3_), (2, 4, a0_, .ref q4_), (0, 0, q2_, .ref q0_), (0, 1, q2_, .ref q1_), (5, 0, q1_, .ref q7_), (5, 1, q1_, .ref q8_)]) rfl (fun fr_232 H locs hp hMr_232 g => ?_)
          obtain ⟨x_233, h_234, hF_235⟩ := hp
          have hG_236 := eOK.frame hMr_232 go_.2.2.2.1 mq2_ kq2_ (by decide) (by decide) hG_231
          have g := g.more hF_235
          refine lv_aload_n hx hb dX2_readAssignment_60 rfl (lv_at hl 2 rfl) ?_
          refine g_getk (C := RX2) (T := TX2) (N := 16) hx hb hts (mc_ inX2) hown hK g rfl 0 (by decide) rfl (hts _ (List.mem_cons_of_mem _ t_416)) (fun _ h9 => h9) 6 rfl dX2_readAssignment_61 ?_
          refine lv_bipush (v := 61) hx hb dX2_readAssignment_64 (by decide) ?_
          have kb_1201 : bd 1201 1201 (1201 : Int32) := ⟨by decide, by decide⟩
          have go_ := g
          refine g_callv (va_runV (As := [.int 61]) (rest := []) ⟨hx, hb, hml, hown, hts⟩ (r_X8_take_2 l dC dI L kd tys fr_232 H.size g.2.2.2.1 q0_ mq0_ kq0_ 61 1201 kb_1201 x_146 h_147 (g.fcts [1, 2] rfl)) (cwV 1 hts (gV_ t_1098 t_1099 t_1100 t_184 t_1101) rfl rfl rfl (by decide +kernel) ⟨(Nat.le_of_ble_eq_true rfl), (Nat.le_of_ble_eq_true rfl)⟩) (pre3V g hK mq0_ kq0_ (by decide) (q := (RX8, TX8, 10)) rfl) rfl rfl hl.1 rfl (lv_room (Nat.le_of_ble_eq_true rfl)) dX2_readAssignment_66 ⟨(Nat.le_of_ble_eq_true rfl), (Nat.le_of_ble_eq_true rfl)⟩) g hK (by decide) (by decide) (fx' := [(7, 6, q3_, .int x_233), (8, 8, q0_, .int x_146), (0, 2, q2_, .ref q7_), (9, 2, q4_, .int x_6), (2, 15, a0_, .int x_1), (2, 0, a0_, .ref q0_), (2, 1, a0_, .ref q1_), (2, 2, a0_, .ref q2_), (2, 3, a0_, .ref q3_), (2, 4, a0_, .ref q4_), (0, 0, q2_, .ref q0_), (0, 1, q2_, .ref q1_), (5, 0, q1_, .ref q7_), (5, 1, q1_, .ref q8_)]) rfl (fun fr_237 H locs hp hMr_237 g => ?_)
          obtain ⟨x_238, h_239, hF_240⟩ := hp
          have hG_241 := eOK.frame hMr_237 go_.2.2.2.1 mq2_ kq2_ (by decide) (by decide) hG_236
          have g := g.more hF_240
          refine lv_aload_n hx hb dX2_readAssignment_69 rfl (lv_at hl 2 rfl) ?_
          refine g_getk (C := RX2) (T := TX2) (N := 16) hx hb hts (mc_ inX2) hown hK g rfl 2 (by decide) rfl (hts _ (List.mem_cons_of_mem _ t_418)) (fun _ h9 => h9) 8 rfl dX2_readAssignment_70 ?_
          have go_ := g
          refine g_callv (va_runV (As := []) (rest := []) ⟨hx, hb, hml, hown, hts⟩ (r_X0_read_2 l dC dI L kd tys fr_237 H.size g.2.2.2.1 q2_ mq2_ kq2_ q0_ mq0_ kq0_ q1_ mq1_ kq1_ q7_ mq7_ kq7_ q8_ mq8_ kq8_ x_238 h_239 x_146 h_147 hG_241 (g.fcts [11, 12, 13, 14, 0, 2] rfl)) (cwV 0 hts (gV_ t_1182 t_1183 t_1184 t_190 t_1185) rfl rfl rfl (by decide +kernel) ⟨(Nat.le_of_ble_eq_true rfl), (Nat.le_of_ble_eq_true rfl)⟩) (pre3V g hK mq2_ kq2_ (by decide) (q := (RX0, TX0, 14)) rfl) rfl rfl hl.1 rfl (lv_room (Nat.le_of_ble_eq_true rfl)) dX2_readAssignment_73 ⟨(Nat.le_of_ble_eq_true rfl), (Nat.le_of_ble_eq_true rfl)⟩) g hK (by decide) (by decide) (fx' := [(8, 6, q0_, .int x_238), (7, 6, q3_, .int x_233), (8, 8, q0_, .int x_146), (9, 2, q4_, .int x_6), (2, 15, a0_, .int x_1), (2, 0, a0_, .ref q0_), (2, 1, a0_, .ref q1_), (2, 2, a0_, .ref q2_), (2, 3, a0_, .ref q3_), (2, 4, a0_, .ref q4_), (0, 0, q2_, .ref q0_), (0, 1, q2_, .ref q1_), (5, 0, q1_, .ref q7_), (5, 1, q1_, .ref q8_)]) rfl (fun fr_242 H locs hp hMr_242 g => ?_)
          have hF_243 := hp
          have hG_244 := eOK.frame hMr_242 go_.2.2.2.1 mq2_ kq2_ (by decide) (by decide) hG_241
          have g := g.more hF_243
          refine lv_iload_n hx hb dX2_readAssignment_76 rfl (lv_at hl 1 rfl) ?_
          refine lv_bipush (v := 16) hx hb dX2_readAssignment_77 (by decide) ?_
          have kb_16 : bd 16 16 (16 : Int32) := ⟨by decide, by decide⟩
          refine lv_icmp_lt (tgt := 98) hx hb dX2_readAssignment_79 (by decide) (fun c_245 => ?_) (fun c_245 => ?_)
          · have fc_245 := lt_f c_245
            refine lv_aload_n hx hb dX2_readAssignment_98 rfl (lv_at hl 2 rfl) ?_
            refine g_getk (C := RX2) (T := TX2) (N := 16) hx hb hts (mc_ inX2) hown hK g rfl 3 (by decide) rfl (hts _ (List.mem_cons_of_mem _ t_419)) (fun _ h9 => h9) 14 rfl dX2_readAssignment_99 ?_
            refine lv_iload_n hx hb dX2_readAssignment_102 rfl (lv_at hl 0 rfl) ?_
            refine lv_if_eq (tgt := 111) hx hb dX2_readAssignment_103 (by decide) (fun c_ => absurd c_ (by decide)) (fun c_ => ?_)
            refine lv_bipush (v := 27) hx hb dX2_readAssignment_106 (by decide) ?_
            refine lv_goto (tgt := 113) hx hb dX2_readAssignment_108 (by decide) ?_
            refine lv_aload_n hx hb dX2_readAssignment_113 rfl (lv_at hl 2 rfl) ?_
            refine g_getk (C := RX2) (T := TX2) (N := 16) hx hb hts (mc_ inX2) hown hK g rfl 4 (by decide) rfl (hts _ (List.mem_cons_of_mem _ t_420)) (fun _ h9 => h9) 15 rfl dX2_readAssignment_114 ?_
            refine lv_iload_n hx hb dX2_readAssignment_117 rfl (lv_at hl 1 rfl) ?_
            have go_ := g
            refine g_calli (va_runV (As := [.int x_1]) (rest := [.int 27, .ref q3_]) ⟨hx, hb, hml, hown, hts⟩ (r_X9_spanOf l dC dI L kd tys fr_242 H.size g.2.2.2.1 q4_ mq4_ kq4_ x_1) (cwV 1 hts (gV_ t_1401 t_1265 t_1266 t_192 t_1267) rfl rfl rfl (by decide +kernel) ⟨(Nat.le_of_ble_eq_true rfl), (Nat.le_of_ble_eq_true rfl)⟩) (pre3V g hK mq4_ kq4_ (by decide) (q := (RX9, TX9, 13)) rfl) rfl rfl hl.1 rfl (lv_room (Nat.le_of_ble_eq_true rfl)) dX2_readAssignment_118 ⟨(Nat.le_of_ble_eq_true rfl), (Nat.le_of_ble_eq_true rfl)⟩) g hK (by decide) (by decide) (fx' := [(0, 13, q2_, .int 0), (0, 12, q2_, .int 1), (0, 11, q2_, .int 0), (0, 10, q2_, .int 0), (0, 8, q2_, .int 0), (0, 2, q2_, .ref q7_), (8, 6, q0_, .int x_238), (7, 6, q3_, .int x_233), (8, 8, q0_, .int x_146), (9, 2, q4_, .int x_6), (2, 15, a0_, .int x_1), (2, 0, a0_, .ref q0_), (2, 1, a0_, .ref q1_), (2, 2, a0_, .ref q2_), (2, 3, a0_, .ref q3_), (2, 4, a0_, .ref q4_), (0, 0, q2_, .ref q0_), (0, 1, q2_, .ref q1_), (5, 0, q1_, .ref q7_), (5, 1, q1_, .ref q8_)]) rfl (fun r_246 fr_246 H locs hp hMr_246 g => ?_)
            obtain ⟨h_247, -⟩ := hp
            have hG_248 := eOK.frame hMr_246 go_.2.2.2.1 mq2_ kq2_ (by decide) (by decide) hG_244
            have go_ := g
            refine g_callv (va_runV (As := [.int 27, .int r_246]) (rest := []) ⟨hx, hb, hml, hown, hts⟩ (r_X7_emit l dC dI L kd tys fr_246 H.size g.2.2.2.1 q3_ mq3_ kq3_ 27 r_246) (cwV 2 hts (gV_ t_1301 t_1204 t_1205 t_191 t_1206) rfl rfl rfl (by decide +kernel) ⟨(Nat.le_of_ble_eq_true rfl), (Nat.le_of_ble_eq_true rfl)⟩) (pre3V g hK mq3_ kq3_ (by decide) (q := (RX7, TX7, 19)) rfl) rfl rfl hl.1 rfl (lv_room (Nat.le_of_ble_eq_true rfl)) dX2_readAssignment_121 ⟨(Nat.le_of_ble_eq_true rfl), (Nat.le_of_ble_eq_true rfl)⟩) g hK (by decide) (by decide) (fx' := [(0, 13, q2_, .int 0), (0, 12, q2_, .int 1), (0, 11, q2_, .int 0), (0, 10, q2_, .int 0), (0, 8, q2_, .int 0), (0, 2, q2_, .ref q7_), (8, 6, q0_, .int x_238), (8, 8, q0_, .int x_146), (9, 2, q4_, .int x_6), (2, 15, a0_, .int x_1), (2, 0, a0_, .ref q0_), (2, 1, a0_, .ref q1_), (2, 2, a0_, .ref q2_), (2, 3, a0_, .ref q3_), (2, 4, a0_, .ref q4_), (0, 0, q2_, .ref q0_), (0, 1, q2_, .ref q1_), (5, 0, q1_, .ref q7_), (5, 1, q1_, .ref q8_)]) rfl (fun fr_249 H locs hp hMr_249 g => ?_)
            obtain ⟨x_250, h_251, hF_252⟩ := hp
            have hG_253 := eOK.frame hMr_249 go_.2.2.2.1 mq2_ kq2_ (by decide) (by decide) hG_248
            have g := g.more hF_252
            refine lv_aload_n hx hb dX2_readAssignment_124 rfl (lv_at hl 2 rfl) ?_
            refine g_getk (C := RX2) (T := TX2) (N := 16) hx hb hts (mc_ inX2) hown hK g rfl 0 (by decide) rfl (hts _ (List.mem_cons_of_mem _ t_416)) (fun _ h9 => h9) 11 rfl dX2_readAssignment_125 ?_
            refine lv_bipush (v := 59) hx hb dX2_readAssignment_128 (by decide) ?_
            have go_ := g
            refine g_callv (va_runV (As := [.int 59]) (rest := []) ⟨hx, hb, hml, hown, hts⟩ (r_X8_take_2 l dC dI L kd tys fr_249 H.size g.2.2.2.1 q0_ mq0_ kq0_ 59 x_238 h_239 x_146 h_147 (g.fcts [7, 8] rfl)) (cwV 1 hts (gV_ t_1098 t_1099 t_1100 t_184 t_1101) rfl rfl rfl (by decide +kernel) ⟨(Nat.le_of_ble_eq_true rfl), (Nat.le_of_ble_eq_true rfl)⟩) (pre3V g hK mq0_ kq0_ (by decide) (q := (RX8, TX8, 10)) rfl) rfl rfl hl.1 rfl (lv_room (Nat.le_of_ble_eq_true rfl)) dX2_readAssignment_130 ⟨(Nat.le_of_ble_eq_true rfl), (Nat.le_of_ble_eq_true rfl)⟩) g hK (by decide) (by decide) (fx' := [(7, 6, q3_, .int x_250), (0, 13, q2_, .int 0), (0, 12, q2_, .int 1), (0, 11, q2_, .int 0), (0, 10, q2_, .int 0), (0, 8, q2_, .int 0), (0, 2, q2_, .ref q7_), (8, 8, q0_, .int x_146), (9, 2, q4_, .int x_6), (2, 15, a0_, .int x_1), (2, 0, a0_, .ref q0_), (2, 1, a0_, .ref q1_), (2, 2, a0_, .ref q2_), (2, 3, a0_, .ref q3_), (2, 4, a0_, .ref q4_), (0, 0, q2_, .ref q0_), (0, 1, q2_, .ref q1_), (5, 0, q1_, .ref q7_), (5, 1, q1_, .ref q8_)]) rfl (fun fr_254 H locs hp hMr_254 g => ?_)
            obtain ⟨x_255, h_256, hF_257⟩ := hp
            have hG_258 := eOK.frame hMr_254 go_.2.2.2.1 mq2_ kq2_ (by decide) (by decide) hG_253
            have g := g.more hF_257
            subst hQ
            exact W.vret hx hb hr (fun t ht hW => ⟨⟨_, rfl, Or.inr (⟨hG_258, x_255, h_256, x_146, h_147, x_250, h_251, (g.fcts [0, 8, 1, 7] rfl)⟩), q3_of g hK ht hW⟩, g.2.2.1.F ht⟩) g.2.2.1.2.2 dX2_readAssignment_133
          · have fc_245 := nlt_f c_245
            have b_259 : bd 16 9 (16 : Int32) := leL fc_245 kb_16 b_124 (by decide)
            exact bd_no (eqX rfl b_259 kb_16 (lo := 16) (hi := 9) (by decide)) (by decide)
      · have g := g.more hF_141
        refine lv_aload_n hx hb dX2_readAssignment_34 rfl (lv_at hl 2 rfl) ?_
        refine g_getk (C := RX2) (T := TX2) (N := 16) hx hb hts (mc_ inX2) hown hK g rfl 0 (by decide) rfl (hts _ (List.mem_cons_of_mem _ t_416)) (fun _ h9 => h9) 5 rfl dX2_readAssignment_35 ?_
        refine lv_bipush (v := 93) hx hb dX2_readAssignment_38 (by decide) ?_
        have go_ := g
        refine g_callv (va_runV (As := [.int 93]) (rest := []) ⟨hx, hb, hml, hown, hts⟩ (r_X8_take_2 l dC dI L kd tys fr_133 H.size g.2.2.2.1 q0_ mq0_ kq0_ 93 x_137 h_138 x_139 h_140 (g.fcts [0, 1] rfl)) (cwV 1 hts (gV_ t_1098 t_1099 t_1100 t_184 t_1101) rfl rfl rfl (by decide +kernel) ⟨(Nat.le_of_ble_eq_true rfl), (Nat.le_of_ble_eq_true rfl)⟩) (pre3V g hK mq0_ kq0_ (by decide) (q := (RX8, TX8, 10)) rfl) rfl rfl hl.1 rfl (lv_room (Nat.le_of_ble_eq_true rfl)) dX2_readAssignment_40 ⟨(Nat.le_of_ble_eq_true rfl), (Nat.le_of_ble_eq_true rfl)⟩) g hK (by decide) (by decide) (fx' := [(8, 8, q0_, .int x_139), (0, 2, q2_, .ref q7_), (9, 2, q4_, .int x_6), (2, 15, a0_, .int x_1), (2, 0, a0_, .ref q0_), (2, 1, a0_, .ref q1_), (2, 2, a0_, .ref q2_), (2, 3, a0_, .ref q3_), (2, 4, a0_, .ref q4_), (0, 0, q2_, .ref q0_), (0, 1, q2_, .ref q1_), (5, 0, q1_, .ref q7_), (5, 1, q1_, .ref q8_)]) rfl (fun fr_260 H locs hp hMr_260 g => ?_)
        obtain ⟨x_261, h_262, hF_263⟩ := hp
        have hG_264 := eOK.frame hMr_260 go_.2.2.2.1 mq2_ kq2_ (by decide) (by decide) hG_136
        have g := g.more hF_263
        refine lv_aload_n hx hb dX2_readAssignment_43 rfl (lv_at hl 2 rfl) ?_
        refine g_getk (C := RX2) (T := TX2) (N := 16) hx hb hts (mc_ inX2) hown hK g rfl 3 (by decide) rfl (hts _ (List.mem_cons_of_mem _ t_419)) (fun _ h9 => h9) 8 rfl dX2_readAssignment_44 ?_
        refine lv_bipush (v := 11) hx hb dX2_readAssignment_47 (by decide) ?_
        refine lv_aload_n hx hb dX2_readAssignment_49 rfl (lv_at hl 2 rfl) ?_
        refine g_getk (C := RX2) (T := TX2) (N := 16) hx hb hts (mc_ inX2) hown hK g rfl 4 (by decide) rfl (hts _ (List.mem_cons_of_mem _ t_420)) (fun _ h9 => h9) 9 rfl dX2_readAssignment_50 ?_
        refine lv_iload_n hx hb dX2_readAssignment_53 rfl (lv_at hl 1 rfl) ?_
        have go_ := g
        refine g_calli (va_runV (As := [.int x_1]) (rest := [.int 11, .ref q3_]) ⟨hx, hb, hml, hown, hts⟩ (r_X9_spanOf l dC dI L kd tys fr_260 H.size g.2.2.2.1 q4_ mq4_ kq4_ x_1) (cwV 1 hts (gV_ t_1401 t_1265 t_1266 t_192 t_1267) rfl rfl rfl (by decide +kernel) ⟨(Nat.le_of_ble_eq_true rfl), (Nat.le_of_ble_eq_true rfl)⟩) (pre3V g hK mq4_ kq4_ (by decide) (q := (RX9, TX9, 13)) rfl) rfl rfl hl.1 rfl (lv_room (Nat.le_of_ble_eq_true rfl)) dX2_readAssignment_54 ⟨(Nat.le_of_ble_eq_true rfl), (Nat.le_of_ble_eq_true rfl)⟩) g hK (by decide) (by decide) (fx' := [(8, 6, q0_, .int x_261), (8, 8, q0_, .int x_139), (0, 2, q2_, .ref q7_), (9, 2, q4_, .int x_6), (2, 15, a0_, .int x_1), (2, 0, a0_, .ref q0_), (2, 1, a0_, .ref q1_), (2, 2, a0_, .ref q2_), (2, 3, a0_, .ref q3_), (2, 4, a0_, .ref q4_), (0, 0, q2_, .ref q0_), (0, 1, q2_, .ref q1_), (5, 0, q1_, .ref q7_), (5, 1, q1_, .ref q8_)]) rfl (fun r_265 fr_265 H locs hp hMr_265 g => ?_)
        obtain ⟨h_266, -⟩ := hp
        have hG_267 := eOK.frame hMr_265 go_.2.2.2.1 mq2_ kq2_ (by decide) (by decide) hG_264
        have go_ := g
        refine g_callv (va_runV (As := [.int 11, .int r_265]) (rest := []) ⟨hx, hb, hml, hown, hts⟩ (r_X7_emit l dC dI L kd tys fr_265 H.size g.2.2.2.1 q3_ mq3_ kq3_ 11 r_265) (cwV 2 hts (gV_ t_1301 t_1204 t_1205 t_191 t_1206) rfl rfl rfl (by decide +kernel) ⟨(Nat.le_of_ble_eq_true rfl), (Nat.le_of_ble_eq_true rfl)⟩) (pre3V g hK mq3_ kq3_ (by decide) (q := (RX7, TX7, 19)) rfl) rfl rfl hl.1 rfl (lv_room (Nat.le_of_ble_eq_true rfl)) dX2_readAssignment_57 ⟨(Nat.le_of_ble_eq_true rfl), (Nat.le_of_ble_eq_true rfl)⟩) g hK (by decide) (by decide) (fx' := [(8, 6, q0_, .int x_261), (8, 8, q0_, .int x_139), (0, 2, q2_, .ref q7_), (9, 2, q4_, .int x_6), (2, 15, a0_, .int x_1), (2, 0, a0_, .ref q0_), (2, 1, a0_, .ref q1_), (2, 2, a0_, .ref q2_), (2, 3, a0_, .ref q3_), (2, 4, a0_, .ref q4_), (0, 0, q2_, .ref q0_), (0, 1, q2_, .ref q1_), (5, 0, q1_, .ref q7_), (5, 1, q1_, .ref q8_)]) rfl (fun fr_268 H locs hp hMr_268 g => ?_)
        obtain ⟨x_269, h_270, hF_271⟩ := hp
        have hG_272 := eOK.frame hMr_268 go_.2.2.2.1 mq2_ kq2_ (by decide) (by decide) hG_267
        have g := g.more hF_271
        refine lv_aload_n hx hb dX2_readAssignment_60 rfl (lv_at hl 2 rfl) ?_
        refine g_getk (C := RX2) (T := TX2) (N := 16) hx hb hts (mc_ inX2) hown hK g rfl 0 (by decide) rfl (hts _ (List.mem_cons_of_mem _ t_416)) (fun _ h9 => h9) 6 rfl dX2_readAssignment_61 ?_
        refine lv_bipush (v := 61) hx hb dX2_readAssignment_64 (by decide) ?_
        have go_ := g
        refine g_callv (va_runV (As := [.int 61]) (rest := []) ⟨hx, hb, hml, hown, hts⟩ (r_X8_take_2 l dC dI L kd tys fr_268 H.size g.2.2.2.1 q0_ mq0_ kq0_ 61 x_261 h_262 x_139 h_140 (g.fcts [1, 2] rfl)) (cwV 1 hts (gV_ t_1098 t_1099 t_1100 t_184 t_1101) rfl rfl rfl (by decide +kernel) ⟨(Nat.le_of_ble_eq_true rfl), (Nat.le_of_ble_eq_true rfl)⟩) (pre3V g hK mq0_ kq0_ (by decide) (q := (RX8, TX8, 10)) rfl) rfl rfl hl.1 rfl (lv_room (Nat.le_of_ble_eq_true rfl)) dX2_readAssignment_66 ⟨(Nat.le_of_ble_eq_true rfl), (Nat.le_of_ble_eq_true rfl)⟩) g hK (by decide) (by decide) (fx' := [(7, 6, q3_, .int x_269), (8, 8, q0_, .int x_139), (0, 2, q2_, .ref q7_), (9, 2, q4_, .int x_6), (2, 15, a0_, .int x_1), (2, 0, a0_, .ref q0_), (2, 1, a0_, .ref q1_), (2, 2, a0_, .ref q2_), (2, 3, a0_, .ref q3_), (2, 4, a0_, .ref q4_), (0, 0, q2_, .ref q0_), (0, 1, q2_, .ref q1_), (5, 0, q1_, .ref q7_), (5, 1, q1_, .ref q8_)]) rfl (fun fr_273 H locs hp hMr_273 g => ?_)
        obtain ⟨x_274, h_275, hF_276⟩ := hp
        have hG_277 := eOK.frame hMr_273 go_.2.2.2.1 mq2_ kq2_ (by decide) (by decide) hG_272
        have g := g.more hF_276
        refine lv_aload_n hx hb dX2_readAssignment_69 rfl (lv_at hl 2 rfl) ?_
        refine g_getk (C := RX2) (T := TX2) (N := 16) hx hb hts (mc_ inX2) hown hK g rfl 2 (by decide) rfl (hts _ (List.mem_cons_of_mem _ t_418)) (fun _ h9 => h9) 8 rfl dX2_readAssignment_70 ?_
        have go_ := g
        refine g_callv (va_runV (As := []) (rest := []) ⟨hx, hb, hml, hown, hts⟩ (r_X0_read_2 l dC dI L kd tys fr_273 H.size g.2.2.2.1 q2_ mq2_ kq2_ q0_ mq0_ kq0_ q1_ mq1_ kq1_ q7_ mq7_ kq7_ q8_ mq8_ kq8_ x_274 h_275 x_139 h_140 hG_277 (g.fcts [11, 12, 13, 14, 0, 2] rfl)) (cwV 0 hts (gV_ t_1182 t_1183 t_1184 t_190 t_1185) rfl rfl rfl (by decide +kernel) ⟨(Nat.le_of_ble_eq_true rfl), (Nat.le_of_ble_eq_true rfl)⟩) (pre3V g hK mq2_ kq2_ (by decide) (q := (RX0, TX0, 14)) rfl) rfl rfl hl.1 rfl (lv_room (Nat.le_of_ble_eq_true rfl)) dX2_readAssignment_73 ⟨(Nat.le_of_ble_eq_true rfl), (Nat.le_of_ble_eq_true rfl)⟩) g hK (by decide) (by decide) (fx' := [(8, 6, q0_, .int x_274), (7, 6, q3_, .int x_269), (8, 8, q0_, .int x_139), (9, 2, q4_, .int x_6), (2, 15, a0_, .int x_1), (2, 0, a0_, .ref q0_), (2, 1, a0_, .ref q1_), (2, 2, a0_, .ref q2_), (2, 3, a0_, .ref q3_), (2, 4, a0_, .ref q4_), (0, 0, q2_, .ref q0_), (0, 1, q2_, .ref q1_), (5, 0, q1_, .ref q7_), (5, 1, q1_, .ref q8_)]) rfl (fun fr_278 H locs hp hMr_278 g => ?_)
        have hF_279 := hp
        have hG_280 := eOK.frame hMr_278 go_.2.2.2.1 mq2_ kq2_ (by decide) (by decide) hG_277
        have g := g.more hF_279
        refine lv_iload_n hx hb dX2_readAssignment_76 rfl (lv_at hl 1 rfl) ?_
        refine lv_bipush (v := 16) hx hb dX2_readAssignment_77 (by decide) ?_
        have kb_16 : bd 16 16 (16 : Int32) := ⟨by decide, by decide⟩
        refine lv_icmp_lt (tgt := 98) hx hb dX2_readAssignment_79 (by decide) (fun c_281 => ?_) (fun c_281 => ?_)
        · have fc_281 := lt_f c_281
          refine lv_aload_n hx hb dX2_readAssignment_98 rfl (lv_at hl 2 rfl) ?_
          refine g_getk (C := RX2) (T := TX2) (N := 16) hx hb hts (mc_ inX2) hown hK g rfl 3 (by decide) rfl (hts _ (List.mem_cons_of_mem _ t_419)) (fun _ h9 => h9) 14 rfl dX2_readAssignment_99 ?_
          refine lv_iload_n hx hb dX2_readAssignment_102 rfl (lv_at hl 0 rfl) ?_
          refine lv_if_eq (tgt := 111) hx hb dX2_readAssignment_103 (by decide) (fun c_ => absurd c_ (by decide)) (fun c_ => ?_)
          refine lv_bipush (v := 27) hx hb dX2_readAssignment_106 (by decide) ?_
          refine lv_goto (tgt := 113) hx hb dX2_readAssignment_108 (by decide) ?_
          refine lv_aload_n hx hb dX2_readAssignment_113 rfl (lv_at hl 2 rfl) ?_
          refine g_getk (C := RX2) (T := TX2) (N := 16) hx hb hts (mc_ inX2) hown hK g rfl 4 (by decide) rfl (hts _ (List.mem_cons_of_mem _ t_420)) (fun _ h9 => h9) 15 rfl dX2_readAssignment_114 ?_
          refine lv_iload_n hx hb dX2_readAssignment_117 rfl (lv_at hl 1 rfl) ?_
          have go_ := g
          refine g_calli (va_runV (As := [.int x_1]) (rest := [.int 27, .ref q3_]) ⟨hx, hb, hml, hown, hts⟩ (r_X9_spanOf l dC dI L kd tys fr_278 H.size g.2.2.2.1 q4_ mq4_ kq4_ x_1) (cwV 1 hts (gV_ t_1401 t_1265 t_1266 t_192 t_1267) rfl rfl rfl (by decide +kernel) ⟨(Nat.le_of_ble_eq_true rfl), (Nat.le_of_ble_eq_true rfl)⟩) (pre3V g hK mq4_ kq4_ (by decide) (q := (RX9, TX9, 13)) rfl) rfl rfl hl.1 rfl (lv_room (Nat.le_of_ble_eq_true rfl)) dX2_readAssignment_118 ⟨(Nat.le_of_ble_eq_true rfl), (Nat.le_of_ble_eq_true rfl)⟩) g hK (by decide) (by decide) (fx' := [(0, 13, q2_, .int 0), (0, 12, q2_, .int 1), (0, 11, q2_, .int 0), (0, 10, q2_, .int 0), (0, 8, q2_, .int 0), (0, 2, q2_, .ref q7_), (8, 6, q0_, .int x_274), (7, 6, q3_, .int x_269), (8, 8, q0_, .int x_139), (9, 2, q4_, .int x_6), (2, 15, a0_, .int x_1), (2, 0, a0_, .ref q0_), (2, 1, a0_, .ref q1_), (2, 2, a0_, .ref q2_), (2, 3, a0_, .ref q3_), (2, 4, a0_, .ref q4_), (0, 0, q2_, .ref q0_), (0, 1, q2_, .ref q1_), (5, 0, q1_, .ref q7_), (5, 1, q1_, .ref q8_)]) rfl (fun r_282 fr_282 H locs hp hMr_282 g => ?_)
          obtain ⟨h_283, -⟩ := hp
          have hG_284 := eOK.frame hMr_282 go_.2.2.2.1 mq2_ kq2_ (by decide) (by decide) hG_280
          have go_ := g
          refine g_callv (va_runV (As := [.int 27, .int r_282]) (rest := []) ⟨hx, hb, hml, hown, hts⟩ (r_X7_emit l dC dI L kd tys fr_282 H.size g.2.2.2.1 q3_ mq3_ kq3_ 27 r_282) (cwV 2 hts (gV_ t_1301 t_1204 t_1205 t_191 t_1206) rfl rfl rfl (by decide +kernel) ⟨(Nat.le_of_ble_eq_true rfl), (Nat.le_of_ble_eq_true rfl)⟩) (pre3V g hK mq3_ kq3_ (by decide) (q := (RX7, TX7, 19)) rfl) rfl rfl hl.1 rfl (lv_room (Nat.le_of_ble_eq_true rfl)) dX2_readAssignment_121 ⟨(Nat.le_of_ble_eq_true rfl), (Nat.le_of_ble_eq_true rfl)⟩) g hK (by decide) (by decide) (fx' := [(0, 13, q2_, .int 0), (0, 12, q2_, .int 1), (0, 11, q2_, .int 0), (0, 10, q2_, .int 0), (0, 8, q2_, .int 0), (0, 2, q2_, .ref q7_), (8, 6, q0_, .int x_274), (8, 8, q0_, .int x_139), (9, 2, q4_, .int x_6), (2, 15, a0_, .int x_1), (2, 0, a0_, .ref q0_), (2, 1, a0_, .ref q1_), (2, 2, a0_, .ref q2_), (2, 3, a0_, .ref q3_), (2, 4, a0_, .ref q4_), (0, 0, q2_, .ref q0_), (0, 1, q2_, .ref q1_), (5, 0, q1_, .ref q7_), (5, 1, q1_, .ref q8_)]) rfl (fun fr_285 H locs hp hMr_285 g => ?_)
          obtain ⟨x_286, h_287, hF_288⟩ := hp
          have hG_289 := eOK.frame hMr_285 go_.2.2.2.1 mq2_ kq2_ (by decide) (by decide) hG_284
          have g := g.more hF_288
          refine lv_aload_n hx hb dX2_readAssignment_124 rfl (lv_at hl 2 rfl) ?_
          refine g_getk (C := RX2) (T := TX2) (N := 16) hx hb hts (mc_ inX2) hown hK g rfl 0 (by decide) rfl (hts _ (List.mem_cons_of_mem _ t_416)) (fun _ h9 => h9) 11 rfl dX2_readAssignment_125 ?_
          refine lv_bipush (v := 59) hx hb dX2_readAssignment_128 (by decide) ?_
          have go_ := g
          refine g_callv (va_runV (As := [.int 59]) (rest := []) ⟨hx, hb, hml, hown, hts⟩ (r_X8_take_2 l dC dI L kd tys fr_285 H.size g.2.2.2.1 q0_ mq0_ kq0_ 59 x_274 h_275 x_139 h_140 (g.fcts [7, 8] rfl)) (cwV 1 hts (gV_ t_1098 t_1099 t_1100 t_184 t_1101) rfl rfl rfl (by decide +kernel) ⟨(Nat.le_of_ble_eq_true rfl), (Nat.le_of_ble_eq_true rfl)⟩) (pre3V g hK mq0_ kq0_ (by decide) (q := (RX8, TX8, 10)) rfl) rfl rfl hl.1 rfl (lv_room (Nat.le_of_ble_eq_true rfl)) dX2_readAssignment_130 ⟨(Nat.le_of_ble_eq_true rfl), (Nat.le_of_ble_eq_true rfl)⟩) g hK (by decide) (by decide) (fx' := [(7, 6, q3_, .int x_286), (0, 13, q2_, .int 0), (0, 12, q2_, .int 1), (0, 11, q2_, .int 0), (0, 10, q2_, .int 0), (0, 8, q2_, .int 0), (0, 2, q2_, .ref q7_), (8, 8, q0_, .int x_139), (9, 2, q4_, .int x_6), (2, 15, a0_, .int x_1), (2, 0, a0_, .ref q0_), (2, 1, a0_, .ref q1_), (2, 2, a0_, .ref q2_), (2, 3, a0_, .ref q3_), (2, 4, a0_, .ref q4_), (0, 0, q2_, .ref q0_), (0, 1, q2_, .ref q1_), (5, 0, q1_, .ref q7_), (5, 1, q1_, .ref q8_)]) rfl (fun fr_290 H locs hp hMr_290 g => ?_)
          obtain ⟨x_291, h_292, hF_293⟩ := hp
          have hG_294 := eOK.frame hMr_290 go_.2.2.2.1 mq2_ kq2_ (by decide) (by decide) hG_289
          have g := g.more hF_293
          subst hQ
          exact W.vret hx hb hr (fun t ht hW => ⟨⟨_, rfl, Or.inr (⟨hG_294, x_291, h_292, x_139, h_140, x_286, h_287, (g.fcts [0, 8, 1, 7] rfl)⟩), q3_of g hK ht hW⟩, g.2.2.1.F ht⟩) g.2.2.1.2.2 dX2_readAssignment_133
        · have fc_281 := nlt_f c_281
          have b_295 : bd 16 9 (16 : Int32) := leL fc_281 kb_16 b_124 (by decide)
          exact bd_no (eqX rfl b_295 kb_16 (lo := 16) (hi := 9) (by decide)) (by decide)
    · have hG_296 := eOK.frame hMr_125 go_.2.2.2.1 mq2_ kq2_ (by decide) (by decide) hG_123
      have g := g.more hF_131
      refine lv_aload_n hx hb dX2_readAssignment_27 rfl (lv_at hl 2 rfl) ?_
      refine g_getk (C := RX2) (T := TX2) (N := 16) hx hb hts (mc_ inX2) hown hK g rfl 2 (by decide) rfl (hts _ (List.mem_cons_of_mem _ t_418)) (fun _ h9 => h9) 6 rfl dX2_readAssignment_28 ?_
      have kb_1201 : bd 1201 1201 (1201 : Int32) := ⟨by decide, by decide⟩
      have go_ := g
      refine g_callv (va_runV (As := []) (rest := []) ⟨hx, hb, hml, hown, hts⟩ (r_X0_read_2 l dC dI L kd tys fr_125 H.size g.2.2.2.1 q2_ mq2_ kq2_ q0_ mq0_ kq0_ q1_ mq1_ kq1_ q7_ mq7_ kq7_ q8_ mq8_ kq8_ 1201 kb_1201 x_129 h_130 hG_296 (g.fcts [9, 10, 11, 12, 0, 1] rfl)) (cwV 0 hts (gV_ t_1182 t_1183 t_1184 t_190 t_1185) rfl rfl rfl (by decide +kernel) ⟨(Nat.le_of_ble_eq_true rfl), (Nat.le_of_ble_eq_true rfl)⟩) (pre3V g hK mq2_ kq2_ (by decide) (q := (RX0, TX0, 14)) rfl) rfl rfl hl.1 rfl (lv_room (Nat.le_of_ble_eq_true rfl)) dX2_readAssignment_31 ⟨(Nat.le_of_ble_eq_true rfl), (Nat.le_of_ble_eq_true rfl)⟩) g hK (by decide) (by decide) (fx' := [(8, 6, q0_, .int 1201), (8, 8, q0_, .int x_129), (9, 2, q4_, .int x_6), (2, 15, a0_, .int x_1), (2, 0, a0_, .ref q0_), (2, 1, a0_, .ref q1_), (2, 2, a0_, .ref q2_), (2, 3, a0_, .ref q3_), (2, 4, a0_, .ref q4_), (0, 0, q2_, .ref q0_), (0, 1, q2_, .ref q1_), (5, 0, q1_, .ref q7_), (5, 1, q1_, .ref q8_)]) rfl (fun fr_297 H locs hp hMr_297 g => ?_)
      have hF_298 := hp
      have hG_299 := eOK.frame hMr_297 go_.2.2.2.1 mq2_ kq2_ (by decide) (by decide) hG_296
      have g := g.more hF_298
      refine lv_aload_n hx hb dX2_readAssignment_34 rfl (lv_at hl 2 rfl) ?_
      refine g_getk (C := RX2) (T := TX2) (N := 16) hx hb hts (mc_ inX2) hown hK g rfl 0 (by decide) rfl (hts _ (List.mem_cons_of_mem _ t_416)) (fun _ h9 => h9) 10 rfl dX2_readAssignment_35 ?_
      refine lv_bipush (v := 93) hx hb dX2_readAssignment_38 (by decide) ?_
      have go_ := g
      refine g_callv (va_runV (As := [.int 93]) (rest := []) ⟨hx, hb, hml, hown, hts⟩ (r_X8_take_2 l dC dI L kd tys fr_297 H.size g.2.2.2.1 q0_ mq0_ kq0_ 93 1201 kb_1201 x_129 h_130 (g.fcts [6, 7] rfl)) (cwV 1 hts (gV_ t_1098 t_1099 t_1100 t_184 t_1101) rfl rfl rfl (by decide +kernel) ⟨(Nat.le_of_ble_eq_true rfl), (Nat.le_of_ble_eq_true rfl)⟩) (pre3V g hK mq0_ kq0_ (by decide) (q := (RX8, TX8, 10)) rfl) rfl rfl hl.1 rfl (lv_room (Nat.le_of_ble_eq_true rfl)) dX2_readAssignment_40 ⟨(Nat.le_of_ble_eq_true rfl), (Nat.le_of_ble_eq_true rfl)⟩) g hK (by decide) (by decide) (fx' := [(0, 13, q2_, .int 0), (0, 12, q2_, .int 1), (0, 11, q2_, .int 0), (0, 10, q2_, .int 0), (0, 8, q2_, .int 0), (0, 2, q2_, .ref q7_), (8, 8, q0_, .int x_129), (9, 2, q4_, .int x_6), (2, 15, a0_, .int x_1), (2, 0, a0_, .ref q0_), (2, 1, a0_, .ref q1_), (2, 2, a0_, .ref q2_), (2, 3, a0_, .ref q3_), (2, 4, a0_, .ref q4_), (0, 0, q2_, .ref q0_), (0, 1, q2_, .ref q1_), (5, 0, q1_, .ref q7_), (5, 1, q1_, .ref q8_)]) rfl (fun fr_300 H locs hp hMr_300 g => ?_)
      obtain ⟨x_301, h_302, hF_303⟩ := hp
      have hG_304 := eOK.frame hMr_300 go_.2.2.2.1 mq2_ kq2_ (by decide) (by decide) hG_299
      have g := g.more hF_303
      refine lv_aload_n hx hb dX2_readAssignment_43 rfl (lv_at hl 2 rfl) ?_
      refine g_getk (C := RX2) (T := TX2) (N := 16) hx hb hts (mc_ inX2) hown hK g rfl 3 (by decide) rfl (hts _ (List.mem_cons_of_mem _ t_419)) (fun _ h9 => h9) 13 rfl dX2_readAssignment_44 ?_
      refine lv_bipush (v := 11) hx hb dX2_readAssignment_47 (by decide) ?_
      refine lv_aload_n hx hb dX2_readAssignment_49 rfl (lv_at hl 2 rfl) ?_
      refine g_getk (C := RX2) (T := TX2) (N := 16) hx hb hts (mc_ inX2) hown hK g rfl 4 (by decide) rfl (hts _ (List.mem_cons_of_mem _ t_420)) (fun _ h9 => h9) 14 rfl dX2_readAssignment_50 ?_
      refine lv_iload_n hx hb dX2_readAssignment_53 rfl (lv_at hl 1 rfl) ?_
      have go_ := g
      refine g_calli (va_runV (As := [.int x_1]) (rest := [.int 11, .ref q3_]) ⟨hx, hb, hml, hown, hts⟩ (r_X9_spanOf l dC dI L kd tys fr_300 H.size g.2.2.2.1 q4_ mq4_ kq4_ x_1) (cwV 1 hts (gV_ t_1401 t_1265 t_1266 t_192 t_1267) rfl rfl rfl (by decide +kernel) ⟨(Nat.le_of_ble_eq_true rfl), (Nat.le_of_ble_eq_true rfl)⟩) (pre3V g hK mq4_ kq4_ (by decide) (q := (RX9, TX9, 13)) rfl) rfl rfl hl.1 rfl (lv_room (Nat.le_of_ble_eq_true rfl)) dX2_readAssignment_54 ⟨(Nat.le_of_ble_eq_true rfl), (Nat.le_of_ble_eq_true rfl)⟩) g hK (by decide) (by decide) (fx' := [(8, 6, q0_, .int x_301), (0, 13, q2_, .int 0), (0, 12, q2_, .int 1), (0, 11, q2_, .int 0), (0, 10, q2_, .int 0), (0, 8, q2_, .int 0), (0, 2, q2_, .ref q7_), (8, 8, q0_, .int x_129), (9, 2, q4_, .int x_6), (2, 15, a0_, .int x_1), (2, 0, a0_, .ref q0_), (2, 1, a0_, .ref q1_), (2, 2, a0_, .ref q2_), (2, 3, a0_, .ref q3_), (2, 4, a0_, .ref q4_), (0, 0, q2_, .ref q0_), (0, 1, q2_, .ref q1_), (5, 0, q1_, .ref q7_), (5, 1, q1_, .ref q8_)]) rfl (fun r_305 fr_305 H locs hp hMr_305 g => ?_)
      obtain ⟨h_306, -⟩ := hp
      have hG_307 := eOK.frame hMr_305 go_.2.2.2.1 mq2_ kq2_ (by decide) (by decide) hG_304
      have go_ := g
      refine g_callv (va_runV (As := [.int 11, .int r_305]) (rest := []) ⟨hx, hb, hml, hown, hts⟩ (r_X7_emit l dC dI L kd tys fr_305 H.size g.2.2.2.1 q3_ mq3_ kq3_ 11 r_305) (cwV 2 hts (gV_ t_1301 t_1204 t_1205 t_191 t_1206) rfl rfl rfl (by decide +kernel) ⟨(Nat.le_of_ble_eq_true rfl), (Nat.le_of_ble_eq_true rfl)⟩) (pre3V g hK mq3_ kq3_ (by decide) (q := (RX7, TX7, 19)) rfl) rfl rfl hl.1 rfl (lv_room (Nat.le_of_ble_eq_true rfl)) dX2_readAssignment_57 ⟨(Nat.le_of_ble_eq_true rfl), (Nat.le_of_ble_eq_true rfl)⟩) g hK (by decide) (by decide) (fx' := [(8, 6, q0_, .int x_301), (0, 13, q2_, .int 0), (0, 12, q2_, .int 1), (0, 11, q2_, .int 0), (0, 10, q2_, .int 0), (0, 8, q2_, .int 0), (0, 2, q2_, .ref q7_), (8, 8, q0_, .int x_129), (9, 2, q4_, .int x_6), (2, 15, a0_, .int x_1), (2, 0, a0_, .ref q0_), (2, 1, a0_, .ref q1_), (2, 2, a0_, .ref q2_), (2, 3, a0_, .ref q3_), (2, 4, a0_, .ref q4_), (0, 0, q2_, .ref q0_), (0, 1, q2_, .ref q1_), (5, 0, q1_, .ref q7_), (5, 1, q1_, .ref q8_)]) rfl (fun fr_308 H locs hp hMr_308 g => ?_)
      obtain ⟨x_309, h_310, hF_311⟩ := hp
      have hG_312 := eOK.frame hMr_308 go_.2.2.2.1 mq2_ kq2_ (by decide) (by decide) hG_307
      have g := g.more hF_311
      refine lv_aload_n hx hb dX2_readAssignment_60 rfl (lv_at hl 2 rfl) ?_
      refine g_getk (C := RX2) (T := TX2) (N := 16) hx hb hts (mc_ inX2) hown hK g rfl 0 (by decide) rfl (hts _ (List.mem_cons_of_mem _ t_416)) (fun _ h9 => h9) 11 rfl dX2_readAssignment_61 ?_
      refine lv_bipush (v := 61) hx hb dX2_readAssignment_64 (by decide) ?_
      have go_ := g
      refine g_callv (va_runV (As := [.int 61]) (rest := []) ⟨hx, hb, hml, hown, hts⟩ (r_X8_take_2 l dC dI L kd tys fr_308 H.size g.2.2.2.1 q0_ mq0_ kq0_ 61 x_301 h_302 x_129 h_130 (g.fcts [1, 8] rfl)) (cwV 1 hts (gV_ t_1098 t_1099 t_1100 t_184 t_1101) rfl rfl rfl (by decide +kernel) ⟨(Nat.le_of_ble_eq_true rfl), (Nat.le_of_ble_eq_true rfl)⟩) (pre3V g hK mq0_ kq0_ (by decide) (q := (RX8, TX8, 10)) rfl) rfl rfl hl.1 rfl (lv_room (Nat.le_of_ble_eq_true rfl)) dX2_readAssignment_66 ⟨(Nat.le_of_ble_eq_true rfl), (Nat.le_of_ble_eq_true rfl)⟩) g hK (by decide) (by decide) (fx' := [(7, 6, q3_, .int x_309), (0, 13, q2_, .int 0), (0, 12, q2_, .int 1), (0, 11, q2_, .int 0), (0, 10, q2_, .int 0), (0, 8, q2_, .int 0), (0, 2, q2_, .ref q7_), (8, 8, q0_, .int x_129), (9, 2, q4_, .int x_6), (2, 15, a0_, .int x_1), (2, 0, a0_, .ref q0_), (2, 1, a0_, .ref q1_), (2, 2, a0_, .ref q2_), (2, 3, a0_, .ref q3_), (2, 4, a0_, .ref q4_), (0, 0, q2_, .ref q0_), (0, 1, q2_, .ref q1_), (5, 0, q1_, .ref q7_), (5, 1, q1_, .ref q8_)]) rfl (fun fr_313 H locs hp hMr_313 g => ?_)
      obtain ⟨x_314, h_315, hF_316⟩ := hp
      have hG_317 := eOK.frame hMr_313 go_.2.2.2.1 mq2_ kq2_ (by decide) (by decide) hG_312
      have g := g.more hF_316
      refine lv_aload_n hx hb dX2_readAssignment_69 rfl (lv_at hl 2 rfl) ?_
      refine g_getk (C := RX2) (T := TX2) (N := 16) hx hb hts (mc_ inX2) hown hK g rfl 2 (by decide) rfl (hts _ (List.mem_cons_of_mem _ t_418)) (fun _ h9 => h9) 13 rfl dX2_readAssignment_70 ?_
      have go_ := g
      refine g_callv (va_runV (As := []) (rest := []) ⟨hx, hb, hml, hown, hts⟩ (r_X0_read_2 l dC dI L kd tys fr_313 H.size g.2.2.2.1 q2_ mq2_ kq2_ q0_ mq0_ kq0_ q1_ mq1_ kq1_ q7_ mq7_ kq7_ q8_ mq8_ kq8_ x_314 h_315 x_129 h_130 hG_317 (g.fcts [16, 17, 18, 19, 0, 8] rfl)) (cwV 0 hts (gV_ t_1182 t_1183 t_1184 t_190 t_1185) rfl rfl rfl (by decide +kernel) ⟨(Nat.le_of_ble_eq_true rfl), (Nat.le_of_ble_eq_true rfl)⟩) (pre3V g hK mq2_ kq2_ (by decide) (q := (RX0, TX0, 14)) rfl) rfl rfl hl.1 rfl (lv_room (Nat.le_of_ble_eq_true rfl)) dX2_readAssignment_73 ⟨(Nat.le_of_ble_eq_true rfl), (Nat.le_of_ble_eq_true rfl)⟩) g hK (by decide) (by decide) (fx' := [(8, 6, q0_, .int x_314), (7, 6, q3_, .int x_309), (8, 8, q0_, .int x_129), (9, 2, q4_, .int x_6), (2, 15, a0_, .int x_1), (2, 0, a0_, .ref q0_), (2, 1, a0_, .ref q1_), (2, 2, a0_, .ref q2_), (2, 3, a0_, .ref q3_), (2, 4, a0_, .ref q4_), (0, 0, q2_, .ref q0_), (0, 1, q2_, .ref q1_), (5, 0, q1_, .ref q7_), (5, 1, q1_, .ref q8_)]) rfl (fun fr_318 H locs hp hMr_318 g => ?_)
      have hF_319 := hp
      have hG_320 := eOK.frame hMr_318 go_.2.2.2.1 mq2_ kq2_ (by decide) (by decide) hG_317
      have g := g.more hF_319
      refine lv_iload_n hx hb dX2_readAssignment_76 rfl (lv_at hl 1 rfl) ?_
      refine lv_bipush (v := 16) hx hb dX2_readAssignment_77 (by decide) ?_
      have kb_16 : bd 16 16 (16 : Int32) := ⟨by decide, by decide⟩
      refine lv_icmp_lt (tgt := 98) hx hb dX2_readAssignment_79 (by decide) (fun c_321 => ?_) (fun c_321 => ?_)
      · have fc_321 := lt_f c_321
        refine lv_aload_n hx hb dX2_readAssignment_98 rfl (lv_at hl 2 rfl) ?_
        refine g_getk (C := RX2) (T := TX2) (N := 16) hx hb hts (mc_ inX2) hown hK g rfl 3 (by decide) rfl (hts _ (List.mem_cons_of_mem _ t_419)) (fun _ h9 => h9) 14 rfl dX2_readAssignment_99 ?_
        refine lv_iload_n hx hb dX2_readAssignment_102 rfl (lv_at hl 0 rfl) ?_
        refine lv_if_eq (tgt := 111) hx hb dX2_readAssignment_103 (by decide) (fun c_ => absurd c_ (by decide)) (fun c_ => ?_)
        refine lv_bipush (v := 27) hx hb dX2_readAssignment_106 (by decide) ?_
        refine lv_goto (tgt := 113) hx hb dX2_readAssignment_108 (by decide) ?_
        refine lv_aload_n hx hb dX2_readAssignment_113 rfl (lv_at hl 2 rfl) ?_
        refine g_getk (C := RX2) (T := TX2) (N := 16) hx hb hts (mc_ inX2) hown hK g rfl 4 (by decide) rfl (hts _ (List.mem_cons_of_mem _ t_420)) (fun _ h9 => h9) 15 rfl dX2_readAssignment_114 ?_
        refine lv_iload_n hx hb dX2_readAssignment_117 rfl (lv_at hl 1 rfl) ?_
        have go_ := g
        refine g_calli (va_runV (As := [.int x_1]) (rest := [.int 27, .ref q3_]) ⟨hx, hb, hml, hown, hts⟩ (r_X9_spanOf l dC dI L kd tys fr_318 H.size g.2.2.2.1 q4_ mq4_ kq4_ x_1) (cwV 1 hts (gV_ t_1401 t_1265 t_1266 t_192 t_1267) rfl rfl rfl (by decide +kernel) ⟨(Nat.le_of_ble_eq_true rfl), (Nat.le_of_ble_eq_true rfl)⟩) (pre3V g hK mq4_ kq4_ (by decide) (q := (RX9, TX9, 13)) rfl) rfl rfl hl.1 rfl (lv_room (Nat.le_of_ble_eq_true rfl)) dX2_readAssignment_118 ⟨(Nat.le_of_ble_eq_true rfl), (Nat.le_of_ble_eq_true rfl)⟩) g hK (by decide) (by decide) (fx' := [(0, 13, q2_, .int 0), (0, 12, q2_, .int 1), (0, 11, q2_, .int 0), (0, 10, q2_, .int 0), (0, 8, q2_, .int 0), (0, 2, q2_, .ref q7_), (8, 6, q0_, .int x_314), (7, 6, q3_, .int x_309), (8, 8, q0_, .int x_129), (9, 2, q4_, .int x_6), (2, 15, a0_, .int x_1), (2, 0, a0_, .ref q0_), (2, 1, a0_, .ref q1_), (2, 2, a0_, .ref q2_), (2, 3, a0_, .ref q3_), (2, 4, a0_, .ref q4_), (0, 0, q2_, .ref q0_), (0, 1, q2_, .ref q1_), (5, 0, q1_, .ref q7_), (5, 1, q1_, .ref q8_)]) rfl (fun r_322 fr_322 H locs hp hMr_322 g => ?_)
        obtain ⟨h_323, -⟩ := hp
        have hG_324 := eOK.frame hMr_322 go_.2.2.2.1 mq2_ kq2_ (by decide) (by decide) hG_320
        have go_ := g
        refine g_callv (va_runV (As := [.int 27, .int r_322]) (rest := []) ⟨hx, hb, hml, hown, hts⟩ (r_X7_emit l dC dI L kd tys fr_322 H.size g.2.2.2.1 q3_ mq3_ kq3_ 27 r_322) (cwV 2 hts (gV_ t_1301 t_1204 t_1205 t_191 t_1206) rfl rfl rfl (by decide +kernel) ⟨(Nat.le_of_ble_eq_true rfl), (Nat.le_of_ble_eq_true rfl)⟩) (pre3V g hK mq3_ kq3_ (by decide) (q := (RX7, TX7, 19)) rfl) rfl rfl hl.1 rfl (lv_room (Nat.le_of_ble_eq_true rfl)) dX2_readAssignment_121 ⟨(Nat.le_of_ble_eq_true rfl), (Nat.le_of_ble_eq_true rfl)⟩) g hK (by decide) (by decide) (fx' := [(0, 13, q2_, .int 0), (0, 12, q2_, .int 1), (0, 11, q2_, .int 0), (0, 10, q2_, .int 0), (0, 8, q2_, .int 0), (0, 2, q2_, .ref q7_), (8, 6, q0_, .int x_314), (8, 8, q0_, .int x_129), (9, 2, q4_, .int x_6), (2, 15, a0_, .int x_1), (2, 0, a0_, .ref q0_), (2, 1, a0_, .ref q1_), (2, 2, a0_, .ref q2_), (2, 3, a0_, .ref q3_), (2, 4, a0_, .ref q4_), (0, 0, q2_, .ref q0_), (0, 1, q2_, .ref q1_), (5, 0, q1_, .ref q7_), (5, 1, q1_, .ref q8_)]) rfl (fun fr_325 H locs hp hMr_325 g => ?_)
        obtain ⟨x_326, h_327, hF_328⟩ := hp
        have hG_329 := eOK.frame hMr_325 go_.2.2.2.1 mq2_ kq2_ (by decide) (by decide) hG_324
        have g := g.more hF_328
        refine lv_aload_n hx hb dX2_readAssignment_124 rfl (lv_at hl 2 rfl) ?_
        refine g_getk (C := RX2) (T := TX2) (N := 16) hx hb hts (mc_ inX2) hown hK g rfl 0 (by decide) rfl (hts _ (List.mem_cons_of_mem _ t_416)) (fun _ h9 => h9) 11 rfl dX2_readAssignment_125 ?_
        refine lv_bipush (v := 59) hx hb dX2_readAssignment_128 (by decide) ?_
        have go_ := g
        refine g_callv (va_runV (As := [.int 59]) (rest := []) ⟨hx, hb, hml, hown, hts⟩ (r_X8_take_2 l dC dI L kd tys fr_325 H.size g.2.2.2.1 q0_ mq0_ kq0_ 59 x_314 h_315 x_129 h_130 (g.fcts [7, 8] rfl)) (cwV 1 hts (gV_ t_1098 t_1099 t_1100 t_184 t_1101) rfl rfl rfl (by decide +kernel) ⟨(Nat.le_of_ble_eq_true rfl), (Nat.le_of_ble_eq_true rfl)⟩) (pre3V g hK mq0_ kq0_ (by decide) (q := (RX8, TX8, 10)) rfl) rfl rfl hl.1 rfl (lv_room (Nat.le_of_ble_eq_true rfl)) dX2_readAssignment_130 ⟨(Nat.le_of_ble_eq_true rfl), (Nat.le_of_ble_eq_true rfl)⟩) g hK (by decide) (by decide) (fx' := [(7, 6, q3_, .int x_326), (0, 13, q2_, .int 0), (0, 12, q2_, .int 1), (0, 11, q2_, .int 0), (0, 10, q2_, .int 0), (0, 8, q2_, .int 0), (0, 2, q2_, .ref q7_), (8, 8, q0_, .int x_129), (9, 2, q4_, .int x_6), (2, 15, a0_, .int x_1), (2, 0, a0_, .ref q0_), (2, 1, a0_, .ref q1_), (2, 2, a0_, .ref q2_), (2, 3, a0_, .ref q3_), (2, 4, a0_, .ref q4_), (0, 0, q2_, .ref q0_), (0, 1, q2_, .ref q1_), (5, 0, q1_, .ref q7_), (5, 1, q1_, .ref q8_)]) rfl (fun fr_330 H locs hp hMr_330 g => ?_)
        obtain ⟨x_331, h_332, hF_333⟩ := hp
        have hG_334 := eOK.frame hMr_330 go_.2.2.2.1 mq2_ kq2_ (by decide) (by decide) hG_329
        have g := g.more hF_333
        subst hQ
        exact W.vret hx hb hr (fun t ht hW => ⟨⟨_, rfl, Or.inr (⟨hG_334, x_331, h_332, x_129, h_130, x_326, h_327, (g.fcts [0, 8, 1, 7] rfl)⟩), q3_of g hK ht hW⟩, g.2.2.1.F ht⟩) g.2.2.1.2.2 dX2_readAssignment_133
      · have fc_321 := nlt_f c_321
        have b_335 : bd 16 9 (16 : Int32) := leL fc_321 kb_16 b_124 (by decide)
        exact bd_no (eqX rfl b_335 kb_16 (lo := 16) (hi := 9) (by decide)) (by decide)
