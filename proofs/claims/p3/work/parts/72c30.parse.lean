set_option maxHeartbeats 4000000 in
set_option maxRecDepth 100000 in
theorem r_X2_readAssignment_2 (l : Launch) (dC : Nat → ClassId) (dI : Nat → Nat → Nat) (L : List Nat) (kd : Nat → Nat) (tys : List (ClassId × FieldType)) (f0 : Nat → va_E) (sz : Nat) (hWT : WT L kd tys f0) (a0_ : Nat) (ma0_ : a0_ ∈ L) (ka0_ : kd a0_ = 2) (q0_ : Nat) (mq0_ : q0_ ∈ L) (kq0_ : kd q0_ = 8) (q1_ : Nat) (mq1_ : q1_ ∈ L) (kq1_ : kd q1_ = 5) (q2_ : Nat) (mq2_ : q2_ ∈ L) (kq2_ : kd q2_ = 0) (q3_ : Nat) (mq3_ : q3_ ∈ L) (kq3_ : kd q3_ = 7) (q4_ : Nat) (mq4_ : q4_ ∈ L) (kq4_ : kd q4_ = 9) (q8_ : Nat) (mq8_ : q8_ ∈ L) (kq8_ : kd q8_ = 9) (y0_ : Int32) (by0_ : bd 0 0 y0_) (T_ : Nat) (J_ : Int32 → Prop) (hGcq3_ : cOK f0 q3_) (hGdq3_ : dOK L kd f0 q3_ T_) (hGsq3_ : jS f0 q3_ J_) (hGeq2_ : eOK f0 q2_) (hfx : Fs L kd f0 [(2, 0, a0_, .ref q0_), (2, 1, a0_, .ref q1_), (2, 2, a0_, .ref q2_), (2, 3, a0_, .ref q3_), (2, 4, a0_, .ref q4_), (0, 0, q2_, .ref q0_), (0, 1, q2_, .ref q1_), (5, 0, q1_, .ref q3_), (5, 1, q1_, .ref q8_), (8, 8, q0_, .int y0_)]) : Met l yX2_readAssignment (.code yX2_readAssignment cX2_readAssignment 3 none :: lw_g) ({ frames := 4, cells := 0, slots := 0, locals := 97 }) (va_Pc [.ref a0_] (P3 (dC, dI) L tys f0 sz)) (va_Qv (fun (f : Nat → va_E) => (cOK f q3_ ∧ dOK L kd f q3_ T_ ∧ jS f q3_ J_ ∧ eOK f q2_ ∧ ∃ z0_ : Int32, bd 1 1201 z0_ ∧ Fs L kd f [(8, 6, q0_, .int z0_), (8, 8, q0_, .int y0_), (0, 2, q2_, .ref q3_)]) ∨ (dOK L kd f q3_ T_ ∧ eOK f q2_ ∧ ∃ z0_ : Int32, bd 1201 1201 z0_ ∧ ∃ z1_ : Int32, bd 1 7 z1_ ∧ Fs L kd f [(8, 6, q0_, .int z0_), (8, 8, q0_, .int z1_), (0, 2, q2_, .ref q3_)])) (Q3 (dC, dI) L kd tys [(0, 2), (0, 8), (0, 10), (0, 11), (0, 12), (0, 13), (7, 6), (7, 18), (8, 6), (8, 8), (8, 9)] [110, 111, 112, 113, 114, 115, 138, 139] f0 sz) (pA L sz)) 0 0 (pA L sz) := by
  refine Met.ofW (cc := cX2_readAssignment) (maxL := 3) (ret := none) (by decide) rfl ?_
  intro p e s m args below meth c s₁ B hml hv
  obtain ⟨rfl, hsz, hP, hK, hD0⟩ := hv
  have hx := B.exec
  have hb := B.bytes
  have hr := B.returns
  have hts := atoms_spec (ws := (.code yX2_readAssignment cX2_readAssignment 3 none :: lw_g)) B.pre
  have hown : s.vm.findClass RX2 = some m.cls := findClass_of_methodNamed B.named
  have hlocks := B.notSynchronized
  subst hsz
  have g : G3 (dC, dI) L kd tys s f0 [(0, 2), (0, 8), (0, 10), (0, 11), (0, 12), (0, 13), (7, 6), (7, 18), (8, 6), (8, 8), (8, 9)] [110, 111, 112, 113, 114, 115, 138, 139] f0 s.heap [] [(2, 0, a0_, .ref q0_), (2, 1, a0_, .ref q1_), (2, 2, a0_, .ref q2_), (2, 3, a0_, .ref q3_), (2, 4, a0_, .ref q4_), (0, 0, q2_, .ref q0_), (0, 1, q2_, .ref q1_), (5, 0, q1_, .ref q3_), (5, 1, q1_, .ref q8_), (8, 8, q0_, .int y0_)] := G3.start hP hD0 hWT hfx
  have hl := lv_entry ([.ref a0_]) (n := 3) (Nat.le_of_ble_eq_true rfl)
  rw [lg_entry_eq]
  generalize (lg_sl ([.ref a0_]) ++ List.replicate (3 - (lg_sl ([.ref a0_])).length) Slot.unset).toArray = ls at hl ⊢
  have hl : lv_has ls 3 [(0, .ref a0_)] := hl
  refine W_q (fun Q hQ => ?_)
  refine lv_aload_n hx hb dX2_readAssignment_0 rfl (lv_at hl 0 rfl) ?_
  refine g_geti (C := RX2) (T := TX2) (N := 16) hx hb hts (mc_ inX2) hown hK g ma0_ ka0_ (by decide) rfl 15 (by decide) rfl (hts _ (List.mem_cons_of_mem _ t_431)) (fun _ h9 => h9) rfl dX2_readAssignment_1 (fun x_1 bx_1 g => ?_)
  refine lv_istore_n (lv' := [(1, .int x_1), (0, .ref a0_)]) hx hb dX2_readAssignment_4 rfl hl (by decide) rfl (fun ls hl => ?_)
  refine lv_aload_n hx hb dX2_readAssignment_5 rfl (lv_at hl 1 rfl) ?_
  refine g_getk (C := RX2) (T := TX2) (N := 16) hx hb hts (mc_ inX2) hown hK g rfl 4 (by decide) rfl (hts _ (List.mem_cons_of_mem _ t_420)) (fun _ h9 => h9) 5 rfl dX2_readAssignment_6 ?_
  refine lv_iload_n hx hb dX2_readAssignment_9 rfl (lv_at hl 0 rfl) ?_
  have go_ := g
  refine g_calli (va_runV (As := [.int x_1]) (rest := []) ⟨hx, hb, hml, hown, hts⟩ (r_X9_isRow l dC dI L kd tys f0 s.heap.size g.2.2.2.1 q4_ mq4_ kq4_ x_1) (cwV 1 hts (gV_ t_1392 t_1257 t_1258 t_192 t_1259) rfl rfl rfl (by decide +kernel) ⟨(Nat.le_of_ble_eq_true rfl), (Nat.le_of_ble_eq_true rfl)⟩) (pre3V g hK mq4_ kq4_ (by decide) (q := (RX9, TX9, 13)) rfl) rfl rfl hl.1 rfl (lv_room (Nat.le_of_ble_eq_true rfl)) dX2_readAssignment_10 ⟨(Nat.le_of_ble_eq_true rfl), (Nat.le_of_ble_eq_true rfl)⟩) g hK (by decide) (by decide) (fx' := [(2, 15, a0_, .int x_1), (2, 0, a0_, .ref q0_), (2, 1, a0_, .ref q1_), (2, 2, a0_, .ref q2_), (2, 3, a0_, .ref q3_), (2, 4, a0_, .ref q4_), (0, 0, q2_, .ref q0_), (0, 1, q2_, .ref q1_), (5, 0, q1_, .ref q3_), (5, 1, q1_, .ref q8_), (8, 8, q0_, .int y0_)]) rfl (fun r_2 fr_2 H locs hp hMr_2 g => ?_)
  rcases hp with ⟨h_3, -⟩ | ⟨h_4, h_5, x_6, h_7, hF_8⟩
  · have hG_9 := cOK.frame hMr_2 go_.2.2.2.1 mq3_ kq3_ (by decide) (by decide) hGcq3_
    have hG_10 := dOK.frame hMr_2 go_.2.2.2.1 mq3_ kq3_ (by decide) (by decide) hGdq3_
    have hG_11 := jS.frame hMr_2 go_.2.2.2.1 mq3_ kq3_ (by decide) (by decide) hGsq3_
    have hG_12 := eOK.frame hMr_2 go_.2.2.2.1 mq2_ kq2_ (by decide) (by decide) hGeq2_
    obtain rfl : r_2 = 0 := h_3
    refine lv_istore_n (lv' := [(2, .int 0), (1, .int x_1), (0, .ref a0_)]) hx hb dX2_readAssignment_13 rfl hl (by decide) rfl (fun ls hl => ?_)
    refine lv_iload_n hx hb dX2_readAssignment_14 rfl (lv_at hl 0 rfl) ?_
    refine lv_if_eq (tgt := 60) hx hb dX2_readAssignment_15 (by decide) (fun c_ => ?_) (fun c_ => absurd (by decide) c_)
    refine lv_aload_n hx hb dX2_readAssignment_60 rfl (lv_at hl 2 rfl) ?_
    refine g_getk (C := RX2) (T := TX2) (N := 16) hx hb hts (mc_ inX2) hown hK g rfl 0 (by decide) rfl (hts _ (List.mem_cons_of_mem _ t_416)) (fun _ h9 => h9) 1 rfl dX2_readAssignment_61 ?_
    refine lv_bipush (v := 61) hx hb dX2_readAssignment_64 (by decide) ?_
    have go_ := g
    refine g_callv (va_runV (As := [.int 61]) (rest := []) ⟨hx, hb, hml, hown, hts⟩ (r_X8_take l dC dI L kd tys fr_2 H.size g.2.2.2.1 q0_ mq0_ kq0_ 61 y0_ by0_ (g.fcts [10] rfl)) (cwV 1 hts (gV_ t_1098 t_1099 t_1100 t_184 t_1101) rfl rfl rfl (by decide +kernel) ⟨(Nat.le_of_ble_eq_true rfl), (Nat.le_of_ble_eq_true rfl)⟩) (pre3V g hK mq0_ kq0_ (by decide) (q := (RX8, TX8, 10)) rfl) rfl rfl hl.1 rfl (lv_room (Nat.le_of_ble_eq_true rfl)) dX2_readAssignment_66 ⟨(Nat.le_of_ble_eq_true rfl), (Nat.le_of_ble_eq_true rfl)⟩) g hK (by decide) (by decide) (fx' := [(2, 15, a0_, .int x_1), (2, 0, a0_, .ref q0_), (2, 1, a0_, .ref q1_), (2, 2, a0_, .ref q2_), (2, 3, a0_, .ref q3_), (2, 4, a0_, .ref q4_), (0, 0, q2_, .ref q0_), (0, 1, q2_, .ref q1_), (5, 0, q1_, .ref q3_), (5, 1, q1_, .ref q8_)]) rfl (fun fr_13 H locs hp hMr_13 g => ?_)
    rcases hp with ⟨x_14, h_15, hF_16⟩ | ⟨x_17, h_18, hF_19⟩
    · have hG_20 := cOK.frame hMr_13 go_.2.2.2.1 mq3_ kq3_ (by decide) (by decide) hG_9
      have hG_21 := dOK.frame hMr_13 go_.2.2.2.1 mq3_ kq3_ (by decide) (by decide) hG_10
      have hG_22 := jS.frame hMr_13 go_.2.2.2.1 mq3_ kq3_ (by decide) (by decide) hG_11
      have hG_23 := eOK.frame hMr_13 go_.2.2.2.1 mq2_ kq2_ (by decide) (by decide) hG_12
      have g := g.more hF_16
      refine lv_aload_n hx hb dX2_readAssignment_69 rfl (lv_at hl 2 rfl) ?_
      refine g_getk (C := RX2) (T := TX2) (N := 16) hx hb hts (mc_ inX2) hown hK g rfl 2 (by decide) rfl (hts _ (List.mem_cons_of_mem _ t_418)) (fun _ h9 => h9) 5 rfl dX2_readAssignment_70 ?_
      have go_ := g
      refine g_callv (va_runV (As := []) (rest := []) ⟨hx, hb, hml, hown, hts⟩ (r_X0_read l dC dI L kd tys fr_13 H.size g.2.2.2.1 q2_ mq2_ kq2_ q0_ mq0_ kq0_ q1_ mq1_ kq1_ q3_ mq3_ kq3_ q8_ mq8_ kq8_ y0_ by0_ T_ (fun j9 => jOK fr_13 q3_ j9) hG_23 hG_20 hG_21 (fun _ h9 => h9) (g.fcts [8, 9, 10, 11, 1] rfl)) (cwV 0 hts (gV_ t_1182 t_1183 t_1184 t_190 t_1185) rfl rfl rfl (by decide +kernel) ⟨(Nat.le_of_ble_eq_true rfl), (Nat.le_of_ble_eq_true rfl)⟩) (pre3V g hK mq2_ kq2_ (by decide) (q := (RX0, TX0, 14)) rfl) rfl rfl hl.1 rfl (lv_room (Nat.le_of_ble_eq_true rfl)) dX2_readAssignment_73 ⟨(Nat.le_of_ble_eq_true rfl), (Nat.le_of_ble_eq_true rfl)⟩) g hK (by decide) (by decide) (fx' := [(2, 15, a0_, .int x_1), (2, 0, a0_, .ref q0_), (2, 1, a0_, .ref q1_), (2, 2, a0_, .ref q2_), (2, 3, a0_, .ref q3_), (2, 4, a0_, .ref q4_), (0, 0, q2_, .ref q0_), (0, 1, q2_, .ref q1_), (5, 0, q1_, .ref q3_), (5, 1, q1_, .ref q8_)]) rfl (fun fr_24 H locs hp hMr_24 g => ?_)
      rcases hp with ⟨hG_25, hG_26, hG_27, hG_28, hF_29⟩ | ⟨hG_30, hG_31, x_32, h_33, x_34, h_35, hF_36⟩
      · have g := g.more hF_29
        have hs_37 := jS.mv hG_22 hG_28
        refine lv_iload_n hx hb dX2_readAssignment_76 rfl (lv_at hl 1 rfl) ?_
        refine lv_bipush (v := 16) hx hb dX2_readAssignment_77 (by decide) ?_
        have kb_16 : bd 16 16 (16 : Int32) := ⟨by decide, by decide⟩
        refine lv_icmp_lt (tgt := 98) hx hb dX2_readAssignment_79 (by decide) (fun c_38 => ?_) (fun c_38 => ?_)
        · have fc_38 := lt_f c_38
          have b_39 : bd (-1) 15 x_1 := ltL fc_38 bx_1 kb_16 (by decide)
          refine lv_aload_n hx hb dX2_readAssignment_98 rfl (lv_at hl 2 rfl) ?_
          refine g_getk (C := RX2) (T := TX2) (N := 16) hx hb hts (mc_ inX2) hown hK g rfl 3 (by decide) rfl (hts _ (List.mem_cons_of_mem _ t_419)) (fun _ h9 => h9) 6 rfl dX2_readAssignment_99 ?_
          refine lv_iload_n hx hb dX2_readAssignment_102 rfl (lv_at hl 0 rfl) ?_
          refine lv_if_eq (tgt := 111) hx hb dX2_readAssignment_103 (by decide) (fun c_ => ?_) (fun c_ => absurd (by decide) c_)
          refine lv_bipush (v := 21) hx hb dX2_readAssignment_111 (by decide) ?_
          refine lv_aload_n hx hb dX2_readAssignment_113 rfl (lv_at hl 2 rfl) ?_
          refine g_getk (C := RX2) (T := TX2) (N := 16) hx hb hts (mc_ inX2) hown hK g rfl 4 (by decide) rfl (hts _ (List.mem_cons_of_mem _ t_420)) (fun _ h9 => h9) 7 rfl dX2_readAssignment_114 ?_
          refine lv_iload_n hx hb dX2_readAssignment_117 rfl (lv_at hl 1 rfl) ?_
          have go_ := g
          refine g_calli (va_runV (As := [.int x_1]) (rest := [.int 21, .ref q3_]) ⟨hx, hb, hml, hown, hts⟩ (r_X9_spanOf l dC dI L kd tys fr_24 H.size g.2.2.2.1 q4_ mq4_ kq4_ x_1) (cwV 1 hts (gV_ t_1401 t_1265 t_1266 t_192 t_1267) rfl rfl rfl (by decide +kernel) ⟨(Nat.le_of_ble_eq_true rfl), (Nat.le_of_ble_eq_true rfl)⟩) (pre3V g hK mq4_ kq4_ (by decide) (q := (RX9, TX9, 13)) rfl) rfl rfl hl.1 rfl (lv_room (Nat.le_of_ble_eq_true rfl)) dX2_readAssignment_118 ⟨(Nat.le_of_ble_eq_true rfl), (Nat.le_of_ble_eq_true rfl)⟩) g hK (by decide) (by decide) (fx' := [(0, 2, q2_, .ref q3_), (8, 8, q0_, .int y0_), (2, 15, a0_, .int x_1), (2, 0, a0_, .ref q0_), (2, 1, a0_, .ref q1_), (2, 2, a0_, .ref q2_), (2, 3, a0_, .ref q3_), (2, 4, a0_, .ref q4_), (0, 0, q2_, .ref q0_), (0, 1, q2_, .ref q1_), (5, 0, q1_, .ref q3_), (5, 1, q1_, .ref q8_)]) rfl (fun r_40 fr_40 H locs hp hMr_40 g => ?_)
          obtain ⟨h_41, -⟩ := hp
          have hG_42 := cOK.frame hMr_40 go_.2.2.2.1 mq3_ kq3_ (by decide) (by decide) hG_26
          have hG_43 := dOK.frame hMr_40 go_.2.2.2.1 mq3_ kq3_ (by decide) (by decide) hG_27
          have hG_44 := jS.frame hMr_40 go_.2.2.2.1 mq3_ kq3_ (by decide) (by decide) hs_37
          have hG_45 := eOK.frame hMr_40 go_.2.2.2.1 mq2_ kq2_ (by decide) (by decide) hG_25
          obtain ⟨a_46, ma_46, ka_46, g⟩ := g_factr g mq3_ kq3_ (by decide) 4 rfl
          obtain ⟨a_47, ma_47, ka_47, g⟩ := g_factr g mq3_ kq3_ (by decide) 5 rfl
          obtain ⟨x_48, bx_48, g⟩ := g_facti g mq3_ kq3_ (by decide) 6 rfl
          have kb_21 : bd 21 21 (21 : Int32) := ⟨by decide, by decide⟩
          have go_ := g
          refine g_callv (va_runV (As := [.int 21, .int r_40]) (rest := []) ⟨hx, hb, hml, hown, hts⟩ (r_X7_emitN l dC dI L kd tys fr_40 H.size g.2.2.2.1 q3_ mq3_ kq3_ a_46 ma_46 ka_46 a_47 ma_47 ka_47 x_48 bx_48 T_ hG_43 (21 : Int32) r_40 (fun j9 => jOK fr_40 q3_ j9) hG_42 (fun _ h9 => h9) ⟨(fun h9 => ⟨(by have h9_0 := h_41; unfold bd at h9_0; have h9_1 := b_39; unfold bd at h9_1; have h9_2 := h_15; unfold bd at h9_2; have h9_3 := bx_48; unfold bd at h9_3; have h9_4 := by0_; unfold bd at h9_4; have h8_0 := kb_16; unfold bd at h8_0; have h8_1 := kb_21; unfold bd at h8_1; omega), (by have h9_0 := h_41; unfold bd at h9_0; have h9_1 := b_39; unfold bd at h9_1; have h9_2 := h_15; unfold bd at h9_2; have h9_3 := bx_48; unfold bd at h9_3; have h9_4 := by0_; unfold bd at h9_4; have h8_0 := kb_16; unfold bd at h8_0; have h8_1 := kb_21; unfold bd at h8_1; omega)⟩), (fun h9 => ⟨(by have h9_0 := h_41; unfold bd at h9_0; have h9_1 := b_39; unfold bd at h9_1; have h9_2 := h_15; unfold bd at h9_2; have h9_3 := bx_48; unfold bd at h9_3; have h9_4 := by0_; unfold bd at h9_4; have h8_0 := kb_16; unfold bd at h8_0; have h8_1 := kb_21; unfold bd at h8_1; omega), (by have h9_0 := h_41; unfold bd at h9_0; have h9_1 := b_39; unfold bd at h9_1; have h9_2 := h_15; unfold bd at h9_2; have h9_3 := bx_48; unfold bd at h9_3; have h9_4 := by0_; unfold bd at h9_4; have h8_0 := kb_16; unfold bd at h8_0; have h8_1 := kb_21; unfold bd at h8_1; omega)⟩), (fun h9 => ⟨(by have h9_0 := h_41; unfold bd at h9_0; have h9_1 := b_39; unfold bd at h9_1; have h9_2 := h_15; unfold bd at h9_2; have h9_3 := bx_48; unfold bd at h9_3; have h9_4 := by0_; unfold bd at h9_4; have h8_0 := kb_16; unfold bd at h8_0; have h8_1 := kb_21; unfold bd at h8_1; omega), (by have h9_0 := h_41; unfold bd at h9_0; have h9_1 := b_39; unfold bd at h9_1; have h9_2 := h_15; unfold bd at h9_2; have h9_3 := bx_48; unfold bd at h9_3; have h9_4 := by0_; unfold bd at h9_4; have h8_0 := kb_16; unfold bd at h8_0; have h8_1 := kb_21; unfold bd at h8_1; omega)⟩)⟩ (g.fcts [2, 1, 0] rfl)) (cwV 2 hts (gV_ t_1301 t_1204 t_1205 t_191 t_1206) rfl rfl rfl (by decide +kernel) ⟨(Nat.le_of_ble_eq_true rfl), (Nat.le_of_ble_eq_true rfl)⟩) (pre3V g hK mq3_ kq3_ (by decide) (q := (RX7, TX7, 19)) rfl) rfl rfl hl.1 rfl (lv_room (Nat.le_of_ble_eq_true rfl)) dX2_readAssignment_121 ⟨(Nat.le_of_ble_eq_true rfl), (Nat.le_of_ble_eq_true rfl)⟩) g hK (by decide) (by decide) (fx' := [(7, 5, q3_, .ref a_47), (7, 4, q3_, .ref a_46), (0, 2, q2_, .ref q3_), (8, 8, q0_, .int y0_), (2, 15, a0_, .int x_1), (2, 0, a0_, .ref q0_), (2, 1, a0_, .ref q1_), (2, 2, a0_, .ref q2_), (2, 3, a0_, .ref q3_), (2, 4, a0_, .ref q4_), (0, 0, q2_, .ref q0_), (0, 1, q2_, .ref q1_), (5, 0, q1_, .ref q3_), (5, 1, q1_, .ref q8_)]) rfl (fun fr_49 H locs hp hMr_49 g => ?_)
          obtain ⟨hG_50, hG_51, hG_52, hx_53, x_54, h_55, hF_56⟩ := hp
          have hG_57 := eOK.frame hMr_49 go_.2.2.2.1 mq2_ kq2_ (by decide) (by decide) hG_45
          have g := g.more hF_56
          have hs_58 := jS.mv hG_44 hG_52
          refine lv_aload_n hx hb dX2_readAssignment_124 rfl (lv_at hl 2 rfl) ?_
          refine g_getk (C := RX2) (T := TX2) (N := 16) hx hb hts (mc_ inX2) hown hK g rfl 0 (by decide) rfl (hts _ (List.mem_cons_of_mem _ t_416)) (fun _ h9 => h9) 6 rfl dX2_readAssignment_125 ?_
          refine lv_bipush (v := 59) hx hb dX2_readAssignment_128 (by decide) ?_
          have go_ := g
          refine g_callv (va_runV (As := [.int 59]) (rest := []) ⟨hx, hb, hml, hown, hts⟩ (r_X8_take l dC dI L kd tys fr_49 H.size g.2.2.2.1 q0_ mq0_ kq0_ 59 y0_ by0_ (g.fcts [4] rfl)) (cwV 1 hts (gV_ t_1098 t_1099 t_1100 t_184 t_1101) rfl rfl rfl (by decide +kernel) ⟨(Nat.le_of_ble_eq_true rfl), (Nat.le_of_ble_eq_true rfl)⟩) (pre3V g hK mq0_ kq0_ (by decide) (q := (RX8, TX8, 10)) rfl) rfl rfl hl.1 rfl (lv_room (Nat.le_of_ble_eq_true rfl)) dX2_readAssignment_130 ⟨(Nat.le_of_ble_eq_true rfl), (Nat.le_of_ble_eq_true rfl)⟩) g hK (by decide) (by decide) (fx' := [(7, 6, q3_, .int x_54), (7, 5, q3_, .ref a_47), (7, 4, q3_, .ref a_46), (0, 2, q2_, .ref q3_), (2, 15, a0_, .int x_1), (2, 0, a0_, .ref q0_), (2, 1, a0_, .ref q1_), (2, 2, a0_, .ref q2_), (2, 3, a0_, .ref q3_), (2, 4, a0_, .ref q4_), (0, 0, q2_, .ref q0_), (0, 1, q2_, .ref q1_), (5, 0, q1_, .ref q3_), (5, 1, q1_, .ref q8_)]) rfl (fun fr_59 H locs hp hMr_59 g => ?_)
          rcases hp with ⟨x_60, h_61, hF_62⟩ | ⟨x_63, h_64, hF_65⟩
          · have hG_66 := cOK.frame hMr_59 go_.2.2.2.1 mq3_ kq3_ (by decide) (by decide) hG_51
            have hG_67 := dOK.frame hMr_59 go_.2.2.2.1 mq3_ kq3_ (by decide) (by decide) hG_50
            have hG_68 := jS.frame hMr_59 go_.2.2.2.1 mq3_ kq3_ (by decide) (by decide) hs_58
            have hG_69 := eOK.frame hMr_59 go_.2.2.2.1 mq2_ kq2_ (by decide) (by decide) hG_57
            have g := g.more hF_62
            subst hQ
            exact W.vret hx hb hr (fun t ht hW => ⟨⟨_, rfl, Or.inl ⟨hG_66, hG_67, hG_68, hG_69, x_60, h_61, (g.fcts [0, 1, 5] rfl)⟩, q3_of g hK ht hW⟩, g.2.2.1.F ht⟩) g.2.2.1.2.2 dX2_readAssignment_133
          · have hG_70 := cOK.frame hMr_59 go_.2.2.2.1 mq3_ kq3_ (by decide) (by decide) hG_51
            have hG_71 := dOK.frame hMr_59 go_.2.2.2.1 mq3_ kq3_ (by decide) (by decide) hG_50
            have hG_72 := jS.frame hMr_59 go_.2.2.2.1 mq3_ kq3_ (by decide) (by decide) hs_58
            have hG_73 := eOK.frame hMr_59 go_.2.2.2.1 mq2_ kq2_ (by decide) (by decide) hG_57
            have g := g.more hF_65
            have kb_1201 : bd 1201 1201 (1201 : Int32) := ⟨by decide, by decide⟩
            subst hQ
            exact W.vret hx hb hr (fun t ht hW => ⟨⟨_, rfl, Or.inr (⟨hG_71, hG_73, 1201, kb_1201, x_63, h_64, (g.fcts [0, 1, 5] rfl)⟩), q3_of g hK ht hW⟩, g.2.2.1.F ht⟩) g.2.2.1.2.2 dX2_readAssignment_133
        · have fc_38 := nlt_f c_38
          have b_74 : bd 16 26 x_1 := leR fc_38 kb_16 bx_1 (by decide)
          refine lv_aload_n hx hb dX2_readAssignment_82 rfl (lv_at hl 2 rfl) ?_
          refine g_getk (C := RX2) (T := TX2) (N := 16) hx hb hts (mc_ inX2) hown hK g rfl 3 (by decide) rfl (hts _ (List.mem_cons_of_mem _ t_419)) (fun _ h9 => h9) 6 rfl dX2_readAssignment_83 ?_
          refine lv_bipush (v := 20) hx hb dX2_readAssignment_86 (by decide) ?_
          refine lv_iload_n hx hb dX2_readAssignment_88 rfl (lv_at hl 1 rfl) ?_
          refine lv_bipush (v := 16) hx hb dX2_readAssignment_89 (by decide) ?_
          refine lv_isub hx hb dX2_readAssignment_91 ?_
          refine lv_topi (fun y_75 ey_75 => ?_)
          have ty_75 := sub_bd ey_75 b_74 kb_16 (by decide)
          have b_76 : bd 0 10 y_75 := sub_rg ty_75 b_74 kb_16 (by decide)
          obtain ⟨a_77, ma_77, ka_77, g⟩ := g_factr g mq3_ kq3_ (by decide) 4 rfl
          obtain ⟨a_78, ma_78, ka_78, g⟩ := g_factr g mq3_ kq3_ (by decide) 5 rfl
          obtain ⟨x_79, bx_79, g⟩ := g_facti g mq3_ kq3_ (by decide) 6 rfl
          have kb_20 : bd 20 20 (20 : Int32) := ⟨by decide, by decide⟩
          have go_ := g
          refine g_callv (va_runV (As := [.int 20, .int y_75]) (rest := []) ⟨hx, hb, hml, hown, hts⟩ (r_X7_emitN l dC dI L kd tys fr_24 H.size g.2.2.2.1 q3_ mq3_ kq3_ a_77 ma_77 ka_77 a_78 ma_78 ka_78 x_79 bx_79 T_ hG_27 (20 : Int32) y_75 (fun j9 => jOK fr_24 q3_ j9) hG_26 (fun _ h9 => h9) ⟨(fun h9 => ⟨(by have h9_0 := b_74; unfold bd at h9_0; have h9_1 := h_15; unfold bd at h9_1; have h9_2 := bx_79; unfold bd at h9_2; have h9_3 := by0_; unfold bd at h9_3; have h9_4 := b_76; unfold bd at h9_4; have h8_0 := kb_16; unfold bd at h8_0; have h8_1 := kb_20; unfold bd at h8_1; omega), (by have h9_0 := b_74; unfold bd at h9_0; have h9_1 := h_15; unfold bd at h9_1; have h9_2 := bx_79; unfold bd at h9_2; have h9_3 := by0_; unfold bd at h9_3; have h9_4 := b_76; unfold bd at h9_4; have h8_0 := kb_16; unfold bd at h8_0; have h8_1 := kb_20; unfold bd at h8_1; omega)⟩), (fun h9 => ⟨(by have h9_0 := b_74; unfold bd at h9_0; have h9_1 := h_15; unfold bd at h9_1; have h9_2 := bx_79; unfold bd at h9_2; have h9_3 := by0_; unfold bd at h9_3; have h9_4 := b_76; unfold bd at h9_4; have h8_0 := kb_16; unfold bd at h8_0; have h8_1 := kb_20; unfold bd at h8_1; omega), (by have h9_0 := b_74; unfold bd at h9_0; have h9_1 := h_15; unfold bd at h9_1; have h9_2 := bx_79; unfold bd at h9_2; have h9_3 := by0_; unfold bd at h9_3; have h9_4 := b_76; unfold bd at h9_4; have h8_0 := kb_16; unfold bd at h8_0; have h8_1 := kb_20; unfold bd at h8_1; omega)⟩), (fun h9 => ⟨(by have h9_0 := b_74; unfold bd at h9_0; have h9_1 := h_15; unfold bd at h9_1; have h9_2 := bx_79; unfold bd at h9_2; have h9_3 := by0_; unfold bd at h9_3; have h9_4 := b_76; unfold bd at h9_4; have h8_0 := kb_16; unfold bd at h8_0; have h8_1 := kb_20; unfold bd at h8_1; omega), (by have h9_0 := b_74; unfold bd at h9_0; have h9_1 := h_15; unfold bd at h9_1; have h9_2 := bx_79; unfold bd at h9_2; have h9_3 := by0_; unfold bd at h9_3; have h9_4 := b_76; unfold bd at h9_4; have h8_0 := kb_16; unfold bd at h8_0; have h8_1 := kb_20; unfold bd at h8_1; omega)⟩)⟩ (g.fcts [2, 1, 0] rfl)) (cwV 2 hts (gV_ t_1301 t_1204 t_1205 t_191 t_1206) rfl rfl rfl (by decide +kernel) ⟨(Nat.le_of_ble_eq_true rfl), (Nat.le_of_ble_eq_true rfl)⟩) (pre3V g hK mq3_ kq3_ (by decide) (q := (RX7, TX7, 19)) rfl) rfl rfl hl.1 rfl (lv_room (Nat.le_of_ble_eq_true rfl)) dX2_readAssignment_92 ⟨(Nat.le_of_ble_eq_true rfl), (Nat.le_of_ble_eq_true rfl)⟩) g hK (by decide) (by decide) (fx' := [(7, 5, q3_, .ref a_78), (7, 4, q3_, .ref a_77), (0, 2, q2_, .ref q3_), (8, 8, q0_, .int y0_), (2, 15, a0_, .int x_1), (2, 0, a0_, .ref q0_), (2, 1, a0_, .ref q1_), (2, 2, a0_, .ref q2_), (2, 3, a0_, .ref q3_), (2, 4, a0_, .ref q4_), (0, 0, q2_, .ref q0_), (0, 1, q2_, .ref q1_), (5, 0, q1_, .ref q3_), (5, 1, q1_, .ref q8_)]) rfl (fun fr_80 H locs hp hMr_80 g => ?_)
          obtain ⟨hG_81, hG_82, hG_83, hx_84, x_85, h_86, hF_87⟩ := hp
          have hG_88 := eOK.frame hMr_80 go_.2.2.2.1 mq2_ kq2_ (by decide) (by decide) hG_25
          have g := g.more hF_87
          have hs_89 := jS.mv hs_37 hG_83
          refine lv_goto (tgt := 124) hx hb dX2_readAssignment_95 (by decide) ?_
          refine lv_aload_n hx hb dX2_readAssignment_124 rfl (lv_at hl 2 rfl) ?_
          refine g_getk (C := RX2) (T := TX2) (N := 16) hx hb hts (mc_ inX2) hown hK g rfl 0 (by decide) rfl (hts _ (List.mem_cons_of_mem _ t_416)) (fun _ h9 => h9) 6 rfl dX2_readAssignment_125 ?_
          refine lv_bipush (v := 59) hx hb dX2_readAssignment_128 (by decide) ?_
          have go_ := g
          refine g_callv (va_runV (As := [.int 59]) (rest := []) ⟨hx, hb, hml, hown, hts⟩ (r_X8_take l dC dI L kd tys fr_80 H.size g.2.2.2.1 q0_ mq0_ kq0_ 59 y0_ by0_ (g.fcts [4] rfl)) (cwV 1 hts (gV_ t_1098 t_1099 t_1100 t_184 t_1101) rfl rfl rfl (by decide +kernel) ⟨(Nat.le_of_ble_eq_true rfl), (Nat.le_of_ble_eq_true rfl)⟩) (pre3V g hK mq0_ kq0_ (by decide) (q := (RX8, TX8, 10)) rfl) rfl rfl hl.1 rfl (lv_room (Nat.le_of_ble_eq_true rfl)) dX2_readAssignment_130 ⟨(Nat.le_of_ble_eq_true rfl), (Nat.le_of_ble_eq_true rfl)⟩) g hK (by decide) (by decide) (fx' := [(7, 6, q3_, .int x_85), (7, 5, q3_, .ref a_78), (7, 4, q3_, .ref a_77), (0, 2, q2_, .ref q3_), (2, 15, a0_, .int x_1), (2, 0, a0_, .ref q0_), (2, 1, a0_, .ref q1_), (2, 2, a0_, .ref q2_), (2, 3, a0_, .ref q3_), (2, 4, a0_, .ref q4_), (0, 0, q2_, .ref q0_), (0, 1, q2_, .ref q1_), (5, 0, q1_, .ref q3_), (5, 1, q1_, .ref q8_)]) rfl (fun fr_90 H locs hp hMr_90 g => ?_)
          rcases hp with ⟨x_91, h_92, hF_93⟩ | ⟨x_94, h_95, hF_96⟩
          · have hG_97 := cOK.frame hMr_90 go_.2.2.2.1 mq3_ kq3_ (by decide) (by decide) hG_82
            have hG_98 := dOK.frame hMr_90 go_.2.2.2.1 mq3_ kq3_ (by decide) (by decide) hG_81
            have hG_99 := jS.frame hMr_90 go_.2.2.2.1 mq3_ kq3_ (by decide) (by decide) hs_89
            have hG_100 := eOK.frame hMr_90 go_.2.2.2.1 mq2_ kq2_ (by decide) (by decide) hG_88
            have g := g.more hF_93
            subst hQ
            exact W.vret hx hb hr (fun t ht hW => ⟨⟨_, rfl, Or.inl ⟨hG_97, hG_98, hG_99, hG_100, x_91, h_92, (g.fcts [0, 1, 5] rfl)⟩, q3_of g hK ht hW⟩, g.2.2.1.F ht⟩) g.2.2.1.2.2 dX2_readAssignment_133
          · have hG_101 := cOK.frame hMr_90 go_.2.2.2.1 mq3_ kq3_ (by decide) (by decide) hG_82
            have hG_102 := dOK.frame hMr_90 go_.2.2.2.1 mq3_ kq3_ (by decide) (by decide) hG_81
            have hG_103 := jS.frame hMr_90 go_.2.2.2.1 mq3_ kq3_ (by decide) (by decide) hs_89
            have hG_104 := eOK.frame hMr_90 go_.2.2.2.1 mq2_ kq2_ (by decide) (by decide) hG_88
            have g := g.more hF_96
            have kb_1201 : bd 1201 1201 (1201 : Int32) := ⟨by decide, by decide⟩
            subst hQ
            exact W.vret hx hb hr (fun t ht hW => ⟨⟨_, rfl, Or.inr (⟨hG_102, hG_104, 1201, kb_1201, x_94, h_95, (g.fcts [0, 1, 5] rfl)⟩), q3_of g hK ht hW⟩, g.2.2.1.F ht⟩) g.2.2.1.2.2 dX2_readAssignment_133
      · have g := g.more hF_36
        refine lv_iload_n hx hb dX2_readAssignment_76 rfl (lv_at hl 1 rfl) ?_
        refine lv_bipush (v := 16) hx hb dX2_readAssignment_77 (by decide) ?_
        have kb_16 : bd 16 16 (16 : Int32) := ⟨by decide, by decide⟩
        refine lv_icmp_lt (tgt := 98) hx hb dX2_readAssignment_79 (by decide) (fun c_105 => ?_) (fun c_105 => ?_)
        · have fc_105 := lt_f c_105
          have b_106 : bd (-1) 15 x_1 := ltL fc_105 bx_1 kb_16 (by decide)
          refine lv_aload_n hx hb dX2_readAssignment_98 rfl (lv_at hl 2 rfl) ?_
          refine g_getk (C := RX2) (T := TX2) (N := 16) hx hb hts (mc_ inX2) hown hK g rfl 3 (by decide) rfl (hts _ (List.mem_cons_of_mem _ t_419)) (fun _ h9 => h9) 7 rfl dX2_readAssignment_99 ?_
          refine lv_iload_n hx hb dX2_readAssignment_102 rfl (lv_at hl 0 rfl) ?_
          refine lv_if_eq (tgt := 111) hx hb dX2_readAssignment_103 (by decide) (fun c_ => ?_) (fun c_ => absurd (by decide) c_)
          refine lv_bipush (v := 21) hx hb dX2_readAssignment_111 (by decide) ?_
          refine lv_aload_n hx hb dX2_readAssignment_113 rfl (lv_at hl 2 rfl) ?_
          refine g_getk (C := RX2) (T := TX2) (N := 16) hx hb hts (mc_ inX2) hown hK g rfl 4 (by decide) rfl (hts _ (List.mem_cons_of_mem _ t_420)) (fun _ h9 => h9) 8 rfl dX2_readAssignment_114 ?_
          refine lv_iload_n hx hb dX2_readAssignment_117 rfl (lv_at hl 1 rfl) ?_
          have go_ := g
          refine g_calli (va_runV (As := [.int x_1]) (rest := [.int 21, .ref q3_]) ⟨hx, hb, hml, hown, hts⟩ (r_X9_spanOf l dC dI L kd tys fr_24 H.size g.2.2.2.1 q4_ mq4_ kq4_ x_1) (cwV 1 hts (gV_ t_1401 t_1265 t_1266 t_192 t_1267) rfl rfl rfl (by decide +kernel) ⟨(Nat.le_of_ble_eq_true rfl), (Nat.le_of_ble_eq_true rfl)⟩) (pre3V g hK mq4_ kq4_ (by decide) (q := (RX9, TX9, 13)) rfl) rfl rfl hl.1 rfl (lv_room (Nat.le_of_ble_eq_true rfl)) dX2_readAssignment_118 ⟨(Nat.le_of_ble_eq_true rfl), (Nat.le_of_ble_eq_true rfl)⟩) g hK (by decide) (by decide) (fx' := [(8, 6, q0_, .int x_32), (8, 8, q0_, .int x_34), (0, 2, q2_, .ref q3_), (2, 15, a0_, .int x_1), (2, 0, a0_, .ref q0_), (2, 1, a0_, .ref q1_), (2, 2, a0_, .ref q2_), (2, 3, a0_, .ref q3_), (2, 4, a0_, .ref q4_), (0, 0, q2_, .ref q0_), (0, 1, q2_, .ref q1_), (5, 0, q1_, .ref q3_), (5, 1, q1_, .ref q8_)]) rfl (fun r_107 fr_107 H locs hp hMr_107 g => ?_)
          obtain ⟨h_108, -⟩ := hp
          have hG_109 := dOK.frame hMr_107 go_.2.2.2.1 mq3_ kq3_ (by decide) (by decide) hG_31
          have hG_110 := eOK.frame hMr_107 go_.2.2.2.1 mq2_ kq2_ (by decide) (by decide) hG_30
          obtain ⟨a_111, ma_111, ka_111, g⟩ := g_factr g mq3_ kq3_ (by decide) 4 rfl
          obtain ⟨a_112, ma_112, ka_112, g⟩ := g_factr g mq3_ kq3_ (by decide) 5 rfl
          obtain ⟨x_113, bx_113, g⟩ := g_facti g mq3_ kq3_ (by decide) 6 rfl
          have go_ := g
          refine g_callv (va_runV (As := [.int 21, .int r_107]) (rest := []) ⟨hx, hb, hml, hown, hts⟩ (r_X7_emitF l dC dI L kd tys fr_107 H.size g.2.2.2.1 q3_ mq3_ kq3_ a_111 ma_111 ka_111 a_112 ma_112 ka_112 x_113 bx_113 T_ hG_109 (21 : Int32) r_107 (g.fcts [2, 1, 0] rfl)) (cwV 2 hts (gV_ t_1301 t_1204 t_1205 t_191 t_1206) rfl rfl rfl (by decide +kernel) ⟨(Nat.le_of_ble_eq_true rfl), (Nat.le_of_ble_eq_true rfl)⟩) (pre3V g hK mq3_ kq3_ (by decide) (q := (RX7, TX7, 19)) rfl) rfl rfl hl.1 rfl (lv_room (Nat.le_of_ble_eq_true rfl)) dX2_readAssignment_121 ⟨(Nat.le_of_ble_eq_true rfl), (Nat.le_of_ble_eq_true rfl)⟩) g hK (by decide) (by decide) (fx' := [(7, 5, q3_, .ref a_112), (7, 4, q3_, .ref a_111), (8, 6, q0_, .int x_32), (8, 8, q0_, .int x_34), (0, 2, q2_, .ref q3_), (2, 15, a0_, .int x_1), (2, 0, a0_, .ref q0_), (2, 1, a0_, .ref q1_), (2, 2, a0_, .ref q2_), (2, 3, a0_, .ref q3_), (2, 4, a0_, .ref q4_), (0, 0, q2_, .ref q0_), (0, 1, q2_, .ref q1_), (5, 0, q1_, .ref q3_), (5, 1, q1_, .ref q8_)]) rfl (fun fr_114 H locs hp hMr_114 g => ?_)
          obtain ⟨hG_115, x_116, h_117, hF_118⟩ := hp
          have hG_119 := eOK.frame hMr_114 go_.2.2.2.1 mq2_ kq2_ (by decide) (by decide) hG_110
          have g := g.more hF_118
          refine lv_aload_n hx hb dX2_readAssignment_124 rfl (lv_at hl 2 rfl) ?_
          refine g_getk (C := RX2) (T := TX2) (N := 16) hx hb hts (mc_ inX2) hown hK g rfl 0 (by decide) rfl (hts _ (List.mem_cons_of_mem _ t_416)) (fun _ h9 => h9) 7 rfl dX2_readAssignment_125 ?_
          refine lv_bipush (v := 59) hx hb dX2_readAssignment_128 (by decide) ?_
          have go_ := g
          refine g_callv (va_runV (As := [.int 59]) (rest := []) ⟨hx, hb, hml, hown, hts⟩ (r_X8_take_2 l dC dI L kd tys fr_114 H.size g.2.2.2.1 q0_ mq0_ kq0_ 59 x_32 h_33 x_34 h_35 (g.fcts [3, 4] rfl)) (cwV 1 hts (gV_ t_1098 t_1099 t_1100 t_184 t_1101) rfl rfl rfl (by decide +kernel) ⟨(Nat.le_of_ble_eq_true rfl), (Nat.le_of_ble_eq_true rfl)⟩) (pre3V g hK mq0_ kq0_ (by decide) (q := (RX8, TX8, 10)) rfl) rfl rfl hl.1 rfl (lv_room (Nat.le_of_ble_eq_true rfl)) dX2_readAssignment_130 ⟨(Nat.le_of_ble_eq_true rfl), (Nat.le_of_ble_eq_true rfl)⟩) g hK (by decide) (by decide) (fx' := [(7, 6, q3_, .int x_116), (7, 5, q3_, .ref a_112), (7, 4, q3_, .ref a_111), (8, 8, q0_, .int x_34), (0, 2, q2_, .ref q3_), (2, 15, a0_, .int x_1), (2, 0, a0_, .ref q0_), (2, 1, a0_, .ref q1_), (2, 2, a0_, .ref q2_), (2, 3, a0_, .ref q3_), (2, 4, a0_, .ref q4_), (0, 0, q2_, .ref q0_), (0, 1, q2_, .ref q1_), (5, 0, q1_, .ref q3_), (5, 1, q1_, .ref q8_)]) rfl (fun fr_120 H locs hp hMr_120 g => ?_)
          obtain ⟨x_121, h_122, hF_123⟩ := hp
          have hG_124 := dOK.frame hMr_120 go_.2.2.2.1 mq3_ kq3_ (by decide) (by decide) hG_115
          have hG_125 := eOK.frame hMr_120 go_.2.2.2.1 mq2_ kq2_ (by decide) (by decide) hG_119
          have g := g.more hF_123
          subst hQ
          exact W.vret hx hb hr (fun t ht hW => ⟨⟨_, rfl, Or.inr (⟨hG_124, hG_125, x_121, h_122, x_34, h_35, (g.fcts [0, 4, 5] rfl)⟩), q3_of g hK ht hW⟩, g.2.2.1.F ht⟩) g.2.2.1.2.2 dX2_readAssignment_133
        · have fc_105 := nlt_f c_105
          have b_126 : bd 16 26 x_1 := leR fc_105 kb_16 bx_1 (by decide)
          refine lv_aload_n hx hb dX2_readAssignment_82 rfl (lv_at hl 2 rfl) ?_
          refine g_getk (C := RX2) (T := TX2) (N := 16) hx hb hts (mc_ inX2) hown hK g rfl 3 (by decide) rfl (hts _ (List.mem_cons_of_mem _ t_419)) (fun _ h9 => h9) 7 rfl dX2_readAssignment_83 ?_
          refine lv_bipush (v := 20) hx hb dX2_readAssignment_86 (by decide) ?_
          refine lv_iload_n hx hb dX2_readAssignment_88 rfl (lv_at hl 1 rfl) ?_
          refine lv_bipush (v := 16) hx hb dX2_readAssignment_89 (by decide) ?_
          refine lv_isub hx hb dX2_readAssignment_91 ?_
          refine lv_topi (fun y_127 ey_127 => ?_)
          have ty_127 := sub_bd ey_127 b_126 kb_16 (by decide)
          have b_128 : bd 0 10 y_127 := sub_rg ty_127 b_126 kb_16 (by decide)
          obtain ⟨a_129, ma_129, ka_129, g⟩ := g_factr g mq3_ kq3_ (by decide) 4 rfl
          obtain ⟨a_130, ma_130, ka_130, g⟩ := g_factr g mq3_ kq3_ (by decide) 5 rfl
          obtain ⟨x_131, bx_131, g⟩ := g_facti g mq3_ kq3_ (by decide) 6 rfl
          have go_ := g
          refine g_callv (va_runV (As := [.int 20, .int y_127]) (rest := []) ⟨hx, hb, hml, hown, hts⟩ (r_X7_emitF l dC dI L kd tys fr_24 H.size g.2.2.2.1 q3_ mq3_ kq3_ a_129 ma_129 ka_129 a_130 ma_130 ka_130 x_131 bx_131 T_ hG_31 (20 : Int32) y_127 (g.fcts [2, 1, 0] rfl)) (cwV 2 hts (gV_ t_1301 t_1204 t_1205 t_191 t_1206) rfl rfl rfl (by decide +kernel) ⟨(Nat.le_of_ble_eq_true rfl), (Nat.le_of_ble_eq_true rfl)⟩) (pre3V g hK mq3_ kq3_ (by decide) (q := (RX7, TX7, 19)) rfl) rfl rfl hl.1 rfl (lv_room (Nat.le_of_ble_eq_true rfl)) dX2_readAssignment_92 ⟨(Nat.le_of_ble_eq_true rfl), (Nat.le_of_ble_eq_true rfl)⟩) g hK (by decide) (by decide) (fx' := [(7, 5, q3_, .ref a_130), (7, 4, q3_, .ref a_129), (8, 6, q0_, .int x_32), (8, 8, q0_, .int x_34), (0, 2, q2_, .ref q3_), (2, 15, a0_, .int x_1), (2, 0, a0_, .ref q0_), (2, 1, a0_, .ref q1_), (2, 2, a0_, .ref q2_), (2, 3, a0_, .ref q3_), (2, 4, a0_, .ref q4_), (0, 0, q2_, .ref q0_), (0, 1, q2_, .ref q1_), (5, 0, q1_, .ref q3_), (5, 1, q1_, .ref q8_)]) rfl (fun fr_132 H locs hp hMr_132 g => ?_)
          obtain ⟨hG_133, x_134, h_135, hF_136⟩ := hp
          have hG_137 := eOK.frame hMr_132 go_.2.2.2.1 mq2_ kq2_ (by decide) (by decide) hG_30
          have g := g.more hF_136
          refine lv_goto (tgt := 124) hx hb dX2_readAssignment_95 (by decide) ?_
          refine lv_aload_n hx hb dX2_readAssignment_124 rfl (lv_at hl 2 rfl) ?_
          refine g_getk (C := RX2) (T := TX2) (N := 16) hx hb hts (mc_ inX2) hown hK g rfl 0 (by decide) rfl (hts _ (List.mem_cons_of_mem _ t_416)) (fun _ h9 => h9) 7 rfl dX2_readAssignment_125 ?_
          refine lv_bipush (v := 59) hx hb dX2_readAssignment_128 (by decide) ?_
          have go_ := g
          refine g_callv (va_runV (As := [.int 59]) (rest := []) ⟨hx, hb, hml, hown, hts⟩ (r_X8_take_2 l dC dI L kd tys fr_132 H.size g.2.2.2.1 q0_ mq0_ kq0_ 59 x_32 h_33 x_34 h_35 (g.fcts [3, 4] rfl)) (cwV 1 hts (gV_ t_1098 t_1099 t_1100 t_184 t_1101) rfl rfl rfl (by decide +kernel) ⟨(Nat.le_of_ble_eq_true rfl), (Nat.le_of_ble_eq_true rfl)⟩) (pre3V g hK mq0_ kq0_ (by decide) (q := (RX8, TX8, 10)) rfl) rfl rfl hl.1 rfl (lv_room (Nat.le_of_ble_eq_true rfl)) dX2_readAssignment_130 ⟨(Nat.le_of_ble_eq_true rfl), (Nat.le_of_ble_eq_true rfl)⟩) g hK (by decide) (by decide) (fx' := [(7, 6, q3_, .int x_134), (7, 5, q3_, .ref a_130), (7, 4, q3_, .ref a_129), (8, 8, q0_, .int x_34), (0, 2, q2_, .ref q3_), (2, 15, a0_, .int x_1), (2, 0, a0_, .ref q0_), (2, 1, a0_, .ref q1_), (2, 2, a0_, .ref q2_), (2, 3, a0_, .ref q3_), (2, 4, a0_, .ref q4_), (0, 0, q2_, .ref q0_), (0, 1, q2_, .ref q1_), (5, 0, q1_, .ref q3_), (5, 1, q1_, .ref q8_)]) rfl (fun fr_138 H locs hp hMr_138 g => ?_)
          obtain ⟨x_139, h_140, hF_141⟩ := hp
          have hG_142 := dOK.frame hMr_138 go_.2.2.2.1 mq3_ kq3_ (by decide) (by decide) hG_133
          have hG_143 := eOK.frame hMr_138 go_.2.2.2.1 mq2_ kq2_ (by decide) (by decide) hG_137
          have g := g.more hF_141
          subst hQ
          exact W.vret hx hb hr (fun t ht hW => ⟨⟨_, rfl, Or.inr (⟨hG_142, hG_143, x_139, h_140, x_34, h_35, (g.fcts [0, 4, 5] rfl)⟩), q3_of g hK ht hW⟩, g.2.2.1.F ht⟩) g.2.2.1.2.2 dX2_readAssignment_133
    · have hG_144 := cOK.frame hMr_13 go_.2.2.2.1 mq3_ kq3_ (by decide) (by decide) hG_9
      have hG_145 := dOK.frame hMr_13 go_.2.2.2.1 mq3_ kq3_ (by decide) (by decide) hG_10
      have hG_146 := jS.frame hMr_13 go_.2.2.2.1 mq3_ kq3_ (by decide) (by decide) hG_11
      have hG_147 := eOK.frame hMr_13 go_.2.2.2.1 mq2_ kq2_ (by decide) (by decide) hG_12
      have g := g.more hF_19
      refine lv_aload_n hx hb dX2_readAssignment_69 rfl (lv_at hl 2 rfl) ?_
      refine g_getk (C := RX2) (T := TX2) (N := 16) hx hb hts (mc_ inX2) hown hK g rfl 2 (by decide) rfl (hts _ (List.mem_cons_of_mem _ t_418)) (fun _ h9 => h9) 5 rfl dX2_readAssignment_70 ?_
      have kb_1201 : bd 1201 1201 (1201 : Int32) := ⟨by decide, by decide⟩
      have go_ := g
      refine g_callv (va_runV (As := []) (rest := []) ⟨hx, hb, hml, hown, hts⟩ (r_X0_read_2 l dC dI L kd tys fr_13 H.size g.2.2.2.1 q2_ mq2_ kq2_ q0_ mq0_ kq0_ q1_ mq1_ kq1_ q3_ mq3_ kq3_ q8_ mq8_ kq8_ 1201 kb_1201 x_17 h_18 T_ hG_147 hG_145 (g.fcts [8, 9, 10, 11, 0, 1] rfl)) (cwV 0 hts (gV_ t_1182 t_1183 t_1184 t_190 t_1185) rfl rfl rfl (by decide +kernel) ⟨(Nat.le_of_ble_eq_true rfl), (Nat.le_of_ble_eq_true rfl)⟩) (pre3V g hK mq2_ kq2_ (by decide) (q := (RX0, TX0, 14)) rfl) rfl rfl hl.1 rfl (lv_room (Nat.le_of_ble_eq_true rfl)) dX2_readAssignment_73 ⟨(Nat.le_of_ble_eq_true rfl), (Nat.le_of_ble_eq_true rfl)⟩) g hK (by decide) (by decide) (fx' := [(8, 6, q0_, .int 1201), (8, 8, q0_, .int x_17), (2, 15, a0_, .int x_1), (2, 0, a0_, .ref q0_), (2, 1, a0_, .ref q1_), (2, 2, a0_, .ref q2_), (2, 3, a0_, .ref q3_), (2, 4, a0_, .ref q4_), (0, 0, q2_, .ref q0_), (0, 1, q2_, .ref q1_), (5, 0, q1_, .ref q3_), (5, 1, q1_, .ref q8_)]) rfl (fun fr_148 H locs hp hMr_148 g => ?_)
      have hF_149 := hp
      have hG_150 := cOK.frame hMr_148 go_.2.2.2.1 mq3_ kq3_ (by decide) (by decide) hG_144
      have hG_151 := dOK.frame hMr_148 go_.2.2.2.1 mq3_ kq3_ (by decide) (by decide) hG_145
      have hG_152 := jS.frame hMr_148 go_.2.2.2.1 mq3_ kq3_ (by decide) (by decide) hG_146
      have hG_153 := eOK.frame hMr_148 go_.2.2.2.1 mq2_ kq2_ (by decide) (by decide) hG_147
      have g := g.more hF_149
      refine lv_iload_n hx hb dX2_readAssignment_76 rfl (lv_at hl 1 rfl) ?_
      refine lv_bipush (v := 16) hx hb dX2_readAssignment_77 (by decide) ?_
      have kb_16 : bd 16 16 (16 : Int32) := ⟨by decide, by decide⟩
      refine lv_icmp_lt (tgt := 98) hx hb dX2_readAssignment_79 (by decide) (fun c_154 => ?_) (fun c_154 => ?_)
      · have fc_154 := lt_f c_154
        have b_155 : bd (-1) 15 x_1 := ltL fc_154 bx_1 kb_16 (by decide)
        refine lv_aload_n hx hb dX2_readAssignment_98 rfl (lv_at hl 2 rfl) ?_
        refine g_getk (C := RX2) (T := TX2) (N := 16) hx hb hts (mc_ inX2) hown hK g rfl 3 (by decide) rfl (hts _ (List.mem_cons_of_mem _ t_419)) (fun _ h9 => h9) 12 rfl dX2_readAssignment_99 ?_
        refine lv_iload_n hx hb dX2_readAssignment_102 rfl (lv_at hl 0 rfl) ?_
        refine lv_if_eq (tgt := 111) hx hb dX2_readAssignment_103 (by decide) (fun c_ => ?_) (fun c_ => absurd (by decide) c_)
        refine lv_bipush (v := 21) hx hb dX2_readAssignment_111 (by decide) ?_
        refine lv_aload_n hx hb dX2_readAssignment_113 rfl (lv_at hl 2 rfl) ?_
        refine g_getk (C := RX2) (T := TX2) (N := 16) hx hb hts (mc_ inX2) hown hK g rfl 4 (by decide) rfl (hts _ (List.mem_cons_of_mem _ t_420)) (fun _ h9 => h9) 13 rfl dX2_readAssignment_114 ?_
        refine lv_iload_n hx hb dX2_readAssignment_117 rfl (lv_at hl 1 rfl) ?_
        have go_ := g
        refine g_calli (va_runV (As := [.int x_1]) (rest := [.int 21, .ref q3_]) ⟨hx, hb, hml, hown, hts⟩ (r_X9_spanOf l dC dI L kd tys fr_148 H.size g.2.2.2.1 q4_ mq4_ kq4_ x_1) (cwV 1 hts (gV_ t_1401 t_1265 t_1266 t_192 t_1267) rfl rfl rfl (by decide +kernel) ⟨(Nat.le_of_ble_eq_true rfl), (Nat.le_of_ble_eq_true rfl)⟩) (pre3V g hK mq4_ kq4_ (by decide) (q := (RX9, TX9, 13)) rfl) rfl rfl hl.1 rfl (lv_room (Nat.le_of_ble_eq_true rfl)) dX2_readAssignment_118 ⟨(Nat.le_of_ble_eq_true rfl), (Nat.le_of_ble_eq_true rfl)⟩) g hK (by decide) (by decide) (fx' := [(0, 13, q2_, .int 0), (0, 12, q2_, .int 1), (0, 11, q2_, .int 0), (0, 10, q2_, .int 0), (0, 8, q2_, .int 0), (0, 2, q2_, .ref q3_), (8, 6, q0_, .int 1201), (8, 8, q0_, .int x_17), (2, 15, a0_, .int x_1), (2, 0, a0_, .ref q0_), (2, 1, a0_, .ref q1_), (2, 2, a0_, .ref q2_), (2, 3, a0_, .ref q3_), (2, 4, a0_, .ref q4_), (0, 0, q2_, .ref q0_), (0, 1, q2_, .ref q1_), (5, 0, q1_, .ref q3_), (5, 1, q1_, .ref q8_)]) rfl (fun r_156 fr_156 H locs hp hMr_156 g => ?_)
        obtain ⟨h_157, -⟩ := hp
        have hG_158 := cOK.frame hMr_156 go_.2.2.2.1 mq3_ kq3_ (by decide) (by decide) hG_150
        have hG_159 := dOK.frame hMr_156 go_.2.2.2.1 mq3_ kq3_ (by decide) (by decide) hG_151
        have hG_160 := jS.frame hMr_156 go_.2.2.2.1 mq3_ kq3_ (by decide) (by decide) hG_152
        have hG_161 := eOK.frame hMr_156 go_.2.2.2.1 mq2_ kq2_ (by decide) (by decide) hG_153
        obtain ⟨a_162, ma_162, ka_162, g⟩ := g_factr g mq3_ kq3_ (by decide) 4 rfl
        obtain ⟨a_163, ma_163, ka_163, g⟩ := g_factr g mq3_ kq3_ (by decide) 5 rfl
        obtain ⟨x_164, bx_164, g⟩ := g_facti g mq3_ kq3_ (by decide) 6 rfl
        have go_ := g
        refine g_callv (va_runV (As := [.int 21, .int r_156]) (rest := []) ⟨hx, hb, hml, hown, hts⟩ (r_X7_emitF l dC dI L kd tys fr_156 H.size g.2.2.2.1 q3_ mq3_ kq3_ a_162 ma_162 ka_162 a_163 ma_163 ka_163 x_164 bx_164 T_ hG_159 (21 : Int32) r_156 (g.fcts [2, 1, 0] rfl)) (cwV 2 hts (gV_ t_1301 t_1204 t_1205 t_191 t_1206) rfl rfl rfl (by decide +kernel) ⟨(Nat.le_of_ble_eq_true rfl), (Nat.le_of_ble_eq_true rfl)⟩) (pre3V g hK mq3_ kq3_ (by decide) (q := (RX7, TX7, 19)) rfl) rfl rfl hl.1 rfl (lv_room (Nat.le_of_ble_eq_true rfl)) dX2_readAssignment_121 ⟨(Nat.le_of_ble_eq_true rfl), (Nat.le_of_ble_eq_true rfl)⟩) g hK (by decide) (by decide) (fx' := [(7, 5, q3_, .ref a_163), (7, 4, q3_, .ref a_162), (0, 13, q2_, .int 0), (0, 12, q2_, .int 1), (0, 11, q2_, .int 0), (0, 10, q2_, .int 0), (0, 8, q2_, .int 0), (0, 2, q2_, .ref q3_), (8, 6, q0_, .int 1201), (8, 8, q0_, .int x_17), (2, 15, a0_, .int x_1), (2, 0, a0_, .ref q0_), (2, 1, a0_, .ref q1_), (2, 2, a0_, .ref q2_), (2, 3, a0_, .ref q3_), (2, 4, a0_, .ref q4_), (0, 0, q2_, .ref q0_), (0, 1, q2_, .ref q1_), (5, 0, q1_, .ref q3_), (5, 1, q1_, .ref q8_)]) rfl (fun fr_165 H locs hp hMr_165 g => ?_)
        obtain ⟨hG_166, x_167, h_168, hF_169⟩ := hp
        have hG_170 := eOK.frame hMr_165 go_.2.2.2.1 mq2_ kq2_ (by decide) (by decide) hG_161
        have g := g.more hF_169
        refine lv_aload_n hx hb dX2_readAssignment_124 rfl (lv_at hl 2 rfl) ?_
        refine g_getk (C := RX2) (T := TX2) (N := 16) hx hb hts (mc_ inX2) hown hK g rfl 0 (by decide) rfl (hts _ (List.mem_cons_of_mem _ t_416)) (fun _ h9 => h9) 12 rfl dX2_readAssignment_125 ?_
        refine lv_bipush (v := 59) hx hb dX2_readAssignment_128 (by decide) ?_
        have go_ := g
        refine g_callv (va_runV (As := [.int 59]) (rest := []) ⟨hx, hb, hml, hown, hts⟩ (r_X8_take_2 l dC dI L kd tys fr_165 H.size g.2.2.2.1 q0_ mq0_ kq0_ 59 1201 kb_1201 x_17 h_18 (g.fcts [9, 10] rfl)) (cwV 1 hts (gV_ t_1098 t_1099 t_1100 t_184 t_1101) rfl rfl rfl (by decide +kernel) ⟨(Nat.le_of_ble_eq_true rfl), (Nat.le_of_ble_eq_true rfl)⟩) (pre3V g hK mq0_ kq0_ (by decide) (q := (RX8, TX8, 10)) rfl) rfl rfl hl.1 rfl (lv_room (Nat.le_of_ble_eq_true rfl)) dX2_readAssignment_130 ⟨(Nat.le_of_ble_eq_true rfl), (Nat.le_of_ble_eq_true rfl)⟩) g hK (by decide) (by decide) (fx' := [(7, 6, q3_, .int x_167), (7, 5, q3_, .ref a_163), (7, 4, q3_, .ref a_162), (0, 13, q2_, .int 0), (0, 12, q2_, .int 1), (0, 11, q2_, .int 0), (0, 10, q2_, .int 0), (0, 8, q2_, .int 0), (0, 2, q2_, .ref q3_), (8, 8, q0_, .int x_17), (2, 15, a0_, .int x_1), (2, 0, a0_, .ref q0_), (2, 1, a0_, .ref q1_), (2, 2, a0_, .ref q2_), (2, 3, a0_, .ref q3_), (2, 4, a0_, .ref q4_), (0, 0, q2_, .ref q0_), (0, 1, q2_, .ref q1_), (5, 0, q1_, .ref q3_), (5, 1, q1_, .ref q8_)]) rfl (fun fr_171 H locs hp hMr_171 g => ?_)
        obtain ⟨x_172, h_173, hF_174⟩ := hp
        have hG_175 := dOK.frame hMr_171 go_.2.2.2.1 mq3_ kq3_ (by decide) (by decide) hG_166
        have hG_176 := eOK.frame hMr_171 go_.2.2.2.1 mq2_ kq2_ (by decide) (by decide) hG_170
        have g := g.more hF_174
        subst hQ
        exact W.vret hx hb hr (fun t ht hW => ⟨⟨_, rfl, Or.inr (⟨hG_175, hG_176, x_172, h_173, x_17, h_18, (g.fcts [0, 10, 9] rfl)⟩), q3_of g hK ht hW⟩, g.2.2.1.F ht⟩) g.2.2.1.2.2 dX2_readAssignment_133
      · have fc_154 := nlt_f c_154
        have b_177 : bd 16 26 x_1 := leR fc_154 kb_16 bx_1 (by decide)
        refine lv_aload_n hx hb dX2_readAssignment_82 rfl (lv_at hl 2 rfl) ?_
        refine g_getk (C := RX2) (T := TX2) (N := 16) hx hb hts (mc_ inX2) hown hK g rfl 3 (by decide) rfl (hts _ (List.mem_cons_of_mem _ t_419)) (fun _ h9 => h9) 12 rfl dX2_readAssignment_83 ?_
        refine lv_bipush (v := 20) hx hb dX2_readAssignment_86 (by decide) ?_
        refine lv_iload_n hx hb dX2_readAssignment_88 rfl (lv_at hl 1 rfl) ?_
        refine lv_bipush (v := 16) hx hb dX2_readAssignment_89 (by decide) ?_
        refine lv_isub hx hb dX2_readAssignment_91 ?_
        refine lv_topi (fun y_178 ey_178 => ?_)
        have ty_178 := sub_bd ey_178 b_177 kb_16 (by decide)
        have b_179 : bd 0 10 y_178 := sub_rg ty_178 b_177 kb_16 (by decide)
        obtain ⟨a_180, ma_180, ka_180, g⟩ := g_factr g mq3_ kq3_ (by decide) 4 rfl
        obtain ⟨a_181, ma_181, ka_181, g⟩ := g_factr g mq3_ kq3_ (by decide) 5 rfl
        obtain ⟨x_182, bx_182, g⟩ := g_facti g mq3_ kq3_ (by decide) 6 rfl
        have go_ := g
        refine g_callv (va_runV (As := [.int 20, .int y_178]) (rest := []) ⟨hx, hb, hml, hown, hts⟩ (r_X7_emitF l dC dI L kd tys fr_148 H.size g.2.2.2.1 q3_ mq3_ kq3_ a_180 ma_180 ka_180 a_181 ma_181 ka_181 x_182 bx_182 T_ hG_151 (20 : Int32) y_178 (g.fcts [2, 1, 0] rfl)) (cwV 2 hts (gV_ t_1301 t_1204 t_1205 t_191 t_1206) rfl rfl rfl (by decide +kernel) ⟨(Nat.le_of_ble_eq_true rfl), (Nat.le_of_ble_eq_true rfl)⟩) (pre3V g hK mq3_ kq3_ (by decide) (q := (RX7, TX7, 19)) rfl) rfl rfl hl.1 rfl (lv_room (Nat.le_of_ble_eq_true rfl)) dX2_readAssignment_92 ⟨(Nat.le_of_ble_eq_true rfl), (Nat.le_of_ble_eq_true rfl)⟩) g hK (by decide) (by decide) (fx' := [(7, 5, q3_, .ref a_181), (7, 4, q3_, .ref a_180), (0, 13, q2_, .int 0), (0, 12, q2_, .int 1), (0, 11, q2_, .int 0), (0, 10, q2_, .int 0), (0, 8, q2_, .int 0), (0, 2, q2_, .ref q3_), (8, 6, q0_, .int 1201), (8, 8, q0_, .int x_17), (2, 15, a0_, .int x_1), (2, 0, a0_, .ref q0_), (2, 1, a0_, .ref q1_), (2, 2, a0_, .ref q2_), (2, 3, a0_, .ref q3_), (2, 4, a0_, .ref q4_), (0, 0, q2_, .ref q0_), (0, 1, q2_, .ref q1_), (5, 0, q1_, .ref q3_), (5, 1, q1_, .ref q8_)]) rfl (fun fr_183 H locs hp hMr_183 g => ?_)
        obtain ⟨hG_184, x_185, h_186, hF_187⟩ := hp
        have hG_188 := eOK.frame hMr_183 go_.2.2.2.1 mq2_ kq2_ (by decide) (by decide) hG_153
        have g := g.more hF_187
        refine lv_goto (tgt := 124) hx hb dX2_readAssignment_95 (by decide) ?_
        refine lv_aload_n hx hb dX2_readAssignment_124 rfl (lv_at hl 2 rfl) ?_
        refine g_getk (C := RX2) (T := TX2) (N := 16) hx hb hts (mc_ inX2) hown hK g rfl 0 (by decide) rfl (hts _ (List.mem_cons_of_mem _ t_416)) (fun _ h9 => h9) 12 rfl dX2_readAssignment_125 ?_
        refine lv_bipush (v := 59) hx hb dX2_readAssignment_128 (by decide) ?_
        have go_ := g
        refine g_callv (va_runV (As := [.int 59]) (rest := []) ⟨hx, hb, hml, hown, hts⟩ (r_X8_take_2 l dC dI L kd tys fr_183 H.size g.2.2.2.1 q0_ mq0_ kq0_ 59 1201 kb_1201 x_17 h_18 (g.fcts [9, 10] rfl)) (cwV 1 hts (gV_ t_1098 t_1099 t_1100 t_184 t_1101) rfl rfl rfl (by decide +kernel) ⟨(Nat.le_of_ble_eq_true rfl), (Nat.le_of_ble_eq_true rfl)⟩) (pre3V g hK mq0_ kq0_ (by decide) (q := (RX8, TX8, 10)) rfl) rfl rfl hl.1 rfl (lv_room (Nat.le_of_ble_eq_true rfl)) dX2_readAssignment_130 ⟨(Nat.le_of_ble_eq_true rfl), (Nat.le_of_ble_eq_true rfl)⟩) g hK (by decide) (by decide) (fx' := [(7, 6, q3_, .int x_185), (7, 5, q3_, .ref a_181), (7, 4, q3_, .ref a_180), (0, 13, q2_, .int 0), (0, 12, q2_, .int 1), (0, 11, q2_, .int 0), (0, 10, q2_, .int 0), (0, 8, q2_, .int 0), (0, 2, q2_, .ref q3_), (8, 8, q0_, .int x_17), (2, 15, a0_, .int x_1), (2, 0, a0_, .ref q0_), (2, 1, a0_, .ref q1_), (2, 2, a0_, .ref q2_), (2, 3, a0_, .ref q3_), (2, 4, a0_, .ref q4_), (0, 0, q2_, .ref q0_), (0, 1, q2_, .ref q1_), (5, 0, q1_, .ref q3_), (5, 1, q1_, .ref q8_)]) rfl (fun fr_189 H locs hp hMr_189 g => ?_)
        obtain ⟨x_190, h_191, hF_192⟩ := hp
        have hG_193 := dOK.frame hMr_189 go_.2.2.2.1 mq3_ kq3_ (by decide) (by decide) hG_184
        have hG_194 := eOK.frame hMr_189 go_.2.2.2.1 mq2_ kq2_ (by decide) (by decide) hG_188
        have g := g.more hF_192
        subst hQ
        exact W.vret hx hb hr (fun t ht hW => ⟨⟨_, rfl, Or.inr (⟨hG_193, hG_194, x_190, h_191, x_17, h_18, (g.fcts [0, 10, 9] rfl)⟩), q3_of g hK ht hW⟩, g.2.2.1.F ht⟩) g.2.2.1.2.2 dX2_readAssignment_133
  · have hG_195 := cOK.frame hMr_2 go_.2.2.2.1 mq3_ kq3_ (by decide) (by decide) hGcq3_
    have hG_196 := dOK.frame hMr_2 go_.2.2.2.1 mq3_ kq3_ (by decide) (by decide) hGdq3_
    have hG_197 := jS.frame hMr_2 go_.2.2.2.1 mq3_ kq3_ (by decide) (by decide) hGsq3_
    have hG_198 := eOK.frame hMr_2 go_.2.2.2.1 mq2_ kq2_ (by decide) (by decide) hGeq2_
    obtain rfl : r_2 = 1 := h_4
    have b_199 : bd 0 9 x_1 := eqX rfl bx_1 h_5 (by decide)
    have g := g.more hF_8
    refine lv_istore_n (lv' := [(2, .int 1), (1, .int x_1), (0, .ref a0_)]) hx hb dX2_readAssignment_13 rfl hl (by decide) rfl (fun ls hl => ?_)
    refine lv_iload_n hx hb dX2_readAssignment_14 rfl (lv_at hl 0 rfl) ?_
    refine lv_if_eq (tgt := 60) hx hb dX2_readAssignment_15 (by decide) (fun c_ => absurd c_ (by decide)) (fun c_ => ?_)
    refine lv_aload_n hx hb dX2_readAssignment_18 rfl (lv_at hl 2 rfl) ?_
    refine g_getk (C := RX2) (T := TX2) (N := 16) hx hb hts (mc_ inX2) hown hK g rfl 0 (by decide) rfl (hts _ (List.mem_cons_of_mem _ t_416)) (fun _ h9 => h9) 2 rfl dX2_readAssignment_19 ?_
    refine lv_bipush (v := 91) hx hb dX2_readAssignment_22 (by decide) ?_
    have go_ := g
    refine g_callv (va_runV (As := [.int 91]) (rest := []) ⟨hx, hb, hml, hown, hts⟩ (r_X8_take l dC dI L kd tys fr_2 H.size g.2.2.2.1 q0_ mq0_ kq0_ 91 y0_ by0_ (g.fcts [11] rfl)) (cwV 1 hts (gV_ t_1098 t_1099 t_1100 t_184 t_1101) rfl rfl rfl (by decide +kernel) ⟨(Nat.le_of_ble_eq_true rfl), (Nat.le_of_ble_eq_true rfl)⟩) (pre3V g hK mq0_ kq0_ (by decide) (q := (RX8, TX8, 10)) rfl) rfl rfl hl.1 rfl (lv_room (Nat.le_of_ble_eq_true rfl)) dX2_readAssignment_24 ⟨(Nat.le_of_ble_eq_true rfl), (Nat.le_of_ble_eq_true rfl)⟩) g hK (by decide) (by decide) (fx' := [(9, 2, q4_, .int x_6), (2, 15, a0_, .int x_1), (2, 0, a0_, .ref q0_), (2, 1, a0_, .ref q1_), (2, 2, a0_, .ref q2_), (2, 3, a0_, .ref q3_), (2, 4, a0_, .ref q4_), (0, 0, q2_, .ref q0_), (0, 1, q2_, .ref q1_), (5, 0, q1_, .ref q3_), (5, 1, q1_, .ref q8_)]) rfl (fun fr_200 H locs hp hMr_200 g => ?_)
    rcases hp with ⟨x_201, h_202, hF_203⟩ | ⟨x_204, h_205, hF_206⟩
    · have hG_207 := cOK.frame hMr_200 go_.2.2.2.1 mq3_ kq3_ (by decide) (by decide) hG_195
      have hG_208 := dOK.frame hMr_200 go_.2.2.2.1 mq3_ kq3_ (by decide) (by decide) hG_196
      have hG_209 := jS.frame hMr_200 go_.2.2.2.1 mq3_ kq3_ (by decide) (by decide) hG_197
      have hG_210 := eOK.frame hMr_200 go_.2.2.2.1 mq2_ kq2_ (by decide) (by decide) hG_198
      have g := g.more hF_203
      refine lv_aload_n hx hb dX2_readAssignment_27 rfl (lv_at hl 2 rfl) ?_
      refine g_getk (C := RX2) (T := TX2) (N := 16) hx hb hts (mc_ inX2) hown hK g rfl 2 (by decide) rfl (hts _ (List.mem_cons_of_mem _ t_418)) (fun _ h9 => h9) 6 rfl dX2_readAssignment_28 ?_
      have go_ := g
      refine g_callv (va_runV (As := []) (rest := []) ⟨hx, hb, hml, hown, hts⟩ (r_X0_read l dC dI L kd tys fr_200 H.size g.2.2.2.1 q2_ mq2_ kq2_ q0_ mq0_ kq0_ q1_ mq1_ kq1_ q3_ mq3_ kq3_ q8_ mq8_ kq8_ y0_ by0_ T_ (fun j9 => jOK fr_200 q3_ j9) hG_210 hG_207 hG_208 (fun _ h9 => h9) (g.fcts [9, 10, 11, 12, 1] rfl)) (cwV 0 hts (gV_ t_1182 t_1183 t_1184 t_190 t_1185) rfl rfl rfl (by decide +kernel) ⟨(Nat.le_of_ble_eq_true rfl), (Nat.le_of_ble_eq_true rfl)⟩) (pre3V g hK mq2_ kq2_ (by decide) (q := (RX0, TX0, 14)) rfl) rfl rfl hl.1 rfl (lv_room (Nat.le_of_ble_eq_true rfl)) dX2_readAssignment_31 ⟨(Nat.le_of_ble_eq_true rfl), (Nat.le_of_ble_eq_true rfl)⟩) g hK (by decide) (by decide) (fx' := [(9, 2, q4_, .int x_6), (2, 15, a0_, .int x_1), (2, 0, a0_, .ref q0_), (2, 1, a0_, .ref q1_), (2, 2, a0_, .ref q2_), (2, 3, a0_, .ref q3_), (2, 4, a0_, .ref q4_), (0, 0, q2_, .ref q0_), (0, 1, q2_, .ref q1_), (5, 0, q1_, .ref q3_), (5, 1, q1_, .ref q8_)]) rfl (fun fr_211 H locs hp hMr_211 g => ?_)
      rcases hp with ⟨hG_212, hG_213, hG_214, hG_215, hF_216⟩ | ⟨hG_217, hG_218, x_219, h_220, x_221, h_222, hF_223⟩
      · have g := g.more hF_216
        have hs_224 := jS.mv hG_209 hG_215
        refine lv_aload_n hx hb dX2_readAssignment_34 rfl (lv_at hl 2 rfl) ?_
        refine g_getk (C := RX2) (T := TX2) (N := 16) hx hb hts (mc_ inX2) hown hK g rfl 0 (by decide) rfl (hts _ (List.mem_cons_of_mem _ t_416)) (fun _ h9 => h9) 4 rfl dX2_readAssignment_35 ?_
        refine lv_bipush (v := 93) hx hb dX2_readAssignment_38 (by decide) ?_
        have go_ := g
        refine g_callv (va_runV (As := [.int 93]) (rest := []) ⟨hx, hb, hml, hown, hts⟩ (r_X8_take l dC dI L kd tys fr_211 H.size g.2.2.2.1 q0_ mq0_ kq0_ 93 y0_ by0_ (g.fcts [1] rfl)) (cwV 1 hts (gV_ t_1098 t_1099 t_1100 t_184 t_1101) rfl rfl rfl (by decide +kernel) ⟨(Nat.le_of_ble_eq_true rfl), (Nat.le_of_ble_eq_true rfl)⟩) (pre3V g hK mq0_ kq0_ (by decide) (q := (RX8, TX8, 10)) rfl) rfl rfl hl.1 rfl (lv_room (Nat.le_of_ble_eq_true rfl)) dX2_readAssignment_40 ⟨(Nat.le_of_ble_eq_true rfl), (Nat.le_of_ble_eq_true rfl)⟩) g hK (by decide) (by decide) (fx' := [(0, 2, q2_, .ref q3_), (9, 2, q4_, .int x_6), (2, 15, a0_, .int x_1), (2, 0, a0_, .ref q0_), (2, 1, a0_, .ref q1_), (2, 2, a0_, .ref q2_), (2, 3, a0_, .ref q3_), (2, 4, a0_, .ref q4_), (0, 0, q2_, .ref q0_), (0, 1, q2_, .ref q1_), (5, 0, q1_, .ref q3_), (5, 1, q1_, .ref q8_)]) rfl (fun fr_225 H locs hp hMr_225 g => ?_)
        rcases hp with ⟨x_226, h_227, hF_228⟩ | ⟨x_229, h_230, hF_231⟩
        · have hG_232 := cOK.frame hMr_225 go_.2.2.2.1 mq3_ kq3_ (by decide) (by decide) hG_213
          have hG_233 := dOK.frame hMr_225 go_.2.2.2.1 mq3_ kq3_ (by decide) (by decide) hG_214
          have hG_234 := jS.frame hMr_225 go_.2.2.2.1 mq3_ kq3_ (by decide) (by decide) hs_224
          have hG_235 := eOK.frame hMr_225 go_.2.2.2.1 mq2_ kq2_ (by decide) (by decide) hG_212
          have g := g.more hF_228
          refine lv_aload_n hx hb dX2_readAssignment_43 rfl (lv_at hl 2 rfl) ?_
          refine g_getk (C := RX2) (T := TX2) (N := 16) hx hb hts (mc_ inX2) hown hK g rfl 3 (by decide) rfl (hts _ (List.mem_cons_of_mem _ t_419)) (fun _ h9 => h9) 8 rfl dX2_readAssignment_44 ?_
          refine lv_bipush (v := 11) hx hb dX2_readAssignment_47 (by decide) ?_
          refine lv_aload_n hx hb dX2_readAssignment_49 rfl (lv_at hl 2 rfl) ?_
          refine g_getk (C := RX2) (T := TX2) (N := 16) hx hb hts (mc_ inX2) hown hK g rfl 4 (by decide) rfl (hts _ (List.mem_cons_of_mem _ t_420)) (fun _ h9 => h9) 9 rfl dX2_readAssignment_50 ?_
          refine lv_iload_n hx hb dX2_readAssignment_53 rfl (lv_at hl 1 rfl) ?_
          have go_ := g
          refine g_calli (va_runV (As := [.int x_1]) (rest := [.int 11, .ref q3_]) ⟨hx, hb, hml, hown, hts⟩ (r_X9_spanOf l dC dI L kd tys fr_225 H.size g.2.2.2.1 q4_ mq4_ kq4_ x_1) (cwV 1 hts (gV_ t_1401 t_1265 t_1266 t_192 t_1267) rfl rfl rfl (by decide +kernel) ⟨(Nat.le_of_ble_eq_true rfl), (Nat.le_of_ble_eq_true rfl)⟩) (pre3V g hK mq4_ kq4_ (by decide) (q := (RX9, TX9, 13)) rfl) rfl rfl hl.1 rfl (lv_room (Nat.le_of_ble_eq_true rfl)) dX2_readAssignment_54 ⟨(Nat.le_of_ble_eq_true rfl), (Nat.le_of_ble_eq_true rfl)⟩) g hK (by decide) (by decide) (fx' := [(8, 6, q0_, .int x_226), (8, 8, q0_, .int y0_), (0, 2, q2_, .ref q3_), (9, 2, q4_, .int x_6), (2, 15, a0_, .int x_1), (2, 0, a0_, .ref q0_), (2, 1, a0_, .ref q1_), (2, 2, a0_, .ref q2_), (2, 3, a0_, .ref q3_), (2, 4, a0_, .ref q4_), (0, 0, q2_, .ref q0_), (0, 1, q2_, .ref q1_), (5, 0, q1_, .ref q3_), (5, 1, q1_, .ref q8_)]) rfl (fun r_236 fr_236 H locs hp hMr_236 g => ?_)
          obtain ⟨h_237, -⟩ := hp
          have hG_238 := cOK.frame hMr_236 go_.2.2.2.1 mq3_ kq3_ (by decide) (by decide) hG_232
          have hG_239 := dOK.frame hMr_236 go_.2.2.2.1 mq3_ kq3_ (by decide) (by decide) hG_233
          have hG_240 := jS.frame hMr_236 go_.2.2.2.1 mq3_ kq3_ (by decide) (by decide) hG_234
          have hG_241 := eOK.frame hMr_236 go_.2.2.2.1 mq2_ kq2_ (by decide) (by decide) hG_235
          obtain ⟨a_242, ma_242, ka_242, g⟩ := g_factr g mq3_ kq3_ (by decide) 4 rfl
          obtain ⟨a_243, ma_243, ka_243, g⟩ := g_factr g mq3_ kq3_ (by decide) 5 rfl
          obtain ⟨x_244, bx_244, g⟩ := g_facti g mq3_ kq3_ (by decide) 6 rfl
          have kb_11 : bd 11 11 (11 : Int32) := ⟨by decide, by decide⟩
          have go_ := g
          refine g_callv (va_runV (As := [.int 11, .int r_236]) (rest := []) ⟨hx, hb, hml, hown, hts⟩ (r_X7_emitN l dC dI L kd tys fr_236 H.size g.2.2.2.1 q3_ mq3_ kq3_ a_242 ma_242 ka_242 a_243 ma_243 ka_243 x_244 bx_244 T_ hG_239 (11 : Int32) r_236 (fun j9 => jOK fr_236 q3_ j9) hG_238 (fun _ h9 => h9) ⟨(fun h9 => ⟨(by have h9_0 := h_237; unfold bd at h9_0; have h9_1 := b_199; unfold bd at h9_1; have h9_2 := h_202; unfold bd at h9_2; have h9_3 := h_227; unfold bd at h9_3; have h9_4 := bx_244; unfold bd at h9_4; have h9_5 := h_7; unfold bd at h9_5; have h9_6 := by0_; unfold bd at h9_6; have h8_0 := kb_11; unfold bd at h8_0; omega), (by have h9_0 := h_237; unfold bd at h9_0; have h9_1 := b_199; unfold bd at h9_1; have h9_2 := h_202; unfold bd at h9_2; have h9_3 := h_227; unfold bd at h9_3; have h9_4 := bx_244; unfold bd at h9_4; have h9_5 := h_7; unfold bd at h9_5; have h9_6 := by0_; unfold bd at h9_6; have h8_0 := kb_11; unfold bd at h8_0; omega)⟩), (fun h9 => ⟨(by have h9_0 := h_237; unfold bd at h9_0; have h9_1 := b_199; unfold bd at h9_1; have h9_2 := h_202; unfold bd at h9_2; have h9_3 := h_227; unfold bd at h9_3; have h9_4 := bx_244; unfold bd at h9_4; have h9_5 := h_7; unfold bd at h9_5; have h9_6 := by0_; unfold bd at h9_6; have h8_0 := kb_11; unfold bd at h8_0; omega), (by have h9_0 := h_237; unfold bd at h9_0; have h9_1 := b_199; unfold bd at h9_1; have h9_2 := h_202; unfold bd at h9_2; have h9_3 := h_227; unfold bd at h9_3; have h9_4 := bx_244; unfold bd at h9_4; have h9_5 := h_7; unfold bd at h9_5; have h9_6 := by0_; unfold bd at h9_6; have h8_0 := kb_11; unfold bd at h8_0; omega)⟩), (fun h9 => ⟨(by have h9_0 := h_237; unfold bd at h9_0; have h9_1 := b_199; unfold bd at h9_1; have h9_2 := h_202; unfold bd at h9_2; have h9_3 := h_227; unfold bd at h9_3; have h9_4 := bx_244; unfold bd at h9_4; have h9_5 := h_7; unfold bd at h9_5; have h9_6 := by0_; unfold bd at h9_6; have h8_0 := kb_11; unfold bd at h8_0; omega), (by have h9_0 := h_237; unfold bd at h9_0; have h9_1 := b_199; unfold bd at h9_1; have h9_2 := h_202; unfold bd at h9_2; have h9_3 := h_227; unfold bd at h9_3; have h9_4 := bx_244; unfold bd at h9_4; have h9_5 := h_7; unfold bd at h9_5; have h9_6 := by0_; unfold bd at h9_6; have h8_0 := kb_11; unfold bd at h8_0; omega)⟩)⟩ (g.fcts [2, 1, 0] rfl)) (cwV 2 hts (gV_ t_1301 t_1204 t_1205 t_191 t_1206) rfl rfl rfl (by decide +kernel) ⟨(Nat.le_of_ble_eq_true rfl), (Nat.le_of_ble_eq_true rfl)⟩) (pre3V g hK mq3_ kq3_ (by decide) (q := (RX7, TX7, 19)) rfl) rfl rfl hl.1 rfl (lv_room (Nat.le_of_ble_eq_true rfl)) dX2_readAssignment_57 ⟨(Nat.le_of_ble_eq_true rfl), (Nat.le_of_ble_eq_true rfl)⟩) g hK (by decide) (by decide) (fx' := [(7, 5, q3_, .ref a_243), (7, 4, q3_, .ref a_242), (8, 6, q0_, .int x_226), (8, 8, q0_, .int y0_), (0, 2, q2_, .ref q3_), (9, 2, q4_, .int x_6), (2, 15, a0_, .int x_1), (2, 0, a0_, .ref q0_), (2, 1, a0_, .ref q1_), (2, 2, a0_, .ref q2_), (2, 3, a0_, .ref q3_), (2, 4, a0_, .ref q4_), (0, 0, q2_, .ref q0_), (0, 1, q2_, .ref q1_), (5, 0, q1_, .ref q3_), (5, 1, q1_, .ref q8_)]) rfl (fun fr_245 H locs hp hMr_245 g => ?_)
          obtain ⟨hG_246, hG_247, hG_248, hx_249, x_250, h_251, hF_252⟩ := hp
          have hG_253 := eOK.frame hMr_245 go_.2.2.2.1 mq2_ kq2_ (by decide) (by decide) hG_241
          have g := g.more hF_252
          have hs_254 := jS.mv hG_240 hG_248
          refine lv_aload_n hx hb dX2_readAssignment_60 rfl (lv_at hl 2 rfl) ?_
          refine g_getk (C := RX2) (T := TX2) (N := 16) hx hb hts (mc_ inX2) hown hK g rfl 0 (by decide) rfl (hts _ (List.mem_cons_of_mem _ t_416)) (fun _ h9 => h9) 8 rfl dX2_readAssignment_61 ?_
          refine lv_bipush (v := 61) hx hb dX2_readAssignment_64 (by decide) ?_
          have go_ := g
          refine g_callv (va_runV (As := [.int 61]) (rest := []) ⟨hx, hb, hml, hown, hts⟩ (r_X8_take l dC dI L kd tys fr_245 H.size g.2.2.2.1 q0_ mq0_ kq0_ 61 y0_ by0_ (g.fcts [4] rfl)) (cwV 1 hts (gV_ t_1098 t_1099 t_1100 t_184 t_1101) rfl rfl rfl (by decide +kernel) ⟨(Nat.le_of_ble_eq_true rfl), (Nat.le_of_ble_eq_true rfl)⟩) (pre3V g hK mq0_ kq0_ (by decide) (q := (RX8, TX8, 10)) rfl) rfl rfl hl.1 rfl (lv_room (Nat.le_of_ble_eq_true rfl)) dX2_readAssignment_66 ⟨(Nat.le_of_ble_eq_true rfl), (Nat.le_of_ble_eq_true rfl)⟩) g hK (by decide) (by decide) (fx' := [(7, 6, q3_, .int x_250), (7, 5, q3_, .ref a_243), (7, 4, q3_, .ref a_242), (0, 2, q2_, .ref q3_), (9, 2, q4_, .int x_6), (2, 15, a0_, .int x_1), (2, 0, a0_, .ref q0_), (2, 1, a0_, .ref q1_), (2, 2, a0_, .ref q2_), (2, 3, a0_, .ref q3_), (2, 4, a0_, .ref q4_), (0, 0, q2_, .ref q0_), (0, 1, q2_, .ref q1_), (5, 0, q1_, .ref q3_), (5, 1, q1_, .ref q8_)]) rfl (fun fr_255 H locs hp hMr_255 g => ?_)
          rcases hp with ⟨x_256, h_257, hF_258⟩ | ⟨x_259, h_260, hF_261⟩
          · have hG_262 := cOK.frame hMr_255 go_.2.2.2.1 mq3_ kq3_ (by decide) (by decide) hG_247
            have hG_263 := dOK.frame hMr_255 go_.2.2.2.1 mq3_ kq3_ (by decide) (by decide) hG_246
            have hG_264 := jS.frame hMr_255 go_.2.2.2.1 mq3_ kq3_ (by decide) (by decide) hs_254
            have hG_265 := eOK.frame hMr_255 go_.2.2.2.1 mq2_ kq2_ (by decide) (by decide) hG_253
            have g := g.more hF_258
            refine lv_aload_n hx hb dX2_readAssignment_69 rfl (lv_at hl 2 rfl) ?_
            refine g_getk (C := RX2) (T := TX2) (N := 16) hx hb hts (mc_ inX2) hown hK g rfl 2 (by decide) rfl (hts _ (List.mem_cons_of_mem _ t_418)) (fun _ h9 => h9) 10 rfl dX2_readAssignment_70 ?_
            have go_ := g
            refine g_callv (va_runV (As := []) (rest := []) ⟨hx, hb, hml, hown, hts⟩ (r_X0_read l dC dI L kd tys fr_255 H.size g.2.2.2.1 q2_ mq2_ kq2_ q0_ mq0_ kq0_ q1_ mq1_ kq1_ q3_ mq3_ kq3_ q8_ mq8_ kq8_ y0_ by0_ T_ (fun j9 => jOK fr_255 q3_ j9) hG_265 hG_262 hG_263 (fun _ h9 => h9) (g.fcts [13, 14, 15, 16, 1] rfl)) (cwV 0 hts (gV_ t_1182 t_1183 t_1184 t_190 t_1185) rfl rfl rfl (by decide +kernel) ⟨(Nat.le_of_ble_eq_true rfl), (Nat.le_of_ble_eq_true rfl)⟩) (pre3V g hK mq2_ kq2_ (by decide) (q := (RX0, TX0, 14)) rfl) rfl rfl hl.1 rfl (lv_room (Nat.le_of_ble_eq_true rfl)) dX2_readAssignment_73 ⟨(Nat.le_of_ble_eq_true rfl), (Nat.le_of_ble_eq_true rfl)⟩) g hK (by decide) (by decide) (fx' := [(7, 5, q3_, .ref a_243), (7, 4, q3_, .ref a_242), (9, 2, q4_, .int x_6), (2, 15, a0_, .int x_1), (2, 0, a0_, .ref q0_), (2, 1, a0_, .ref q1_), (2, 2, a0_, .ref q2_), (2, 3, a0_, .ref q3_), (2, 4, a0_, .ref q4_), (0, 0, q2_, .ref q0_), (0, 1, q2_, .ref q1_), (5, 0, q1_, .ref q3_), (5, 1, q1_, .ref q8_)]) rfl (fun fr_266 H locs hp hMr_266 g => ?_)
            rcases hp with ⟨hG_267, hG_268, hG_269, hG_270, hF_271⟩ | ⟨hG_272, hG_273, x_274, h_275, x_276, h_277, hF_278⟩
            · have g := g.more hF_271
              have hs_279 := jS.mv hG_264 hG_270
              refine lv_iload_n hx hb dX2_readAssignment_76 rfl (lv_at hl 1 rfl) ?_
              refine lv_bipush (v := 16) hx hb dX2_readAssignment_77 (by decide) ?_
              have kb_16 : bd 16 16 (16 : Int32) := ⟨by decide, by decide⟩
              refine lv_icmp_lt (tgt := 98) hx hb dX2_readAssignment_79 (by decide) (fun c_280 => ?_) (fun c_280 => ?_)
              · have fc_280 := lt_f c_280
                refine lv_aload_n hx hb dX2_readAssignment_98 rfl (lv_at hl 2 rfl) ?_
                refine g_getk (C := RX2) (T := TX2) (N := 16) hx hb hts (mc_ inX2) hown hK g rfl 3 (by decide) rfl (hts _ (List.mem_cons_of_mem _ t_419)) (fun _ h9 => h9) 9 rfl dX2_readAssignment_99 ?_
                refine lv_iload_n hx hb dX2_readAssignment_102 rfl (lv_at hl 0 rfl) ?_
                refine lv_if_eq (tgt := 111) hx hb dX2_readAssignment_103 (by decide) (fun c_ => absurd c_ (by decide)) (fun c_ => ?_)
                refine lv_bipush (v := 27) hx hb dX2_readAssignment_106 (by decide) ?_
                refine lv_goto (tgt := 113) hx hb dX2_readAssignment_108 (by decide) ?_
                refine lv_aload_n hx hb dX2_readAssignment_113 rfl (lv_at hl 2 rfl) ?_
                refine g_getk (C := RX2) (T := TX2) (N := 16) hx hb hts (mc_ inX2) hown hK g rfl 4 (by decide) rfl (hts _ (List.mem_cons_of_mem _ t_420)) (fun _ h9 => h9) 10 rfl dX2_readAssignment_114 ?_
                refine lv_iload_n hx hb dX2_readAssignment_117 rfl (lv_at hl 1 rfl) ?_
                have go_ := g
                refine g_calli (va_runV (As := [.int x_1]) (rest := [.int 27, .ref q3_]) ⟨hx, hb, hml, hown, hts⟩ (r_X9_spanOf l dC dI L kd tys fr_266 H.size g.2.2.2.1 q4_ mq4_ kq4_ x_1) (cwV 1 hts (gV_ t_1401 t_1265 t_1266 t_192 t_1267) rfl rfl rfl (by decide +kernel) ⟨(Nat.le_of_ble_eq_true rfl), (Nat.le_of_ble_eq_true rfl)⟩) (pre3V g hK mq4_ kq4_ (by decide) (q := (RX9, TX9, 13)) rfl) rfl rfl hl.1 rfl (lv_room (Nat.le_of_ble_eq_true rfl)) dX2_readAssignment_118 ⟨(Nat.le_of_ble_eq_true rfl), (Nat.le_of_ble_eq_true rfl)⟩) g hK (by decide) (by decide) (fx' := [(0, 2, q2_, .ref q3_), (8, 8, q0_, .int y0_), (7, 5, q3_, .ref a_243), (7, 4, q3_, .ref a_242), (9, 2, q4_, .int x_6), (2, 15, a0_, .int x_1), (2, 0, a0_, .ref q0_), (2, 1, a0_, .ref q1_), (2, 2, a0_, .ref q2_), (2, 3, a0_, .ref q3_), (2, 4, a0_, .ref q4_), (0, 0, q2_, .ref q0_), (0, 1, q2_, .ref q1_), (5, 0, q1_, .ref q3_), (5, 1, q1_, .ref q8_)]) rfl (fun r_281 fr_281 H locs hp hMr_281 g => ?_)
                obtain ⟨h_282, -⟩ := hp
                have hG_283 := cOK.frame hMr_281 go_.2.2.2.1 mq3_ kq3_ (by decide) (by decide) hG_268
                have hG_284 := dOK.frame hMr_281 go_.2.2.2.1 mq3_ kq3_ (by decide) (by decide) hG_269
                have hG_285 := jS.frame hMr_281 go_.2.2.2.1 mq3_ kq3_ (by decide) (by decide) hs_279
                have hG_286 := eOK.frame hMr_281 go_.2.2.2.1 mq2_ kq2_ (by decide) (by decide) hG_267
                obtain ⟨x_287, bx_287, g⟩ := g_facti g mq3_ kq3_ (by decide) 6 rfl
                have kb_27 : bd 27 27 (27 : Int32) := ⟨by decide, by decide⟩
                have go_ := g
                refine g_callv (va_runV (As := [.int 27, .int r_281]) (rest := []) ⟨hx, hb, hml, hown, hts⟩ (r_X7_emitN l dC dI L kd tys fr_281 H.size g.2.2.2.1 q3_ mq3_ kq3_ a_242 ma_242 ka_242 a_243 ma_243 ka_243 x_287 bx_287 T_ hG_284 (27 : Int32) r_281 (fun j9 => jOK fr_281 q3_ j9) hG_283 (fun _ h9 => h9) ⟨(fun h9 => ⟨(by have h9_0 := h_237; unfold bd at h9_0; have h9_1 := h_282; unfold bd at h9_1; have h9_2 := b_199; unfold bd at h9_2; have h9_3 := h_202; unfold bd at h9_3; have h9_4 := h_227; unfold bd at h9_4; have h9_5 := bx_244; unfold bd at h9_5; have h9_6 := h_251; unfold bd at h9_6; have h9_7 := h_257; unfold bd at h9_7; have h9_8 := bx_287; unfold bd at h9_8; have h9_9 := h_7; unfold bd at h9_9; have h9_10 := by0_; unfold bd at h9_10; have h8_0 := kb_11; unfold bd at h8_0; have h8_1 := kb_16; unfold bd at h8_1; have h8_2 := kb_27; unfold bd at h8_2; omega), (by have h9_0 := h_237; unfold bd at h9_0; have h9_1 := h_282; unfold bd at h9_1; have h9_2 := b_199; unfold bd at h9_2; have h9_3 := h_202; unfold bd at h9_3; have h9_4 := h_227; unfold bd at h9_4; have h9_5 := bx_244; unfold bd at h9_5; have h9_6 := h_251; unfold bd at h9_6; have h9_7 := h_257; unfold bd at h9_7; have h9_8 := bx_287; unfold bd at h9_8; have h9_9 := h_7; unfold bd at h9_9; have h9_10 := by0_; unfold bd at h9_10; have h8_0 := kb_11; unfold bd at h8_0; have h8_1 := kb_16; unfold bd at h8_1; have h8_2 := kb_27; unfold bd at h8_2; omega)⟩), (fun h9 => ⟨(by have h9_0 := h_237; unfold bd at h9_0; have h9_1 := h_282; unfold bd at h9_1; have h9_2 := b_199; unfold bd at h9_2; have h9_3 := h_202; unfold bd at h9_3; have h9_4 := h_227; unfold bd at h9_4; have h9_5 := bx_244; unfold bd at h9_5; have h9_6 := h_251; unfold bd at h9_6; have h9_7 := h_257; unfold bd at h9_7; have h9_8 := bx_287; unfold bd at h9_8; have h9_9 := h_7; unfold bd at h9_9; have h9_10 := by0_; unfold bd at h9_10; have h8_0 := kb_11; unfold bd at h8_0; have h8_1 := kb_16; unfold bd at h8_1; have h8_2 := kb_27; unfold bd at h8_2; omega), (by have h9_0 := h_237; unfold bd at h9_0; have h9_1 := h_282; unfold bd at h9_1; have h9_2 := b_199; unfold bd at h9_2; have h9_3 := h_202; unfold bd at h9_3; have h9_4 := h_227; unfold bd at h9_4; have h9_5 := bx_244; unfold bd at h9_5; have h9_6 := h_251; unfold bd at h9_6; have h9_7 := h_257; unfold bd at h9_7; have h9_8 := bx_287; unfold bd at h9_8; have h9_9 := h_7; unfold bd at h9_9; have h9_10 := by0_; unfold bd at h9_10; have h8_0 := kb_11; unfold bd at h8_0; have h8_1 := kb_16; unfold bd at h8_1; have h8_2 := kb_27; unfold bd at h8_2; omega)⟩), (fun h9 => ⟨(by have h9_0 := h_237; unfold bd at h9_0; have h9_1 := h_282; unfold bd at h9_1; have h9_2 := b_199; unfold bd at h9_2; have h9_3 := h_202; unfold bd at h9_3; have h9_4 := h_227; unfold bd at h9_4; have h9_5 := bx_244; unfold bd at h9_5; have h9_6 := h_251; unfold bd at h9_6; have h9_7 := h_257; unfold bd at h9_7; have h9_8 := bx_287; unfold bd at h9_8; have h9_9 := h_7; unfold bd at h9_9; have h9_10 := by0_; unfold bd at h9_10; have h8_0 := kb_11; unfold bd at h8_0; have h8_1 := kb_16; unfold bd at h8_1; have h8_2 := kb_27; unfold bd at h8_2; omega), (by have h9_0 := h_237; unfold bd at h9_0; have h9_1 := h_282; unfold bd at h9_1; have h9_2 := b_199; unfold bd at h9_2; have h9_3 := h_202; unfold bd at h9_3; have h9_4 := h_227; unfold bd at h9_4; have h9_5 := bx_244; unfold bd at h9_5; have h9_6 := h_251; unfold bd at h9_6; have h9_7 := h_257; unfold bd at h9_7; have h9_8 := bx_287; unfold bd at h9_8; have h9_9 := h_7; unfold bd at h9_9; have h9_10 := by0_; unfold bd at h9_10; have h8_0 := kb_11; unfold bd at h8_0; have h8_1 := kb_16; unfold bd at h8_1; have h8_2 := kb_27; unfold bd at h8_2; omega)⟩)⟩ (g.fcts [4, 3, 0] rfl)) (cwV 2 hts (gV_ t_1301 t_1204 t_1205 t_191 t_1206) rfl rfl rfl (by decide +kernel) ⟨(Nat.le_of_ble_eq_true rfl), (Nat.le_of_ble_eq_true rfl)⟩) (pre3V g hK mq3_ kq3_ (by decide) (q := (RX7, TX7, 19)) rfl) rfl rfl hl.1 rfl (lv_room (Nat.le_of_ble_eq_true rfl)) dX2_readAssignment_121 ⟨(Nat.le_of_ble_eq_true rfl), (Nat.le_of_ble_eq_true rfl)⟩) g hK (by decide) (by decide) (fx' := [(0, 2, q2_, .ref q3_), (8, 8, q0_, .int y0_), (7, 5, q3_, .ref a_243), (7, 4, q3_, .ref a_242), (9, 2, q4_, .int x_6), (2, 15, a0_, .int x_1), (2, 0, a0_, .ref q0_), (2, 1, a0_, .ref q1_), (2, 2, a0_, .ref q2_), (2, 3, a0_, .ref q3_), (2, 4, a0_, .ref q4_), (0, 0, q2_, .ref q0_), (0, 1, q2_, .ref q1_), (5, 0, q1_, .ref q3_), (5, 1, q1_, .ref q8_)]) rfl (fun fr_288 H locs hp hMr_288 g => ?_)
                obtain ⟨hG_289, hG_290, hG_291, hx_292, x_293, h_294, hF_295⟩ := hp
                have hG_296 := eOK.frame hMr_288 go_.2.2.2.1 mq2_ kq2_ (by decide) (by decide) hG_286
                have g := g.more hF_295
                have hs_297 := jS.mv hG_285 hG_291
                refine lv_aload_n hx hb dX2_readAssignment_124 rfl (lv_at hl 2 rfl) ?_
                refine g_getk (C := RX2) (T := TX2) (N := 16) hx hb hts (mc_ inX2) hown hK g rfl 0 (by decide) rfl (hts _ (List.mem_cons_of_mem _ t_416)) (fun _ h9 => h9) 7 rfl dX2_readAssignment_125 ?_
                refine lv_bipush (v := 59) hx hb dX2_readAssignment_128 (by decide) ?_
                have go_ := g
                refine g_callv (va_runV (As := [.int 59]) (rest := []) ⟨hx, hb, hml, hown, hts⟩ (r_X8_take l dC dI L kd tys fr_288 H.size g.2.2.2.1 q0_ mq0_ kq0_ 59 y0_ by0_ (g.fcts [2] rfl)) (cwV 1 hts (gV_ t_1098 t_1099 t_1100 t_184 t_1101) rfl rfl rfl (by decide +kernel) ⟨(Nat.le_of_ble_eq_true rfl), (Nat.le_of_ble_eq_true rfl)⟩) (pre3V g hK mq0_ kq0_ (by decide) (q := (RX8, TX8, 10)) rfl) rfl rfl hl.1 rfl (lv_room (Nat.le_of_ble_eq_true rfl)) dX2_readAssignment_130 ⟨(Nat.le_of_ble_eq_true rfl), (Nat.le_of_ble_eq_true rfl)⟩) g hK (by decide) (by decide) (fx' := [(7, 6, q3_, .int x_293), (0, 2, q2_, .ref q3_), (7, 5, q3_, .ref a_243), (7, 4, q3_, .ref a_242), (9, 2, q4_, .int x_6), (2, 15, a0_, .int x_1), (2, 0, a0_, .ref q0_), (2, 1, a0_, .ref q1_), (2, 2, a0_, .ref q2_), (2, 3, a0_, .ref q3_), (2, 4, a0_, .ref q4_), (0, 0, q2_, .ref q0_), (0, 1, q2_, .ref q1_), (5, 0, q1_, .ref q3_), (5, 1, q1_, .ref q8_)]) rfl (fun fr_298 H locs hp hMr_298 g => ?_)
                rcases hp with ⟨x_299, h_300, hF_301⟩ | ⟨x_302, h_303, hF_304⟩
                · have hG_305 := cOK.frame hMr_298 go_.2.2.2.1 mq3_ kq3_ (by decide) (by decide) hG_290
                  have hG_306 := dOK.frame hMr_298 go_.2.2.2.1 mq3_ kq3_ (by decide) (by decide) hG_289
                  have hG_307 := jS.frame hMr_298 go_.2.2.2.1 mq3_ kq3_ (by decide) (by decide) hs_297
                  have hG_308 := eOK.frame hMr_298 go_.2.2.2.1 mq2_ kq2_ (by decide) (by decide) hG_296
                  have g := g.more hF_301
                  subst hQ
                  exact W.vret hx hb hr (fun t ht hW => ⟨⟨_, rfl, Or.inl ⟨hG_305, hG_306, hG_307, hG_308, x_299, h_300, (g.fcts [0, 1, 3] rfl)⟩, q3_of g hK ht hW⟩, g.2.2.1.F ht⟩) g.2.2.1.2.2 dX2_readAssignment_133
                · have hG_309 := cOK.frame hMr_298 go_.2.2.2.1 mq3_ kq3_ (by decide) (by decide) hG_290
                  have hG_310 := dOK.frame hMr_298 go_.2.2.2.1 mq3_ kq3_ (by decide) (by decide) hG_289
                  have hG_311 := jS.frame hMr_298 go_.2.2.2.1 mq3_ kq3_ (by decide) (by decide) hs_297
                  have hG_312 := eOK.frame hMr_298 go_.2.2.2.1 mq2_ kq2_ (by decide) (by decide) hG_296
                  have g := g.more hF_304
                  have kb_1201 : bd 1201 1201 (1201 : Int32) := ⟨by decide, by decide⟩
                  subst hQ
                  exact W.vret hx hb hr (fun t ht hW => ⟨⟨_, rfl, Or.inr (⟨hG_310, hG_312, 1201, kb_1201, x_302, h_303, (g.fcts [0, 1, 3] rfl)⟩), q3_of g hK ht hW⟩, g.2.2.1.F ht⟩) g.2.2.1.2.2 dX2_readAssignment_133
              · have fc_280 := nlt_f c_280
                have b_313 : bd 16 9 (16 : Int32) := leL fc_280 kb_16 b_199 (by decide)
                exact bd_no (eqX rfl b_313 kb_16 (lo := 16) (hi := 9) (by decide)) (by decide)
            · have g := g.more hF_278
              refine lv_iload_n hx hb dX2_readAssignment_76 rfl (lv_at hl 1 rfl) ?_
              refine lv_bipush (v := 16) hx hb dX2_readAssignment_77 (by decide) ?_
              have kb_16 : bd 16 16 (16 : Int32) := ⟨by decide, by decide⟩
              refine lv_icmp_lt (tgt := 98) hx hb dX2_readAssignment_79 (by decide) (fun c_314 => ?_) (fun c_314 => ?_)
              · have fc_314 := lt_f c_314
                refine lv_aload_n hx hb dX2_readAssignment_98 rfl (lv_at hl 2 rfl) ?_
                refine g_getk (C := RX2) (T := TX2) (N := 16) hx hb hts (mc_ inX2) hown hK g rfl 3 (by decide) rfl (hts _ (List.mem_cons_of_mem _ t_419)) (fun _ h9 => h9) 10 rfl dX2_readAssignment_99 ?_
                refine lv_iload_n hx hb dX2_readAssignment_102 rfl (lv_at hl 0 rfl) ?_
                refine lv_if_eq (tgt := 111) hx hb dX2_readAssignment_103 (by decide) (fun c_ => absurd c_ (by decide)) (fun c_ => ?_)
                refine lv_bipush (v := 27) hx hb dX2_readAssignment_106 (by decide) ?_
                refine lv_goto (tgt := 113) hx hb dX2_readAssignment_108 (by decide) ?_
                refine lv_aload_n hx hb dX2_readAssignment_113 rfl (lv_at hl 2 rfl) ?_
                refine g_getk (C := RX2) (T := TX2) (N := 16) hx hb hts (mc_ inX2) hown hK g rfl 4 (by decide) rfl (hts _ (List.mem_cons_of_mem _ t_420)) (fun _ h9 => h9) 11 rfl dX2_readAssignment_114 ?_
                refine lv_iload_n hx hb dX2_readAssignment_117 rfl (lv_at hl 1 rfl) ?_
                have go_ := g
                refine g_calli (va_runV (As := [.int x_1]) (rest := [.int 27, .ref q3_]) ⟨hx, hb, hml, hown, hts⟩ (r_X9_spanOf l dC dI L kd tys fr_266 H.size g.2.2.2.1 q4_ mq4_ kq4_ x_1) (cwV 1 hts (gV_ t_1401 t_1265 t_1266 t_192 t_1267) rfl rfl rfl (by decide +kernel) ⟨(Nat.le_of_ble_eq_true rfl), (Nat.le_of_ble_eq_true rfl)⟩) (pre3V g hK mq4_ kq4_ (by decide) (q := (RX9, TX9, 13)) rfl) rfl rfl hl.1 rfl (lv_room (Nat.le_of_ble_eq_true rfl)) dX2_readAssignment_118 ⟨(Nat.le_of_ble_eq_true rfl), (Nat.le_of_ble_eq_true rfl)⟩) g hK (by decide) (by decide) (fx' := [(8, 6, q0_, .int x_274), (8, 8, q0_, .int x_276), (0, 2, q2_, .ref q3_), (7, 5, q3_, .ref a_243), (7, 4, q3_, .ref a_242), (9, 2, q4_, .int x_6), (2, 15, a0_, .int x_1), (2, 0, a0_, .ref q0_), (2, 1, a0_, .ref q1_), (2, 2, a0_, .ref q2_), (2, 3, a0_, .ref q3_), (2, 4, a0_, .ref q4_), (0, 0, q2_, .ref q0_), (0, 1, q2_, .ref q1_), (5, 0, q1_, .ref q3_), (5, 1, q1_, .ref q8_)]) rfl (fun r_315 fr_315 H locs hp hMr_315 g => ?_)
                obtain ⟨h_316, -⟩ := hp
                have hG_317 := dOK.frame hMr_315 go_.2.2.2.1 mq3_ kq3_ (by decide) (by decide) hG_273
                have hG_318 := eOK.frame hMr_315 go_.2.2.2.1 mq2_ kq2_ (by decide) (by decide) hG_272
                obtain ⟨x_319, bx_319, g⟩ := g_facti g mq3_ kq3_ (by decide) 6 rfl
                have go_ := g
                refine g_callv (va_runV (As := [.int 27, .int r_315]) (rest := []) ⟨hx, hb, hml, hown, hts⟩ (r_X7_emitF l dC dI L kd tys fr_315 H.size g.2.2.2.1 q3_ mq3_ kq3_ a_242 ma_242 ka_242 a_243 ma_243 ka_243 x_319 bx_319 T_ hG_317 (27 : Int32) r_315 (g.fcts [5, 4, 0] rfl)) (cwV 2 hts (gV_ t_1301 t_1204 t_1205 t_191 t_1206) rfl rfl rfl (by decide +kernel) ⟨(Nat.le_of_ble_eq_true rfl), (Nat.le_of_ble_eq_true rfl)⟩) (pre3V g hK mq3_ kq3_ (by decide) (q := (RX7, TX7, 19)) rfl) rfl rfl hl.1 rfl (lv_room (Nat.le_of_ble_eq_true rfl)) dX2_readAssignment_121 ⟨(Nat.le_of_ble_eq_true rfl), (Nat.le_of_ble_eq_true rfl)⟩) g hK (by decide) (by decide) (fx' := [(8, 6, q0_, .int x_274), (8, 8, q0_, .int x_276), (0, 2, q2_, .ref q3_), (7, 5, q3_, .ref a_243), (7, 4, q3_, .ref a_242), (9, 2, q4_, .int x_6), (2, 15, a0_, .int x_1), (2, 0, a0_, .ref q0_), (2, 1, a0_, .ref q1_), (2, 2, a0_, .ref q2_), (2, 3, a0_, .ref q3_), (2, 4, a0_, .ref q4_), (0, 0, q2_, .ref q0_), (0, 1, q2_, .ref q1_), (5, 0, q1_, .ref q3_), (5, 1, q1_, .ref q8_)]) rfl (fun fr_320 H locs hp hMr_320 g => ?_)
                obtain ⟨hG_321, x_322, h_323, hF_324⟩ := hp
                have hG_325 := eOK.frame hMr_320 go_.2.2.2.1 mq2_ kq2_ (by decide) (by decide) hG_318
                have g := g.more hF_324
                refine lv_aload_n hx hb dX2_readAssignment_124 rfl (lv_at hl 2 rfl) ?_
                refine g_getk (C := RX2) (T := TX2) (N := 16) hx hb hts (mc_ inX2) hown hK g rfl 0 (by decide) rfl (hts _ (List.mem_cons_of_mem _ t_416)) (fun _ h9 => h9) 8 rfl dX2_readAssignment_125 ?_
                refine lv_bipush (v := 59) hx hb dX2_readAssignment_128 (by decide) ?_
                have go_ := g
                refine g_callv (va_runV (As := [.int 59]) (rest := []) ⟨hx, hb, hml, hown, hts⟩ (r_X8_take_2 l dC dI L kd tys fr_320 H.size g.2.2.2.1 q0_ mq0_ kq0_ 59 x_274 h_275 x_276 h_277 (g.fcts [1, 2] rfl)) (cwV 1 hts (gV_ t_1098 t_1099 t_1100 t_184 t_1101) rfl rfl rfl (by decide +kernel) ⟨(Nat.le_of_ble_eq_true rfl), (Nat.le_of_ble_eq_true rfl)⟩) (pre3V g hK mq0_ kq0_ (by decide) (q := (RX8, TX8, 10)) rfl) rfl rfl hl.1 rfl (lv_room (Nat.le_of_ble_eq_true rfl)) dX2_readAssignment_130 ⟨(Nat.le_of_ble_eq_true rfl), (Nat.le_of_ble_eq_true rfl)⟩) g hK (by decide) (by decide) (fx' := [(7, 6, q3_, .int x_322), (8, 8, q0_, .int x_276), (0, 2, q2_, .ref q3_), (7, 5, q3_, .ref a_243), (7, 4, q3_, .ref a_242), (9, 2, q4_, .int x_6), (2, 15, a0_, .int x_1), (2, 0, a0_, .ref q0_), (2, 1, a0_, .ref q1_), (2, 2, a0_, .ref q2_), (2, 3, a0_, .ref q3_), (2, 4, a0_, .ref q4_), (0, 0, q2_, .ref q0_), (0, 1, q2_, .ref q1_), (5, 0, q1_, .ref q3_), (5, 1, q1_, .ref q8_)]) rfl (fun fr_326 H locs hp hMr_326 g => ?_)
                obtain ⟨x_327, h_328, hF_329⟩ := hp
                have hG_330 := dOK.frame hMr_326 go_.2.2.2.1 mq3_ kq3_ (by decide) (by decide) hG_321
                have hG_331 := eOK.frame hMr_326 go_.2.2.2.1 mq2_ kq2_ (by decide) (by decide) hG_325
                have g := g.more hF_329
                subst hQ
                exact W.vret hx hb hr (fun t ht hW => ⟨⟨_, rfl, Or.inr (⟨hG_330, hG_331, x_327, h_328, x_276, h_277, (g.fcts [0, 2, 3] rfl)⟩), q3_of g hK ht hW⟩, g.2.2.1.F ht⟩) g.2.2.1.2.2 dX2_readAssignment_133
              · have fc_314 := nlt_f c_314
                have b_332 : bd 16 9 (16 : Int32) := leL fc_314 kb_16 b_199 (by decide)
                exact bd_no (eqX rfl b_332 kb_16 (lo := 16) (hi := 9) (by decide)) (by decide)
          · have hG_333 := cOK.frame hMr_255 go_.2.2.2.1 mq3_ kq3_ (by decide) (by decide) hG_247
            have hG_334 := dOK.frame hMr_255 go_.2.2.2.1 mq3_ kq3_ (by decide) (by decide) hG_246
            have hG_335 := jS.frame hMr_255 go_.2.2.2.1 mq3_ kq3_ (by decide) (by decide) hs_254
            have hG_336 := eOK.frame hMr_255 go_.2.2.2.1 mq2_ kq2_ (by decide) (by decide) hG_253
            have g := g.more hF_261
            refine lv_aload_n hx hb dX2_readAssignment_69 rfl (lv_at hl 2 rfl) ?_
            refine g_getk (C := RX2) (T := TX2) (N := 16) hx hb hts (mc_ inX2) hown hK g rfl 2 (by decide) rfl (hts _ (List.mem_cons_of_mem _ t_418)) (fun _ h9 => h9) 10 rfl dX2_readAssignment_70 ?_
            have kb_1201 : bd 1201 1201 (1201 : Int32) := ⟨by decide, by decide⟩
            have go_ := g
            refine g_callv (va_runV (As := []) (rest := []) ⟨hx, hb, hml, hown, hts⟩ (r_X0_read_2 l dC dI L kd tys fr_255 H.size g.2.2.2.1 q2_ mq2_ kq2_ q0_ mq0_ kq0_ q1_ mq1_ kq1_ q3_ mq3_ kq3_ q8_ mq8_ kq8_ 1201 kb_1201 x_259 h_260 T_ hG_336 hG_334 (g.fcts [13, 14, 15, 16, 0, 1] rfl)) (cwV 0 hts (gV_ t_1182 t_1183 t_1184 t_190 t_1185) rfl rfl rfl (by decide +kernel) ⟨(Nat.le_of_ble_eq_true rfl), (Nat.le_of_ble_eq_true rfl)⟩) (pre3V g hK mq2_ kq2_ (by decide) (q := (RX0, TX0, 14)) rfl) rfl rfl hl.1 rfl (lv_room (Nat.le_of_ble_eq_true rfl)) dX2_readAssignment_73 ⟨(Nat.le_of_ble_eq_true rfl), (Nat.le_of_ble_eq_true rfl)⟩) g hK (by decide) (by decide) (fx' := [(8, 6, q0_, .int 1201), (8, 8, q0_, .int x_259), (7, 6, q3_, .int x_250), (7, 5, q3_, .ref a_243), (7, 4, q3_, .ref a_242), (9, 2, q4_, .int x_6), (2, 15, a0_, .int x_1), (2, 0, a0_, .ref q0_), (2, 1, a0_, .ref q1_), (2, 2, a0_, .ref q2_), (2, 3, a0_, .ref q3_), (2, 4, a0_, .ref q4_), (0, 0, q2_, .ref q0_), (0, 1, q2_, .ref q1_), (5, 0, q1_, .ref q3_), (5, 1, q1_, .ref q8_)]) rfl (fun fr_337 H locs hp hMr_337 g => ?_)
            have hF_338 := hp
            have hG_339 := cOK.frame hMr_337 go_.2.2.2.1 mq3_ kq3_ (by decide) (by decide) hG_333
            have hG_340 := dOK.frame hMr_337 go_.2.2.2.1 mq3_ kq3_ (by decide) (by decide) hG_334
            have hG_341 := jS.frame hMr_337 go_.2.2.2.1 mq3_ kq3_ (by decide) (by decide) hG_335
            have hG_342 := eOK.frame hMr_337 go_.2.2.2.1 mq2_ kq2_ (by decide) (by decide) hG_336
            have g := g.more hF_338
            refine lv_iload_n hx hb dX2_readAssignment_76 rfl (lv_at hl 1 rfl) ?_
            refine lv_bipush (v := 16) hx hb dX2_readAssignment_77 (by decide) ?_
            have kb_16 : bd 16 16 (16 : Int32) := ⟨by decide, by decide⟩
            refine lv_icmp_lt (tgt := 98) hx hb dX2_readAssignment_79 (by decide) (fun c_343 => ?_) (fun c_343 => ?_)
            · have fc_343 := lt_f c_343
              refine lv_aload_n hx hb dX2_readAssignment_98 rfl (lv_at hl 2 rfl) ?_
              refine g_getk (C := RX2) (T := TX2) (N := 16) hx hb hts (mc_ inX2) hown hK g rfl 3 (by decide) rfl (hts _ (List.mem_cons_of_mem _ t_419)) (fun _ h9 => h9) 16 rfl dX2_readAssignment_99 ?_
              refine lv_iload_n hx hb dX2_readAssignment_102 rfl (lv_at hl 0 rfl) ?_
              refine lv_if_eq (tgt := 111) hx hb dX2_readAssignment_103 (by decide) (fun c_ => absurd c_ (by decide)) (fun c_ => ?_)
              refine lv_bipush (v := 27) hx hb dX2_readAssignment_106 (by decide) ?_
              refine lv_goto (tgt := 113) hx hb dX2_readAssignment_108 (by decide) ?_
              refine lv_aload_n hx hb dX2_readAssignment_113 rfl (lv_at hl 2 rfl) ?_
              refine g_getk (C := RX2) (T := TX2) (N := 16) hx hb hts (mc_ inX2) hown hK g rfl 4 (by decide) rfl (hts _ (List.mem_cons_of_mem _ t_420)) (fun _ h9 => h9) 17 rfl dX2_readAssignment_114 ?_
              refine lv_iload_n hx hb dX2_readAssignment_117 rfl (lv_at hl 1 rfl) ?_
              have go_ := g
              refine g_calli (va_runV (As := [.int x_1]) (rest := [.int 27, .ref q3_]) ⟨hx, hb, hml, hown, hts⟩ (r_X9_spanOf l dC dI L kd tys fr_337 H.size g.2.2.2.1 q4_ mq4_ kq4_ x_1) (cwV 1 hts (gV_ t_1401 t_1265 t_1266 t_192 t_1267) rfl rfl rfl (by decide +kernel) ⟨(Nat.le_of_ble_eq_true rfl), (Nat.le_of_ble_eq_true rfl)⟩) (pre3V g hK mq4_ kq4_ (by decide) (q := (RX9, TX9, 13)) rfl) rfl rfl hl.1 rfl (lv_room (Nat.le_of_ble_eq_true rfl)) dX2_readAssignment_118 ⟨(Nat.le_of_ble_eq_true rfl), (Nat.le_of_ble_eq_true rfl)⟩) g hK (by decide) (by decide) (fx' := [(0, 13, q2_, .int 0), (0, 12, q2_, .int 1), (0, 11, q2_, .int 0), (0, 10, q2_, .int 0), (0, 8, q2_, .int 0), (0, 2, q2_, .ref q3_), (8, 6, q0_, .int 1201), (8, 8, q0_, .int x_259), (7, 6, q3_, .int x_250), (7, 5, q3_, .ref a_243), (7, 4, q3_, .ref a_242), (9, 2, q4_, .int x_6), (2, 15, a0_, .int x_1), (2, 0, a0_, .ref q0_), (2, 1, a0_, .ref q1_), (2, 2, a0_, .ref q2_), (2, 3, a0_, .ref q3_), (2, 4, a0_, .ref q4_), (0, 0, q2_, .ref q0_), (0, 1, q2_, .ref q1_), (5, 0, q1_, .ref q3_), (5, 1, q1_, .ref q8_)]) rfl (fun r_344 fr_344 H locs hp hMr_344 g => ?_)
              obtain ⟨h_345, -⟩ := hp
              have hG_346 := cOK.frame hMr_344 go_.2.2.2.1 mq3_ kq3_ (by decide) (by decide) hG_339
              have hG_347 := dOK.frame hMr_344 go_.2.2.2.1 mq3_ kq3_ (by decide) (by decide) hG_340
              have hG_348 := jS.frame hMr_344 go_.2.2.2.1 mq3_ kq3_ (by decide) (by decide) hG_341
              have hG_349 := eOK.frame hMr_344 go_.2.2.2.1 mq2_ kq2_ (by decide) (by decide) hG_342
              have go_ := g
              refine g_callv (va_runV (As := [.int 27, .int r_344]) (rest := []) ⟨hx, hb, hml, hown, hts⟩ (r_X7_emitF l dC dI L kd tys fr_344 H.size g.2.2.2.1 q3_ mq3_ kq3_ a_242 ma_242 ka_242 a_243 ma_243 ka_243 x_250 h_251 T_ hG_347 (27 : Int32) r_344 (g.fcts [10, 9, 8] rfl)) (cwV 2 hts (gV_ t_1301 t_1204 t_1205 t_191 t_1206) rfl rfl rfl (by decide +kernel) ⟨(Nat.le_of_ble_eq_true rfl), (Nat.le_of_ble_eq_true rfl)⟩) (pre3V g hK mq3_ kq3_ (by decide) (q := (RX7, TX7, 19)) rfl) rfl rfl hl.1 rfl (lv_room (Nat.le_of_ble_eq_true rfl)) dX2_readAssignment_121 ⟨(Nat.le_of_ble_eq_true rfl), (Nat.le_of_ble_eq_true rfl)⟩) g hK (by decide) (by decide) (fx' := [(0, 13, q2_, .int 0), (0, 12, q2_, .int 1), (0, 11, q2_, .int 0), (0, 10, q2_, .int 0), (0, 8, q2_, .int 0), (0, 2, q2_, .ref q3_), (8, 6, q0_, .int 1201), (8, 8, q0_, .int x_259), (7, 5, q3_, .ref a_243), (7, 4, q3_, .ref a_242), (9, 2, q4_, .int x_6), (2, 15, a0_, .int x_1), (2, 0, a0_, .ref q0_), (2, 1, a0_, .ref q1_), (2, 2, a0_, .ref q2_), (2, 3, a0_, .ref q3_), (2, 4, a0_, .ref q4_), (0, 0, q2_, .ref q0_), (0, 1, q2_, .ref q1_), (5, 0, q1_, .ref q3_), (5, 1, q1_, .ref q8_)]) rfl (fun fr_350 H locs hp hMr_350 g => ?_)
              obtain ⟨hG_351, x_352, h_353, hF_354⟩ := hp
              have hG_355 := eOK.frame hMr_350 go_.2.2.2.1 mq2_ kq2_ (by decide) (by decide) hG_349
              have g := g.more hF_354
              refine lv_aload_n hx hb dX2_readAssignment_124 rfl (lv_at hl 2 rfl) ?_
              refine g_getk (C := RX2) (T := TX2) (N := 16) hx hb hts (mc_ inX2) hown hK g rfl 0 (by decide) rfl (hts _ (List.mem_cons_of_mem _ t_416)) (fun _ h9 => h9) 13 rfl dX2_readAssignment_125 ?_
              refine lv_bipush (v := 59) hx hb dX2_readAssignment_128 (by decide) ?_
              have go_ := g
              refine g_callv (va_runV (As := [.int 59]) (rest := []) ⟨hx, hb, hml, hown, hts⟩ (r_X8_take_2 l dC dI L kd tys fr_350 H.size g.2.2.2.1 q0_ mq0_ kq0_ 59 1201 kb_1201 x_259 h_260 (g.fcts [7, 8] rfl)) (cwV 1 hts (gV_ t_1098 t_1099 t_1100 t_184 t_1101) rfl rfl rfl (by decide +kernel) ⟨(Nat.le_of_ble_eq_true rfl), (Nat.le_of_ble_eq_true rfl)⟩) (pre3V g hK mq0_ kq0_ (by decide) (q := (RX8, TX8, 10)) rfl) rfl rfl hl.1 rfl (lv_room (Nat.le_of_ble_eq_true rfl)) dX2_readAssignment_130 ⟨(Nat.le_of_ble_eq_true rfl), (Nat.le_of_ble_eq_true rfl)⟩) g hK (by decide) (by decide) (fx' := [(7, 6, q3_, .int x_352), (0, 13, q2_, .int 0), (0, 12, q2_, .int 1), (0, 11, q2_, .int 0), (0, 10, q2_, .int 0), (0, 8, q2_, .int 0), (0, 2, q2_, .ref q3_), (8, 8, q0_, .int x_259), (7, 5, q3_, .ref a_243), (7, 4, q3_, .ref a_242), (9, 2, q4_, .int x_6), (2, 15, a0_, .int x_1), (2, 0, a0_, .ref q0_), (2, 1, a0_, .ref q1_), (2, 2, a0_, .ref q2_), (2, 3, a0_, .ref q3_), (2, 4, a0_, .ref q4_), (0, 0, q2_, .ref q0_), (0, 1, q2_, .ref q1_), (5, 0, q1_, .ref q3_), (5, 1, q1_, .ref q8_)]) rfl (fun fr_356 H locs hp hMr_356 g => ?_)
              obtain ⟨x_357, h_358, hF_359⟩ := hp
              have hG_360 := dOK.frame hMr_356 go_.2.2.2.1 mq3_ kq3_ (by decide) (by decide) hG_351
              have hG_361 := eOK.frame hMr_356 go_.2.2.2.1 mq2_ kq2_ (by decide) (by decide) hG_355
              have g := g.more hF_359
              subst hQ
              exact W.vret hx hb hr (fun t ht hW => ⟨⟨_, rfl, Or.inr (⟨hG_360, hG_361, x_357, h_358, x_259, h_260, (g.fcts [0, 8, 7] rfl)⟩), q3_of g hK ht hW⟩, g.2.2.1.F ht⟩) g.2.2.1.2.2 dX2_readAssignment_133
            · have fc_343 := nlt_f c_343
              have b_362 : bd 16 9 (16 : Int32) := leL fc_343 kb_16 b_199 (by decide)
              exact bd_no (eqX rfl b_362 kb_16 (lo := 16) (hi := 9) (by decide)) (by decide)
        · have hG_363 := cOK.frame hMr_225 go_.2.2.2.1 mq3_ kq3_ (by decide) (by decide) hG_213
          have hG_364 := dOK.frame hMr_225 go_.2.2.2.1 mq3_ kq3_ (by decide) (by decide) hG_214
          have hG_365 := jS.frame hMr_225 go_.2.2.2.1 mq3_ kq3_ (by decide) (by decide) hs_224
          have hG_366 := eOK.frame hMr_225 go_.2.2.2.1 mq2_ kq2_ (by decide) (by decide) hG_212
          have g := g.more hF_231
          refine lv_aload_n hx hb dX2_readAssignment_43 rfl (lv_at hl 2 rfl) ?_
          refine g_getk (C := RX2) (T := TX2) (N := 16) hx hb hts (mc_ inX2) hown hK g rfl 3 (by decide) rfl (hts _ (List.mem_cons_of_mem _ t_419)) (fun _ h9 => h9) 8 rfl dX2_readAssignment_44 ?_
          refine lv_bipush (v := 11) hx hb dX2_readAssignment_47 (by decide) ?_
          refine lv_aload_n hx hb dX2_readAssignment_49 rfl (lv_at hl 2 rfl) ?_
          refine g_getk (C := RX2) (T := TX2) (N := 16) hx hb hts (mc_ inX2) hown hK g rfl 4 (by decide) rfl (hts _ (List.mem_cons_of_mem _ t_420)) (fun _ h9 => h9) 9 rfl dX2_readAssignment_50 ?_
          refine lv_iload_n hx hb dX2_readAssignment_53 rfl (lv_at hl 1 rfl) ?_
          have go_ := g
          refine g_calli (va_runV (As := [.int x_1]) (rest := [.int 11, .ref q3_]) ⟨hx, hb, hml, hown, hts⟩ (r_X9_spanOf l dC dI L kd tys fr_225 H.size g.2.2.2.1 q4_ mq4_ kq4_ x_1) (cwV 1 hts (gV_ t_1401 t_1265 t_1266 t_192 t_1267) rfl rfl rfl (by decide +kernel) ⟨(Nat.le_of_ble_eq_true rfl), (Nat.le_of_ble_eq_true rfl)⟩) (pre3V g hK mq4_ kq4_ (by decide) (q := (RX9, TX9, 13)) rfl) rfl rfl hl.1 rfl (lv_room (Nat.le_of_ble_eq_true rfl)) dX2_readAssignment_54 ⟨(Nat.le_of_ble_eq_true rfl), (Nat.le_of_ble_eq_true rfl)⟩) g hK (by decide) (by decide) (fx' := [(8, 6, q0_, .int 1201), (8, 8, q0_, .int x_229), (0, 2, q2_, .ref q3_), (9, 2, q4_, .int x_6), (2, 15, a0_, .int x_1), (2, 0, a0_, .ref q0_), (2, 1, a0_, .ref q1_), (2, 2, a0_, .ref q2_), (2, 3, a0_, .ref q3_), (2, 4, a0_, .ref q4_), (0, 0, q2_, .ref q0_), (0, 1, q2_, .ref q1_), (5, 0, q1_, .ref q3_), (5, 1, q1_, .ref q8_)]) rfl (fun r_367 fr_367 H locs hp hMr_367 g => ?_)
          obtain ⟨h_368, -⟩ := hp
          have hG_369 := cOK.frame hMr_367 go_.2.2.2.1 mq3_ kq3_ (by decide) (by decide) hG_363
          have hG_370 := dOK.frame hMr_367 go_.2.2.2.1 mq3_ kq3_ (by decide) (by decide) hG_364
          have hG_371 := jS.frame hMr_367 go_.2.2.2.1 mq3_ kq3_ (by decide) (by decide) hG_365
          have hG_372 := eOK.frame hMr_367 go_.2.2.2.1 mq2_ kq2_ (by decide) (by decide) hG_366
          obtain ⟨a_373, ma_373, ka_373, g⟩ := g_factr g mq3_ kq3_ (by decide) 4 rfl
          obtain ⟨a_374, ma_374, ka_374, g⟩ := g_factr g mq3_ kq3_ (by decide) 5 rfl
          obtain ⟨x_375, bx_375, g⟩ := g_facti g mq3_ kq3_ (by decide) 6 rfl
          have go_ := g
          refine g_callv (va_runV (As := [.int 11, .int r_367]) (rest := []) ⟨hx, hb, hml, hown, hts⟩ (r_X7_emitF l dC dI L kd tys fr_367 H.size g.2.2.2.1 q3_ mq3_ kq3_ a_373 ma_373 ka_373 a_374 ma_374 ka_374 x_375 bx_375 T_ hG_370 (11 : Int32) r_367 (g.fcts [2, 1, 0] rfl)) (cwV 2 hts (gV_ t_1301 t_1204 t_1205 t_191 t_1206) rfl rfl rfl (by decide +kernel) ⟨(Nat.le_of_ble_eq_true rfl), (Nat.le_of_ble_eq_true rfl)⟩) (pre3V g hK mq3_ kq3_ (by decide) (q := (RX7, TX7, 19)) rfl) rfl rfl hl.1 rfl (lv_room (Nat.le_of_ble_eq_true rfl)) dX2_readAssignment_57 ⟨(Nat.le_of_ble_eq_true rfl), (Nat.le_of_ble_eq_true rfl)⟩) g hK (by decide) (by decide) (fx' := [(7, 5, q3_, .ref a_374), (7, 4, q3_, .ref a_373), (8, 6, q0_, .int 1201), (8, 8, q0_, .int x_229), (0, 2, q2_, .ref q3_), (9, 2, q4_, .int x_6), (2, 15, a0_, .int x_1), (2, 0, a0_, .ref q0_), (2, 1, a0_, .ref q1_), (2, 2, a0_, .ref q2_), (2, 3, a0_, .ref q3_), (2, 4, a0_, .ref q4_), (0, 0, q2_, .ref q0_), (0, 1, q2_, .ref q1_), (5, 0, q1_, .ref q3_), (5, 1, q1_, .ref q8_)]) rfl (fun fr_376 H locs hp hMr_376 g => ?_)
          obtain ⟨hG_377, x_378, h_379, hF_380⟩ := hp
          have hG_381 := eOK.frame hMr_376 go_.2.2.2.1 mq2_ kq2_ (by decide) (by decide) hG_372
          have g := g.more hF_380
          refine lv_aload_n hx hb dX2_readAssignment_60 rfl (lv_at hl 2 rfl) ?_
          refine g_getk (C := RX2) (T := TX2) (N := 16) hx hb hts (mc_ inX2) hown hK g rfl 0 (by decide) rfl (hts _ (List.mem_cons_of_mem _ t_416)) (fun _ h9 => h9) 8 rfl dX2_readAssignment_61 ?_
          refine lv_bipush (v := 61) hx hb dX2_readAssignment_64 (by decide) ?_
          have kb_1201 : bd 1201 1201 (1201 : Int32) := ⟨by decide, by decide⟩
          have go_ := g
          refine g_callv (va_runV (As := [.int 61]) (rest := []) ⟨hx, hb, hml, hown, hts⟩ (r_X8_take_2 l dC dI L kd tys fr_376 H.size g.2.2.2.1 q0_ mq0_ kq0_ 61 1201 kb_1201 x_229 h_230 (g.fcts [3, 4] rfl)) (cwV 1 hts (gV_ t_1098 t_1099 t_1100 t_184 t_1101) rfl rfl rfl (by decide +kernel) ⟨(Nat.le_of_ble_eq_true rfl), (Nat.le_of_ble_eq_true rfl)⟩) (pre3V g hK mq0_ kq0_ (by decide) (q := (RX8, TX8, 10)) rfl) rfl rfl hl.1 rfl (lv_room (Nat.le_of_ble_eq_true rfl)) dX2_readAssignment_66 ⟨(Nat.le_of_ble_eq_true rfl), (Nat.le_of_ble_eq_true rfl)⟩) g hK (by decide) (by decide) (fx' := [(7, 6, q3_, .int x_378), (7, 5, q3_, .ref a_374), (7, 4, q3_, .ref a_373), (8, 8, q0_, .int x_229), (0, 2, q2_, .ref q3_), (9, 2, q4_, .int x_6), (2, 15, a0_, .int x_1), (2, 0, a0_, .ref q0_), (2, 1, a0_, .ref q1_), (2, 2, a0_, .ref q2_), (2, 3, a0_, .ref q3_), (2, 4, a0_, .ref q4_), (0, 0, q2_, .ref q0_), (0, 1, q2_, .ref q1_), (5, 0, q1_, .ref q3_), (5, 1, q1_, .ref q8_)]) rfl (fun fr_382 H locs hp hMr_382 g => ?_)
          obtain ⟨x_383, h_384, hF_385⟩ := hp
          have hG_386 := dOK.frame hMr_382 go_.2.2.2.1 mq3_ kq3_ (by decide) (by decide) hG_377
          have hG_387 := eOK.frame hMr_382 go_.2.2.2.1 mq2_ kq2_ (by decide) (by decide) hG_381
          have g := g.more hF_385
          refine lv_aload_n hx hb dX2_readAssignment_69 rfl (lv_at hl 2 rfl) ?_
          refine g_getk (C := RX2) (T := TX2) (N := 16) hx hb hts (mc_ inX2) hown hK g rfl 2 (by decide) rfl (hts _ (List.mem_cons_of_mem _ t_418)) (fun _ h9 => h9) 10 rfl dX2_readAssignment_70 ?_
          have go_ := g
          refine g_callv (va_runV (As := []) (rest := []) ⟨hx, hb, hml, hown, hts⟩ (r_X0_read_2 l dC dI L kd tys fr_382 H.size g.2.2.2.1 q2_ mq2_ kq2_ q0_ mq0_ kq0_ q1_ mq1_ kq1_ q3_ mq3_ kq3_ q8_ mq8_ kq8_ x_383 h_384 x_229 h_230 T_ hG_387 hG_386 (g.fcts [13, 14, 15, 16, 0, 4] rfl)) (cwV 0 hts (gV_ t_1182 t_1183 t_1184 t_190 t_1185) rfl rfl rfl (by decide +kernel) ⟨(Nat.le_of_ble_eq_true rfl), (Nat.le_of_ble_eq_true rfl)⟩) (pre3V g hK mq2_ kq2_ (by decide) (q := (RX0, TX0, 14)) rfl) rfl rfl hl.1 rfl (lv_room (Nat.le_of_ble_eq_true rfl)) dX2_readAssignment_73 ⟨(Nat.le_of_ble_eq_true rfl), (Nat.le_of_ble_eq_true rfl)⟩) g hK (by decide) (by decide) (fx' := [(8, 6, q0_, .int x_383), (7, 6, q3_, .int x_378), (7, 5, q3_, .ref a_374), (7, 4, q3_, .ref a_373), (8, 8, q0_, .int x_229), (9, 2, q4_, .int x_6), (2, 15, a0_, .int x_1), (2, 0, a0_, .ref q0_), (2, 1, a0_, .ref q1_), (2, 2, a0_, .ref q2_), (2, 3, a0_, .ref q3_), (2, 4, a0_, .ref q4_), (0, 0, q2_, .ref q0_), (0, 1, q2_, .ref q1_), (5, 0, q1_, .ref q3_), (5, 1, q1_, .ref q8_)]) rfl (fun fr_388 H locs hp hMr_388 g => ?_)
          have hF_389 := hp
          have hG_390 := dOK.frame hMr_388 go_.2.2.2.1 mq3_ kq3_ (by decide) (by decide) hG_386
          have hG_391 := eOK.frame hMr_388 go_.2.2.2.1 mq2_ kq2_ (by decide) (by decide) hG_387
          have g := g.more hF_389
          refine lv_iload_n hx hb dX2_readAssignment_76 rfl (lv_at hl 1 rfl) ?_
          refine lv_bipush (v := 16) hx hb dX2_readAssignment_77 (by decide) ?_
          have kb_16 : bd 16 16 (16 : Int32) := ⟨by decide, by decide⟩
          refine lv_icmp_lt (tgt := 98) hx hb dX2_readAssignment_79 (by decide) (fun c_392 => ?_) (fun c_392 => ?_)
          · have fc_392 := lt_f c_392
            refine lv_aload_n hx hb dX2_readAssignment_98 rfl (lv_at hl 2 rfl) ?_
            refine g_getk (C := RX2) (T := TX2) (N := 16) hx hb hts (mc_ inX2) hown hK g rfl 3 (by decide) rfl (hts _ (List.mem_cons_of_mem _ t_419)) (fun _ h9 => h9) 16 rfl dX2_readAssignment_99 ?_
            refine lv_iload_n hx hb dX2_readAssignment_102 rfl (lv_at hl 0 rfl) ?_
            refine lv_if_eq (tgt := 111) hx hb dX2_readAssignment_103 (by decide) (fun c_ => absurd c_ (by decide)) (fun c_ => ?_)
            refine lv_bipush (v := 27) hx hb dX2_readAssignment_106 (by decide) ?_
            refine lv_goto (tgt := 113) hx hb dX2_readAssignment_108 (by decide) ?_
            refine lv_aload_n hx hb dX2_readAssignment_113 rfl (lv_at hl 2 rfl) ?_
            refine g_getk (C := RX2) (T := TX2) (N := 16) hx hb hts (mc_ inX2) hown hK g rfl 4 (by decide) rfl (hts _ (List.mem_cons_of_mem _ t_420)) (fun _ h9 => h9) 17 rfl dX2_readAssignment_114 ?_
            refine lv_iload_n hx hb dX2_readAssignment_117 rfl (lv_at hl 1 rfl) ?_
            have go_ := g
            refine g_calli (va_runV (As := [.int x_1]) (rest := [.int 27, .ref q3_]) ⟨hx, hb, hml, hown, hts⟩ (r_X9_spanOf l dC dI L kd tys fr_388 H.size g.2.2.2.1 q4_ mq4_ kq4_ x_1) (cwV 1 hts (gV_ t_1401 t_1265 t_1266 t_192 t_1267) rfl rfl rfl (by decide +kernel) ⟨(Nat.le_of_ble_eq_true rfl), (Nat.le_of_ble_eq_true rfl)⟩) (pre3V g hK mq4_ kq4_ (by decide) (q := (RX9, TX9, 13)) rfl) rfl rfl hl.1 rfl (lv_room (Nat.le_of_ble_eq_true rfl)) dX2_readAssignment_118 ⟨(Nat.le_of_ble_eq_true rfl), (Nat.le_of_ble_eq_true rfl)⟩) g hK (by decide) (by decide) (fx' := [(0, 13, q2_, .int 0), (0, 12, q2_, .int 1), (0, 11, q2_, .int 0), (0, 10, q2_, .int 0), (0, 8, q2_, .int 0), (0, 2, q2_, .ref q3_), (8, 6, q0_, .int x_383), (7, 6, q3_, .int x_378), (7, 5, q3_, .ref a_374), (7, 4, q3_, .ref a_373), (8, 8, q0_, .int x_229), (9, 2, q4_, .int x_6), (2, 15, a0_, .int x_1), (2, 0, a0_, .ref q0_), (2, 1, a0_, .ref q1_), (2, 2, a0_, .ref q2_), (2, 3, a0_, .ref q3_), (2, 4, a0_, .ref q4_), (0, 0, q2_, .ref q0_), (0, 1, q2_, .ref q1_), (5, 0, q1_, .ref q3_), (5, 1, q1_, .ref q8_)]) rfl (fun r_393 fr_393 H locs hp hMr_393 g => ?_)
            obtain ⟨h_394, -⟩ := hp
            have hG_395 := dOK.frame hMr_393 go_.2.2.2.1 mq3_ kq3_ (by decide) (by decide) hG_390
            have hG_396 := eOK.frame hMr_393 go_.2.2.2.1 mq2_ kq2_ (by decide) (by decide) hG_391
            have go_ := g
            refine g_callv (va_runV (As := [.int 27, .int r_393]) (rest := []) ⟨hx, hb, hml, hown, hts⟩ (r_X7_emitF l dC dI L kd tys fr_393 H.size g.2.2.2.1 q3_ mq3_ kq3_ a_373 ma_373 ka_373 a_374 ma_374 ka_374 x_378 h_379 T_ hG_395 (27 : Int32) r_393 (g.fcts [9, 8, 7] rfl)) (cwV 2 hts (gV_ t_1301 t_1204 t_1205 t_191 t_1206) rfl rfl rfl (by decide +kernel) ⟨(Nat.le_of_ble_eq_true rfl), (Nat.le_of_ble_eq_true rfl)⟩) (pre3V g hK mq3_ kq3_ (by decide) (q := (RX7, TX7, 19)) rfl) rfl rfl hl.1 rfl (lv_room (Nat.le_of_ble_eq_true rfl)) dX2_readAssignment_121 ⟨(Nat.le_of_ble_eq_true rfl), (Nat.le_of_ble_eq_true rfl)⟩) g hK (by decide) (by decide) (fx' := [(0, 13, q2_, .int 0), (0, 12, q2_, .int 1), (0, 11, q2_, .int 0), (0, 10, q2_, .int 0), (0, 8, q2_, .int 0), (0, 2, q2_, .ref q3_), (8, 6, q0_, .int x_383), (7, 5, q3_, .ref a_374), (7, 4, q3_, .ref a_373), (8, 8, q0_, .int x_229), (9, 2, q4_, .int x_6), (2, 15, a0_, .int x_1), (2, 0, a0_, .ref q0_), (2, 1, a0_, .ref q1_), (2, 2, a0_, .ref q2_), (2, 3, a0_, .ref q3_), (2, 4, a0_, .ref q4_), (0, 0, q2_, .ref q0_), (0, 1, q2_, .ref q1_), (5, 0, q1_, .ref q3_), (5, 1, q1_, .ref q8_)]) rfl (fun fr_397 H locs hp hMr_397 g => ?_)
            obtain ⟨hG_398, x_399, h_400, hF_401⟩ := hp
            have hG_402 := eOK.frame hMr_397 go_.2.2.2.1 mq2_ kq2_ (by decide) (by decide) hG_396
            have g := g.more hF_401
            refine lv_aload_n hx hb dX2_readAssignment_124 rfl (lv_at hl 2 rfl) ?_
            refine g_getk (C := RX2) (T := TX2) (N := 16) hx hb hts (mc_ inX2) hown hK g rfl 0 (by decide) rfl (hts _ (List.mem_cons_of_mem _ t_416)) (fun _ h9 => h9) 13 rfl dX2_readAssignment_125 ?_
            refine lv_bipush (v := 59) hx hb dX2_readAssignment_128 (by decide) ?_
            have go_ := g
            refine g_callv (va_runV (As := [.int 59]) (rest := []) ⟨hx, hb, hml, hown, hts⟩ (r_X8_take_2 l dC dI L kd tys fr_397 H.size g.2.2.2.1 q0_ mq0_ kq0_ 59 x_383 h_384 x_229 h_230 (g.fcts [7, 10] rfl)) (cwV 1 hts (gV_ t_1098 t_1099 t_1100 t_184 t_1101) rfl rfl rfl (by decide +kernel) ⟨(Nat.le_of_ble_eq_true rfl), (Nat.le_of_ble_eq_true rfl)⟩) (pre3V g hK mq0_ kq0_ (by decide) (q := (RX8, TX8, 10)) rfl) rfl rfl hl.1 rfl (lv_room (Nat.le_of_ble_eq_true rfl)) dX2_readAssignment_130 ⟨(Nat.le_of_ble_eq_true rfl), (Nat.le_of_ble_eq_true rfl)⟩) g hK (by decide) (by decide) (fx' := [(7, 6, q3_, .int x_399), (0, 13, q2_, .int 0), (0, 12, q2_, .int 1), (0, 11, q2_, .int 0), (0, 10, q2_, .int 0), (0, 8, q2_, .int 0), (0, 2, q2_, .ref q3_), (7, 5, q3_, .ref a_374), (7, 4, q3_, .ref a_373), (8, 8, q0_, .int x_229), (9, 2, q4_, .int x_6), (2, 15, a0_, .int x_1), (2, 0, a0_, .ref q0_), (2, 1, a0_, .ref q1_), (2, 2, a0_, .ref q2_), (2, 3, a0_, .ref q3_), (2, 4, a0_, .ref q4_), (0, 0, q2_, .ref q0_), (0, 1, q2_, .ref q1_), (5, 0, q1_, .ref q3_), (5, 1, q1_, .ref q8_)]) rfl (fun fr_403 H locs hp hMr_403 g => ?_)
            obtain ⟨x_404, h_405, hF_406⟩ := hp
            have hG_407 := dOK.frame hMr_403 go_.2.2.2.1 mq3_ kq3_ (by decide) (by decide) hG_398
            have hG_408 := eOK.frame hMr_403 go_.2.2.2.1 mq2_ kq2_ (by decide) (by decide) hG_402
            have g := g.more hF_406
            subst hQ
            exact W.vret hx hb hr (fun t ht hW => ⟨⟨_, rfl, Or.inr (⟨hG_407, hG_408, x_404, h_405, x_229, h_230, (g.fcts [0, 10, 7] rfl)⟩), q3_of g hK ht hW⟩, g.2.2.1.F ht⟩) g.2.2.1.2.2 dX2_readAssignment_133
          · have fc_392 := nlt_f c_392
            have b_409 : bd 16 9 (16 : Int32) := leL fc_392 kb_16 b_199 (by decide)
            exact bd_no (eqX rfl b_409 kb_16 (lo := 16) (hi := 9) (by decide)) (by decide)
      · have g := g.more hF_223
        refine lv_aload_n hx hb dX2_readAssignment_34 rfl (lv_at hl 2 rfl) ?_
        refine g_getk (C := RX2) (T := TX2) (N := 16) hx hb hts (mc_ inX2) hown hK g rfl 0 (by decide) rfl (hts _ (List.mem_cons_of_mem _ t_416)) (fun _ h9 => h9) 5 rfl dX2_readAssignment_35 ?_
        refine lv_bipush (v := 93) hx hb dX2_readAssignment_38 (by decide) ?_
        have go_ := g
        refine g_callv (va_runV (As := [.int 93]) (rest := []) ⟨hx, hb, hml, hown, hts⟩ (r_X8_take_2 l dC dI L kd tys fr_211 H.size g.2.2.2.1 q0_ mq0_ kq0_ 93 x_219 h_220 x_221 h_222 (g.fcts [0, 1] rfl)) (cwV 1 hts (gV_ t_1098 t_1099 t_1100 t_184 t_1101) rfl rfl rfl (by decide +kernel) ⟨(Nat.le_of_ble_eq_true rfl), (Nat.le_of_ble_eq_true rfl)⟩) (pre3V g hK mq0_ kq0_ (by decide) (q := (RX8, TX8, 10)) rfl) rfl rfl hl.1 rfl (lv_room (Nat.le_of_ble_eq_true rfl)) dX2_readAssignment_40 ⟨(Nat.le_of_ble_eq_true rfl), (Nat.le_of_ble_eq_true rfl)⟩) g hK (by decide) (by decide) (fx' := [(8, 8, q0_, .int x_221), (0, 2, q2_, .ref q3_), (9, 2, q4_, .int x_6), (2, 15, a0_, .int x_1), (2, 0, a0_, .ref q0_), (2, 1, a0_, .ref q1_), (2, 2, a0_, .ref q2_), (2, 3, a0_, .ref q3_), (2, 4, a0_, .ref q4_), (0, 0, q2_, .ref q0_), (0, 1, q2_, .ref q1_), (5, 0, q1_, .ref q3_), (5, 1, q1_, .ref q8_)]) rfl (fun fr_410 H locs hp hMr_410 g => ?_)
        obtain ⟨x_411, h_412, hF_413⟩ := hp
        have hG_414 := dOK.frame hMr_410 go_.2.2.2.1 mq3_ kq3_ (by decide) (by decide) hG_218
        have hG_415 := eOK.frame hMr_410 go_.2.2.2.1 mq2_ kq2_ (by decide) (by decide) hG_217
        have g := g.more hF_413
        refine lv_aload_n hx hb dX2_readAssignment_43 rfl (lv_at hl 2 rfl) ?_
        refine g_getk (C := RX2) (T := TX2) (N := 16) hx hb hts (mc_ inX2) hown hK g rfl 3 (by decide) rfl (hts _ (List.mem_cons_of_mem _ t_419)) (fun _ h9 => h9) 8 rfl dX2_readAssignment_44 ?_
        refine lv_bipush (v := 11) hx hb dX2_readAssignment_47 (by decide) ?_
        refine lv_aload_n hx hb dX2_readAssignment_49 rfl (lv_at hl 2 rfl) ?_
        refine g_getk (C := RX2) (T := TX2) (N := 16) hx hb hts (mc_ inX2) hown hK g rfl 4 (by decide) rfl (hts _ (List.mem_cons_of_mem _ t_420)) (fun _ h9 => h9) 9 rfl dX2_readAssignment_50 ?_
        refine lv_iload_n hx hb dX2_readAssignment_53 rfl (lv_at hl 1 rfl) ?_
        have go_ := g
        refine g_calli (va_runV (As := [.int x_1]) (rest := [.int 11, .ref q3_]) ⟨hx, hb, hml, hown, hts⟩ (r_X9_spanOf l dC dI L kd tys fr_410 H.size g.2.2.2.1 q4_ mq4_ kq4_ x_1) (cwV 1 hts (gV_ t_1401 t_1265 t_1266 t_192 t_1267) rfl rfl rfl (by decide +kernel) ⟨(Nat.le_of_ble_eq_true rfl), (Nat.le_of_ble_eq_true rfl)⟩) (pre3V g hK mq4_ kq4_ (by decide) (q := (RX9, TX9, 13)) rfl) rfl rfl hl.1 rfl (lv_room (Nat.le_of_ble_eq_true rfl)) dX2_readAssignment_54 ⟨(Nat.le_of_ble_eq_true rfl), (Nat.le_of_ble_eq_true rfl)⟩) g hK (by decide) (by decide) (fx' := [(8, 6, q0_, .int x_411), (8, 8, q0_, .int x_221), (0, 2, q2_, .ref q3_), (9, 2, q4_, .int x_6), (2, 15, a0_, .int x_1), (2, 0, a0_, .ref q0_), (2, 1, a0_, .ref q1_), (2, 2, a0_, .ref q2_), (2, 3, a0_, .ref q3_), (2, 4, a0_, .ref q4_), (0, 0, q2_, .ref q0_), (0, 1, q2_, .ref q1_), (5, 0, q1_, .ref q3_), (5, 1, q1_, .ref q8_)]) rfl (fun r_416 fr_416 H locs hp hMr_416 g => ?_)
        obtain ⟨h_417, -⟩ := hp
        have hG_418 := dOK.frame hMr_416 go_.2.2.2.1 mq3_ kq3_ (by decide) (by decide) hG_414
        have hG_419 := eOK.frame hMr_416 go_.2.2.2.1 mq2_ kq2_ (by decide) (by decide) hG_415
        obtain ⟨a_420, ma_420, ka_420, g⟩ := g_factr g mq3_ kq3_ (by decide) 4 rfl
        obtain ⟨a_421, ma_421, ka_421, g⟩ := g_factr g mq3_ kq3_ (by decide) 5 rfl
        obtain ⟨x_422, bx_422, g⟩ := g_facti g mq3_ kq3_ (by decide) 6 rfl
        have go_ := g
        refine g_callv (va_runV (As := [.int 11, .int r_416]) (rest := []) ⟨hx, hb, hml, hown, hts⟩ (r_X7_emitF l dC dI L kd tys fr_416 H.size g.2.2.2.1 q3_ mq3_ kq3_ a_420 ma_420 ka_420 a_421 ma_421 ka_421 x_422 bx_422 T_ hG_418 (11 : Int32) r_416 (g.fcts [2, 1, 0] rfl)) (cwV 2 hts (gV_ t_1301 t_1204 t_1205 t_191 t_1206) rfl rfl rfl (by decide +kernel) ⟨(Nat.le_of_ble_eq_true rfl), (Nat.le_of_ble_eq_true rfl)⟩) (pre3V g hK mq3_ kq3_ (by decide) (q := (RX7, TX7, 19)) rfl) rfl rfl hl.1 rfl (lv_room (Nat.le_of_ble_eq_true rfl)) dX2_readAssignment_57 ⟨(Nat.le_of_ble_eq_true rfl), (Nat.le_of_ble_eq_true rfl)⟩) g hK (by decide) (by decide) (fx' := [(7, 5, q3_, .ref a_421), (7, 4, q3_, .ref a_420), (8, 6, q0_, .int x_411), (8, 8, q0_, .int x_221), (0, 2, q2_, .ref q3_), (9, 2, q4_, .int x_6), (2, 15, a0_, .int x_1), (2, 0, a0_, .ref q0_), (2, 1, a0_, .ref q1_), (2, 2, a0_, .ref q2_), (2, 3, a0_, .ref q3_), (2, 4, a0_, .ref q4_), (0, 0, q2_, .ref q0_), (0, 1, q2_, .ref q1_), (5, 0, q1_, .ref q3_), (5, 1, q1_, .ref q8_)]) rfl (fun fr_423 H locs hp hMr_423 g => ?_)
        obtain ⟨hG_424, x_425, h_426, hF_427⟩ := hp
        have hG_428 := eOK.frame hMr_423 go_.2.2.2.1 mq2_ kq2_ (by decide) (by decide) hG_419
        have g := g.more hF_427
        refine lv_aload_n hx hb dX2_readAssignment_60 rfl (lv_at hl 2 rfl) ?_
        refine g_getk (C := RX2) (T := TX2) (N := 16) hx hb hts (mc_ inX2) hown hK g rfl 0 (by decide) rfl (hts _ (List.mem_cons_of_mem _ t_416)) (fun _ h9 => h9) 8 rfl dX2_readAssignment_61 ?_
        refine lv_bipush (v := 61) hx hb dX2_readAssignment_64 (by decide) ?_
        have go_ := g
        refine g_callv (va_runV (As := [.int 61]) (rest := []) ⟨hx, hb, hml, hown, hts⟩ (r_X8_take_2 l dC dI L kd tys fr_423 H.size g.2.2.2.1 q0_ mq0_ kq0_ 61 x_411 h_412 x_221 h_222 (g.fcts [3, 4] rfl)) (cwV 1 hts (gV_ t_1098 t_1099 t_1100 t_184 t_1101) rfl rfl rfl (by decide +kernel) ⟨(Nat.le_of_ble_eq_true rfl), (Nat.le_of_ble_eq_true rfl)⟩) (pre3V g hK mq0_ kq0_ (by decide) (q := (RX8, TX8, 10)) rfl) rfl rfl hl.1 rfl (lv_room (Nat.le_of_ble_eq_true rfl)) dX2_readAssignment_66 ⟨(Nat.le_of_ble_eq_true rfl), (Nat.le_of_ble_eq_true rfl)⟩) g hK (by decide) (by decide) (fx' := [(7, 6, q3_, .int x_425), (7, 5, q3_, .ref a_421), (7, 4, q3_, .ref a_420), (8, 8, q0_, .int x_221), (0, 2, q2_, .ref q3_), (9, 2, q4_, .int x_6), (2, 15, a0_, .int x_1), (2, 0, a0_, .ref q0_), (2, 1, a0_, .ref q1_), (2, 2, a0_, .ref q2_), (2, 3, a0_, .ref q3_), (2, 4, a0_, .ref q4_), (0, 0, q2_, .ref q0_), (0, 1, q2_, .ref q1_), (5, 0, q1_, .ref q3_), (5, 1, q1_, .ref q8_)]) rfl (fun fr_429 H locs hp hMr_429 g => ?_)
        obtain ⟨x_430, h_431, hF_432⟩ := hp
        have hG_433 := dOK.frame hMr_429 go_.2.2.2.1 mq3_ kq3_ (by decide) (by decide) hG_424
        have hG_434 := eOK.frame hMr_429 go_.2.2.2.1 mq2_ kq2_ (by decide) (by decide) hG_428
        have g := g.more hF_432
        refine lv_aload_n hx hb dX2_readAssignment_69 rfl (lv_at hl 2 rfl) ?_
        refine g_getk (C := RX2) (T := TX2) (N := 16) hx hb hts (mc_ inX2) hown hK g rfl 2 (by decide) rfl (hts _ (List.mem_cons_of_mem _ t_418)) (fun _ h9 => h9) 10 rfl dX2_readAssignment_70 ?_
        have go_ := g
        refine g_callv (va_runV (As := []) (rest := []) ⟨hx, hb, hml, hown, hts⟩ (r_X0_read_2 l dC dI L kd tys fr_429 H.size g.2.2.2.1 q2_ mq2_ kq2_ q0_ mq0_ kq0_ q1_ mq1_ kq1_ q3_ mq3_ kq3_ q8_ mq8_ kq8_ x_430 h_431 x_221 h_222 T_ hG_434 hG_433 (g.fcts [13, 14, 15, 16, 0, 4] rfl)) (cwV 0 hts (gV_ t_1182 t_1183 t_1184 t_190 t_1185) rfl rfl rfl (by decide +kernel) ⟨(Nat.le_of_ble_eq_true rfl), (Nat.le_of_ble_eq_true rfl)⟩) (pre3V g hK mq2_ kq2_ (by decide) (q := (RX0, TX0, 14)) rfl) rfl rfl hl.1 rfl (lv_room (Nat.le_of_ble_eq_true rfl)) dX2_readAssignment_73 ⟨(Nat.le_of_ble_eq_true rfl), (Nat.le_of_ble_eq_true rfl)⟩) g hK (by decide) (by decide) (fx' := [(8, 6, q0_, .int x_430), (7, 6, q3_, .int x_425), (7, 5, q3_, .ref a_421), (7, 4, q3_, .ref a_420), (8, 8, q0_, .int x_221), (9, 2, q4_, .int x_6), (2, 15, a0_, .int x_1), (2, 0, a0_, .ref q0_), (2, 1, a0_, .ref q1_), (2, 2, a0_, .ref q2_), (2, 3, a0_, .ref q3_), (2, 4, a0_, .ref q4_), (0, 0, q2_, .ref q0_), (0, 1, q2_, .ref q1_), (5, 0, q1_, .ref q3_), (5, 1, q1_, .ref q8_)]) rfl (fun fr_435 H locs hp hMr_435 g => ?_)
        have hF_436 := hp
        have hG_437 := dOK.frame hMr_435 go_.2.2.2.1 mq3_ kq3_ (by decide) (by decide) hG_433
        have hG_438 := eOK.frame hMr_435 go_.2.2.2.1 mq2_ kq2_ (by decide) (by decide) hG_434
        have g := g.more hF_436
        refine lv_iload_n hx hb dX2_readAssignment_76 rfl (lv_at hl 1 rfl) ?_
        refine lv_bipush (v := 16) hx hb dX2_readAssignment_77 (by decide) ?_
        have kb_16 : bd 16 16 (16 : Int32) := ⟨by decide, by decide⟩
        refine lv_icmp_lt (tgt := 98) hx hb dX2_readAssignment_79 (by decide) (fun c_439 => ?_) (fun c_439 => ?_)
        · have fc_439 := lt_f c_439
          refine lv_aload_n hx hb dX2_readAssignment_98 rfl (lv_at hl 2 rfl) ?_
          refine g_getk (C := RX2) (T := TX2) (N := 16) hx hb hts (mc_ inX2) hown hK g rfl 3 (by decide) rfl (hts _ (List.mem_cons_of_mem _ t_419)) (fun _ h9 => h9) 16 rfl dX2_readAssignment_99 ?_
          refine lv_iload_n hx hb dX2_readAssignment_102 rfl (lv_at hl 0 rfl) ?_
          refine lv_if_eq (tgt := 111) hx hb dX2_readAssignment_103 (by decide) (fun c_ => absurd c_ (by decide)) (fun c_ => ?_)
          refine lv_bipush (v := 27) hx hb dX2_readAssignment_106 (by decide) ?_
          refine lv_goto (tgt := 113) hx hb dX2_readAssignment_108 (by decide) ?_
          refine lv_aload_n hx hb dX2_readAssignment_113 rfl (lv_at hl 2 rfl) ?_
          refine g_getk (C := RX2) (T := TX2) (N := 16) hx hb hts (mc_ inX2) hown hK g rfl 4 (by decide) rfl (hts _ (List.mem_cons_of_mem _ t_420)) (fun _ h9 => h9) 17 rfl dX2_readAssignment_114 ?_
          refine lv_iload_n hx hb dX2_readAssignment_117 rfl (lv_at hl 1 rfl) ?_
          have go_ := g
          refine g_calli (va_runV (As := [.int x_1]) (rest := [.int 27, .ref q3_]) ⟨hx, hb, hml, hown, hts⟩ (r_X9_spanOf l dC dI L kd tys fr_435 H.size g.2.2.2.1 q4_ mq4_ kq4_ x_1) (cwV 1 hts (gV_ t_1401 t_1265 t_1266 t_192 t_1267) rfl rfl rfl (by decide +kernel) ⟨(Nat.le_of_ble_eq_true rfl), (Nat.le_of_ble_eq_true rfl)⟩) (pre3V g hK mq4_ kq4_ (by decide) (q := (RX9, TX9, 13)) rfl) rfl rfl hl.1 rfl (lv_room (Nat.le_of_ble_eq_true rfl)) dX2_readAssignment_118 ⟨(Nat.le_of_ble_eq_true rfl), (Nat.le_of_ble_eq_true rfl)⟩) g hK (by decide) (by decide) (fx' := [(0, 13, q2_, .int 0), (0, 12, q2_, .int 1), (0, 11, q2_, .int 0), (0, 10, q2_, .int 0), (0, 8, q2_, .int 0), (0, 2, q2_, .ref q3_), (8, 6, q0_, .int x_430), (7, 6, q3_, .int x_425), (7, 5, q3_, .ref a_421), (7, 4, q3_, .ref a_420), (8, 8, q0_, .int x_221), (9, 2, q4_, .int x_6), (2, 15, a0_, .int x_1), (2, 0, a0_, .ref q0_), (2, 1, a0_, .ref q1_), (2, 2, a0_, .ref q2_), (2, 3, a0_, .ref q3_), (2, 4, a0_, .ref q4_), (0, 0, q2_, .ref q0_), (0, 1, q2_, .ref q1_), (5, 0, q1_, .ref q3_), (5, 1, q1_, .ref q8_)]) rfl (fun r_440 fr_440 H locs hp hMr_440 g => ?_)
          obtain ⟨h_441, -⟩ := hp
          have hG_442 := dOK.frame hMr_440 go_.2.2.2.1 mq3_ kq3_ (by decide) (by decide) hG_437
          have hG_443 := eOK.frame hMr_440 go_.2.2.2.1 mq2_ kq2_ (by decide) (by decide) hG_438
          have go_ := g
          refine g_callv (va_runV (As := [.int 27, .int r_440]) (rest := []) ⟨hx, hb, hml, hown, hts⟩ (r_X7_emitF l dC dI L kd tys fr_440 H.size g.2.2.2.1 q3_ mq3_ kq3_ a_420 ma_420 ka_420 a_421 ma_421 ka_421 x_425 h_426 T_ hG_442 (27 : Int32) r_440 (g.fcts [9, 8, 7] rfl)) (cwV 2 hts (gV_ t_1301 t_1204 t_1205 t_191 t_1206) rfl rfl rfl (by decide +kernel) ⟨(Nat.le_of_ble_eq_true rfl), (Nat.le_of_ble_eq_true rfl)⟩) (pre3V g hK mq3_ kq3_ (by decide) (q := (RX7, TX7, 19)) rfl) rfl rfl hl.1 rfl (lv_room (Nat.le_of_ble_eq_true rfl)) dX2_readAssignment_121 ⟨(Nat.le_of_ble_eq_true rfl), (Nat.le_of_ble_eq_true rfl)⟩) g hK (by decide) (by decide) (fx' := [(0, 13, q2_, .int 0), (0, 12, q2_, .int 1), (0, 11, q2_, .int 0), (0, 10, q2_, .int 0), (0, 8, q2_, .int 0), (0, 2, q2_, .ref q3_), (8, 6, q0_, .int x_430), (7, 5, q3_, .ref a_421), (7, 4, q3_, .ref a_420), (8, 8, q0_, .int x_221), (9, 2, q4_, .int x_6), (2, 15, a0_, .int x_1), (2, 0, a0_, .ref q0_), (2, 1, a0_, .ref q1_), (2, 2, a0_, .ref q2_), (2, 3, a0_, .ref q3_), (2, 4, a0_, .ref q4_), (0, 0, q2_, .ref q0_), (0, 1, q2_, .ref q1_), (5, 0, q1_, .ref q3_), (5, 1, q1_, .ref q8_)]) rfl (fun fr_444 H locs hp hMr_444 g => ?_)
          obtain ⟨hG_445, x_446, h_447, hF_448⟩ := hp
          have hG_449 := eOK.frame hMr_444 go_.2.2.2.1 mq2_ kq2_ (by decide) (by decide) hG_443
          have g := g.more hF_448
          refine lv_aload_n hx hb dX2_readAssignment_124 rfl (lv_at hl 2 rfl) ?_
          refine g_getk (C := RX2) (T := TX2) (N := 16) hx hb hts (mc_ inX2) hown hK g rfl 0 (by decide) rfl (hts _ (List.mem_cons_of_mem _ t_416)) (fun _ h9 => h9) 13 rfl dX2_readAssignment_125 ?_
          refine lv_bipush (v := 59) hx hb dX2_readAssignment_128 (by decide) ?_
          have go_ := g
          refine g_callv (va_runV (As := [.int 59]) (rest := []) ⟨hx, hb, hml, hown, hts⟩ (r_X8_take_2 l dC dI L kd tys fr_444 H.size g.2.2.2.1 q0_ mq0_ kq0_ 59 x_430 h_431 x_221 h_222 (g.fcts [7, 10] rfl)) (cwV 1 hts (gV_ t_1098 t_1099 t_1100 t_184 t_1101) rfl rfl rfl (by decide +kernel) ⟨(Nat.le_of_ble_eq_true rfl), (Nat.le_of_ble_eq_true rfl)⟩) (pre3V g hK mq0_ kq0_ (by decide) (q := (RX8, TX8, 10)) rfl) rfl rfl hl.1 rfl (lv_room (Nat.le_of_ble_eq_true rfl)) dX2_readAssignment_130 ⟨(Nat.le_of_ble_eq_true rfl), (Nat.le_of_ble_eq_true rfl)⟩) g hK (by decide) (by decide) (fx' := [(7, 6, q3_, .int x_446), (0, 13, q2_, .int 0), (0, 12, q2_, .int 1), (0, 11, q2_, .int 0), (0, 10, q2_, .int 0), (0, 8, q2_, .int 0), (0, 2, q2_, .ref q3_), (7, 5, q3_, .ref a_421), (7, 4, q3_, .ref a_420), (8, 8, q0_, .int x_221), (9, 2, q4_, .int x_6), (2, 15, a0_, .int x_1), (2, 0, a0_, .ref q0_), (2, 1, a0_, .ref q1_), (2, 2, a0_, .ref q2_), (2, 3, a0_, .ref q3_), (2, 4, a0_, .ref q4_), (0, 0, q2_, .ref q0_), (0, 1, q2_, .ref q1_), (5, 0, q1_, .ref q3_), (5, 1, q1_, .ref q8_)]) rfl (fun fr_450 H locs hp hMr_450 g => ?_)
          obtain ⟨x_451, h_452, hF_453⟩ := hp
          have hG_454 := dOK.frame hMr_450 go_.2.2.2.1 mq3_ kq3_ (by decide) (by decide) hG_445
          have hG_455 := eOK.frame hMr_450 go_.2.2.2.1 mq2_ kq2_ (by decide) (by decide) hG_449
          have g := g.more hF_453
          subst hQ
          exact W.vret hx hb hr (fun t ht hW => ⟨⟨_, rfl, Or.inr (⟨hG_454, hG_455, x_451, h_452, x_221, h_222, (g.fcts [0, 10, 7] rfl)⟩), q3_of g hK ht hW⟩, g.2.2.1.F ht⟩) g.2.2.1.2.2 dX2_readAssignment_133
        · have fc_439 := nlt_f c_439
          have b_456 : bd 16 9 (16 : Int32) := leL fc_439 kb_16 b_199 (by decide)
          exact bd_no (eqX rfl b_456 kb_16 (lo := 16) (hi := 9) (by decide)) (by decide)
    · have hG_457 := cOK.frame hMr_200 go_.2.2.2.1 mq3_ kq3_ (by decide) (by decide) hG_195
      have hG_458 := dOK.frame hMr_200 go_.2.2.2.1 mq3_ kq3_ (by decide) (by decide) hG_196
      have hG_459 := jS.frame hMr_200 go_.2.2.2.1 mq3_ kq3_ (by decide) (by decide) hG_197
      have hG_460 := eOK.frame hMr_200 go_.2.2.2.1 mq2_ kq2_ (by decide) (by decide) hG_198
      have g := g.more hF_206
      refine lv_aload_n hx hb dX2_readAssignment_27 rfl (lv_at hl 2 rfl) ?_
      refine g_getk (C := RX2) (T := TX2) (N := 16) hx hb hts (mc_ inX2) hown hK g rfl 2 (by decide) rfl (hts _ (List.mem_cons_of_mem _ t_418)) (fun _ h9 => h9) 6 rfl dX2_readAssignment_28 ?_
      have kb_1201 : bd 1201 1201 (1201 : Int32) := ⟨by decide, by decide⟩
      have go_ := g
      refine g_callv (va_runV (As := []) (rest := []) ⟨hx, hb, hml, hown, hts⟩ (r_X0_read_2 l dC dI L kd tys fr_200 H.size g.2.2.2.1 q2_ mq2_ kq2_ q0_ mq0_ kq0_ q1_ mq1_ kq1_ q3_ mq3_ kq3_ q8_ mq8_ kq8_ 1201 kb_1201 x_204 h_205 T_ hG_460 hG_458 (g.fcts [9, 10, 11, 12, 0, 1] rfl)) (cwV 0 hts (gV_ t_1182 t_1183 t_1184 t_190 t_1185) rfl rfl rfl (by decide +kernel) ⟨(Nat.le_of_ble_eq_true rfl), (Nat.le_of_ble_eq_true rfl)⟩) (pre3V g hK mq2_ kq2_ (by decide) (q := (RX0, TX0, 14)) rfl) rfl rfl hl.1 rfl (lv_room (Nat.le_of_ble_eq_true rfl)) dX2_readAssignment_31 ⟨(Nat.le_of_ble_eq_true rfl), (Nat.le_of_ble_eq_true rfl)⟩) g hK (by decide) (by decide) (fx' := [(8, 6, q0_, .int 1201), (8, 8, q0_, .int x_204), (9, 2, q4_, .int x_6), (2, 15, a0_, .int x_1), (2, 0, a0_, .ref q0_), (2, 1, a0_, .ref q1_), (2, 2, a0_, .ref q2_), (2, 3, a0_, .ref q3_), (2, 4, a0_, .ref q4_), (0, 0, q2_, .ref q0_), (0, 1, q2_, .ref q1_), (5, 0, q1_, .ref q3_), (5, 1, q1_, .ref q8_)]) rfl (fun fr_461 H locs hp hMr_461 g => ?_)
      have hF_462 := hp
      have hG_463 := cOK.frame hMr_461 go_.2.2.2.1 mq3_ kq3_ (by decide) (by decide) hG_457
      have hG_464 := dOK.frame hMr_461 go_.2.2.2.1 mq3_ kq3_ (by decide) (by decide) hG_458
      have hG_465 := jS.frame hMr_461 go_.2.2.2.1 mq3_ kq3_ (by decide) (by decide) hG_459
      have hG_466 := eOK.frame hMr_461 go_.2.2.2.1 mq2_ kq2_ (by decide) (by decide) hG_460
      have g := g.more hF_462
      refine lv_aload_n hx hb dX2_readAssignment_34 rfl (lv_at hl 2 rfl) ?_
      refine g_getk (C := RX2) (T := TX2) (N := 16) hx hb hts (mc_ inX2) hown hK g rfl 0 (by decide) rfl (hts _ (List.mem_cons_of_mem _ t_416)) (fun _ h9 => h9) 10 rfl dX2_readAssignment_35 ?_
      refine lv_bipush (v := 93) hx hb dX2_readAssignment_38 (by decide) ?_
      have go_ := g
      refine g_callv (va_runV (As := [.int 93]) (rest := []) ⟨hx, hb, hml, hown, hts⟩ (r_X8_take_2 l dC dI L kd tys fr_461 H.size g.2.2.2.1 q0_ mq0_ kq0_ 93 1201 kb_1201 x_204 h_205 (g.fcts [6, 7] rfl)) (cwV 1 hts (gV_ t_1098 t_1099 t_1100 t_184 t_1101) rfl rfl rfl (by decide +kernel) ⟨(Nat.le_of_ble_eq_true rfl), (Nat.le_of_ble_eq_true rfl)⟩) (pre3V g hK mq0_ kq0_ (by decide) (q := (RX8, TX8, 10)) rfl) rfl rfl hl.1 rfl (lv_room (Nat.le_of_ble_eq_true rfl)) dX2_readAssignment_40 ⟨(Nat.le_of_ble_eq_true rfl), (Nat.le_of_ble_eq_true rfl)⟩) g hK (by decide) (by decide) (fx' := [(0, 13, q2_, .int 0), (0, 12, q2_, .int 1), (0, 11, q2_, .int 0), (0, 10, q2_, .int 0), (0, 8, q2_, .int 0), (0, 2, q2_, .ref q3_), (8, 8, q0_, .int x_204), (9, 2, q4_, .int x_6), (2, 15, a0_, .int x_1), (2, 0, a0_, .ref q0_), (2, 1, a0_, .ref q1_), (2, 2, a0_, .ref q2_), (2, 3, a0_, .ref q3_), (2, 4, a0_, .ref q4_), (0, 0, q2_, .ref q0_), (0, 1, q2_, .ref q1_), (5, 0, q1_, .ref q3_), (5, 1, q1_, .ref q8_)]) rfl (fun fr_467 H locs hp hMr_467 g => ?_)
      obtain ⟨x_468, h_469, hF_470⟩ := hp
      have hG_471 := cOK.frame hMr_467 go_.2.2.2.1 mq3_ kq3_ (by decide) (by decide) hG_463
      have hG_472 := dOK.frame hMr_467 go_.2.2.2.1 mq3_ kq3_ (by decide) (by decide) hG_464
      have hG_473 := jS.frame hMr_467 go_.2.2.2.1 mq3_ kq3_ (by decide) (by decide) hG_465
      have hG_474 := eOK.frame hMr_467 go_.2.2.2.1 mq2_ kq2_ (by decide) (by decide) hG_466
      have g := g.more hF_470
      refine lv_aload_n hx hb dX2_readAssignment_43 rfl (lv_at hl 2 rfl) ?_
      refine g_getk (C := RX2) (T := TX2) (N := 16) hx hb hts (mc_ inX2) hown hK g rfl 3 (by decide) rfl (hts _ (List.mem_cons_of_mem _ t_419)) (fun _ h9 => h9) 13 rfl dX2_readAssignment_44 ?_
      refine lv_bipush (v := 11) hx hb dX2_readAssignment_47 (by decide) ?_
      refine lv_aload_n hx hb dX2_readAssignment_49 rfl (lv_at hl 2 rfl) ?_
      refine g_getk (C := RX2) (T := TX2) (N := 16) hx hb hts (mc_ inX2) hown hK g rfl 4 (by decide) rfl (hts _ (List.mem_cons_of_mem _ t_420)) (fun _ h9 => h9) 14 rfl dX2_readAssignment_50 ?_
      refine lv_iload_n hx hb dX2_readAssignment_53 rfl (lv_at hl 1 rfl) ?_
      have go_ := g
      refine g_calli (va_runV (As := [.int x_1]) (rest := [.int 11, .ref q3_]) ⟨hx, hb, hml, hown, hts⟩ (r_X9_spanOf l dC dI L kd tys fr_467 H.size g.2.2.2.1 q4_ mq4_ kq4_ x_1) (cwV 1 hts (gV_ t_1401 t_1265 t_1266 t_192 t_1267) rfl rfl rfl (by decide +kernel) ⟨(Nat.le_of_ble_eq_true rfl), (Nat.le_of_ble_eq_true rfl)⟩) (pre3V g hK mq4_ kq4_ (by decide) (q := (RX9, TX9, 13)) rfl) rfl rfl hl.1 rfl (lv_room (Nat.le_of_ble_eq_true rfl)) dX2_readAssignment_54 ⟨(Nat.le_of_ble_eq_true rfl), (Nat.le_of_ble_eq_true rfl)⟩) g hK (by decide) (by decide) (fx' := [(8, 6, q0_, .int x_468), (0, 13, q2_, .int 0), (0, 12, q2_, .int 1), (0, 11, q2_, .int 0), (0, 10, q2_, .int 0), (0, 8, q2_, .int 0), (0, 2, q2_, .ref q3_), (8, 8, q0_, .int x_204), (9, 2, q4_, .int x_6), (2, 15, a0_, .int x_1), (2, 0, a0_, .ref q0_), (2, 1, a0_, .ref q1_), (2, 2, a0_, .ref q2_), (2, 3, a0_, .ref q3_), (2, 4, a0_, .ref q4_), (0, 0, q2_, .ref q0_), (0, 1, q2_, .ref q1_), (5, 0, q1_, .ref q3_), (5, 1, q1_, .ref q8_)]) rfl (fun r_475 fr_475 H locs hp hMr_475 g => ?_)
      obtain ⟨h_476, -⟩ := hp
      have hG_477 := cOK.frame hMr_475 go_.2.2.2.1 mq3_ kq3_ (by decide) (by decide) hG_471
      have hG_478 := dOK.frame hMr_475 go_.2.2.2.1 mq3_ kq3_ (by decide) (by decide) hG_472
      have hG_479 := jS.frame hMr_475 go_.2.2.2.1 mq3_ kq3_ (by decide) (by decide) hG_473
      have hG_480 := eOK.frame hMr_475 go_.2.2.2.1 mq2_ kq2_ (by decide) (by decide) hG_474
      obtain ⟨a_481, ma_481, ka_481, g⟩ := g_factr g mq3_ kq3_ (by decide) 4 rfl
      obtain ⟨a_482, ma_482, ka_482, g⟩ := g_factr g mq3_ kq3_ (by decide) 5 rfl
      obtain ⟨x_483, bx_483, g⟩ := g_facti g mq3_ kq3_ (by decide) 6 rfl
      have go_ := g
      refine g_callv (va_runV (As := [.int 11, .int r_475]) (rest := []) ⟨hx, hb, hml, hown, hts⟩ (r_X7_emitF l dC dI L kd tys fr_475 H.size g.2.2.2.1 q3_ mq3_ kq3_ a_481 ma_481 ka_481 a_482 ma_482 ka_482 x_483 bx_483 T_ hG_478 (11 : Int32) r_475 (g.fcts [2, 1, 0] rfl)) (cwV 2 hts (gV_ t_1301 t_1204 t_1205 t_191 t_1206) rfl rfl rfl (by decide +kernel) ⟨(Nat.le_of_ble_eq_true rfl), (Nat.le_of_ble_eq_true rfl)⟩) (pre3V g hK mq3_ kq3_ (by decide) (q := (RX7, TX7, 19)) rfl) rfl rfl hl.1 rfl (lv_room (Nat.le_of_ble_eq_true rfl)) dX2_readAssignment_57 ⟨(Nat.le_of_ble_eq_true rfl), (Nat.le_of_ble_eq_true rfl)⟩) g hK (by decide) (by decide) (fx' := [(7, 5, q3_, .ref a_482), (7, 4, q3_, .ref a_481), (8, 6, q0_, .int x_468), (0, 13, q2_, .int 0), (0, 12, q2_, .int 1), (0, 11, q2_, .int 0), (0, 10, q2_, .int 0), (0, 8, q2_, .int 0), (0, 2, q2_, .ref q3_), (8, 8, q0_, .int x_204), (9, 2, q4_, .int x_6), (2, 15, a0_, .int x_1), (2, 0, a0_, .ref q0_), (2, 1, a0_, .ref q1_), (2, 2, a0_, .ref q2_), (2, 3, a0_, .ref q3_), (2, 4, a0_, .ref q4_), (0, 0, q2_, .ref q0_), (0, 1, q2_, .ref q1_), (5, 0, q1_, .ref q3_), (5, 1, q1_, .ref q8_)]) rfl (fun fr_484 H locs hp hMr_484 g => ?_)
      obtain ⟨hG_485, x_486, h_487, hF_488⟩ := hp
      have hG_489 := eOK.frame hMr_484 go_.2.2.2.1 mq2_ kq2_ (by decide) (by decide) hG_480
      have g := g.more hF_488
      refine lv_aload_n hx hb dX2_readAssignment_60 rfl (lv_at hl 2 rfl) ?_
      refine g_getk (C := RX2) (T := TX2) (N := 16) hx hb hts (mc_ inX2) hown hK g rfl 0 (by decide) rfl (hts _ (List.mem_cons_of_mem _ t_416)) (fun _ h9 => h9) 13 rfl dX2_readAssignment_61 ?_
      refine lv_bipush (v := 61) hx hb dX2_readAssignment_64 (by decide) ?_
      have go_ := g
      refine g_callv (va_runV (As := [.int 61]) (rest := []) ⟨hx, hb, hml, hown, hts⟩ (r_X8_take_2 l dC dI L kd tys fr_484 H.size g.2.2.2.1 q0_ mq0_ kq0_ 61 x_468 h_469 x_204 h_205 (g.fcts [3, 10] rfl)) (cwV 1 hts (gV_ t_1098 t_1099 t_1100 t_184 t_1101) rfl rfl rfl (by decide +kernel) ⟨(Nat.le_of_ble_eq_true rfl), (Nat.le_of_ble_eq_true rfl)⟩) (pre3V g hK mq0_ kq0_ (by decide) (q := (RX8, TX8, 10)) rfl) rfl rfl hl.1 rfl (lv_room (Nat.le_of_ble_eq_true rfl)) dX2_readAssignment_66 ⟨(Nat.le_of_ble_eq_true rfl), (Nat.le_of_ble_eq_true rfl)⟩) g hK (by decide) (by decide) (fx' := [(7, 6, q3_, .int x_486), (7, 5, q3_, .ref a_482), (7, 4, q3_, .ref a_481), (0, 13, q2_, .int 0), (0, 12, q2_, .int 1), (0, 11, q2_, .int 0), (0, 10, q2_, .int 0), (0, 8, q2_, .int 0), (0, 2, q2_, .ref q3_), (8, 8, q0_, .int x_204), (9, 2, q4_, .int x_6), (2, 15, a0_, .int x_1), (2, 0, a0_, .ref q0_), (2, 1, a0_, .ref q1_), (2, 2, a0_, .ref q2_), (2, 3, a0_, .ref q3_), (2, 4, a0_, .ref q4_), (0, 0, q2_, .ref q0_), (0, 1, q2_, .ref q1_), (5, 0, q1_, .ref q3_), (5, 1, q1_, .ref q8_)]) rfl (fun fr_490 H locs hp hMr_490 g => ?_)
      obtain ⟨x_491, h_492, hF_493⟩ := hp
      have hG_494 := dOK.frame hMr_490 go_.2.2.2.1 mq3_ kq3_ (by decide) (by decide) hG_485
      have hG_495 := eOK.frame hMr_490 go_.2.2.2.1 mq2_ kq2_ (by decide) (by decide) hG_489
      have g := g.more hF_493
      refine lv_aload_n hx hb dX2_readAssignment_69 rfl (lv_at hl 2 rfl) ?_
      refine g_getk (C := RX2) (T := TX2) (N := 16) hx hb hts (mc_ inX2) hown hK g rfl 2 (by decide) rfl (hts _ (List.mem_cons_of_mem _ t_418)) (fun _ h9 => h9) 15 rfl dX2_readAssignment_70 ?_
      have go_ := g
      refine g_callv (va_runV (As := []) (rest := []) ⟨hx, hb, hml, hown, hts⟩ (r_X0_read_2 l dC dI L kd tys fr_490 H.size g.2.2.2.1 q2_ mq2_ kq2_ q0_ mq0_ kq0_ q1_ mq1_ kq1_ q3_ mq3_ kq3_ q8_ mq8_ kq8_ x_491 h_492 x_204 h_205 T_ hG_495 hG_494 (g.fcts [18, 19, 20, 21, 0, 10] rfl)) (cwV 0 hts (gV_ t_1182 t_1183 t_1184 t_190 t_1185) rfl rfl rfl (by decide +kernel) ⟨(Nat.le_of_ble_eq_true rfl), (Nat.le_of_ble_eq_true rfl)⟩) (pre3V g hK mq2_ kq2_ (by decide) (q := (RX0, TX0, 14)) rfl) rfl rfl hl.1 rfl (lv_room (Nat.le_of_ble_eq_true rfl)) dX2_readAssignment_73 ⟨(Nat.le_of_ble_eq_true rfl), (Nat.le_of_ble_eq_true rfl)⟩) g hK (by decide) (by decide) (fx' := [(8, 6, q0_, .int x_491), (7, 6, q3_, .int x_486), (7, 5, q3_, .ref a_482), (7, 4, q3_, .ref a_481), (8, 8, q0_, .int x_204), (9, 2, q4_, .int x_6), (2, 15, a0_, .int x_1), (2, 0, a0_, .ref q0_), (2, 1, a0_, .ref q1_), (2, 2, a0_, .ref q2_), (2, 3, a0_, .ref q3_), (2, 4, a0_, .ref q4_), (0, 0, q2_, .ref q0_), (0, 1, q2_, .ref q1_), (5, 0, q1_, .ref q3_), (5, 1, q1_, .ref q8_)]) rfl (fun fr_496 H locs hp hMr_496 g => ?_)
      have hF_497 := hp
      have hG_498 := dOK.frame hMr_496 go_.2.2.2.1 mq3_ kq3_ (by decide) (by decide) hG_494
      have hG_499 := eOK.frame hMr_496 go_.2.2.2.1 mq2_ kq2_ (by decide) (by decide) hG_495
      have g := g.more hF_497
      refine lv_iload_n hx hb dX2_readAssignment_76 rfl (lv_at hl 1 rfl) ?_
      refine lv_bipush (v := 16) hx hb dX2_readAssignment_77 (by decide) ?_
      have kb_16 : bd 16 16 (16 : Int32) := ⟨by decide, by decide⟩
      refine lv_icmp_lt (tgt := 98) hx hb dX2_readAssignment_79 (by decide) (fun c_500 => ?_) (fun c_500 => ?_)
      · have fc_500 := lt_f c_500
        refine lv_aload_n hx hb dX2_readAssignment_98 rfl (lv_at hl 2 rfl) ?_
        refine g_getk (C := RX2) (T := TX2) (N := 16) hx hb hts (mc_ inX2) hown hK g rfl 3 (by decide) rfl (hts _ (List.mem_cons_of_mem _ t_419)) (fun _ h9 => h9) 16 rfl dX2_readAssignment_99 ?_
        refine lv_iload_n hx hb dX2_readAssignment_102 rfl (lv_at hl 0 rfl) ?_
        refine lv_if_eq (tgt := 111) hx hb dX2_readAssignment_103 (by decide) (fun c_ => absurd c_ (by decide)) (fun c_ => ?_)
        refine lv_bipush (v := 27) hx hb dX2_readAssignment_106 (by decide) ?_
        refine lv_goto (tgt := 113) hx hb dX2_readAssignment_108 (by decide) ?_
        refine lv_aload_n hx hb dX2_readAssignment_113 rfl (lv_at hl 2 rfl) ?_
        refine g_getk (C := RX2) (T := TX2) (N := 16) hx hb hts (mc_ inX2) hown hK g rfl 4 (by decide) rfl (hts _ (List.mem_cons_of_mem _ t_420)) (fun _ h9 => h9) 17 rfl dX2_readAssignment_114 ?_
        refine lv_iload_n hx hb dX2_readAssignment_117 rfl (lv_at hl 1 rfl) ?_
        have go_ := g
        refine g_calli (va_runV (As := [.int x_1]) (rest := [.int 27, .ref q3_]) ⟨hx, hb, hml, hown, hts⟩ (r_X9_spanOf l dC dI L kd tys fr_496 H.size g.2.2.2.1 q4_ mq4_ kq4_ x_1) (cwV 1 hts (gV_ t_1401 t_1265 t_1266 t_192 t_1267) rfl rfl rfl (by decide +kernel) ⟨(Nat.le_of_ble_eq_true rfl), (Nat.le_of_ble_eq_true rfl)⟩) (pre3V g hK mq4_ kq4_ (by decide) (q := (RX9, TX9, 13)) rfl) rfl rfl hl.1 rfl (lv_room (Nat.le_of_ble_eq_true rfl)) dX2_readAssignment_118 ⟨(Nat.le_of_ble_eq_true rfl), (Nat.le_of_ble_eq_true rfl)⟩) g hK (by decide) (by decide) (fx' := [(0, 13, q2_, .int 0), (0, 12, q2_, .int 1), (0, 11, q2_, .int 0), (0, 10, q2_, .int 0), (0, 8, q2_, .int 0), (0, 2, q2_, .ref q3_), (8, 6, q0_, .int x_491), (7, 6, q3_, .int x_486), (7, 5, q3_, .ref a_482), (7, 4, q3_, .ref a_481), (8, 8, q0_, .int x_204), (9, 2, q4_, .int x_6), (2, 15, a0_, .int x_1), (2, 0, a0_, .ref q0_), (2, 1, a0_, .ref q1_), (2, 2, a0_, .ref q2_), (2, 3, a0_, .ref q3_), (2, 4, a0_, .ref q4_), (0, 0, q2_, .ref q0_), (0, 1, q2_, .ref q1_), (5, 0, q1_, .ref q3_), (5, 1, q1_, .ref q8_)]) rfl (fun r_501 fr_501 H locs hp hMr_501 g => ?_)
        obtain ⟨h_502, -⟩ := hp
        have hG_503 := dOK.frame hMr_501 go_.2.2.2.1 mq3_ kq3_ (by decide) (by decide) hG_498
        have hG_504 := eOK.frame hMr_501 go_.2.2.2.1 mq2_ kq2_ (by decide) (by decide) hG_499
        have go_ := g
        refine g_callv (va_runV (As := [.int 27, .int r_501]) (rest := []) ⟨hx, hb, hml, hown, hts⟩ (r_X7_emitF l dC dI L kd tys fr_501 H.size g.2.2.2.1 q3_ mq3_ kq3_ a_481 ma_481 ka_481 a_482 ma_482 ka_482 x_486 h_487 T_ hG_503 (27 : Int32) r_501 (g.fcts [9, 8, 7] rfl)) (cwV 2 hts (gV_ t_1301 t_1204 t_1205 t_191 t_1206) rfl rfl rfl (by decide +kernel) ⟨(Nat.le_of_ble_eq_true rfl), (Nat.le_of_ble_eq_true rfl)⟩) (pre3V g hK mq3_ kq3_ (by decide) (q := (RX7, TX7, 19)) rfl) rfl rfl hl.1 rfl (lv_room (Nat.le_of_ble_eq_true rfl)) dX2_readAssignment_121 ⟨(Nat.le_of_ble_eq_true rfl), (Nat.le_of_ble_eq_true rfl)⟩) g hK (by decide) (by decide) (fx' := [(0, 13, q2_, .int 0), (0, 12, q2_, .int 1), (0, 11, q2_, .int 0), (0, 10, q2_, .int 0), (0, 8, q2_, .int 0), (0, 2, q2_, .ref q3_), (8, 6, q0_, .int x_491), (7, 5, q3_, .ref a_482), (7, 4, q3_, .ref a_481), (8, 8, q0_, .int x_204), (9, 2, q4_, .int x_6), (2, 15, a0_, .int x_1), (2, 0, a0_, .ref q0_), (2, 1, a0_, .ref q1_), (2, 2, a0_, .ref q2_), (2, 3, a0_, .ref q3_), (2, 4, a0_, .ref q4_), (0, 0, q2_, .ref q0_), (0, 1, q2_, .ref q1_), (5, 0, q1_, .ref q3_), (5, 1, q1_, .ref q8_)]) rfl (fun fr_505 H locs hp hMr_505 g => ?_)
        obtain ⟨hG_506, x_507, h_508, hF_509⟩ := hp
        have hG_510 := eOK.frame hMr_505 go_.2.2.2.1 mq2_ kq2_ (by decide) (by decide) hG_504
        have g := g.more hF_509
        refine lv_aload_n hx hb dX2_readAssignment_124 rfl (lv_at hl 2 rfl) ?_
        refine g_getk (C := RX2) (T := TX2) (N := 16) hx hb hts (mc_ inX2) hown hK g rfl 0 (by decide) rfl (hts _ (List.mem_cons_of_mem _ t_416)) (fun _ h9 => h9) 13 rfl dX2_readAssignment_125 ?_
        refine lv_bipush (v := 59) hx hb dX2_readAssignment_128 (by decide) ?_
        have go_ := g
        refine g_callv (va_runV (As := [.int 59]) (rest := []) ⟨hx, hb, hml, hown, hts⟩ (r_X8_take_2 l dC dI L kd tys fr_505 H.size g.2.2.2.1 q0_ mq0_ kq0_ 59 x_491 h_492 x_204 h_205 (g.fcts [7, 10] rfl)) (cwV 1 hts (gV_ t_1098 t_1099 t_1100 t_184 t_1101) rfl rfl rfl (by decide +kernel) ⟨(Nat.le_of_ble_eq_true rfl), (Nat.le_of_ble_eq_true rfl)⟩) (pre3V g hK mq0_ kq0_ (by decide) (q := (RX8, TX8, 10)) rfl) rfl rfl hl.1 rfl (lv_room (Nat.le_of_ble_eq_true rfl)) dX2_readAssignment_130 ⟨(Nat.le_of_ble_eq_true rfl), (Nat.le_of_ble_eq_true rfl)⟩) g hK (by decide) (by decide) (fx' := [(7, 6, q3_, .int x_507), (0, 13, q2_, .int 0), (0, 12, q2_, .int 1), (0, 11, q2_, .int 0), (0, 10, q2_, .int 0), (0, 8, q2_, .int 0), (0, 2, q2_, .ref q3_), (7, 5, q3_, .ref a_482), (7, 4, q3_, .ref a_481), (8, 8, q0_, .int x_204), (9, 2, q4_, .int x_6), (2, 15, a0_, .int x_1), (2, 0, a0_, .ref q0_), (2, 1, a0_, .ref q1_), (2, 2, a0_, .ref q2_), (2, 3, a0_, .ref q3_), (2, 4, a0_, .ref q4_), (0, 0, q2_, .ref q0_), (0, 1, q2_, .ref q1_), (5, 0, q1_, .ref q3_), (5, 1, q1_, .ref q8_)]) rfl (fun fr_511 H locs hp hMr_511 g => ?_)
        obtain ⟨x_512, h_513, hF_514⟩ := hp
        have hG_515 := dOK.frame hMr_511 go_.2.2.2.1 mq3_ kq3_ (by decide) (by decide) hG_506
        have hG_516 := eOK.frame hMr_511 go_.2.2.2.1 mq2_ kq2_ (by decide) (by decide) hG_510
        have g := g.more hF_514
        subst hQ
        exact W.vret hx hb hr (fun t ht hW => ⟨⟨_, rfl, Or.inr (⟨hG_515, hG_516, x_512, h_513, x_204, h_205, (g.fcts [0, 10, 7] rfl)⟩), q3_of g hK ht hW⟩, g.2.2.1.F ht⟩) g.2.2.1.2.2 dX2_readAssignment_133
      · have fc_500 := nlt_f c_500
        have b_517 : bd 16 9 (16 : Int32) := leL fc_500 kb_16 b_199 (by decide)
        exact bd_no (eqX rfl b_517 kb_16 (lo := 16) (hi := 9) (by decide)) (by decide)
