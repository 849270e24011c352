set_option maxHeartbeats 4000000 in
set_option maxRecDepth 100000 in
theorem r_X2_readTest_2 (l : Launch) (dC : Nat → ClassId) (dI : Nat → Nat → Nat) (L : List Nat) (kd : Nat → Nat) (tys : List (ClassId × FieldType)) (f0 : Nat → va_E) (sz : Nat) (hWT : WT L kd tys f0) (a0_ : Nat) (ma0_ : a0_ ∈ L) (ka0_ : kd a0_ = 2) (x1_ : Int32) (q0_ : Nat) (mq0_ : q0_ ∈ L) (kq0_ : kd q0_ = 8) (q1_ : Nat) (mq1_ : q1_ ∈ L) (kq1_ : kd q1_ = 5) (q2_ : Nat) (mq2_ : q2_ ∈ L) (kq2_ : kd q2_ = 0) (q3_ : Nat) (mq3_ : q3_ ∈ L) (kq3_ : kd q3_ = 7) (q7_ : Nat) (mq7_ : q7_ ∈ L) (kq7_ : kd q7_ = 9) (y0_ : Int32) (by0_ : bd 0 0 y0_) (T_ : Nat) (J_ : Int32 → Prop) (hGba0_ : bJx f0 a0_) (hGcq3_ : cOK f0 q3_) (hGdq3_ : dOK L kd f0 q3_ T_) (hGsq3_ : jS f0 q3_ J_) (hGeq2_ : eOK f0 q2_) (hfx : Fs L kd f0 [(2, 0, a0_, .ref q0_), (2, 1, a0_, .ref q1_), (2, 2, a0_, .ref q2_), (2, 3, a0_, .ref q3_), (0, 0, q2_, .ref q0_), (0, 1, q2_, .ref q1_), (5, 0, q1_, .ref q3_), (5, 1, q1_, .ref q7_), (8, 8, q0_, .int y0_)]) : Met l yX2_readTest (.code yX2_readTest cX2_readTest 4 none :: lw_g) ({ frames := 4, cells := 0, slots := 0, locals := 97 }) (va_Pc [.ref a0_, .int x1_] (P3 (dC, dI) L tys f0 sz)) (va_Qv (fun (f : Nat → va_E) => (bJx f a0_ ∧ cOK f q3_ ∧ dOK L kd f q3_ T_ ∧ jS f q3_ J_ ∧ eOK f q2_ ∧ ∃ z0_ : Int32, bd 1 1201 z0_ ∧ ∃ z1_ : Int32, bd 1 8 z1_ ∧ Fs L kd f [(8, 6, q0_, .int z0_), (2, 11, a0_, .int z1_), (8, 8, q0_, .int y0_), (0, 2, q2_, .ref q3_)]) ∨ (dOK L kd f q3_ T_ ∧ eOK f q2_ ∧ ∃ z1_ : Int32, bd 1 7 z1_ ∧ Fs L kd f [(8, 6, q0_, .int 1201), (8, 8, q0_, .int z1_), (0, 2, q2_, .ref q3_)])) (Q3 (dC, dI) L kd tys [(0, 2), (0, 8), (0, 10), (0, 11), (0, 12), (0, 13), (2, 11), (7, 6), (7, 18), (8, 6), (8, 8), (8, 9)] [110, 111, 112, 113, 114, 115, 118, 119, 120, 121, 138, 139] f0 sz) (pA L sz)) 0 0 (pA L sz) := by
  refine Met.ofW (cc := cX2_readTest) (maxL := 4) (ret := none) (by decide) rfl ?_
  intro p e s m args below meth c s₁ B hml hv
  obtain ⟨rfl, hsz, hP, hK, hD0⟩ := hv
  have hx := B.exec
  have hb := B.bytes
  have hr := B.returns
  have hts := atoms_spec (ws := (.code yX2_readTest cX2_readTest 4 none :: lw_g)) B.pre
  have hown : s.vm.findClass RX2 = some m.cls := findClass_of_methodNamed B.named
  have hlocks := B.notSynchronized
  subst hsz
  have g : G3 (dC, dI) L kd tys s f0 [(0, 2), (0, 8), (0, 10), (0, 11), (0, 12), (0, 13), (2, 11), (7, 6), (7, 18), (8, 6), (8, 8), (8, 9)] [110, 111, 112, 113, 114, 115, 118, 119, 120, 121, 138, 139] f0 s.heap [] [(2, 0, a0_, .ref q0_), (2, 1, a0_, .ref q1_), (2, 2, a0_, .ref q2_), (2, 3, a0_, .ref q3_), (0, 0, q2_, .ref q0_), (0, 1, q2_, .ref q1_), (5, 0, q1_, .ref q3_), (5, 1, q1_, .ref q7_), (8, 8, q0_, .int y0_)] := G3.start hP hD0 hWT hfx
  have hl := lv_entry ([.ref a0_, .int x1_]) (n := 4) (Nat.le_of_ble_eq_true rfl)
  rw [lg_entry_eq]
  generalize (lg_sl ([.ref a0_, .int x1_]) ++ List.replicate (4 - (lg_sl ([.ref a0_, .int x1_])).length) Slot.unset).toArray = ls at hl ⊢
  have hl : lv_has ls 4 [(0, .ref a0_), (1, .int x1_)] := hl
  refine W_q (fun Q hQ => ?_)
  refine lv_aload_n hx hb dX2_readTest_0 rfl (lv_at hl 0 rfl) ?_
  refine g_getk (C := RX2) (T := TX2) (N := 16) hx hb hts (mc_ inX2) hown hK g rfl 0 (by decide) rfl (hts _ (List.mem_cons_of_mem _ t_416)) (fun _ h9 => h9) 0 rfl dX2_readTest_1 ?_
  have go_ := g
  refine g_callv (va_runV (As := []) (rest := []) ⟨hx, hb, hml, hown, hts⟩ (r_X8_next l dC dI L kd tys f0 s.heap.size g.2.2.2.1 q0_ mq0_ kq0_) (cwV 0 hts (gV_ t_1131 t_1103 t_1104 t_184 t_1105) rfl rfl rfl (by decide +kernel) ⟨(Nat.le_of_ble_eq_true rfl), (Nat.le_of_ble_eq_true rfl)⟩) (pre3V g hK mq0_ kq0_ (by decide) (q := (RX8, TX8, 10)) rfl) rfl rfl hl.1 rfl (lv_room (Nat.le_of_ble_eq_true rfl)) dX2_readTest_4 ⟨(Nat.le_of_ble_eq_true rfl), (Nat.le_of_ble_eq_true rfl)⟩) g hK (by decide) (by decide) (fx' := [(2, 0, a0_, .ref q0_), (2, 1, a0_, .ref q1_), (2, 2, a0_, .ref q2_), (2, 3, a0_, .ref q3_), (0, 0, q2_, .ref q0_), (0, 1, q2_, .ref q1_), (5, 0, q1_, .ref q3_), (5, 1, q1_, .ref q7_), (8, 8, q0_, .int y0_)]) rfl (fun fr_1 H locs hp hMr_1 g => ?_)
  obtain ⟨x_2, h_3, hF_4⟩ := hp
  have hG_5 := bJx.frame hMr_1 go_.2.2.2.1 ma0_ ka0_ (by decide) (by decide) hGba0_
  have hG_6 := cOK.frame hMr_1 go_.2.2.2.1 mq3_ kq3_ (by decide) (by decide) hGcq3_
  have hG_7 := dOK.frame hMr_1 go_.2.2.2.1 mq3_ kq3_ (by decide) (by decide) hGdq3_
  have hG_8 := jS.frame hMr_1 go_.2.2.2.1 mq3_ kq3_ (by decide) (by decide) hGsq3_
  have hG_9 := eOK.frame hMr_1 go_.2.2.2.1 mq2_ kq2_ (by decide) (by decide) hGeq2_
  have g := g.more hF_4
  refine lv_aload_n hx hb dX2_readTest_7 rfl (lv_at hl 0 rfl) ?_
  refine g_getk (C := RX2) (T := TX2) (N := 16) hx hb hts (mc_ inX2) hown hK g rfl 3 (by decide) rfl (hts _ (List.mem_cons_of_mem _ t_419)) (fun _ h9 => h9) 4 rfl dX2_readTest_8 ?_
  refine g_geti (C := RX7) (T := TX7) (N := 19) hx hb hts (mc_ inX7) hown hK g mq3_ kq3_ (by decide) rfl 6 (by decide) rfl (hts _ (List.mem_cons_of_mem _ t_647)) (fun _ h9 => h9) rfl dX2_readTest_11 (fun x_10 bx_10 g => ?_)
  refine lv_istore_n (lv' := [(2, .int x_10), (0, .ref a0_), (1, .int x1_)]) hx hb dX2_readTest_14 rfl hl (by decide) rfl (fun ls hl => ?_)
  refine lv_iload_n hx hb dX2_readTest_15 rfl (lv_at hl 2 rfl) ?_
  refine lv_bipush (v := 25) hx hb dX2_readTest_16 (by decide) ?_
  have kb_25 : bd 25 25 (25 : Int32) := ⟨by decide, by decide⟩
  refine lv_icmp_ne (tgt := 31) hx hb dX2_readTest_18 (by decide) (fun c_11 => ?_) (fun c_11 => ?_)
  · have fc_11 := neq_f c_11
    refine lv_aload_n hx hb dX2_readTest_31 rfl (lv_at hl 1 rfl) ?_
    refine g_getk (C := RX2) (T := TX2) (N := 16) hx hb hts (mc_ inX2) hown hK g rfl 2 (by decide) rfl (hts _ (List.mem_cons_of_mem _ t_418)) (fun _ h9 => h9) 4 rfl dX2_readTest_32 ?_
    have go_ := g
    refine g_callv (va_runV (As := []) (rest := []) ⟨hx, hb, hml, hown, hts⟩ (r_X0_read l dC dI L kd tys fr_1 H.size g.2.2.2.1 q2_ mq2_ kq2_ q0_ mq0_ kq0_ q1_ mq1_ kq1_ q3_ mq3_ kq3_ q7_ mq7_ kq7_ y0_ by0_ T_ (fun j9 => jOK fr_1 q3_ j9) hG_9 hG_6 hG_7 (fun _ h9 => h9) (g.fcts [6, 7, 8, 9, 10] rfl)) (cwV 0 hts (gV_ t_1182 t_1183 t_1184 t_190 t_1185) rfl rfl rfl (by decide +kernel) ⟨(Nat.le_of_ble_eq_true rfl), (Nat.le_of_ble_eq_true rfl)⟩) (pre3V g hK mq2_ kq2_ (by decide) (q := (RX0, TX0, 14)) rfl) rfl rfl hl.1 rfl (lv_room (Nat.le_of_ble_eq_true rfl)) dX2_readTest_35 ⟨(Nat.le_of_ble_eq_true rfl), (Nat.le_of_ble_eq_true rfl)⟩) g hK (by decide) (by decide) (fx' := [(2, 0, a0_, .ref q0_), (2, 1, a0_, .ref q1_), (2, 2, a0_, .ref q2_), (2, 3, a0_, .ref q3_), (0, 0, q2_, .ref q0_), (0, 1, q2_, .ref q1_), (5, 0, q1_, .ref q3_), (5, 1, q1_, .ref q7_)]) rfl (fun fr_12 H locs hp hMr_12 g => ?_)
    rcases hp with ⟨hG_13, hG_14, hG_15, hG_16, hF_17⟩ | ⟨hG_18, hG_19, x_20, h_21, x_22, h_23, hF_24⟩
    · have g := g.more hF_17
      have hs_25 := jS.mv hG_8 hG_16
      have hG_26 := bJx.mv hG_5 hMr_12 go_.2.2.2.1 ma0_ ka0_ (by decide) (by decide) (((hMr_12 a0_ ma0_).1 3 (by rw [ka0_]; decide) (by rw [ka0_]; decide)).symm.trans (fx_at g (i := 5) rfl).2.2.2) hG_16
      refine lv_aload_n hx hb dX2_readTest_38 rfl (lv_at hl 1 rfl) ?_
      refine g_getk (C := RX2) (T := TX2) (N := 16) hx hb hts (mc_ inX2) hown hK g rfl 3 (by decide) rfl (hts _ (List.mem_cons_of_mem _ t_419)) (fun _ h9 => h9) 5 rfl dX2_readTest_39 ?_
      refine g_geti (C := RX7) (T := TX7) (N := 19) hx hb hts (mc_ inX7) hown hK g mq3_ kq3_ (by decide) rfl 6 (by decide) rfl (hts _ (List.mem_cons_of_mem _ t_647)) (fun _ h9 => h9) rfl dX2_readTest_42 (fun x_27 bx_27 g => ?_)
      refine lv_istore_n (lv' := [(3, .int x_27), (2, .int x_10), (0, .ref a0_), (1, .int x1_)]) hx hb dX2_readTest_45 rfl hl (by decide) rfl (fun ls hl => ?_)
      refine lv_aload_n hx hb dX2_readTest_46 rfl (lv_at hl 2 rfl) ?_
      refine g_getk (C := RX2) (T := TX2) (N := 16) hx hb hts (mc_ inX2) hown hK g rfl 3 (by decide) rfl (hts _ (List.mem_cons_of_mem _ t_419)) (fun _ h9 => h9) 6 rfl dX2_readTest_47 ?_
      refine lv_bipush (v := 23) hx hb dX2_readTest_50 (by decide) ?_
      refine lv_iconst (v := 0) hx hb dX2_readTest_52 (by decide) ?_
      obtain ⟨a_28, ma_28, ka_28, g⟩ := g_factr g mq3_ kq3_ (by decide) 4 rfl
      obtain ⟨a_29, ma_29, ka_29, g⟩ := g_factr g mq3_ kq3_ (by decide) 5 rfl
      have kb_23 : bd 23 23 (23 : Int32) := ⟨by decide, by decide⟩
      have kb_0 : bd 0 0 (0 : Int32) := ⟨by decide, by decide⟩
      have go_ := g
      refine g_callv (va_runV (As := [.int 23, .int 0]) (rest := []) ⟨hx, hb, hml, hown, hts⟩ (r_X7_emitN l dC dI L kd tys fr_12 H.size g.2.2.2.1 q3_ mq3_ kq3_ a_28 ma_28 ka_28 a_29 ma_29 ka_29 x_27 bx_27 T_ hG_15 (23 : Int32) (0 : Int32) (fun j9 => jOK fr_12 q3_ j9) hG_14 (fun _ h9 => h9) ⟨(fun h9 => ⟨(by have h9_0 := bx_10; unfold bd at h9_0; have h9_1 := h_3; unfold bd at h9_1; have h9_2 := bx_27; unfold bd at h9_2; have h9_3 := by0_; unfold bd at h9_3; have h8_0 := kb_0; unfold bd at h8_0; have h8_1 := kb_23; unfold bd at h8_1; have h8_2 := kb_25; unfold bd at h8_2; omega), (by have h9_0 := bx_10; unfold bd at h9_0; have h9_1 := h_3; unfold bd at h9_1; have h9_2 := bx_27; unfold bd at h9_2; have h9_3 := by0_; unfold bd at h9_3; have h8_0 := kb_0; unfold bd at h8_0; have h8_1 := kb_23; unfold bd at h8_1; have h8_2 := kb_25; unfold bd at h8_2; omega)⟩), (fun h9 => ⟨(by have h9_0 := bx_10; unfold bd at h9_0; have h9_1 := h_3; unfold bd at h9_1; have h9_2 := bx_27; unfold bd at h9_2; have h9_3 := by0_; unfold bd at h9_3; have h8_0 := kb_0; unfold bd at h8_0; have h8_1 := kb_23; unfold bd at h8_1; have h8_2 := kb_25; unfold bd at h8_2; omega), (by have h9_0 := bx_10; unfold bd at h9_0; have h9_1 := h_3; unfold bd at h9_1; have h9_2 := bx_27; unfold bd at h9_2; have h9_3 := by0_; unfold bd at h9_3; have h8_0 := kb_0; unfold bd at h8_0; have h8_1 := kb_23; unfold bd at h8_1; have h8_2 := kb_25; unfold bd at h8_2; omega)⟩), (fun h9 => ⟨(by have h9_0 := bx_10; unfold bd at h9_0; have h9_1 := h_3; unfold bd at h9_1; have h9_2 := bx_27; unfold bd at h9_2; have h9_3 := by0_; unfold bd at h9_3; have h8_0 := kb_0; unfold bd at h8_0; have h8_1 := kb_23; unfold bd at h8_1; have h8_2 := kb_25; unfold bd at h8_2; omega), (by have h9_0 := bx_10; unfold bd at h9_0; have h9_1 := h_3; unfold bd at h9_1; have h9_2 := bx_27; unfold bd at h9_2; have h9_3 := by0_; unfold bd at h9_3; have h8_0 := kb_0; unfold bd at h8_0; have h8_1 := kb_23; unfold bd at h8_1; have h8_2 := kb_25; unfold bd at h8_2; omega)⟩)⟩ (g.fcts [1, 0, 2] rfl)) (cwV 2 hts (gV_ t_1301 t_1204 t_1205 t_191 t_1206) rfl rfl rfl (by decide +kernel) ⟨(Nat.le_of_ble_eq_true rfl), (Nat.le_of_ble_eq_true rfl)⟩) (pre3V g hK mq3_ kq3_ (by decide) (q := (RX7, TX7, 19)) rfl) rfl rfl hl.1 rfl (lv_room (Nat.le_of_ble_eq_true rfl)) dX2_readTest_53 ⟨(Nat.le_of_ble_eq_true rfl), (Nat.le_of_ble_eq_true rfl)⟩) g hK (by decide) (by decide) (fx' := [(7, 5, q3_, .ref a_29), (7, 4, q3_, .ref a_28), (0, 2, q2_, .ref q3_), (8, 8, q0_, .int y0_), (2, 0, a0_, .ref q0_), (2, 1, a0_, .ref q1_), (2, 2, a0_, .ref q2_), (2, 3, a0_, .ref q3_), (0, 0, q2_, .ref q0_), (0, 1, q2_, .ref q1_), (5, 0, q1_, .ref q3_), (5, 1, q1_, .ref q7_)]) rfl (fun fr_30 H locs hp hMr_30 g => ?_)
      obtain ⟨hG_31, hG_32, hG_33, hx_34, x_35, h_36, hF_37⟩ := hp
      have hG_38 := eOK.frame hMr_30 go_.2.2.2.1 mq2_ kq2_ (by decide) (by decide) hG_13
      have hj_39 := hx_34 (by unfold jop; decide)
      have g := g.more hF_37
      have hs_40 := jS.mv hs_25 hG_33
      have hG_41 := bJx.mv hG_26 hMr_30 go_.2.2.2.1 ma0_ ka0_ (by decide) (by decide) (((hMr_30 a0_ ma0_).1 3 (by rw [ka0_]; decide) (by rw [ka0_]; decide)).symm.trans (fx_at g (i := 8) rfl).2.2.2) hG_33
      refine lv_aload_n hx hb dX2_readTest_56 rfl (lv_at hl 2 rfl) ?_
      refine lv_iload_n hx hb dX2_readTest_57 rfl (lv_at hl 3 rfl) ?_
      refine lv_bipush (v := 25) hx hb dX2_readTest_58 (by decide) ?_
      refine lv_icmp_ne (tgt := 67) hx hb dX2_readTest_60 (by decide) (fun c_42 => ?_) (fun c_42 => ?_)
      · have fc_42 := neq_f c_42
        refine lv_iconst (v := 1) hx hb dX2_readTest_67 (by decide) ?_
        refine lv_iload_n hx hb dX2_readTest_68 rfl (lv_at hl 0 rfl) ?_
        refine lv_iload_n hx hb dX2_readTest_69 rfl (lv_at hl 1 rfl) ?_
        have kb_1 : bd 1 1 (1 : Int32) := ⟨by decide, by decide⟩
        have go_ := g
        refine g_callv (va_runV (As := [.int 1, .int x_27, .int x_10]) (rest := []) ⟨hx, hb, hml, hown, hts⟩ (r_X2_openBlock l dC dI L kd tys fr_30 H.size g.2.2.2.1 a0_ ma0_ ka0_ 1 x_27 x_10 q0_ mq0_ kq0_ q3_ mq3_ kq3_ y0_ by0_ hG_41 (fun _ => hj_39) (g.fcts [5, 8, 4] rfl)) (cwV 3 hts (gV_ t_1338 t_1340 t_40 t_183 t_1341) rfl rfl rfl (by decide +kernel) ⟨(Nat.le_of_ble_eq_true rfl), (Nat.le_of_ble_eq_true rfl)⟩) (pre3V g hK ma0_ ka0_ (by decide) (q := (RX2, TX2, 16)) rfl) rfl rfl hl.1 rfl (lv_room (Nat.le_of_ble_eq_true rfl)) dX2_readTest_70 ⟨(Nat.le_of_ble_eq_true rfl), (Nat.le_of_ble_eq_true rfl)⟩) g hK (by decide) (by decide) (fx' := [(7, 6, q3_, .int x_35), (7, 5, q3_, .ref a_29), (7, 4, q3_, .ref a_28), (0, 2, q2_, .ref q3_), (2, 0, a0_, .ref q0_), (2, 1, a0_, .ref q1_), (2, 2, a0_, .ref q2_), (2, 3, a0_, .ref q3_), (0, 0, q2_, .ref q0_), (0, 1, q2_, .ref q1_), (5, 0, q1_, .ref q3_), (5, 1, q1_, .ref q7_)]) rfl (fun fr_43 H locs hp hMr_43 g => ?_)
        rcases hp with ⟨hG_44, x_45, h_46, x_47, h_48, hF_49⟩ | ⟨hG_50, x_51, h_52, hF_53⟩
        · have hG_54 := cOK.frame hMr_43 go_.2.2.2.1 mq3_ kq3_ (by decide) (by decide) hG_32
          have hG_55 := dOK.frame hMr_43 go_.2.2.2.1 mq3_ kq3_ (by decide) (by decide) hG_31
          have hG_56 := jS.frame hMr_43 go_.2.2.2.1 mq3_ kq3_ (by decide) (by decide) hs_40
          have hG_57 := eOK.frame hMr_43 go_.2.2.2.1 mq2_ kq2_ (by decide) (by decide) hG_38
          have hG_58 := jOK.frame hMr_43 go_.2.2.2.1 mq3_ kq3_ (by decide) (by decide) hj_39
          have g := g.more hF_49
          subst hQ
          exact W.vret hx hb hr (fun t ht hW => ⟨⟨_, rfl, Or.inl ⟨hG_44, hG_54, hG_55, hG_56, hG_57, x_45, h_46, x_47, h_48, (g.fcts [0, 1, 2, 6] rfl)⟩, q3_of g hK ht hW⟩, g.2.2.1.F ht⟩) g.2.2.1.2.2 dX2_readTest_73
        · have hG_59 := cOK.frame hMr_43 go_.2.2.2.1 mq3_ kq3_ (by decide) (by decide) hG_32
          have hG_60 := dOK.frame hMr_43 go_.2.2.2.1 mq3_ kq3_ (by decide) (by decide) hG_31
          have hG_61 := jS.frame hMr_43 go_.2.2.2.1 mq3_ kq3_ (by decide) (by decide) hs_40
          have hG_62 := eOK.frame hMr_43 go_.2.2.2.1 mq2_ kq2_ (by decide) (by decide) hG_38
          have hG_63 := jOK.frame hMr_43 go_.2.2.2.1 mq3_ kq3_ (by decide) (by decide) hj_39
          have g := g.more hF_53
          subst hQ
          exact W.vret hx hb hr (fun t ht hW => ⟨⟨_, rfl, Or.inr (⟨hG_60, hG_62, x_51, h_52, (g.fcts [0, 1, 5] rfl)⟩), q3_of g hK ht hW⟩, g.2.2.1.F ht⟩) g.2.2.1.2.2 dX2_readTest_73
      · have fc_42 := eq_f c_42
        exact absurd fc_42 fc_11
    · have g := g.more hF_24
      refine lv_aload_n hx hb dX2_readTest_38 rfl (lv_at hl 1 rfl) ?_
      refine g_getk (C := RX2) (T := TX2) (N := 16) hx hb hts (mc_ inX2) hown hK g rfl 3 (by decide) rfl (hts _ (List.mem_cons_of_mem _ t_419)) (fun _ h9 => h9) 6 rfl dX2_readTest_39 ?_
      refine g_geti (C := RX7) (T := TX7) (N := 19) hx hb hts (mc_ inX7) hown hK g mq3_ kq3_ (by decide) rfl 6 (by decide) rfl (hts _ (List.mem_cons_of_mem _ t_647)) (fun _ h9 => h9) rfl dX2_readTest_42 (fun x_64 bx_64 g => ?_)
      refine lv_istore_n (lv' := [(3, .int x_64), (2, .int x_10), (0, .ref a0_), (1, .int x1_)]) hx hb dX2_readTest_45 rfl hl (by decide) rfl (fun ls hl => ?_)
      refine lv_aload_n hx hb dX2_readTest_46 rfl (lv_at hl 2 rfl) ?_
      refine g_getk (C := RX2) (T := TX2) (N := 16) hx hb hts (mc_ inX2) hown hK g rfl 3 (by decide) rfl (hts _ (List.mem_cons_of_mem _ t_419)) (fun _ h9 => h9) 7 rfl dX2_readTest_47 ?_
      refine lv_bipush (v := 23) hx hb dX2_readTest_50 (by decide) ?_
      refine lv_iconst (v := 0) hx hb dX2_readTest_52 (by decide) ?_
      obtain ⟨a_65, ma_65, ka_65, g⟩ := g_factr g mq3_ kq3_ (by decide) 4 rfl
      obtain ⟨a_66, ma_66, ka_66, g⟩ := g_factr g mq3_ kq3_ (by decide) 5 rfl
      have go_ := g
      refine g_callv (va_runV (As := [.int 23, .int 0]) (rest := []) ⟨hx, hb, hml, hown, hts⟩ (r_X7_emitF l dC dI L kd tys fr_12 H.size g.2.2.2.1 q3_ mq3_ kq3_ a_65 ma_65 ka_65 a_66 ma_66 ka_66 x_64 bx_64 T_ hG_19 (23 : Int32) (0 : Int32) (g.fcts [1, 0, 2] rfl)) (cwV 2 hts (gV_ t_1301 t_1204 t_1205 t_191 t_1206) rfl rfl rfl (by decide +kernel) ⟨(Nat.le_of_ble_eq_true rfl), (Nat.le_of_ble_eq_true rfl)⟩) (pre3V g hK mq3_ kq3_ (by decide) (q := (RX7, TX7, 19)) rfl) rfl rfl hl.1 rfl (lv_room (Nat.le_of_ble_eq_true rfl)) dX2_readTest_53 ⟨(Nat.le_of_ble_eq_true rfl), (Nat.le_of_ble_eq_true rfl)⟩) g hK (by decide) (by decide) (fx' := [(7, 5, q3_, .ref a_66), (7, 4, q3_, .ref a_65), (8, 6, q0_, .int x_20), (8, 8, q0_, .int x_22), (0, 2, q2_, .ref q3_), (2, 0, a0_, .ref q0_), (2, 1, a0_, .ref q1_), (2, 2, a0_, .ref q2_), (2, 3, a0_, .ref q3_), (0, 0, q2_, .ref q0_), (0, 1, q2_, .ref q1_), (5, 0, q1_, .ref q3_), (5, 1, q1_, .ref q7_)]) rfl (fun fr_67 H locs hp hMr_67 g => ?_)
      obtain ⟨hG_68, x_69, h_70, hF_71⟩ := hp
      have hG_72 := eOK.frame hMr_67 go_.2.2.2.1 mq2_ kq2_ (by decide) (by decide) hG_18
      have g := g.more hF_71
      refine lv_aload_n hx hb dX2_readTest_56 rfl (lv_at hl 2 rfl) ?_
      refine lv_iload_n hx hb dX2_readTest_57 rfl (lv_at hl 3 rfl) ?_
      refine lv_bipush (v := 25) hx hb dX2_readTest_58 (by decide) ?_
      refine lv_icmp_ne (tgt := 67) hx hb dX2_readTest_60 (by decide) (fun c_73 => ?_) (fun c_73 => ?_)
      · have fc_73 := neq_f c_73
        refine lv_iconst (v := 1) hx hb dX2_readTest_67 (by decide) ?_
        refine lv_iload_n hx hb dX2_readTest_68 rfl (lv_at hl 0 rfl) ?_
        refine lv_iload_n hx hb dX2_readTest_69 rfl (lv_at hl 1 rfl) ?_
        have go_ := g
        refine g_callv (va_runV (As := [.int 1, .int x_64, .int x_10]) (rest := []) ⟨hx, hb, hml, hown, hts⟩ (r_X2_openBlock_2 l dC dI L kd tys fr_67 H.size g.2.2.2.1 a0_ ma0_ ka0_ 1 x_64 x_10 q0_ mq0_ kq0_ q3_ mq3_ kq3_ x_20 h_21 x_22 h_23 (g.fcts [6, 9, 3, 4] rfl)) (cwV 3 hts (gV_ t_1338 t_1340 t_40 t_183 t_1341) rfl rfl rfl (by decide +kernel) ⟨(Nat.le_of_ble_eq_true rfl), (Nat.le_of_ble_eq_true rfl)⟩) (pre3V g hK ma0_ ka0_ (by decide) (q := (RX2, TX2, 16)) rfl) rfl rfl hl.1 rfl (lv_room (Nat.le_of_ble_eq_true rfl)) dX2_readTest_70 ⟨(Nat.le_of_ble_eq_true rfl), (Nat.le_of_ble_eq_true rfl)⟩) g hK (by decide) (by decide) (fx' := [(7, 6, q3_, .int x_69), (7, 5, q3_, .ref a_66), (7, 4, q3_, .ref a_65), (8, 8, q0_, .int x_22), (0, 2, q2_, .ref q3_), (2, 0, a0_, .ref q0_), (2, 1, a0_, .ref q1_), (2, 2, a0_, .ref q2_), (2, 3, a0_, .ref q3_), (0, 0, q2_, .ref q0_), (0, 1, q2_, .ref q1_), (5, 0, q1_, .ref q3_), (5, 1, q1_, .ref q7_)]) rfl (fun fr_74 H locs hp hMr_74 g => ?_)
        have hF_75 := hp
        have hG_76 := dOK.frame hMr_74 go_.2.2.2.1 mq3_ kq3_ (by decide) (by decide) hG_68
        have hG_77 := eOK.frame hMr_74 go_.2.2.2.1 mq2_ kq2_ (by decide) (by decide) hG_72
        have g := g.more hF_75
        subst hQ
        exact W.vret hx hb hr (fun t ht hW => ⟨⟨_, rfl, Or.inr (⟨hG_76, hG_77, x_22, h_23, (g.fcts [0, 4, 5] rfl)⟩), q3_of g hK ht hW⟩, g.2.2.1.F ht⟩) g.2.2.1.2.2 dX2_readTest_73
      · have fc_73 := eq_f c_73
        exact absurd fc_73 fc_11
  · have fc_11 := eq_f c_11
    have b_78 : bd 25 25 x1_ := eqX fc_11 (bdT x1_) kb_25 (by decide)
    refine lv_aload_n hx hb dX2_readTest_21 rfl (lv_at hl 1 rfl) ?_
    refine g_getk (C := RX2) (T := TX2) (N := 16) hx hb hts (mc_ inX2) hown hK g rfl 3 (by decide) rfl (hts _ (List.mem_cons_of_mem _ t_419)) (fun _ h9 => h9) 5 rfl dX2_readTest_22 ?_
    refine lv_bipush (v := 13) hx hb dX2_readTest_25 (by decide) ?_
    refine lv_iconst (v := 0) hx hb dX2_readTest_27 (by decide) ?_
    obtain ⟨a_79, ma_79, ka_79, g⟩ := g_factr g mq3_ kq3_ (by decide) 4 rfl
    obtain ⟨a_80, ma_80, ka_80, g⟩ := g_factr g mq3_ kq3_ (by decide) 5 rfl
    have kb_13 : bd 13 13 (13 : Int32) := ⟨by decide, by decide⟩
    have kb_0 : bd 0 0 (0 : Int32) := ⟨by decide, by decide⟩
    have go_ := g
    refine g_callv (va_runV (As := [.int 13, .int 0]) (rest := []) ⟨hx, hb, hml, hown, hts⟩ (r_X7_emitN l dC dI L kd tys fr_1 H.size g.2.2.2.1 q3_ mq3_ kq3_ a_79 ma_79 ka_79 a_80 ma_80 ka_80 x_10 bx_10 T_ hG_7 (13 : Int32) (0 : Int32) (fun j9 => jOK fr_1 q3_ j9) hG_6 (fun _ h9 => h9) ⟨(fun h9 => ⟨(by have h9_0 := b_78; unfold bd at h9_0; have h9_1 := bx_10; unfold bd at h9_1; have h9_2 := h_3; unfold bd at h9_2; have h9_3 := by0_; unfold bd at h9_3; have h8_0 := kb_0; unfold bd at h8_0; have h8_1 := kb_13; unfold bd at h8_1; have h8_2 := kb_25; unfold bd at h8_2; omega), (by have h9_0 := b_78; unfold bd at h9_0; have h9_1 := bx_10; unfold bd at h9_1; have h9_2 := h_3; unfold bd at h9_2; have h9_3 := by0_; unfold bd at h9_3; have h8_0 := kb_0; unfold bd at h8_0; have h8_1 := kb_13; unfold bd at h8_1; have h8_2 := kb_25; unfold bd at h8_2; omega)⟩), (fun h9 => ⟨(by have h9_0 := b_78; unfold bd at h9_0; have h9_1 := bx_10; unfold bd at h9_1; have h9_2 := h_3; unfold bd at h9_2; have h9_3 := by0_; unfold bd at h9_3; have h8_0 := kb_0; unfold bd at h8_0; have h8_1 := kb_13; unfold bd at h8_1; have h8_2 := kb_25; unfold bd at h8_2; omega), (by have h9_0 := b_78; unfold bd at h9_0; have h9_1 := bx_10; unfold bd at h9_1; have h9_2 := h_3; unfold bd at h9_2; have h9_3 := by0_; unfold bd at h9_3; have h8_0 := kb_0; unfold bd at h8_0; have h8_1 := kb_13; unfold bd at h8_1; have h8_2 := kb_25; unfold bd at h8_2; omega)⟩), (fun h9 => ⟨(by have h9_0 := b_78; unfold bd at h9_0; have h9_1 := bx_10; unfold bd at h9_1; have h9_2 := h_3; unfold bd at h9_2; have h9_3 := by0_; unfold bd at h9_3; have h8_0 := kb_0; unfold bd at h8_0; have h8_1 := kb_13; unfold bd at h8_1; have h8_2 := kb_25; unfold bd at h8_2; omega), (by have h9_0 := b_78; unfold bd at h9_0; have h9_1 := bx_10; unfold bd at h9_1; have h9_2 := h_3; unfold bd at h9_2; have h9_3 := by0_; unfold bd at h9_3; have h8_0 := kb_0; unfold bd at h8_0; have h8_1 := kb_13; unfold bd at h8_1; have h8_2 := kb_25; unfold bd at h8_2; omega)⟩)⟩ (g.fcts [1, 0, 2] rfl)) (cwV 2 hts (gV_ t_1301 t_1204 t_1205 t_191 t_1206) rfl rfl rfl (by decide +kernel) ⟨(Nat.le_of_ble_eq_true rfl), (Nat.le_of_ble_eq_true rfl)⟩) (pre3V g hK mq3_ kq3_ (by decide) (q := (RX7, TX7, 19)) rfl) rfl rfl hl.1 rfl (lv_room (Nat.le_of_ble_eq_true rfl)) dX2_readTest_28 ⟨(Nat.le_of_ble_eq_true rfl), (Nat.le_of_ble_eq_true rfl)⟩) g hK (by decide) (by decide) (fx' := [(7, 5, q3_, .ref a_80), (7, 4, q3_, .ref a_79), (8, 6, q0_, .int x_2), (2, 0, a0_, .ref q0_), (2, 1, a0_, .ref q1_), (2, 2, a0_, .ref q2_), (2, 3, a0_, .ref q3_), (0, 0, q2_, .ref q0_), (0, 1, q2_, .ref q1_), (5, 0, q1_, .ref q3_), (5, 1, q1_, .ref q7_), (8, 8, q0_, .int y0_)]) rfl (fun fr_81 H locs hp hMr_81 g => ?_)
    obtain ⟨hG_82, hG_83, hG_84, hx_85, x_86, h_87, hF_88⟩ := hp
    have hG_89 := eOK.frame hMr_81 go_.2.2.2.1 mq2_ kq2_ (by decide) (by decide) hG_9
    have g := g.more hF_88
    have hs_90 := jS.mv hG_8 hG_84
    have hG_91 := bJx.mv hG_5 hMr_81 go_.2.2.2.1 ma0_ ka0_ (by decide) (by decide) (((hMr_81 a0_ ma0_).1 3 (by rw [ka0_]; decide) (by rw [ka0_]; decide)).symm.trans (fx_at g (i := 7) rfl).2.2.2) hG_84
    refine lv_aload_n hx hb dX2_readTest_31 rfl (lv_at hl 1 rfl) ?_
    refine g_getk (C := RX2) (T := TX2) (N := 16) hx hb hts (mc_ inX2) hown hK g rfl 2 (by decide) rfl (hts _ (List.mem_cons_of_mem _ t_418)) (fun _ h9 => h9) 6 rfl dX2_readTest_32 ?_
    have go_ := g
    refine g_callv (va_runV (As := []) (rest := []) ⟨hx, hb, hml, hown, hts⟩ (r_X0_read l dC dI L kd tys fr_81 H.size g.2.2.2.1 q2_ mq2_ kq2_ q0_ mq0_ kq0_ q1_ mq1_ kq1_ q3_ mq3_ kq3_ q7_ mq7_ kq7_ y0_ by0_ T_ (fun j9 => jOK fr_81 q3_ j9) hG_89 hG_83 hG_82 (fun _ h9 => h9) (g.fcts [8, 9, 10, 11, 12] rfl)) (cwV 0 hts (gV_ t_1182 t_1183 t_1184 t_190 t_1185) rfl rfl rfl (by decide +kernel) ⟨(Nat.le_of_ble_eq_true rfl), (Nat.le_of_ble_eq_true rfl)⟩) (pre3V g hK mq2_ kq2_ (by decide) (q := (RX0, TX0, 14)) rfl) rfl rfl hl.1 rfl (lv_room (Nat.le_of_ble_eq_true rfl)) dX2_readTest_35 ⟨(Nat.le_of_ble_eq_true rfl), (Nat.le_of_ble_eq_true rfl)⟩) g hK (by decide) (by decide) (fx' := [(7, 5, q3_, .ref a_80), (7, 4, q3_, .ref a_79), (2, 0, a0_, .ref q0_), (2, 1, a0_, .ref q1_), (2, 2, a0_, .ref q2_), (2, 3, a0_, .ref q3_), (0, 0, q2_, .ref q0_), (0, 1, q2_, .ref q1_), (5, 0, q1_, .ref q3_), (5, 1, q1_, .ref q7_)]) rfl (fun fr_92 H locs hp hMr_92 g => ?_)
    rcases hp with ⟨hG_93, hG_94, hG_95, hG_96, hF_97⟩ | ⟨hG_98, hG_99, x_100, h_101, x_102, h_103, hF_104⟩
    · have g := g.more hF_97
      have hs_105 := jS.mv hs_90 hG_96
      have hG_106 := bJx.mv hG_91 hMr_92 go_.2.2.2.1 ma0_ ka0_ (by decide) (by decide) (((hMr_92 a0_ ma0_).1 3 (by rw [ka0_]; decide) (by rw [ka0_]; decide)).symm.trans (fx_at g (i := 7) rfl).2.2.2) hG_96
      refine lv_aload_n hx hb dX2_readTest_38 rfl (lv_at hl 1 rfl) ?_
      refine g_getk (C := RX2) (T := TX2) (N := 16) hx hb hts (mc_ inX2) hown hK g rfl 3 (by decide) rfl (hts _ (List.mem_cons_of_mem _ t_419)) (fun _ h9 => h9) 7 rfl dX2_readTest_39 ?_
      refine g_geti (C := RX7) (T := TX7) (N := 19) hx hb hts (mc_ inX7) hown hK g mq3_ kq3_ (by decide) rfl 6 (by decide) rfl (hts _ (List.mem_cons_of_mem _ t_647)) (fun _ h9 => h9) rfl dX2_readTest_42 (fun x_107 bx_107 g => ?_)
      refine lv_istore_n (lv' := [(3, .int x_107), (2, .int x_10), (0, .ref a0_), (1, .int x1_)]) hx hb dX2_readTest_45 rfl hl (by decide) rfl (fun ls hl => ?_)
      refine lv_aload_n hx hb dX2_readTest_46 rfl (lv_at hl 2 rfl) ?_
      refine g_getk (C := RX2) (T := TX2) (N := 16) hx hb hts (mc_ inX2) hown hK g rfl 3 (by decide) rfl (hts _ (List.mem_cons_of_mem _ t_419)) (fun _ h9 => h9) 8 rfl dX2_readTest_47 ?_
      refine lv_bipush (v := 23) hx hb dX2_readTest_50 (by decide) ?_
      refine lv_iconst (v := 0) hx hb dX2_readTest_52 (by decide) ?_
      have kb_23 : bd 23 23 (23 : Int32) := ⟨by decide, by decide⟩
      have go_ := g
      refine g_callv (va_runV (As := [.int 23, .int 0]) (rest := []) ⟨hx, hb, hml, hown, hts⟩ (r_X7_emitN l dC dI L kd tys fr_92 H.size g.2.2.2.1 q3_ mq3_ kq3_ a_79 ma_79 ka_79 a_80 ma_80 ka_80 x_107 bx_107 T_ hG_95 (23 : Int32) (0 : Int32) (fun j9 => jOK fr_92 q3_ j9) hG_94 (fun _ h9 => h9) ⟨(fun h9 => ⟨(by have h9_0 := b_78; unfold bd at h9_0; have h9_1 := bx_10; unfold bd at h9_1; have h9_2 := bx_107; unfold bd at h9_2; have h9_3 := h_3; unfold bd at h9_3; have h9_4 := h_87; unfold bd at h9_4; have h9_5 := by0_; unfold bd at h9_5; have h8_0 := kb_0; unfold bd at h8_0; have h8_1 := kb_13; unfold bd at h8_1; have h8_2 := kb_23; unfold bd at h8_2; have h8_3 := kb_25; unfold bd at h8_3; omega), (by have h9_0 := b_78; unfold bd at h9_0; have h9_1 := bx_10; unfold bd at h9_1; have h9_2 := bx_107; unfold bd at h9_2; have h9_3 := h_3; unfold bd at h9_3; have h9_4 := h_87; unfold bd at h9_4; have h9_5 := by0_; unfold bd at h9_5; have h8_0 := kb_0; unfold bd at h8_0; have h8_1 := kb_13; unfold bd at h8_1; have h8_2 := kb_23; unfold bd at h8_2; have h8_3 := kb_25; unfold bd at h8_3; omega)⟩), (fun h9 => ⟨(by have h9_0 := b_78; unfold bd at h9_0; have h9_1 := bx_10; unfold bd at h9_1; have h9_2 := bx_107; unfold bd at h9_2; have h9_3 := h_3; unfold bd at h9_3; have h9_4 := h_87; unfold bd at h9_4; have h9_5 := by0_; unfold bd at h9_5; have h8_0 := kb_0; unfold bd at h8_0; have h8_1 := kb_13; unfold bd at h8_1; have h8_2 := kb_23; unfold bd at h8_2; have h8_3 := kb_25; unfold bd at h8_3; omega), (by have h9_0 := b_78; unfold bd at h9_0; have h9_1 := bx_10; unfold bd at h9_1; have h9_2 := bx_107; unfold bd at h9_2; have h9_3 := h_3; unfold bd at h9_3; have h9_4 := h_87; unfold bd at h9_4; have h9_5 := by0_; unfold bd at h9_5; have h8_0 := kb_0; unfold bd at h8_0; have h8_1 := kb_13; unfold bd at h8_1; have h8_2 := kb_23; unfold bd at h8_2; have h8_3 := kb_25; unfold bd at h8_3; omega)⟩), (fun h9 => ⟨(by have h9_0 := b_78; unfold bd at h9_0; have h9_1 := bx_10; unfold bd at h9_1; have h9_2 := bx_107; unfold bd at h9_2; have h9_3 := h_3; unfold bd at h9_3; have h9_4 := h_87; unfold bd at h9_4; have h9_5 := by0_; unfold bd at h9_5; have h8_0 := kb_0; unfold bd at h8_0; have h8_1 := kb_13; unfold bd at h8_1; have h8_2 := kb_23; unfold bd at h8_2; have h8_3 := kb_25; unfold bd at h8_3; omega), (by have h9_0 := b_78; unfold bd at h9_0; have h9_1 := bx_10; unfold bd at h9_1; have h9_2 := bx_107; unfold bd at h9_2; have h9_3 := h_3; unfold bd at h9_3; have h9_4 := h_87; unfold bd at h9_4; have h9_5 := by0_; unfold bd at h9_5; have h8_0 := kb_0; unfold bd at h8_0; have h8_1 := kb_13; unfold bd at h8_1; have h8_2 := kb_23; unfold bd at h8_2; have h8_3 := kb_25; unfold bd at h8_3; omega)⟩)⟩ (g.fcts [4, 3, 0] rfl)) (cwV 2 hts (gV_ t_1301 t_1204 t_1205 t_191 t_1206) rfl rfl rfl (by decide +kernel) ⟨(Nat.le_of_ble_eq_true rfl), (Nat.le_of_ble_eq_true rfl)⟩) (pre3V g hK mq3_ kq3_ (by decide) (q := (RX7, TX7, 19)) rfl) rfl rfl hl.1 rfl (lv_room (Nat.le_of_ble_eq_true rfl)) dX2_readTest_53 ⟨(Nat.le_of_ble_eq_true rfl), (Nat.le_of_ble_eq_true rfl)⟩) g hK (by decide) (by decide) (fx' := [(0, 2, q2_, .ref q3_), (8, 8, q0_, .int y0_), (7, 5, q3_, .ref a_80), (7, 4, q3_, .ref a_79), (2, 0, a0_, .ref q0_), (2, 1, a0_, .ref q1_), (2, 2, a0_, .ref q2_), (2, 3, a0_, .ref q3_), (0, 0, q2_, .ref q0_), (0, 1, q2_, .ref q1_), (5, 0, q1_, .ref q3_), (5, 1, q1_, .ref q7_)]) rfl (fun fr_108 H locs hp hMr_108 g => ?_)
      obtain ⟨hG_109, hG_110, hG_111, hx_112, x_113, h_114, hF_115⟩ := hp
      have hG_116 := eOK.frame hMr_108 go_.2.2.2.1 mq2_ kq2_ (by decide) (by decide) hG_93
      have hj_117 := hx_112 (by unfold jop; decide)
      have g := g.more hF_115
      have hs_118 := jS.mv hs_105 hG_111
      have hG_119 := bJx.mv hG_106 hMr_108 go_.2.2.2.1 ma0_ ka0_ (by decide) (by decide) (((hMr_108 a0_ ma0_).1 3 (by rw [ka0_]; decide) (by rw [ka0_]; decide)).symm.trans (fx_at g (i := 8) rfl).2.2.2) hG_111
      refine lv_aload_n hx hb dX2_readTest_56 rfl (lv_at hl 2 rfl) ?_
      refine lv_iload_n hx hb dX2_readTest_57 rfl (lv_at hl 3 rfl) ?_
      refine lv_bipush (v := 25) hx hb dX2_readTest_58 (by decide) ?_
      refine lv_icmp_ne (tgt := 67) hx hb dX2_readTest_60 (by decide) (fun c_120 => ?_) (fun c_120 => ?_)
      · have fc_120 := neq_f c_120
        have b_121 : bd 26 24 x1_ := neX fc_120 b_78 kb_25 (by decide)
        exact bd_no b_121 (by decide)
      · have fc_120 := eq_f c_120
        refine lv_iconst (v := 3) hx hb dX2_readTest_63 (by decide) ?_
        refine lv_goto (tgt := 68) hx hb dX2_readTest_64 (by decide) ?_
        refine lv_iload_n hx hb dX2_readTest_68 rfl (lv_at hl 0 rfl) ?_
        refine lv_iload_n hx hb dX2_readTest_69 rfl (lv_at hl 1 rfl) ?_
        have kb_3 : bd 3 3 (3 : Int32) := ⟨by decide, by decide⟩
        have go_ := g
        refine g_callv (va_runV (As := [.int 3, .int x_107, .int x_10]) (rest := []) ⟨hx, hb, hml, hown, hts⟩ (r_X2_openBlock l dC dI L kd tys fr_108 H.size g.2.2.2.1 a0_ ma0_ ka0_ 3 x_107 x_10 q0_ mq0_ kq0_ q3_ mq3_ kq3_ y0_ by0_ hG_119 (fun _ => hj_117) (g.fcts [5, 8, 2] rfl)) (cwV 3 hts (gV_ t_1338 t_1340 t_40 t_183 t_1341) rfl rfl rfl (by decide +kernel) ⟨(Nat.le_of_ble_eq_true rfl), (Nat.le_of_ble_eq_true rfl)⟩) (pre3V g hK ma0_ ka0_ (by decide) (q := (RX2, TX2, 16)) rfl) rfl rfl hl.1 rfl (lv_room (Nat.le_of_ble_eq_true rfl)) dX2_readTest_70 ⟨(Nat.le_of_ble_eq_true rfl), (Nat.le_of_ble_eq_true rfl)⟩) g hK (by decide) (by decide) (fx' := [(7, 6, q3_, .int x_113), (0, 2, q2_, .ref q3_), (7, 5, q3_, .ref a_80), (7, 4, q3_, .ref a_79), (2, 0, a0_, .ref q0_), (2, 1, a0_, .ref q1_), (2, 2, a0_, .ref q2_), (2, 3, a0_, .ref q3_), (0, 0, q2_, .ref q0_), (0, 1, q2_, .ref q1_), (5, 0, q1_, .ref q3_), (5, 1, q1_, .ref q7_)]) rfl (fun fr_122 H locs hp hMr_122 g => ?_)
        rcases hp with ⟨hG_123, x_124, h_125, x_126, h_127, hF_128⟩ | ⟨hG_129, x_130, h_131, hF_132⟩
        · have hG_133 := cOK.frame hMr_122 go_.2.2.2.1 mq3_ kq3_ (by decide) (by decide) hG_110
          have hG_134 := dOK.frame hMr_122 go_.2.2.2.1 mq3_ kq3_ (by decide) (by decide) hG_109
          have hG_135 := jS.frame hMr_122 go_.2.2.2.1 mq3_ kq3_ (by decide) (by decide) hs_118
          have hG_136 := eOK.frame hMr_122 go_.2.2.2.1 mq2_ kq2_ (by decide) (by decide) hG_116
          have hG_137 := jOK.frame hMr_122 go_.2.2.2.1 mq3_ kq3_ (by decide) (by decide) hj_117
          have g := g.more hF_128
          subst hQ
          exact W.vret hx hb hr (fun t ht hW => ⟨⟨_, rfl, Or.inl ⟨hG_123, hG_133, hG_134, hG_135, hG_136, x_124, h_125, x_126, h_127, (g.fcts [0, 1, 2, 4] rfl)⟩, q3_of g hK ht hW⟩, g.2.2.1.F ht⟩) g.2.2.1.2.2 dX2_readTest_73
        · have hG_138 := cOK.frame hMr_122 go_.2.2.2.1 mq3_ kq3_ (by decide) (by decide) hG_110
          have hG_139 := dOK.frame hMr_122 go_.2.2.2.1 mq3_ kq3_ (by decide) (by decide) hG_109
          have hG_140 := jS.frame hMr_122 go_.2.2.2.1 mq3_ kq3_ (by decide) (by decide) hs_118
          have hG_141 := eOK.frame hMr_122 go_.2.2.2.1 mq2_ kq2_ (by decide) (by decide) hG_116
          have hG_142 := jOK.frame hMr_122 go_.2.2.2.1 mq3_ kq3_ (by decide) (by decide) hj_117
          have g := g.more hF_132
          subst hQ
          exact W.vret hx hb hr (fun t ht hW => ⟨⟨_, rfl, Or.inr (⟨hG_139, hG_141, x_130, h_131, (g.fcts [0, 1, 3] rfl)⟩), q3_of g hK ht hW⟩, g.2.2.1.F ht⟩) g.2.2.1.2.2 dX2_readTest_73
    · have g := g.more hF_104
      refine lv_aload_n hx hb dX2_readTest_38 rfl (lv_at hl 1 rfl) ?_
      refine g_getk (C := RX2) (T := TX2) (N := 16) hx hb hts (mc_ inX2) hown hK g rfl 3 (by decide) rfl (hts _ (List.mem_cons_of_mem _ t_419)) (fun _ h9 => h9) 8 rfl dX2_readTest_39 ?_
      refine g_geti (C := RX7) (T := TX7) (N := 19) hx hb hts (mc_ inX7) hown hK g mq3_ kq3_ (by decide) rfl 6 (by decide) rfl (hts _ (List.mem_cons_of_mem _ t_647)) (fun _ h9 => h9) rfl dX2_readTest_42 (fun x_143 bx_143 g => ?_)
      refine lv_istore_n (lv' := [(3, .int x_143), (2, .int x_10), (0, .ref a0_), (1, .int x1_)]) hx hb dX2_readTest_45 rfl hl (by decide) rfl (fun ls hl => ?_)
      refine lv_aload_n hx hb dX2_readTest_46 rfl (lv_at hl 2 rfl) ?_
      refine g_getk (C := RX2) (T := TX2) (N := 16) hx hb hts (mc_ inX2) hown hK g rfl 3 (by decide) rfl (hts _ (List.mem_cons_of_mem _ t_419)) (fun _ h9 => h9) 9 rfl dX2_readTest_47 ?_
      refine lv_bipush (v := 23) hx hb dX2_readTest_50 (by decide) ?_
      refine lv_iconst (v := 0) hx hb dX2_readTest_52 (by decide) ?_
      have go_ := g
      refine g_callv (va_runV (As := [.int 23, .int 0]) (rest := []) ⟨hx, hb, hml, hown, hts⟩ (r_X7_emitF l dC dI L kd tys fr_92 H.size g.2.2.2.1 q3_ mq3_ kq3_ a_79 ma_79 ka_79 a_80 ma_80 ka_80 x_143 bx_143 T_ hG_99 (23 : Int32) (0 : Int32) (g.fcts [5, 4, 0] rfl)) (cwV 2 hts (gV_ t_1301 t_1204 t_1205 t_191 t_1206) rfl rfl rfl (by decide +kernel) ⟨(Nat.le_of_ble_eq_true rfl), (Nat.le_of_ble_eq_true rfl)⟩) (pre3V g hK mq3_ kq3_ (by decide) (q := (RX7, TX7, 19)) rfl) rfl rfl hl.1 rfl (lv_room (Nat.le_of_ble_eq_true rfl)) dX2_readTest_53 ⟨(Nat.le_of_ble_eq_true rfl), (Nat.le_of_ble_eq_true rfl)⟩) g hK (by decide) (by decide) (fx' := [(8, 6, q0_, .int x_100), (8, 8, q0_, .int x_102), (0, 2, q2_, .ref q3_), (7, 5, q3_, .ref a_80), (7, 4, q3_, .ref a_79), (2, 0, a0_, .ref q0_), (2, 1, a0_, .ref q1_), (2, 2, a0_, .ref q2_), (2, 3, a0_, .ref q3_), (0, 0, q2_, .ref q0_), (0, 1, q2_, .ref q1_), (5, 0, q1_, .ref q3_), (5, 1, q1_, .ref q7_)]) rfl (fun fr_144 H locs hp hMr_144 g => ?_)
      obtain ⟨hG_145, x_146, h_147, hF_148⟩ := hp
      have hG_149 := eOK.frame hMr_144 go_.2.2.2.1 mq2_ kq2_ (by decide) (by decide) hG_98
      have g := g.more hF_148
      refine lv_aload_n hx hb dX2_readTest_56 rfl (lv_at hl 2 rfl) ?_
      refine lv_iload_n hx hb dX2_readTest_57 rfl (lv_at hl 3 rfl) ?_
      refine lv_bipush (v := 25) hx hb dX2_readTest_58 (by decide) ?_
      refine lv_icmp_ne (tgt := 67) hx hb dX2_readTest_60 (by decide) (fun c_150 => ?_) (fun c_150 => ?_)
      · have fc_150 := neq_f c_150
        have b_151 : bd 26 24 x1_ := neX fc_150 b_78 kb_25 (by decide)
        exact bd_no b_151 (by decide)
      · have fc_150 := eq_f c_150
        refine lv_iconst (v := 3) hx hb dX2_readTest_63 (by decide) ?_
        refine lv_goto (tgt := 68) hx hb dX2_readTest_64 (by decide) ?_
        refine lv_iload_n hx hb dX2_readTest_68 rfl (lv_at hl 0 rfl) ?_
        refine lv_iload_n hx hb dX2_readTest_69 rfl (lv_at hl 1 rfl) ?_
        have go_ := g
        refine g_callv (va_runV (As := [.int 3, .int x_143, .int x_10]) (rest := []) ⟨hx, hb, hml, hown, hts⟩ (r_X2_openBlock_2 l dC dI L kd tys fr_144 H.size g.2.2.2.1 a0_ ma0_ ka0_ 3 x_143 x_10 q0_ mq0_ kq0_ q3_ mq3_ kq3_ x_100 h_101 x_102 h_103 (g.fcts [6, 9, 1, 2] rfl)) (cwV 3 hts (gV_ t_1338 t_1340 t_40 t_183 t_1341) rfl rfl rfl (by decide +kernel) ⟨(Nat.le_of_ble_eq_true rfl), (Nat.le_of_ble_eq_true rfl)⟩) (pre3V g hK ma0_ ka0_ (by decide) (q := (RX2, TX2, 16)) rfl) rfl rfl hl.1 rfl (lv_room (Nat.le_of_ble_eq_true rfl)) dX2_readTest_70 ⟨(Nat.le_of_ble_eq_true rfl), (Nat.le_of_ble_eq_true rfl)⟩) g hK (by decide) (by decide) (fx' := [(7, 6, q3_, .int x_146), (8, 8, q0_, .int x_102), (0, 2, q2_, .ref q3_), (7, 5, q3_, .ref a_80), (7, 4, q3_, .ref a_79), (2, 0, a0_, .ref q0_), (2, 1, a0_, .ref q1_), (2, 2, a0_, .ref q2_), (2, 3, a0_, .ref q3_), (0, 0, q2_, .ref q0_), (0, 1, q2_, .ref q1_), (5, 0, q1_, .ref q3_), (5, 1, q1_, .ref q7_)]) rfl (fun fr_152 H locs hp hMr_152 g => ?_)
        have hF_153 := hp
        have hG_154 := dOK.frame hMr_152 go_.2.2.2.1 mq3_ kq3_ (by decide) (by decide) hG_145
        have hG_155 := eOK.frame hMr_152 go_.2.2.2.1 mq2_ kq2_ (by decide) (by decide) hG_149
        have g := g.more hF_153
        subst hQ
        exact W.vret hx hb hr (fun t ht hW => ⟨⟨_, rfl, Or.inr (⟨hG_154, hG_155, x_102, h_103, (g.fcts [0, 2, 3] rfl)⟩), q3_of g hK ht hW⟩, g.2.2.1.F ht⟩) g.2.2.1.2.2 dX2_readTest_73
set_option maxHeartbeats 4000000 in
set_option maxRecDepth 100000 in
theorem r_X2_findNamed_2 (l : Launch) (dC : Nat → ClassId) (dI : Nat → Nat → Nat) (L : List Nat) (kd : Nat → Nat) (tys : List (ClassId × FieldType)) (f0 : Nat → va_E) (sz : Nat) (hWT : WT L kd tys f0) (a0_ : Nat) (ma0_ : a0_ ∈ L) (ka0_ : kd a0_ = 2) (q0_ : Nat) (mq0_ : q0_ ∈ L) (kq0_ : kd q0_ = 8) (q1_ : Nat) (mq1_ : q1_ ∈ L) (kq1_ : kd q1_ = 5) (q2_ : Nat) (mq2_ : q2_ ∈ L) (kq2_ : kd q2_ = 7) (q3_ : Nat) (mq3_ : q3_ ∈ L) (kq3_ : kd q3_ = 9) (q4_ : Nat) (mq4_ : q4_ ∈ L) (kq4_ : kd q4_ = 9) (y0_ : Int32) (by0_ : bd 0 0 y0_) (hfx : Fs L kd f0 [(2, 0, a0_, .ref q0_), (2, 1, a0_, .ref q1_), (2, 3, a0_, .ref q2_), (2, 4, a0_, .ref q3_), (5, 1, q1_, .ref q4_), (8, 8, q0_, .int y0_)]) : Met l yX2_findNamed (.code yX2_findNamed cX2_findNamed 6 (some .boolean) :: lw_g) ({ frames := 2, cells := 0, slots := 0, locals := 46 }) (va_Pc [.ref a0_] (P3 (dC, dI) L tys f0 sz)) (va_Qi (fun (r : Int32) (f : Nat → va_E) => (r = 0 ∧ ∃ z0_ : Int32, bd 0 26 z0_ ∧ ∃ z1_ : Int32, bd 1 1201 z1_ ∧ Fs L kd f [(2, 15, a0_, .int z0_), (8, 6, q0_, .int z1_), (8, 8, q0_, .int y0_)]) ∨ (r = 0 ∧ ∃ z1_ : Int32, bd 1 7 z1_ ∧ Fs L kd f [(8, 6, q0_, .int 1201), (8, 8, q0_, .int z1_)]) ∨ (r = 1 ∧ ∃ z0_ : Int32, bd 0 11 z0_ ∧ ∃ z1_ : Int32, bd 0 3 z1_ ∧ ∃ z2_ : Int32, bd 0 11 z2_ ∧ ∃ z4_ : Int32, bd 1 1201 z4_ ∧ Fs L kd f [(2, 15, a0_, .int z0_), (2, 14, a0_, .int z1_), (2, 13, a0_, .int z2_), (2, 12, a0_, .int 17), (8, 6, q0_, .int z4_), (8, 8, q0_, .int y0_)]) ∨ (r = 1 ∧ ∃ z0_ : Int32, bd (-1) (-1) z0_ ∧ ∃ z2_ : Int32, bd 1 7 z2_ ∧ Fs L kd f [(2, 15, a0_, .int z0_), (8, 6, q0_, .int 1201), (8, 8, q0_, .int z2_)])) (Q3 (dC, dI) L kd tys [(2, 12), (2, 13), (2, 14), (2, 15), (8, 6), (8, 8), (8, 9)] [] f0 sz) (pA L sz)) 0 0 (pA L sz) := by
  refine Met.ofW (cc := cX2_findNamed) (maxL := 6) (ret := (some .boolean)) (by decide) rfl ?_
  intro p e s m args below meth c s₁ B hml hv
  obtain ⟨rfl, hsz, hP, hK, hD0⟩ := hv
  have hx := B.exec
  have hb := B.bytes
  have hr := B.returns
  have hts := atoms_spec (ws := (.code yX2_findNamed cX2_findNamed 6 (some .boolean) :: lw_g)) B.pre
  have hown : s.vm.findClass RX2 = some m.cls := findClass_of_methodNamed B.named
  have hlocks := B.notSynchronized
  subst hsz
  have g : G3 (dC, dI) L kd tys s f0 [(2, 12), (2, 13), (2, 14), (2, 15), (8, 6), (8, 8), (8, 9)] [] f0 s.heap [] [(2, 0, a0_, .ref q0_), (2, 1, a0_, .ref q1_), (2, 3, a0_, .ref q2_), (2, 4, a0_, .ref q3_), (5, 1, q1_, .ref q4_), (8, 8, q0_, .int y0_)] := G3.start hP hD0 hWT hfx
  have hl := lv_entry ([.ref a0_]) (n := 6) (Nat.le_of_ble_eq_true rfl)
  rw [lg_entry_eq]
  generalize (lg_sl ([.ref a0_]) ++ List.replicate (6 - (lg_sl ([.ref a0_])).length) Slot.unset).toArray = ls at hl ⊢
  have hl : lv_has ls 6 [(0, .ref a0_)] := hl
  refine W_q (fun Q hQ => ?_)
  refine lv_aload_n hx hb dX2_findNamed_0 rfl (lv_at hl 0 rfl) ?_
  refine g_getk (C := RX2) (T := TX2) (N := 16) hx hb hts (mc_ inX2) hown hK g rfl 0 (by decide) rfl (hts _ (List.mem_cons_of_mem _ t_416)) (fun _ h9 => h9) 0 rfl dX2_findNamed_1 ?_
  refine g_calli (va_runV (As := []) (rest := []) ⟨hx, hb, hml, hown, hts⟩ (r_X8_place l dC dI L kd tys f0 s.heap.size g.2.2.2.1 q0_ mq0_ kq0_) (cwV 0 hts (gV_ t_1110 t_1111 t_1112 t_184 t_1113) rfl rfl rfl (by decide +kernel) ⟨(Nat.le_of_ble_eq_true rfl), (Nat.le_of_ble_eq_true rfl)⟩) (pre3V g hK mq0_ kq0_ (by decide) (q := (RX8, TX8, 10)) rfl) rfl rfl hl.1 rfl (lv_room (Nat.le_of_ble_eq_true rfl)) dX2_findNamed_4 ⟨(Nat.le_of_ble_eq_true rfl), (Nat.le_of_ble_eq_true rfl)⟩) g hK (by decide) (by decide) (fx' := [(2, 0, a0_, .ref q0_), (2, 1, a0_, .ref q1_), (2, 3, a0_, .ref q2_), (2, 4, a0_, .ref q3_), (5, 1, q1_, .ref q4_), (8, 8, q0_, .int y0_)]) rfl (fun r_1 fr_1 H locs hp hMr_1 g => ?_)
  refine lv_istore_n (lv' := [(1, .int r_1), (0, .ref a0_)]) hx hb dX2_findNamed_7 rfl hl (by decide) rfl (fun ls hl => ?_)
  refine lv_aload_n hx hb dX2_findNamed_8 rfl (lv_at hl 1 rfl) ?_
  refine g_getk (C := RX2) (T := TX2) (N := 16) hx hb hts (mc_ inX2) hown hK g rfl 0 (by decide) rfl (hts _ (List.mem_cons_of_mem _ t_416)) (fun _ h9 => h9) 0 rfl dX2_findNamed_9 ?_
  refine g_calll (va_runV (As := []) (rest := []) ⟨hx, hb, hml, hown, hts⟩ (r_X8_value l dC dI L kd tys fr_1 H.size g.2.2.2.1 q0_ mq0_ kq0_) (cwV 0 hts (gV_ t_1114 t_1115 t_1116 t_184 t_1117) rfl rfl rfl (by decide +kernel) ⟨(Nat.le_of_ble_eq_true rfl), (Nat.le_of_ble_eq_true rfl)⟩) (pre3V g hK mq0_ kq0_ (by decide) (q := (RX8, TX8, 10)) rfl) rfl rfl hl.1 rfl (lv_room (Nat.le_of_ble_eq_true rfl)) dX2_findNamed_12 ⟨(Nat.le_of_ble_eq_true rfl), (Nat.le_of_ble_eq_true rfl)⟩) g hK (by decide) (by decide) (fx' := [(2, 0, a0_, .ref q0_), (2, 1, a0_, .ref q1_), (2, 3, a0_, .ref q2_), (2, 4, a0_, .ref q3_), (5, 1, q1_, .ref q4_), (8, 8, q0_, .int y0_)]) rfl (fun r_2 fr_2 H locs hp hMr_2 g => ?_)
  refine lv_lstore_n (lv' := [(2, .long r_2), (1, .int r_1), (0, .ref a0_)]) hx hb dX2_findNamed_15 rfl hl (by decide) rfl (fun ls hl => ?_)
  refine lv_aload_n hx hb dX2_findNamed_16 rfl (lv_at hl 2 rfl) ?_
  refine g_getk (C := RX2) (T := TX2) (N := 16) hx hb hts (mc_ inX2) hown hK g rfl 0 (by decide) rfl (hts _ (List.mem_cons_of_mem _ t_416)) (fun _ h9 => h9) 0 rfl dX2_findNamed_17 ?_
  refine g_callv (va_runV (As := []) (rest := []) ⟨hx, hb, hml, hown, hts⟩ (r_X8_next l dC dI L kd tys fr_2 H.size g.2.2.2.1 q0_ mq0_ kq0_) (cwV 0 hts (gV_ t_1131 t_1103 t_1104 t_184 t_1105) rfl rfl rfl (by decide +kernel) ⟨(Nat.le_of_ble_eq_true rfl), (Nat.le_of_ble_eq_true rfl)⟩) (pre3V g hK mq0_ kq0_ (by decide) (q := (RX8, TX8, 10)) rfl) rfl rfl hl.1 rfl (lv_room (Nat.le_of_ble_eq_true rfl)) dX2_findNamed_20 ⟨(Nat.le_of_ble_eq_true rfl), (Nat.le_of_ble_eq_true rfl)⟩) g hK (by decide) (by decide) (fx' := [(2, 0, a0_, .ref q0_), (2, 1, a0_, .ref q1_), (2, 3, a0_, .ref q2_), (2, 4, a0_, .ref q3_), (5, 1, q1_, .ref q4_), (8, 8, q0_, .int y0_)]) rfl (fun fr_3 H locs hp hMr_3 g => ?_)
  obtain ⟨x_4, h_5, hF_6⟩ := hp
  have g := g.more hF_6
  refine lv_aload_n hx hb dX2_findNamed_23 rfl (lv_at hl 2 rfl) ?_
  refine g_getk (C := RX2) (T := TX2) (N := 16) hx hb hts (mc_ inX2) hown hK g rfl 0 (by decide) rfl (hts _ (List.mem_cons_of_mem _ t_416)) (fun _ h9 => h9) 1 rfl dX2_findNamed_24 ?_
  refine g_calli (va_runV (As := []) (rest := []) ⟨hx, hb, hml, hown, hts⟩ (r_X8_atBracket l dC dI L kd tys fr_3 H.size g.2.2.2.1 q0_ mq0_ kq0_) (cwV 0 hts (gV_ t_1358 t_1240 t_1241 t_184 t_1242) rfl rfl rfl (by decide +kernel) ⟨(Nat.le_of_ble_eq_true rfl), (Nat.le_of_ble_eq_true rfl)⟩) (pre3V g hK mq0_ kq0_ (by decide) (q := (RX8, TX8, 10)) rfl) rfl rfl hl.1 rfl (lv_room (Nat.le_of_ble_eq_true rfl)) dX2_findNamed_27 ⟨(Nat.le_of_ble_eq_true rfl), (Nat.le_of_ble_eq_true rfl)⟩) g hK (by decide) (by decide) (fx' := [(8, 6, q0_, .int x_4), (2, 0, a0_, .ref q0_), (2, 1, a0_, .ref q1_), (2, 3, a0_, .ref q2_), (2, 4, a0_, .ref q3_), (5, 1, q1_, .ref q4_), (8, 8, q0_, .int y0_)]) rfl (fun r_7 fr_7 H locs hp hMr_7 g => ?_)
  obtain ⟨h_8, -⟩ := hp
  refine lv_istore (lv' := [(4, .int r_7), (2, .long r_2), (1, .int r_1), (0, .ref a0_)]) hx hb dX2_findNamed_30 hl (by decide) rfl (fun ls hl => ?_)
  refine lv_iload hx hb dX2_findNamed_32 (lv_at hl 0 rfl) ?_
  have kb_0 : bd 0 0 (0 : Int32) := ⟨by decide, by decide⟩
  refine lv_if_eq (tgt := 52) hx hb dX2_findNamed_34 (by decide) (fun c_9 => ?_) (fun c_9 => ?_)
  · have fc_9 := eq_f c_9
    have b_10 : bd 0 0 r_7 := eqX fc_9 h_8 kb_0 (by decide)
    obtain rfl : r_7 = 0 := pt0_ b_10
    refine lv_aload_n hx hb dX2_findNamed_52 rfl (lv_at hl 3 rfl) ?_
    refine g_getk (C := RX2) (T := TX2) (N := 16) hx hb hts (mc_ inX2) hown hK g rfl 1 (by decide) rfl (hts _ (List.mem_cons_of_mem _ t_417)) (fun _ h9 => h9) 2 rfl dX2_findNamed_53 ?_
    refine lv_lload_n hx hb dX2_findNamed_56 rfl (lv_at hl 1 rfl) ?_
    refine g_calli (va_runV (As := [.long r_2]) (rest := []) ⟨hx, hb, hml, hown, hts⟩ (r_X5_placeNamed l dC dI L kd tys fr_7 H.size g.2.2.2.1 q1_ mq1_ kq1_ r_2 q4_ mq4_ kq4_ (g.fcts [5] rfl)) (cwV 1 hts (gV_ t_1317 t_1252 t_1253 t_189 t_1254) rfl rfl rfl (by decide +kernel) ⟨(Nat.le_of_ble_eq_true rfl), (Nat.le_of_ble_eq_true rfl)⟩) (pre3V g hK mq1_ kq1_ (by decide) (q := (RX5, TX5, 9)) rfl) rfl rfl hl.1 rfl (lv_room (Nat.le_of_ble_eq_true rfl)) dX2_findNamed_57 ⟨(Nat.le_of_ble_eq_true rfl), (Nat.le_of_ble_eq_true rfl)⟩) g hK (by decide) (by decide) (fx' := [(8, 6, q0_, .int x_4), (2, 0, a0_, .ref q0_), (2, 1, a0_, .ref q1_), (2, 3, a0_, .ref q2_), (2, 4, a0_, .ref q3_), (5, 1, q1_, .ref q4_), (8, 8, q0_, .int y0_)]) rfl (fun r_11 fr_11 H locs hp hMr_11 g => ?_)
    obtain ⟨h_12, -⟩ := hp
    refine lv_istore (lv' := [(5, .int r_11), (4, .int 0), (2, .long r_2), (1, .int r_1), (0, .ref a0_)]) hx hb dX2_findNamed_60 hl (by decide) rfl (fun ls hl => ?_)
    refine lv_iload hx hb dX2_findNamed_62 (lv_at hl 0 rfl) ?_
    refine lv_iconst (v := (-1)) hx hb dX2_findNamed_64 (by decide) ?_
    have kb_m1 : bd (-1) (-1) ((-1) : Int32) := ⟨by decide, by decide⟩
    refine lv_icmp_ne (tgt := 80) hx hb dX2_findNamed_65 (by decide) (fun c_13 => ?_) (fun c_13 => ?_)
    · have fc_13 := neq_f c_13
      have b_14 : bd 0 26 r_11 := neX fc_13 h_12 kb_m1 (by decide)
      refine lv_iload hx hb dX2_findNamed_80 (lv_at hl 1 rfl) ?_
      refine lv_if_eq (tgt := 125) hx hb dX2_findNamed_82 (by decide) (fun c_ => ?_) (fun c_ => absurd (by decide) c_)
      refine lv_aload_n hx hb dX2_findNamed_125 rfl (lv_at hl 4 rfl) ?_
      refine g_getk (C := RX2) (T := TX2) (N := 16) hx hb hts (mc_ inX2) hown hK g rfl 4 (by decide) rfl (hts _ (List.mem_cons_of_mem _ t_420)) (fun _ h9 => h9) 4 rfl dX2_findNamed_126 ?_
      refine lv_iload hx hb dX2_findNamed_129 (lv_at hl 0 rfl) ?_
      refine g_calli (va_runV (As := [.int r_11]) (rest := []) ⟨hx, hb, hml, hown, hts⟩ (r_X9_isRow l dC dI L kd tys fr_11 H.size g.2.2.2.1 q3_ mq3_ kq3_ r_11) (cwV 1 hts (gV_ t_1392 t_1257 t_1258 t_192 t_1259) rfl rfl rfl (by decide +kernel) ⟨(Nat.le_of_ble_eq_true rfl), (Nat.le_of_ble_eq_true rfl)⟩) (pre3V g hK mq3_ kq3_ (by decide) (q := (RX9, TX9, 13)) rfl) rfl rfl hl.1 rfl (lv_room (Nat.le_of_ble_eq_true rfl)) dX2_findNamed_131 ⟨(Nat.le_of_ble_eq_true rfl), (Nat.le_of_ble_eq_true rfl)⟩) g hK (by decide) (by decide) (fx' := [(8, 6, q0_, .int x_4), (2, 0, a0_, .ref q0_), (2, 1, a0_, .ref q1_), (2, 3, a0_, .ref q2_), (2, 4, a0_, .ref q3_), (5, 1, q1_, .ref q4_), (8, 8, q0_, .int y0_)]) rfl (fun r_15 fr_15 H locs hp hMr_15 g => ?_)
      rcases hp with ⟨h_16, -⟩ | ⟨h_17, h_18, x_19, h_20, hF_21⟩
      · obtain rfl : r_15 = 0 := h_16
        refine lv_aload_n hx hb dX2_findNamed_134 rfl (lv_at hl 4 rfl) ?_
        refine g_getk (C := RX2) (T := TX2) (N := 16) hx hb hts (mc_ inX2) hown hK g rfl 0 (by decide) rfl (hts _ (List.mem_cons_of_mem _ t_416)) (fun _ h9 => h9) 1 rfl dX2_findNamed_135 ?_
        refine g_calli (va_runV (As := []) (rest := [.int 0]) ⟨hx, hb, hml, hown, hts⟩ (r_X8_kind l dC dI L kd tys fr_15 H.size g.2.2.2.1 q0_ mq0_ kq0_) (cwV 0 hts (gV_ t_1118 t_1119 t_1120 t_184 t_1121) rfl rfl rfl (by decide +kernel) ⟨(Nat.le_of_ble_eq_true rfl), (Nat.le_of_ble_eq_true rfl)⟩) (pre3V g hK mq0_ kq0_ (by decide) (q := (RX8, TX8, 10)) rfl) rfl rfl hl.1 rfl (lv_room (Nat.le_of_ble_eq_true rfl)) dX2_findNamed_138 ⟨(Nat.le_of_ble_eq_true rfl), (Nat.le_of_ble_eq_true rfl)⟩) g hK (by decide) (by decide) (fx' := [(8, 6, q0_, .int x_4), (2, 0, a0_, .ref q0_), (2, 1, a0_, .ref q1_), (2, 3, a0_, .ref q2_), (2, 4, a0_, .ref q3_), (5, 1, q1_, .ref q4_), (8, 8, q0_, .int y0_)]) rfl (fun r_22 fr_22 H locs hp hMr_22 g => ?_)
        refine lv_bipush (v := 91) hx hb dX2_findNamed_141 (by decide) ?_
        have kb_91 : bd 91 91 (91 : Int32) := ⟨by decide, by decide⟩
        refine lv_icmp_ne (tgt := 150) hx hb dX2_findNamed_143 (by decide) (fun c_23 => ?_) (fun c_23 => ?_)
        · have fc_23 := neq_f c_23
          refine lv_iconst (v := 0) hx hb dX2_findNamed_150 (by decide) ?_
          refine lv_icmp_eq (tgt := 163) hx hb dX2_findNamed_151 (by decide) (fun c_ => ?_) (fun c_ => absurd (by decide) c_)
          refine lv_aload_n hx hb dX2_findNamed_163 rfl (lv_at hl 4 rfl) ?_
          refine lv_iload hx hb dX2_findNamed_164 (lv_at hl 0 rfl) ?_
          refine g_put (C := RX2) (T := TX2) (N := 16) hx hb hts (mc_ inX2) tyX2 tyX2_ok nmX2 hown hK g ma0_ ka0_ (by decide) rfl 15 (by decide) (hts _ (List.mem_cons_of_mem _ t_431)) (fun _ h9 => h9) rfl rfl (okV_i (bd_sub b_14 (by decide))) rfl rfl (by decide) (Or.inr (Or.inl (by decide))) (fx' := [(8, 6, q0_, .int x_4), (2, 0, a0_, .ref q0_), (2, 1, a0_, .ref q1_), (2, 3, a0_, .ref q2_), (2, 4, a0_, .ref q3_), (5, 1, q1_, .ref q4_), (8, 8, q0_, .int y0_)]) rfl dX2_findNamed_166 (fun f H locs hM_24 g => ?_)
          refine lv_iload hx hb dX2_findNamed_169 (lv_at hl 1 rfl) ?_
          subst hQ
          exact W.zret (v := 0) hx hb hr (nar_z (bd_sub kb_0 (by decide) : bd 0 1 _).1 (bd_sub kb_0 (by decide) : bd 0 1 _).2) (fun t ht hW => ⟨⟨_, _, rfl, Or.inl ⟨rfl, r_11, b_14, x_4, h_5, (g.fcts [0, 1, 7] rfl)⟩, q3_of g hK ht hW⟩, g.2.2.1.F ht⟩) g.2.2.1.2.2 dX2_findNamed_171
        · have fc_23 := eq_f c_23
          have b_25 : bd 91 91 r_22 := eqX fc_23 (bdT r_22) kb_91 (by decide)
          refine lv_iconst (v := 1) hx hb dX2_findNamed_146 (by decide) ?_
          refine lv_goto (tgt := 151) hx hb dX2_findNamed_147 (by decide) ?_
          refine lv_icmp_eq (tgt := 163) hx hb dX2_findNamed_151 (by decide) (fun c_ => absurd c_ (by decide)) (fun c_ => ?_)
          refine lv_aload_n hx hb dX2_findNamed_154 rfl (lv_at hl 4 rfl) ?_
          refine g_getk (C := RX2) (T := TX2) (N := 16) hx hb hts (mc_ inX2) hown hK g rfl 0 (by decide) rfl (hts _ (List.mem_cons_of_mem _ t_416)) (fun _ h9 => h9) 1 rfl dX2_findNamed_155 ?_
          refine lv_iconst (v := 5) hx hb dX2_findNamed_158 (by decide) ?_
          refine lv_iload_n hx hb dX2_findNamed_159 rfl (lv_at hl 3 rfl) ?_
          have kb_5 : bd 5 5 (5 : Int32) := ⟨by decide, by decide⟩
          refine g_callv (va_runV (As := [.int 5, .int r_1]) (rest := []) ⟨hx, hb, hml, hown, hts⟩ (r_X8_fail l dC dI L kd tys fr_22 H.size g.2.2.2.1 q0_ mq0_ kq0_ 5 (bd_sub kb_5 (by decide)) r_1 y0_ by0_ (g.fcts [6] rfl)) (cwV 2 hts (gV_ t_1122 t_1107 t_1108 t_184 t_1109) rfl rfl rfl (by decide +kernel) ⟨(Nat.le_of_ble_eq_true rfl), (Nat.le_of_ble_eq_true rfl)⟩) (pre3V g hK mq0_ kq0_ (by decide) (q := (RX8, TX8, 10)) rfl) rfl rfl hl.1 rfl (lv_room (Nat.le_of_ble_eq_true rfl)) dX2_findNamed_160 ⟨(Nat.le_of_ble_eq_true rfl), (Nat.le_of_ble_eq_true rfl)⟩) g hK (by decide) (by decide) (fx' := [(2, 0, a0_, .ref q0_), (2, 1, a0_, .ref q1_), (2, 3, a0_, .ref q2_), (2, 4, a0_, .ref q3_), (5, 1, q1_, .ref q4_)]) rfl (fun fr_26 H locs hp hMr_26 g => ?_)
          obtain ⟨x_27, h_28, hF_29⟩ := hp
          have g := g.more hF_29
          refine lv_aload_n hx hb dX2_findNamed_163 rfl (lv_at hl 4 rfl) ?_
          refine lv_iload hx hb dX2_findNamed_164 (lv_at hl 0 rfl) ?_
          refine g_put (C := RX2) (T := TX2) (N := 16) hx hb hts (mc_ inX2) tyX2 tyX2_ok nmX2 hown hK g ma0_ ka0_ (by decide) rfl 15 (by decide) (hts _ (List.mem_cons_of_mem _ t_431)) (fun _ h9 => h9) rfl rfl (okV_i (bd_sub b_14 (by decide))) rfl rfl (by decide) (Or.inr (Or.inl (by decide))) (fx' := [(8, 6, q0_, .int 1201), (8, 8, q0_, .int x_27), (2, 0, a0_, .ref q0_), (2, 1, a0_, .ref q1_), (2, 3, a0_, .ref q2_), (2, 4, a0_, .ref q3_), (5, 1, q1_, .ref q4_)]) rfl dX2_findNamed_166 (fun f H locs hM_30 g => ?_)
          refine lv_iload hx hb dX2_findNamed_169 (lv_at hl 1 rfl) ?_
          subst hQ
          exact W.zret (v := 0) hx hb hr (nar_z (bd_sub kb_0 (by decide) : bd 0 1 _).1 (bd_sub kb_0 (by decide) : bd 0 1 _).2) (fun t ht hW => ⟨⟨_, _, rfl, Or.inr (Or.inl ⟨rfl, x_27, h_28, (g.fcts [1, 2] rfl)⟩), q3_of g hK ht hW⟩, g.2.2.1.F ht⟩) g.2.2.1.2.2 dX2_findNamed_171
      · obtain rfl : r_15 = 1 := h_17
        have b_31 : bd 0 9 r_11 := eqX rfl b_14 h_18 (by decide)
        have g := g.more hF_21
        refine lv_aload_n hx hb dX2_findNamed_134 rfl (lv_at hl 4 rfl) ?_
        refine g_getk (C := RX2) (T := TX2) (N := 16) hx hb hts (mc_ inX2) hown hK g rfl 0 (by decide) rfl (hts _ (List.mem_cons_of_mem _ t_416)) (fun _ h9 => h9) 2 rfl dX2_findNamed_135 ?_
        refine g_calli (va_runV (As := []) (rest := [.int 1]) ⟨hx, hb, hml, hown, hts⟩ (r_X8_kind l dC dI L kd tys fr_15 H.size g.2.2.2.1 q0_ mq0_ kq0_) (cwV 0 hts (gV_ t_1118 t_1119 t_1120 t_184 t_1121) rfl rfl rfl (by decide +kernel) ⟨(Nat.le_of_ble_eq_true rfl), (Nat.le_of_ble_eq_true rfl)⟩) (pre3V g hK mq0_ kq0_ (by decide) (q := (RX8, TX8, 10)) rfl) rfl rfl hl.1 rfl (lv_room (Nat.le_of_ble_eq_true rfl)) dX2_findNamed_138 ⟨(Nat.le_of_ble_eq_true rfl), (Nat.le_of_ble_eq_true rfl)⟩) g hK (by decide) (by decide) (fx' := [(9, 2, q3_, .int x_19), (8, 6, q0_, .int x_4), (2, 0, a0_, .ref q0_), (2, 1, a0_, .ref q1_), (2, 3, a0_, .ref q2_), (2, 4, a0_, .ref q3_), (5, 1, q1_, .ref q4_), (8, 8, q0_, .int y0_)]) rfl (fun r_32 fr_32 H locs hp hMr_32 g => ?_)
        refine lv_bipush (v := 91) hx hb dX2_findNamed_141 (by decide) ?_
        have kb_91 : bd 91 91 (91 : Int32) := ⟨by decide, by decide⟩
        refine lv_icmp_ne (tgt := 150) hx hb dX2_findNamed_143 (by decide) (fun c_33 => ?_) (fun c_33 => ?_)
        · have fc_33 := neq_f c_33
          refine lv_iconst (v := 0) hx hb dX2_findNamed_150 (by decide) ?_
          refine lv_icmp_eq (tgt := 163) hx hb dX2_findNamed_151 (by decide) (fun c_ => absurd c_ (by decide)) (fun c_ => ?_)
          refine lv_aload_n hx hb dX2_findNamed_154 rfl (lv_at hl 4 rfl) ?_
          refine g_getk (C := RX2) (T := TX2) (N := 16) hx hb hts (mc_ inX2) hown hK g rfl 0 (by decide) rfl (hts _ (List.mem_cons_of_mem _ t_416)) (fun _ h9 => h9) 2 rfl dX2_findNamed_155 ?_
          refine lv_iconst (v := 5) hx hb dX2_findNamed_158 (by decide) ?_
          refine lv_iload_n hx hb dX2_findNamed_159 rfl (lv_at hl 3 rfl) ?_
          have kb_5 : bd 5 5 (5 : Int32) := ⟨by decide, by decide⟩
          refine g_callv (va_runV (As := [.int 5, .int r_1]) (rest := []) ⟨hx, hb, hml, hown, hts⟩ (r_X8_fail l dC dI L kd tys fr_32 H.size g.2.2.2.1 q0_ mq0_ kq0_ 5 (bd_sub kb_5 (by decide)) r_1 y0_ by0_ (g.fcts [7] rfl)) (cwV 2 hts (gV_ t_1122 t_1107 t_1108 t_184 t_1109) rfl rfl rfl (by decide +kernel) ⟨(Nat.le_of_ble_eq_true rfl), (Nat.le_of_ble_eq_true rfl)⟩) (pre3V g hK mq0_ kq0_ (by decide) (q := (RX8, TX8, 10)) rfl) rfl rfl hl.1 rfl (lv_room (Nat.le_of_ble_eq_true rfl)) dX2_findNamed_160 ⟨(Nat.le_of_ble_eq_true rfl), (Nat.le_of_ble_eq_true rfl)⟩) g hK (by decide) (by decide) (fx' := [(9, 2, q3_, .int x_19), (2, 0, a0_, .ref q0_), (2, 1, a0_, .ref q1_), (2, 3, a0_, .ref q2_), (2, 4, a0_, .ref q3_), (5, 1, q1_, .ref q4_)]) rfl (fun fr_34 H locs hp hMr_34 g => ?_)
          obtain ⟨x_35, h_36, hF_37⟩ := hp
          have g := g.more hF_37
          refine lv_aload_n hx hb dX2_findNamed_163 rfl (lv_at hl 4 rfl) ?_
          refine lv_iload hx hb dX2_findNamed_164 (lv_at hl 0 rfl) ?_
          refine g_put (C := RX2) (T := TX2) (N := 16) hx hb hts (mc_ inX2) tyX2 tyX2_ok nmX2 hown hK g ma0_ ka0_ (by decide) rfl 15 (by decide) (hts _ (List.mem_cons_of_mem _ t_431)) (fun _ h9 => h9) rfl rfl (okV_i (bd_sub b_31 (by decide))) rfl rfl (by decide) (Or.inr (Or.inl (by decide))) (fx' := [(8, 6, q0_, .int 1201), (8, 8, q0_, .int x_35), (9, 2, q3_, .int x_19), (2, 0, a0_, .ref q0_), (2, 1, a0_, .ref q1_), (2, 3, a0_, .ref q2_), (2, 4, a0_, .ref q3_), (5, 1, q1_, .ref q4_)]) rfl dX2_findNamed_166 (fun f H locs hM_38 g => ?_)
          refine lv_iload hx hb dX2_findNamed_169 (lv_at hl 1 rfl) ?_
          subst hQ
          exact W.zret (v := 0) hx hb hr (nar_z (bd_sub kb_0 (by decide) : bd 0 1 _).1 (bd_sub kb_0 (by decide) : bd 0 1 _).2) (fun t ht hW => ⟨⟨_, _, rfl, Or.inr (Or.inl ⟨rfl, x_35, h_36, (g.fcts [1, 2] rfl)⟩), q3_of g hK ht hW⟩, g.2.2.1.F ht⟩) g.2.2.1.2.2 dX2_findNamed_171
        · have fc_33 := eq_f c_33
          have b_39 : bd 91 91 r_32 := eqX fc_33 (bdT r_32) kb_91 (by decide)
          refine lv_iconst (v := 1) hx hb dX2_findNamed_146 (by decide) ?_
          refine lv_goto (tgt := 151) hx hb dX2_findNamed_147 (by decide) ?_
          refine lv_icmp_eq (tgt := 163) hx hb dX2_findNamed_151 (by decide) (fun c_ => ?_) (fun c_ => absurd (by decide) c_)
          refine lv_aload_n hx hb dX2_findNamed_163 rfl (lv_at hl 4 rfl) ?_
          refine lv_iload hx hb dX2_findNamed_164 (lv_at hl 0 rfl) ?_
          refine g_put (C := RX2) (T := TX2) (N := 16) hx hb hts (mc_ inX2) tyX2 tyX2_ok nmX2 hown hK g ma0_ ka0_ (by decide) rfl 15 (by decide) (hts _ (List.mem_cons_of_mem _ t_431)) (fun _ h9 => h9) rfl rfl (okV_i (bd_sub b_31 (by decide))) rfl rfl (by decide) (Or.inr (Or.inl (by decide))) (fx' := [(9, 2, q3_, .int x_19), (8, 6, q0_, .int x_4), (2, 0, a0_, .ref q0_), (2, 1, a0_, .ref q1_), (2, 3, a0_, .ref q2_), (2, 4, a0_, .ref q3_), (5, 1, q1_, .ref q4_), (8, 8, q0_, .int y0_)]) rfl dX2_findNamed_166 (fun f H locs hM_40 g => ?_)
          refine lv_iload hx hb dX2_findNamed_169 (lv_at hl 1 rfl) ?_
          subst hQ
          exact W.zret (v := 0) hx hb hr (nar_z (bd_sub kb_0 (by decide) : bd 0 1 _).1 (bd_sub kb_0 (by decide) : bd 0 1 _).2) (fun t ht hW => ⟨⟨_, _, rfl, Or.inl ⟨rfl, r_11, (bd_sub b_31 (by decide)), x_4, h_5, (g.fcts [0, 2, 8] rfl)⟩, q3_of g hK ht hW⟩, g.2.2.1.F ht⟩) g.2.2.1.2.2 dX2_findNamed_171
    · have fc_13 := eq_f c_13
      have b_41 : bd (-1) (-1) r_11 := eqX fc_13 h_12 kb_m1 (by decide)
      refine lv_aload_n hx hb dX2_findNamed_68 rfl (lv_at hl 4 rfl) ?_
      refine g_getk (C := RX2) (T := TX2) (N := 16) hx hb hts (mc_ inX2) hown hK g rfl 0 (by decide) rfl (hts _ (List.mem_cons_of_mem _ t_416)) (fun _ h9 => h9) 1 rfl dX2_findNamed_69 ?_
      refine lv_iconst (v := 2) hx hb dX2_findNamed_72 (by decide) ?_
      refine lv_iload_n hx hb dX2_findNamed_73 rfl (lv_at hl 3 rfl) ?_
      have kb_2 : bd 2 2 (2 : Int32) := ⟨by decide, by decide⟩
      refine g_callv (va_runV (As := [.int 2, .int r_1]) (rest := []) ⟨hx, hb, hml, hown, hts⟩ (r_X8_fail l dC dI L kd tys fr_11 H.size g.2.2.2.1 q0_ mq0_ kq0_ 2 (bd_sub kb_2 (by decide)) r_1 y0_ by0_ (g.fcts [6] rfl)) (cwV 2 hts (gV_ t_1122 t_1107 t_1108 t_184 t_1109) rfl rfl rfl (by decide +kernel) ⟨(Nat.le_of_ble_eq_true rfl), (Nat.le_of_ble_eq_true rfl)⟩) (pre3V g hK mq0_ kq0_ (by decide) (q := (RX8, TX8, 10)) rfl) rfl rfl hl.1 rfl (lv_room (Nat.le_of_ble_eq_true rfl)) dX2_findNamed_74 ⟨(Nat.le_of_ble_eq_true rfl), (Nat.le_of_ble_eq_true rfl)⟩) g hK (by decide) (by decide) (fx' := [(2, 0, a0_, .ref q0_), (2, 1, a0_, .ref q1_), (2, 3, a0_, .ref q2_), (2, 4, a0_, .ref q3_), (5, 1, q1_, .ref q4_)]) rfl (fun fr_42 H locs hp hMr_42 g => ?_)
      obtain ⟨x_43, h_44, hF_45⟩ := hp
      have g := g.more hF_45
      refine lv_goto (tgt := 163) hx hb dX2_findNamed_77 (by decide) ?_
      refine lv_aload_n hx hb dX2_findNamed_163 rfl (lv_at hl 4 rfl) ?_
      refine lv_iload hx hb dX2_findNamed_164 (lv_at hl 0 rfl) ?_
      refine g_put (C := RX2) (T := TX2) (N := 16) hx hb hts (mc_ inX2) tyX2 tyX2_ok nmX2 hown hK g ma0_ ka0_ (by decide) rfl 15 (by decide) (hts _ (List.mem_cons_of_mem _ t_431)) (fun _ h9 => h9) rfl rfl (okV_i (bd_sub b_41 (by decide))) rfl rfl (by decide) (Or.inr (Or.inl (by decide))) (fx' := [(8, 6, q0_, .int 1201), (8, 8, q0_, .int x_43), (2, 0, a0_, .ref q0_), (2, 1, a0_, .ref q1_), (2, 3, a0_, .ref q2_), (2, 4, a0_, .ref q3_), (5, 1, q1_, .ref q4_)]) rfl dX2_findNamed_166 (fun f H locs hM_46 g => ?_)
      refine lv_iload hx hb dX2_findNamed_169 (lv_at hl 1 rfl) ?_
      subst hQ
      exact W.zret (v := 0) hx hb hr (nar_z (bd_sub kb_0 (by decide) : bd 0 1 _).1 (bd_sub kb_0 (by decide) : bd 0 1 _).2) (fun t ht hW => ⟨⟨_, _, rfl, Or.inr (Or.inl ⟨rfl, x_43, h_44, (g.fcts [1, 2] rfl)⟩), q3_of g hK ht hW⟩, g.2.2.1.F ht⟩) g.2.2.1.2.2 dX2_findNamed_171
  · have fc_9 := neq_f c_9
    have b_47 : bd 1 1 r_7 := neX fc_9 h_8 kb_0 (by decide)
    obtain rfl : r_7 = 1 := pt1_ b_47
    refine lv_aload_n hx hb dX2_findNamed_37 rfl (lv_at hl 3 rfl) ?_
    refine g_getk (C := RX2) (T := TX2) (N := 16) hx hb hts (mc_ inX2) hown hK g rfl 3 (by decide) rfl (hts _ (List.mem_cons_of_mem _ t_419)) (fun _ h9 => h9) 3 rfl dX2_findNamed_38 ?_
    refine lv_aload_n hx hb dX2_findNamed_41 rfl (lv_at hl 3 rfl) ?_
    refine g_getk (C := RX2) (T := TX2) (N := 16) hx hb hts (mc_ inX2) hown hK g rfl 4 (by decide) rfl (hts _ (List.mem_cons_of_mem _ t_420)) (fun _ h9 => h9) 4 rfl dX2_findNamed_42 ?_
    refine lv_lload_n hx hb dX2_findNamed_45 rfl (lv_at hl 1 rfl) ?_
    refine g_calli (va_runV (As := [.ref q3_, .long r_2]) (rest := []) ⟨hx, hb, hml, hown, hts⟩ (r_X7_memberNamed l dC dI L kd tys fr_7 H.size g.2.2.2.1 q2_ mq2_ kq2_ q3_ mq3_ kq3_ r_2) (cwV 2 hts (gV_ t_1306 t_1244 t_1245 t_191 t_1246) rfl rfl rfl (by decide +kernel) ⟨(Nat.le_of_ble_eq_true rfl), (Nat.le_of_ble_eq_true rfl)⟩) (pre3V g hK mq2_ kq2_ (by decide) (q := (RX7, TX7, 19)) rfl) rfl rfl hl.1 rfl (lv_room (Nat.le_of_ble_eq_true rfl)) dX2_findNamed_46 ⟨(Nat.le_of_ble_eq_true rfl), (Nat.le_of_ble_eq_true rfl)⟩) g hK (by decide) (by decide) (fx' := [(8, 6, q0_, .int x_4), (2, 0, a0_, .ref q0_), (2, 1, a0_, .ref q1_), (2, 3, a0_, .ref q2_), (2, 4, a0_, .ref q3_), (5, 1, q1_, .ref q4_), (8, 8, q0_, .int y0_)]) rfl (fun r_48 fr_48 H locs hp hMr_48 g => ?_)
    obtain ⟨h_49, -⟩ := hp
    refine lv_goto (tgt := 60) hx hb dX2_findNamed_49 (by decide) ?_
    refine lv_istore (lv' := [(5, .int r_48), (4, .int 1), (2, .long r_2), (1, .int r_1), (0, .ref a0_)]) hx hb dX2_findNamed_60 hl (by decide) rfl (fun ls hl => ?_)
    refine lv_iload hx hb dX2_findNamed_62 (lv_at hl 0 rfl) ?_
    refine lv_iconst (v := (-1)) hx hb dX2_findNamed_64 (by decide) ?_
    have kb_m1 : bd (-1) (-1) ((-1) : Int32) := ⟨by decide, by decide⟩
    refine lv_icmp_ne (tgt := 80) hx hb dX2_findNamed_65 (by decide) (fun c_50 => ?_) (fun c_50 => ?_)
    · have fc_50 := neq_f c_50
      have b_51 : bd 0 11 r_48 := neX fc_50 h_49 kb_m1 (by decide)
      refine lv_iload hx hb dX2_findNamed_80 (lv_at hl 1 rfl) ?_
      refine lv_if_eq (tgt := 125) hx hb dX2_findNamed_82 (by decide) (fun c_ => absurd c_ (by decide)) (fun c_ => ?_)
      refine lv_aload_n hx hb dX2_findNamed_85 rfl (lv_at hl 4 rfl) ?_
      refine lv_bipush (v := 17) hx hb dX2_findNamed_86 (by decide) ?_
      have kb_17 : bd 17 17 (17 : Int32) := ⟨by decide, by decide⟩
      refine g_put (C := RX2) (T := TX2) (N := 16) hx hb hts (mc_ inX2) tyX2 tyX2_ok nmX2 hown hK g ma0_ ka0_ (by decide) rfl 12 (by decide) (hts _ (List.mem_cons_of_mem _ t_428)) (fun _ h9 => h9) rfl rfl (okV_i (bd_sub kb_17 (by decide))) rfl rfl (by decide) (Or.inr (Or.inl (by decide))) (fx' := [(8, 6, q0_, .int x_4), (2, 0, a0_, .ref q0_), (2, 1, a0_, .ref q1_), (2, 3, a0_, .ref q2_), (2, 4, a0_, .ref q3_), (5, 1, q1_, .ref q4_), (8, 8, q0_, .int y0_)]) rfl dX2_findNamed_88 (fun f H locs hM_52 g => ?_)
      refine lv_aload_n hx hb dX2_findNamed_91 rfl (lv_at hl 4 rfl) ?_
      refine lv_iload hx hb dX2_findNamed_92 (lv_at hl 0 rfl) ?_
      refine g_put (C := RX2) (T := TX2) (N := 16) hx hb hts (mc_ inX2) tyX2 tyX2_ok nmX2 hown hK g ma0_ ka0_ (by decide) rfl 13 (by decide) (hts _ (List.mem_cons_of_mem _ t_429)) (fun _ h9 => h9) rfl rfl (okV_i (bd_sub b_51 (by decide))) rfl rfl (by decide) (Or.inr (Or.inl (by decide))) (fx' := [(2, 12, a0_, .int 17), (8, 6, q0_, .int x_4), (2, 0, a0_, .ref q0_), (2, 1, a0_, .ref q1_), (2, 3, a0_, .ref q2_), (2, 4, a0_, .ref q3_), (5, 1, q1_, .ref q4_), (8, 8, q0_, .int y0_)]) rfl dX2_findNamed_94 (fun f H locs hM_53 g => ?_)
      refine lv_aload_n hx hb dX2_findNamed_97 rfl (lv_at hl 4 rfl) ?_
      refine lv_aload_n hx hb dX2_findNamed_98 rfl (lv_at hl 4 rfl) ?_
      refine g_getk (C := RX2) (T := TX2) (N := 16) hx hb hts (mc_ inX2) hown hK g rfl 3 (by decide) rfl (hts _ (List.mem_cons_of_mem _ t_419)) (fun _ h9 => h9) 5 rfl dX2_findNamed_99 ?_
      refine g_getr (K := 137) (C := RX7) (T := TX7) (N := 19) hx hb hts (mc_ inX7) hown hK g mq2_ kq2_ (by decide) rfl 2 (by decide) rfl (hts _ (List.mem_cons_of_mem _ t_630)) (fun _ h9 => h9) rfl dX2_findNamed_102 (fun a_54 ma_54 ka_54 g => ?_)
      refine lv_aload_n hx hb dX2_findNamed_105 rfl (lv_at hl 4 rfl) ?_
      refine g_getk (C := RX2) (T := TX2) (N := 16) hx hb hts (mc_ inX2) hown hK g rfl 4 (by decide) rfl (hts _ (List.mem_cons_of_mem _ t_420)) (fun _ h9 => h9) 7 rfl dX2_findNamed_106 ?_
      refine g_getr (K := 156) (C := RX9) (T := TX9) (N := 13) hx hb hts (mc_ inX9) hown hK g mq3_ kq3_ (by decide) rfl 9 (by decide) rfl (hts _ (List.mem_cons_of_mem _ t_510)) (fun _ h9 => h9) rfl dX2_findNamed_109 (fun a_55 ma_55 ka_55 g => ?_)
      refine lv_iload hx hb dX2_findNamed_112 (lv_at hl 0 rfl) ?_
      refine g_iald hx hb hK g ma_55 ka_55 (by decide) rfl (in_bd b_51 (by decide)) dX2_findNamed_114 (fun x_56 bx_56 cx_56 => ?_)
      refine g_aald hx hb hK g ma_54 ka_54 (by decide) rfl (by decide) (in_bd bx_56 (by decide)) dX2_findNamed_115 (fun a_57 ma_57 ua_57 wa_57 => ?_)
      have ka_57 : kd a_57 = 6 := by omega
      refine g_geti (C := RX6) (T := TX6) (N := 13) hx hb hts (mc_ inX6) hown hK g ma_57 ka_57 (by decide) rfl 3 (by decide) rfl (hts _ (List.mem_cons_of_mem _ t_568)) (fun _ h9 => h9) rfl dX2_findNamed_116 (fun x_58 bx_58 g => ?_)
      refine g_put (C := RX2) (T := TX2) (N := 16) hx hb hts (mc_ inX2) tyX2 tyX2_ok nmX2 hown hK g ma0_ ka0_ (by decide) rfl 14 (by decide) (hts _ (List.mem_cons_of_mem _ t_430)) (fun _ h9 => h9) rfl rfl (okV_i (bd_sub bx_58 (by decide))) rfl rfl (by decide) (Or.inr (Or.inl (by decide))) (fx' := [(6, 3, a_57, .int x_58), (9, 9, q3_, .ref a_55), (7, 2, q2_, .ref a_54), (2, 13, a0_, .int r_48), (2, 12, a0_, .int 17), (8, 6, q0_, .int x_4), (2, 0, a0_, .ref q0_), (2, 1, a0_, .ref q1_), (2, 3, a0_, .ref q2_), (2, 4, a0_, .ref q3_), (5, 1, q1_, .ref q4_), (8, 8, q0_, .int y0_)]) rfl dX2_findNamed_119 (fun f H locs hM_59 g => ?_)
      refine lv_goto (tgt := 163) hx hb dX2_findNamed_122 (by decide) ?_
      refine lv_aload_n hx hb dX2_findNamed_163 rfl (lv_at hl 4 rfl) ?_
      refine lv_iload hx hb dX2_findNamed_164 (lv_at hl 0 rfl) ?_
      refine g_put (C := RX2) (T := TX2) (N := 16) hx hb hts (mc_ inX2) tyX2 tyX2_ok nmX2 hown hK g ma0_ ka0_ (by decide) rfl 15 (by decide) (hts _ (List.mem_cons_of_mem _ t_431)) (fun _ h9 => h9) rfl rfl (okV_i (bd_sub b_51 (by decide))) rfl rfl (by decide) (Or.inr (Or.inl (by decide))) (fx' := [(2, 14, a0_, .int x_58), (6, 3, a_57, .int x_58), (9, 9, q3_, .ref a_55), (7, 2, q2_, .ref a_54), (2, 13, a0_, .int r_48), (2, 12, a0_, .int 17), (8, 6, q0_, .int x_4), (2, 0, a0_, .ref q0_), (2, 1, a0_, .ref q1_), (2, 3, a0_, .ref q2_), (2, 4, a0_, .ref q3_), (5, 1, q1_, .ref q4_), (8, 8, q0_, .int y0_)]) rfl dX2_findNamed_166 (fun f H locs hM_60 g => ?_)
      refine lv_iload hx hb dX2_findNamed_169 (lv_at hl 1 rfl) ?_
      subst hQ
      have kb_1 : bd 1 1 (1 : Int32) := ⟨by decide, by decide⟩
      exact W.zret (v := 1) hx hb hr (nar_z (bd_sub kb_1 (by decide) : bd 0 1 _).1 (bd_sub kb_1 (by decide) : bd 0 1 _).2) (fun t ht hW => ⟨⟨_, _, rfl, Or.inr (Or.inr (Or.inl ⟨rfl, r_48, b_51, x_58, bx_58, r_48, b_51, x_4, h_5, (g.fcts [0, 1, 5, 6, 7, 13] rfl)⟩)), q3_of g hK ht hW⟩, g.2.2.1.F ht⟩) g.2.2.1.2.2 dX2_findNamed_171
    · have fc_50 := eq_f c_50
      have b_61 : bd (-1) (-1) r_48 := eqX fc_50 h_49 kb_m1 (by decide)
      refine lv_aload_n hx hb dX2_findNamed_68 rfl (lv_at hl 4 rfl) ?_
      refine g_getk (C := RX2) (T := TX2) (N := 16) hx hb hts (mc_ inX2) hown hK g rfl 0 (by decide) rfl (hts _ (List.mem_cons_of_mem _ t_416)) (fun _ h9 => h9) 1 rfl dX2_findNamed_69 ?_
      refine lv_iconst (v := 2) hx hb dX2_findNamed_72 (by decide) ?_
      refine lv_iload_n hx hb dX2_findNamed_73 rfl (lv_at hl 3 rfl) ?_
      have kb_2 : bd 2 2 (2 : Int32) := ⟨by decide, by decide⟩
      refine g_callv (va_runV (As := [.int 2, .int r_1]) (rest := []) ⟨hx, hb, hml, hown, hts⟩ (r_X8_fail l dC dI L kd tys fr_48 H.size g.2.2.2.1 q0_ mq0_ kq0_ 2 (bd_sub kb_2 (by decide)) r_1 y0_ by0_ (g.fcts [6] rfl)) (cwV 2 hts (gV_ t_1122 t_1107 t_1108 t_184 t_1109) rfl rfl rfl (by decide +kernel) ⟨(Nat.le_of_ble_eq_true rfl), (Nat.le_of_ble_eq_true rfl)⟩) (pre3V g hK mq0_ kq0_ (by decide) (q := (RX8, TX8, 10)) rfl) rfl rfl hl.1 rfl (lv_room (Nat.le_of_ble_eq_true rfl)) dX2_findNamed_74 ⟨(Nat.le_of_ble_eq_true rfl), (Nat.le_of_ble_eq_true rfl)⟩) g hK (by decide) (by decide) (fx' := [(2, 0, a0_, .ref q0_), (2, 1, a0_, .ref q1_), (2, 3, a0_, .ref q2_), (2, 4, a0_, .ref q3_), (5, 1, q1_, .ref q4_)]) rfl (fun fr_62 H locs hp hMr_62 g => ?_)
      obtain ⟨x_63, h_64, hF_65⟩ := hp
      have g := g.more hF_65
      refine lv_goto (tgt := 163) hx hb dX2_findNamed_77 (by decide) ?_
      refine lv_aload_n hx hb dX2_findNamed_163 rfl (lv_at hl 4 rfl) ?_
      refine lv_iload hx hb dX2_findNamed_164 (lv_at hl 0 rfl) ?_
      refine g_put (C := RX2) (T := TX2) (N := 16) hx hb hts (mc_ inX2) tyX2 tyX2_ok nmX2 hown hK g ma0_ ka0_ (by decide) rfl 15 (by decide) (hts _ (List.mem_cons_of_mem _ t_431)) (fun _ h9 => h9) rfl rfl (okV_i (bd_sub b_61 (by decide))) rfl rfl (by decide) (Or.inr (Or.inl (by decide))) (fx' := [(8, 6, q0_, .int 1201), (8, 8, q0_, .int x_63), (2, 0, a0_, .ref q0_), (2, 1, a0_, .ref q1_), (2, 3, a0_, .ref q2_), (2, 4, a0_, .ref q3_), (5, 1, q1_, .ref q4_)]) rfl dX2_findNamed_166 (fun f H locs hM_66 g => ?_)
      refine lv_iload hx hb dX2_findNamed_169 (lv_at hl 1 rfl) ?_
      subst hQ
      have kb_1 : bd 1 1 (1 : Int32) := ⟨by decide, by decide⟩
      exact W.zret (v := 1) hx hb hr (nar_z (bd_sub kb_1 (by decide) : bd 0 1 _).1 (bd_sub kb_1 (by decide) : bd 0 1 _).2) (fun t ht hW => ⟨⟨_, _, rfl, Or.inr (Or.inr (Or.inr (⟨rfl, r_48, b_61, x_63, h_64, (g.fcts [0, 1, 2] rfl)⟩))), q3_of g hK ht hW⟩, g.2.2.1.F ht⟩) g.2.2.1.2.2 dX2_findNamed_171
