set_option maxHeartbeats 4000000 in
set_option maxRecDepth 100000 in
theorem r_X0_closeIndex (l : Launch) (dC : Nat → ClassId) (dI : Nat → Nat → Nat) (L : List Nat) (kd : Nat → Nat) (tys : List (ClassId × FieldType)) (f0 : Nat → va_E) (sz : Nat) (hWT : WT L kd tys f0) (a0_ : Nat) (ma0_ : a0_ ∈ L) (ka0_ : kd a0_ = 0) (q0_ : Nat) (mq0_ : q0_ ∈ L) (kq0_ : kd q0_ = 8) (q1_ : Nat) (mq1_ : q1_ ∈ L) (kq1_ : kd q1_ = 7) (y0_ : Int32) (by0_ : bd 1 300 y0_) (y1_ : Int32) (by1_ : bd 0 0 y1_) (T_ : Nat) (J_ : Int32 → Prop) (hGia0_ : eJx f0 a0_) (hGcq1_ : cOK f0 q1_) (hGdq1_ : dOK L kd f0 q1_ T_) (hGsq1_ : jS f0 q1_ J_) (hk_ : ∀ (a9 : Nat) (n9 : Int32), fV f0 a0_ 5 = .ref a9 → fV f0 a0_ 8 = .int n9 → ∃ tg : Int32, vP f0 a9 n9 tg ∧ bd 0 400 tg) (hfx : Fs L kd f0 [(0, 0, a0_, .ref q0_), (0, 2, a0_, .ref q1_), (0, 8, a0_, .int y0_), (8, 8, q0_, .int y1_)]) : Met l yX0_closeIndex (.code yX0_closeIndex cX0_closeIndex 3 none :: lw_g) ({ frames := 1, cells := 0, slots := 0, locals := 23 }) (va_Pc [.ref a0_] (P3 (dC, dI) L tys f0 sz)) (va_Qv (fun (f : Nat → va_E) => (eJx f a0_ ∧ cOK f q1_ ∧ dOK L kd f q1_ T_ ∧ jS f q1_ J_ ∧ ∃ z1_ : Int32, bd 1 300 z1_ ∧ ∃ z2_ : Int32, bd 0 299 z2_ ∧ ∃ z3_ : Int32, bd 1 1201 z3_ ∧ Fs L kd f [(0, 12, a0_, .int 0), (0, 10, a0_, .int z1_), (0, 8, a0_, .int z2_), (8, 6, q0_, .int z3_), (8, 8, q0_, .int y1_)]) ∨ (dOK L kd f q1_ T_ ∧ ∃ z1_ : Int32, bd 1 300 z1_ ∧ ∃ z3_ : Int32, bd 1 7 z3_ ∧ ∃ z4_ : Int32, bd 0 299 z4_ ∧ Fs L kd f [(0, 12, a0_, .int 0), (0, 10, a0_, .int z1_), (8, 6, q0_, .int 1201), (8, 8, q0_, .int z3_), (0, 8, a0_, .int z4_)])) (Q3 (dC, dI) L kd tys [(0, 8), (0, 10), (0, 11), (0, 12), (7, 6), (8, 6), (8, 8), (8, 9)] [115, 138, 139] f0 sz) (pA L sz)) 0 0 (pA L sz) := by
  refine Met.ofW (cc := cX0_closeIndex) (maxL := 3) (ret := none) (by decide) rfl ?_
  intro p e s m args below meth c s₁ B hml hv
  obtain ⟨rfl, hsz, hP, hK, hD0⟩ := hv
  have hx := B.exec
  have hb := B.bytes
  have hr := B.returns
  have hts := atoms_spec (ws := (.code yX0_closeIndex cX0_closeIndex 3 none :: lw_g)) B.pre
  have hown : s.vm.findClass RX0 = some m.cls := findClass_of_methodNamed B.named
  have hlocks := B.notSynchronized
  subst hsz
  have g : G3 (dC, dI) L kd tys s f0 [(0, 8), (0, 10), (0, 11), (0, 12), (7, 6), (8, 6), (8, 8), (8, 9)] [115, 138, 139] f0 s.heap [] [(0, 0, a0_, .ref q0_), (0, 2, a0_, .ref q1_), (0, 8, a0_, .int y0_), (8, 8, q0_, .int y1_)] := G3.start hP hD0 hWT hfx
  have hl := lv_entry ([.ref a0_]) (n := 3) (Nat.le_of_ble_eq_true rfl)
  rw [lg_entry_eq]
  generalize (lg_sl ([.ref a0_]) ++ List.replicate (3 - (lg_sl ([.ref a0_])).length) Slot.unset).toArray = ls at hl ⊢
  have hl : lv_has ls 3 [(0, .ref a0_)] := hl
  refine W_q (fun Q hQ => ?_)
  obtain ⟨a_1, ma_1, ka_1, g⟩ := g_factr g ma0_ ka0_ (by decide) 5 rfl
  obtain ⟨tg_3, hv_4, hb_5⟩ := hk_ _ _ (fx_at g (i := 0) rfl).2.2.2 (fx_at g (i := 3) rfl).2.2.2
  refine lv_aload_n hx hb dX0_closeIndex_0 rfl (lv_at hl 0 rfl) ?_
  refine g_getk (C := RX0) (T := TX0) (N := 14) hx hb hts (mc_ inX0) hown hK g rfl 0 (by decide) rfl (hts _ (List.mem_cons_of_mem _ t_373)) (fun _ h9 => h9) 1 rfl dX0_closeIndex_1 ?_
  have go_ := g
  refine g_callv (va_runV (As := []) (rest := []) ⟨hx, hb, hml, hown, hts⟩ (r_X8_next l dC dI L kd tys f0 s.heap.size g.2.2.2.1 q0_ mq0_ kq0_) (cwV 0 hts (gV_ t_1225 t_1103 t_1104 t_184 t_1105) rfl rfl rfl (by decide +kernel) ⟨(Nat.le_of_ble_eq_true rfl), (Nat.le_of_ble_eq_true rfl)⟩) (pre3V g hK mq0_ kq0_ (by decide) (q := (RX8, TX8, 10)) rfl) rfl rfl hl.1 rfl (lv_room (Nat.le_of_ble_eq_true rfl)) dX0_closeIndex_4 ⟨(Nat.le_of_ble_eq_true rfl), (Nat.le_of_ble_eq_true rfl)⟩) g hK (by decide) (by decide) (fx' := [(0, 5, a0_, .ref a_1), (0, 0, a0_, .ref q0_), (0, 2, a0_, .ref q1_), (0, 8, a0_, .int y0_), (8, 8, q0_, .int y1_)]) rfl (fun fr_6 H locs hp hMr_6 g => ?_)
  obtain ⟨x_7, h_8, hF_9⟩ := hp
  have hG_10 := eJx.frame hMr_6 go_.2.2.2.1 ma0_ ka0_ (by decide) (by decide) hGia0_
  have hG_11 := cOK.frame hMr_6 go_.2.2.2.1 mq1_ kq1_ (by decide) (by decide) hGcq1_
  have hG_12 := dOK.frame hMr_6 go_.2.2.2.1 mq1_ kq1_ (by decide) (by decide) hGdq1_
  have hG_13 := jS.frame hMr_6 go_.2.2.2.1 mq1_ kq1_ (by decide) (by decide) hGsq1_
  have hG_14 := vP.frame hMr_6 go_.2.2.2.1 ma_1 ka_1 (by decide) (by decide) hv_4
  have g := g.more hF_9
  refine lv_aload_n hx hb dX0_closeIndex_7 rfl (lv_at hl 0 rfl) ?_
  refine lv_dup hx hb dX0_closeIndex_8 rfl ?_
  refine g_getk (C := RX0) (T := TX0) (N := 14) hx hb hts (mc_ inX0) hown hK g rfl 8 (by decide) rfl (hts _ (List.mem_cons_of_mem _ t_381)) (fun _ h9 => h9) 4 rfl dX0_closeIndex_9 ?_
  refine lv_iconst (v := 1) hx hb dX0_closeIndex_12 (by decide) ?_
  have kb_1 : bd 1 1 (1 : Int32) := ⟨by decide, by decide⟩
  refine lv_isub hx hb dX0_closeIndex_13 ?_
  refine lv_topi (fun y_15 ey_15 => ?_)
  have ty_15 := sub_bd ey_15 by0_ kb_1 (by decide)
  have b_16 : bd 0 299 y_15 := sub_rg ty_15 by0_ kb_1 (by decide)
  have go_ := g
  refine g_putX (C := RX0) (T := TX0) (N := 14) hx hb hts (mc_ inX0) tyX0 tyX0_ok nmX0 hown hK g ma0_ ka0_ (by decide) rfl 8 (by decide) (hts _ (List.mem_cons_of_mem _ t_381)) (fun _ h9 => h9) rfl rfl (okV_i (bd_sub b_16 (by decide))) rfl rfl (by decide) (Or.inr (Or.inl (by decide))) (fx' := [(8, 6, q0_, .int x_7), (0, 5, a0_, .ref a_1), (0, 0, a0_, .ref q0_), (0, 2, a0_, .ref q1_), (8, 8, q0_, .int y1_)]) rfl dX0_closeIndex_14 (fun f H locs hM_17 u_23 g => ?_)
  have hG_18 := cOK.frame hM_17 go_.2.2.2.1 mq1_ kq1_ (by decide) (by decide) hG_11
  have hG_19 := dOK.frame hM_17 go_.2.2.2.1 mq1_ kq1_ (by decide) (by decide) hG_12
  have hG_20 := jS.frame hM_17 go_.2.2.2.1 mq1_ kq1_ (by decide) (by decide) hG_13
  have hG_21 := vP.frame hM_17 go_.2.2.2.1 ma_1 ka_1 (by decide) (by decide) hG_14
  have hi_22 := eJx.dec hG_10 (fx_at go_ (i := 4) rfl).2.2.2 (fx_at go_ (i := 3) rfl).2.2.2 mq1_ kq1_ u_23 (by have h9_0 := h_8; unfold bd at h9_0; have h9_1 := by0_; unfold bd at h9_1; have h9_2 := by1_; unfold bd at h9_2; have h9_3 := b_16; unfold bd at h9_3; have h8_0 := kb_1; unfold bd at h8_0; omega) go_.2.2.2.1 ma0_ ka0_
  refine lv_aload_n hx hb dX0_closeIndex_17 rfl (lv_at hl 0 rfl) ?_
  refine lv_dup hx hb dX0_closeIndex_18 rfl ?_
  refine g_geti (C := RX0) (T := TX0) (N := 14) hx hb hts (mc_ inX0) hown hK g ma0_ ka0_ (by decide) rfl 11 (by decide) rfl (hts _ (List.mem_cons_of_mem _ t_384)) (fun _ h9 => h9) rfl dX0_closeIndex_19 (fun x_24 bx_24 g => ?_)
  refine lv_iconst (v := 1) hx hb dX0_closeIndex_22 (by decide) ?_
  refine lv_isub hx hb dX0_closeIndex_23 ?_
  refine lv_topi (fun y_25 ey_25 => ?_)
  have go_ := g
  refine g_put (C := RX0) (T := TX0) (N := 14) hx hb hts (mc_ inX0) tyX0 tyX0_ok nmX0 hown hK g ma0_ ka0_ (by decide) rfl 11 (by decide) (hts _ (List.mem_cons_of_mem _ t_384)) (fun _ h9 => h9) rfl rfl (okV_i (bdT y_25)) rfl rfl (by decide) (Or.inr (Or.inl (by decide))) (fx' := [(0, 8, a0_, .int y_15), (8, 6, q0_, .int x_7), (0, 5, a0_, .ref a_1), (0, 0, a0_, .ref q0_), (0, 2, a0_, .ref q1_), (8, 8, q0_, .int y1_)]) rfl dX0_closeIndex_24 (fun f H locs hM_26 g => ?_)
  have hG_27 := cOK.frame hM_26 go_.2.2.2.1 mq1_ kq1_ (by decide) (by decide) hG_18
  have hG_28 := dOK.frame hM_26 go_.2.2.2.1 mq1_ kq1_ (by decide) (by decide) hG_19
  have hG_29 := jS.frame hM_26 go_.2.2.2.1 mq1_ kq1_ (by decide) (by decide) hG_20
  have hG_30 := vP.frame hM_26 go_.2.2.2.1 ma_1 ka_1 (by decide) (by decide) hG_21
  have hG_31 := eJx.frame hM_26 go_.2.2.2.1 ma0_ ka0_ (by decide) (by decide) hi_22
  refine lv_aload_n hx hb dX0_closeIndex_27 rfl (lv_at hl 0 rfl) ?_
  refine g_getr (K := 110) (C := RX0) (T := TX0) (N := 14) hx hb hts (mc_ inX0) hown hK g ma0_ ka0_ (by decide) rfl 3 (by decide) rfl (hts _ (List.mem_cons_of_mem _ t_376)) (fun _ h9 => h9) rfl dX0_closeIndex_28 (fun a_32 ma_32 ka_32 g => ?_)
  refine lv_aload_n hx hb dX0_closeIndex_31 rfl (lv_at hl 0 rfl) ?_
  refine g_getk (C := RX0) (T := TX0) (N := 14) hx hb hts (mc_ inX0) hown hK g rfl 8 (by decide) rfl (hts _ (List.mem_cons_of_mem _ t_381)) (fun _ h9 => h9) 2 rfl dX0_closeIndex_32 ?_
  refine g_iald hx hb hK g ma_32 ka_32 (by decide) rfl (in_bd b_16 (by decide)) dX0_closeIndex_35 (fun x_33 bx_33 cx_33 => ?_)
  refine lv_iconst (v := 5) hx hb dX0_closeIndex_36 (by decide) ?_
  have kb_5 : bd 5 5 (5 : Int32) := ⟨by decide, by decide⟩
  refine lv_icmp_ne (tgt := 44) hx hb dX0_closeIndex_37 (by decide) (fun c_34 => ?_) (fun c_34 => ?_)
  · have fc_34 := neq_f c_34
    refine lv_iconst (v := 0) hx hb dX0_closeIndex_44 (by decide) ?_
    refine lv_istore_n (lv' := [(1, .int 0), (0, .ref a0_)]) hx hb dX0_closeIndex_45 rfl hl (by decide) rfl (fun ls hl => ?_)
    refine lv_aload_n hx hb dX0_closeIndex_46 rfl (lv_at hl 1 rfl) ?_
    have go_ := g
    refine g_calli (va_runV (As := []) (rest := []) ⟨hx, hb, hml, hown, hts⟩ (r_X0_takeHeight l dC dI L kd tys f H.size g.2.2.2.1 a0_ ma0_ ka0_) (cwV 0 hts (gV_ t_1199 t_1201 t_16 t_190 t_1202) rfl rfl rfl (by decide +kernel) ⟨(Nat.le_of_ble_eq_true rfl), (Nat.le_of_ble_eq_true rfl)⟩) (pre3V g hK ma0_ ka0_ (by decide) (q := (RX0, TX0, 14)) rfl) rfl rfl hl.1 rfl (lv_room (Nat.le_of_ble_eq_true rfl)) dX0_closeIndex_47 ⟨(Nat.le_of_ble_eq_true rfl), (Nat.le_of_ble_eq_true rfl)⟩) g hK (by decide) (by decide) (fx' := [(0, 3, a0_, .ref a_32), (0, 11, a0_, .int y_25), (0, 8, a0_, .int y_15), (8, 6, q0_, .int x_7), (0, 5, a0_, .ref a_1), (0, 0, a0_, .ref q0_), (0, 2, a0_, .ref q1_), (8, 8, q0_, .int y1_)]) rfl (fun r_35 fr_35 H locs hp hMr_35 g => ?_)
    obtain ⟨x_36, h_37, hF_38⟩ := hp
    have hG_39 := cOK.frame hMr_35 go_.2.2.2.1 mq1_ kq1_ (by decide) (by decide) hG_27
    have hG_40 := dOK.frame hMr_35 go_.2.2.2.1 mq1_ kq1_ (by decide) (by decide) hG_28
    have hG_41 := jS.frame hMr_35 go_.2.2.2.1 mq1_ kq1_ (by decide) (by decide) hG_29
    have hG_42 := vP.frame hMr_35 go_.2.2.2.1 ma_1 ka_1 (by decide) (by decide) hG_30
    have hG_43 := eJx.frame hMr_35 go_.2.2.2.1 ma0_ ka0_ (by decide) (by decide) hG_31
    have g := g.more hF_38
    refine lv_iconst (v := 1) hx hb dX0_closeIndex_50 (by decide) ?_
    refine lv_iadd hx hb dX0_closeIndex_51 ?_
    refine lv_topi (fun y_44 ey_44 => ?_)
    refine lv_istore_n (lv' := [(2, .int y_44), (1, .int 0), (0, .ref a0_)]) hx hb dX0_closeIndex_52 rfl hl (by decide) rfl (fun ls hl => ?_)
    refine lv_iload_n hx hb dX0_closeIndex_53 rfl (lv_at hl 0 rfl) ?_
    refine lv_bipush (v := 12) hx hb dX0_closeIndex_54 (by decide) ?_
    have kb_12 : bd 12 12 (12 : Int32) := ⟨by decide, by decide⟩
    refine lv_icmp_le (tgt := 77) hx hb dX0_closeIndex_56 (by decide) (fun c_45 => ?_) (fun c_45 => ?_)
    · have fc_45 := le_f c_45
      have b_46 : bd (-2147483648) 12 y_44 := leL fc_45 (bdT y_44) kb_12 (by decide)
      refine lv_aload_n hx hb dX0_closeIndex_77 rfl (lv_at hl 2 rfl) ?_
      refine g_getk (C := RX0) (T := TX0) (N := 14) hx hb hts (mc_ inX0) hown hK g rfl 2 (by decide) rfl (hts _ (List.mem_cons_of_mem _ t_375)) (fun _ h9 => h9) 7 rfl dX0_closeIndex_78 ?_
      refine lv_iload_n hx hb dX0_closeIndex_81 rfl (lv_at hl 1 rfl) ?_
      refine lv_if_eq (tgt := 90) hx hb dX0_closeIndex_82 (by decide) (fun c_ => ?_) (fun c_ => absurd (by decide) c_)
      refine lv_bipush (v := 9) hx hb dX0_closeIndex_90 (by decide) ?_
      refine lv_aload_n hx hb dX0_closeIndex_92 rfl (lv_at hl 2 rfl) ?_
      refine g_getk (C := RX0) (T := TX0) (N := 14) hx hb hts (mc_ inX0) hown hK g rfl 5 (by decide) rfl (hts _ (List.mem_cons_of_mem _ t_378)) (fun _ h9 => h9) 5 rfl dX0_closeIndex_93 ?_
      refine lv_aload_n hx hb dX0_closeIndex_96 rfl (lv_at hl 2 rfl) ?_
      refine g_getk (C := RX0) (T := TX0) (N := 14) hx hb hts (mc_ inX0) hown hK g rfl 8 (by decide) rfl (hts _ (List.mem_cons_of_mem _ t_381)) (fun _ h9 => h9) 3 rfl dX0_closeIndex_97 ?_
      refine g_iald hx hb hK g ma_1 ka_1 (by decide) rfl (in_bd b_16 (by decide)) dX0_closeIndex_100 (fun x_47 bx_47 cx_47 => ?_)
      have b_48 : bd 0 400 x_47 := (by rw [cx_47.trans (hG_42 _ (by have h9 := tnZ (i := y_15) (by have h9_0 := h_37; unfold bd at h9_0; have h9_1 := h_8; unfold bd at h9_1; have h9_2 := by0_; unfold bd at h9_2; have h9_3 := by1_; unfold bd at h9_3; have h9_4 := b_16; unfold bd at h9_4; have h9_5 := b_46; unfold bd at h9_5; have h8_0 := kb_1; unfold bd at h8_0; have h8_1 := kb_12; unfold bd at h8_1; have h8_2 := kb_5; unfold bd at h8_2; omega); have h9_0 := h_37; unfold bd at h9_0; have h9_1 := h_8; unfold bd at h9_1; have h9_2 := by0_; unfold bd at h9_2; have h9_3 := by1_; unfold bd at h9_3; have h9_4 := b_16; unfold bd at h9_4; have h9_5 := b_46; unfold bd at h9_5; have h8_0 := kb_1; unfold bd at h8_0; have h8_1 := kb_12; unfold bd at h8_1; have h8_2 := kb_5; unfold bd at h8_2; omega))]; exact hb_5)
      obtain ⟨a_49, ma_49, ka_49, g⟩ := g_factr g mq1_ kq1_ (by decide) 4 rfl
      obtain ⟨a_50, ma_50, ka_50, g⟩ := g_factr g mq1_ kq1_ (by decide) 5 rfl
      obtain ⟨x_51, bx_51, g⟩ := g_facti g mq1_ kq1_ (by decide) 6 rfl
      have kb_9 : bd 9 9 (9 : Int32) := ⟨by decide, by decide⟩
      have go_ := g
      refine g_callv (va_runV (As := [.int 9, .int x_47]) (rest := []) ⟨hx, hb, hml, hown, hts⟩ (r_X7_emitN l dC dI L kd tys fr_35 H.size g.2.2.2.1 q1_ mq1_ kq1_ a_49 ma_49 ka_49 a_50 ma_50 ka_50 x_51 bx_51 T_ hG_40 (9 : Int32) x_47 (fun j9 => jOK fr_35 q1_ j9) hG_39 (fun _ h9 => h9) ⟨(fun h9 => ⟨(by have h9_0 := h_37; unfold bd at h9_0; have h9_1 := b_48; unfold bd at h9_1; have h9_2 := bx_51; unfold bd at h9_2; have h9_3 := h_8; unfold bd at h9_3; have h9_4 := by0_; unfold bd at h9_4; have h9_5 := by1_; unfold bd at h9_5; have h9_6 := b_16; unfold bd at h9_6; have h9_7 := b_46; unfold bd at h9_7; have h8_0 := kb_1; unfold bd at h8_0; have h8_1 := kb_12; unfold bd at h8_1; have h8_2 := kb_5; unfold bd at h8_2; have h8_3 := kb_9; unfold bd at h8_3; omega), (by have h9_0 := h_37; unfold bd at h9_0; have h9_1 := b_48; unfold bd at h9_1; have h9_2 := bx_51; unfold bd at h9_2; have h9_3 := h_8; unfold bd at h9_3; have h9_4 := by0_; unfold bd at h9_4; have h9_5 := by1_; unfold bd at h9_5; have h9_6 := b_16; unfold bd at h9_6; have h9_7 := b_46; unfold bd at h9_7; have h8_0 := kb_1; unfold bd at h8_0; have h8_1 := kb_12; unfold bd at h8_1; have h8_2 := kb_5; unfold bd at h8_2; have h8_3 := kb_9; unfold bd at h8_3; omega)⟩), (fun h9 => ⟨(by have h9_0 := h_37; unfold bd at h9_0; have h9_1 := b_48; unfold bd at h9_1; have h9_2 := bx_51; unfold bd at h9_2; have h9_3 := h_8; unfold bd at h9_3; have h9_4 := by0_; unfold bd at h9_4; have h9_5 := by1_; unfold bd at h9_5; have h9_6 := b_16; unfold bd at h9_6; have h9_7 := b_46; unfold bd at h9_7; have h8_0 := kb_1; unfold bd at h8_0; have h8_1 := kb_12; unfold bd at h8_1; have h8_2 := kb_5; unfold bd at h8_2; have h8_3 := kb_9; unfold bd at h8_3; omega), (by have h9_0 := h_37; unfold bd at h9_0; have h9_1 := b_48; unfold bd at h9_1; have h9_2 := bx_51; unfold bd at h9_2; have h9_3 := h_8; unfold bd at h9_3; have h9_4 := by0_; unfold bd at h9_4; have h9_5 := by1_; unfold bd at h9_5; have h9_6 := b_16; unfold bd at h9_6; have h9_7 := b_46; unfold bd at h9_7; have h8_0 := kb_1; unfold bd at h8_0; have h8_1 := kb_12; unfold bd at h8_1; have h8_2 := kb_5; unfold bd at h8_2; have h8_3 := kb_9; unfold bd at h8_3; omega)⟩), (fun h9 => ⟨(by have h9_0 := h_37; unfold bd at h9_0; have h9_1 := b_48; unfold bd at h9_1; have h9_2 := bx_51; unfold bd at h9_2; have h9_3 := h_8; unfold bd at h9_3; have h9_4 := by0_; unfold bd at h9_4; have h9_5 := by1_; unfold bd at h9_5; have h9_6 := b_16; unfold bd at h9_6; have h9_7 := b_46; unfold bd at h9_7; have h8_0 := kb_1; unfold bd at h8_0; have h8_1 := kb_12; unfold bd at h8_1; have h8_2 := kb_5; unfold bd at h8_2; have h8_3 := kb_9; unfold bd at h8_3; omega), (by have h9_0 := h_37; unfold bd at h9_0; have h9_1 := b_48; unfold bd at h9_1; have h9_2 := bx_51; unfold bd at h9_2; have h9_3 := h_8; unfold bd at h9_3; have h9_4 := by0_; unfold bd at h9_4; have h9_5 := by1_; unfold bd at h9_5; have h9_6 := b_16; unfold bd at h9_6; have h9_7 := b_46; unfold bd at h9_7; have h8_0 := kb_1; unfold bd at h8_0; have h8_1 := kb_12; unfold bd at h8_1; have h8_2 := kb_5; unfold bd at h8_2; have h8_3 := kb_9; unfold bd at h8_3; omega)⟩)⟩ (g.fcts [2, 1, 0] rfl)) (cwV 2 hts (gV_ t_1203 t_1204 t_1205 t_191 t_1206) rfl rfl rfl (by decide +kernel) ⟨(Nat.le_of_ble_eq_true rfl), (Nat.le_of_ble_eq_true rfl)⟩) (pre3V g hK mq1_ kq1_ (by decide) (q := (RX7, TX7, 19)) rfl) rfl rfl hl.1 rfl (lv_room (Nat.le_of_ble_eq_true rfl)) dX0_closeIndex_101 ⟨(Nat.le_of_ble_eq_true rfl), (Nat.le_of_ble_eq_true rfl)⟩) g hK (by decide) (by decide) (fx' := [(7, 5, q1_, .ref a_50), (7, 4, q1_, .ref a_49), (0, 10, a0_, .int x_36), (0, 3, a0_, .ref a_32), (0, 11, a0_, .int y_25), (0, 8, a0_, .int y_15), (8, 6, q0_, .int x_7), (0, 5, a0_, .ref a_1), (0, 0, a0_, .ref q0_), (0, 2, a0_, .ref q1_), (8, 8, q0_, .int y1_)]) rfl (fun fr_52 H locs hp hMr_52 g => ?_)
      obtain ⟨hG_53, hG_54, hG_55, hx_56, x_57, h_58, hF_59⟩ := hp
      have hG_60 := vP.frame hMr_52 go_.2.2.2.1 ma_1 ka_1 (by decide) (by decide) hG_42
      have g := g.more hF_59
      have hs_61 := jS.mv hG_41 hG_55
      have hG_62 := eJx.mv hG_43 hMr_52 go_.2.2.2.1 ma0_ ka0_ (by decide) (by decide) (((hMr_52 a0_ ma0_).1 2 (by rw [ka0_]; decide) (by rw [ka0_]; decide)).symm.trans (fx_at g (i := 10) rfl).2.2.2) hG_55
      refine lv_iload_n hx hb dX0_closeIndex_104 rfl (lv_at hl 1 rfl) ?_
      refine lv_if_eq (tgt := 155) hx hb dX0_closeIndex_105 (by decide) (fun c_ => ?_) (fun c_ => absurd (by decide) c_)
      refine lv_iload_n hx hb dX0_closeIndex_155 rfl (lv_at hl 0 rfl) ?_
      refine lv_bipush (v := 12) hx hb dX0_closeIndex_156 (by decide) ?_
      refine lv_icmp_le (tgt := 179) hx hb dX0_closeIndex_158 (by decide) (fun c_63 => ?_) (fun c_63 => ?_)
      · have fc_63 := le_f c_63
        refine lv_aload_n hx hb dX0_closeIndex_179 rfl (lv_at hl 2 rfl) ?_
        refine lv_iload_n hx hb dX0_closeIndex_180 rfl (lv_at hl 0 rfl) ?_
        have go_ := g
        refine g_callv (va_runV (As := [.int y_44]) (rest := []) ⟨hx, hb, hml, hown, hts⟩ (r_X0_addWhole l dC dI L kd tys fr_52 H.size g.2.2.2.1 a0_ ma0_ ka0_ y_44) (cwV 1 hts (gV_ t_1211 t_1213 t_17 t_190 t_1214) rfl rfl rfl (by decide +kernel) ⟨(Nat.le_of_ble_eq_true rfl), (Nat.le_of_ble_eq_true rfl)⟩) (pre3V g hK ma0_ ka0_ (by decide) (q := (RX0, TX0, 14)) rfl) rfl rfl hl.1 rfl (lv_room (Nat.le_of_ble_eq_true rfl)) dX0_closeIndex_181 ⟨(Nat.le_of_ble_eq_true rfl), (Nat.le_of_ble_eq_true rfl)⟩) g hK (by decide) (by decide) (fx' := [(7, 6, q1_, .int x_57), (7, 5, q1_, .ref a_50), (7, 4, q1_, .ref a_49), (0, 3, a0_, .ref a_32), (0, 11, a0_, .int y_25), (0, 8, a0_, .int y_15), (8, 6, q0_, .int x_7), (0, 5, a0_, .ref a_1), (0, 0, a0_, .ref q0_), (0, 2, a0_, .ref q1_), (8, 8, q0_, .int y1_)]) rfl (fun fr_64 H locs hp hMr_64 g => ?_)
        obtain ⟨x_65, h_66, hF_67⟩ := hp
        have hG_68 := cOK.frame hMr_64 go_.2.2.2.1 mq1_ kq1_ (by decide) (by decide) hG_54
        have hG_69 := dOK.frame hMr_64 go_.2.2.2.1 mq1_ kq1_ (by decide) (by decide) hG_53
        have hG_70 := jS.frame hMr_64 go_.2.2.2.1 mq1_ kq1_ (by decide) (by decide) hs_61
        have hG_71 := vP.frame hMr_64 go_.2.2.2.1 ma_1 ka_1 (by decide) (by decide) hG_60
        have hG_72 := eJx.frame hMr_64 go_.2.2.2.1 ma0_ ka0_ (by decide) (by decide) hG_62
        have g := g.more hF_67
        subst hQ
        exact W.vret hx hb hr (fun t ht hW => ⟨⟨_, rfl, Or.inl ⟨hG_72, hG_68, hG_69, hG_70, x_65, h_66, y_15, b_16, x_7, h_8, (g.fcts [0, 1, 7, 8, 12] rfl)⟩, q3_of g hK ht hW⟩, g.2.2.1.F ht⟩) g.2.2.1.2.2 dX0_closeIndex_184
      · have fc_63 := nle_f c_63
        have b_73 : bd 12 11 (12 : Int32) := ltL fc_63 kb_12 b_46 (by decide)
        exact bd_no (eqX rfl b_73 kb_12 (lo := 12) (hi := 11) (by decide)) (by decide)
    · have fc_45 := nle_f c_45
      have b_74 : bd 13 2147483647 y_44 := ltR fc_45 kb_12 (bdT y_44) (by decide)
      refine lv_aload_n hx hb dX0_closeIndex_59 rfl (lv_at hl 2 rfl) ?_
      refine g_getk (C := RX0) (T := TX0) (N := 14) hx hb hts (mc_ inX0) hown hK g rfl 0 (by decide) rfl (hts _ (List.mem_cons_of_mem _ t_373)) (fun _ h9 => h9) 6 rfl dX0_closeIndex_60 ?_
      refine lv_bipush (v := 7) hx hb dX0_closeIndex_63 (by decide) ?_
      refine lv_aload_n hx hb dX0_closeIndex_65 rfl (lv_at hl 2 rfl) ?_
      refine g_getr (K := 111) (C := RX0) (T := TX0) (N := 14) hx hb hts (mc_ inX0) hown hK g ma0_ ka0_ (by decide) rfl 4 (by decide) rfl (hts _ (List.mem_cons_of_mem _ t_377)) (fun _ h9 => h9) rfl dX0_closeIndex_66 (fun a_75 ma_75 ka_75 g => ?_)
      refine lv_aload_n hx hb dX0_closeIndex_69 rfl (lv_at hl 2 rfl) ?_
      refine g_getk (C := RX0) (T := TX0) (N := 14) hx hb hts (mc_ inX0) hown hK g rfl 8 (by decide) rfl (hts _ (List.mem_cons_of_mem _ t_381)) (fun _ h9 => h9) 4 rfl dX0_closeIndex_70 ?_
      refine g_iald hx hb hK g ma_75 ka_75 (by decide) rfl (in_bd b_16 (by decide)) dX0_closeIndex_73 (fun x_76 bx_76 cx_76 => ?_)
      have kb_7 : bd 7 7 (7 : Int32) := ⟨by decide, by decide⟩
      have go_ := g
      refine g_callv (va_runV (As := [.int 7, .int x_76]) (rest := []) ⟨hx, hb, hml, hown, hts⟩ (r_X8_fail l dC dI L kd tys fr_35 H.size g.2.2.2.1 q0_ mq0_ kq0_ 7 (bd_sub kb_7 (by decide)) x_76 y1_ by1_ (g.fcts [9] rfl)) (cwV 2 hts (gV_ t_1215 t_1107 t_1108 t_184 t_1109) rfl rfl rfl (by decide +kernel) ⟨(Nat.le_of_ble_eq_true rfl), (Nat.le_of_ble_eq_true rfl)⟩) (pre3V g hK mq0_ kq0_ (by decide) (q := (RX8, TX8, 10)) rfl) rfl rfl hl.1 rfl (lv_room (Nat.le_of_ble_eq_true rfl)) dX0_closeIndex_74 ⟨(Nat.le_of_ble_eq_true rfl), (Nat.le_of_ble_eq_true rfl)⟩) g hK (by decide) (by decide) (fx' := [(0, 4, a0_, .ref a_75), (0, 10, a0_, .int x_36), (0, 3, a0_, .ref a_32), (0, 11, a0_, .int y_25), (0, 8, a0_, .int y_15), (0, 5, a0_, .ref a_1), (0, 0, a0_, .ref q0_), (0, 2, a0_, .ref q1_)]) rfl (fun fr_77 H locs hp hMr_77 g => ?_)
      obtain ⟨x_78, h_79, hF_80⟩ := hp
      have hG_81 := cOK.frame hMr_77 go_.2.2.2.1 mq1_ kq1_ (by decide) (by decide) hG_39
      have hG_82 := dOK.frame hMr_77 go_.2.2.2.1 mq1_ kq1_ (by decide) (by decide) hG_40
      have hG_83 := jS.frame hMr_77 go_.2.2.2.1 mq1_ kq1_ (by decide) (by decide) hG_41
      have hG_84 := vP.frame hMr_77 go_.2.2.2.1 ma_1 ka_1 (by decide) (by decide) hG_42
      have hG_85 := eJx.frame hMr_77 go_.2.2.2.1 ma0_ ka0_ (by decide) (by decide) hG_43
      have g := g.more hF_80
      refine lv_aload_n hx hb dX0_closeIndex_77 rfl (lv_at hl 2 rfl) ?_
      refine g_getk (C := RX0) (T := TX0) (N := 14) hx hb hts (mc_ inX0) hown hK g rfl 2 (by decide) rfl (hts _ (List.mem_cons_of_mem _ t_375)) (fun _ h9 => h9) 9 rfl dX0_closeIndex_78 ?_
      refine lv_iload_n hx hb dX0_closeIndex_81 rfl (lv_at hl 1 rfl) ?_
      refine lv_if_eq (tgt := 90) hx hb dX0_closeIndex_82 (by decide) (fun c_ => ?_) (fun c_ => absurd (by decide) c_)
      refine lv_bipush (v := 9) hx hb dX0_closeIndex_90 (by decide) ?_
      refine lv_aload_n hx hb dX0_closeIndex_92 rfl (lv_at hl 2 rfl) ?_
      refine g_getk (C := RX0) (T := TX0) (N := 14) hx hb hts (mc_ inX0) hown hK g rfl 5 (by decide) rfl (hts _ (List.mem_cons_of_mem _ t_378)) (fun _ h9 => h9) 7 rfl dX0_closeIndex_93 ?_
      refine lv_aload_n hx hb dX0_closeIndex_96 rfl (lv_at hl 2 rfl) ?_
      refine g_getk (C := RX0) (T := TX0) (N := 14) hx hb hts (mc_ inX0) hown hK g rfl 8 (by decide) rfl (hts _ (List.mem_cons_of_mem _ t_381)) (fun _ h9 => h9) 6 rfl dX0_closeIndex_97 ?_
      refine g_iald hx hb hK g ma_1 ka_1 (by decide) rfl (in_bd b_16 (by decide)) dX0_closeIndex_100 (fun x_86 bx_86 cx_86 => ?_)
      have b_87 : bd 0 400 x_86 := (by rw [cx_86.trans (hG_84 _ (by have h9 := tnZ (i := y_15) (by have h9_0 := h_37; unfold bd at h9_0; have h9_1 := h_8; unfold bd at h9_1; have h9_2 := h_79; unfold bd at h9_2; have h9_3 := by0_; unfold bd at h9_3; have h9_4 := by1_; unfold bd at h9_4; have h9_5 := b_16; unfold bd at h9_5; have h9_6 := b_74; unfold bd at h9_6; have h8_0 := kb_1; unfold bd at h8_0; have h8_1 := kb_12; unfold bd at h8_1; have h8_2 := kb_5; unfold bd at h8_2; have h8_3 := kb_7; unfold bd at h8_3; omega); have h9_0 := h_37; unfold bd at h9_0; have h9_1 := h_8; unfold bd at h9_1; have h9_2 := h_79; unfold bd at h9_2; have h9_3 := by0_; unfold bd at h9_3; have h9_4 := by1_; unfold bd at h9_4; have h9_5 := b_16; unfold bd at h9_5; have h9_6 := b_74; unfold bd at h9_6; have h8_0 := kb_1; unfold bd at h8_0; have h8_1 := kb_12; unfold bd at h8_1; have h8_2 := kb_5; unfold bd at h8_2; have h8_3 := kb_7; unfold bd at h8_3; omega))]; exact hb_5)
      obtain ⟨a_88, ma_88, ka_88, g⟩ := g_factr g mq1_ kq1_ (by decide) 4 rfl
      obtain ⟨a_89, ma_89, ka_89, g⟩ := g_factr g mq1_ kq1_ (by decide) 5 rfl
      obtain ⟨x_90, bx_90, g⟩ := g_facti g mq1_ kq1_ (by decide) 6 rfl
      have go_ := g
      refine g_callv (va_runV (As := [.int 9, .int x_86]) (rest := []) ⟨hx, hb, hml, hown, hts⟩ (r_X7_emitF l dC dI L kd tys fr_77 H.size g.2.2.2.1 q1_ mq1_ kq1_ a_88 ma_88 ka_88 a_89 ma_89 ka_89 x_90 bx_90 T_ hG_82 (9 : Int32) x_86 (g.fcts [2, 1, 0] rfl)) (cwV 2 hts (gV_ t_1203 t_1204 t_1205 t_191 t_1206) rfl rfl rfl (by decide +kernel) ⟨(Nat.le_of_ble_eq_true rfl), (Nat.le_of_ble_eq_true rfl)⟩) (pre3V g hK mq1_ kq1_ (by decide) (q := (RX7, TX7, 19)) rfl) rfl rfl hl.1 rfl (lv_room (Nat.le_of_ble_eq_true rfl)) dX0_closeIndex_101 ⟨(Nat.le_of_ble_eq_true rfl), (Nat.le_of_ble_eq_true rfl)⟩) g hK (by decide) (by decide) (fx' := [(7, 5, q1_, .ref a_89), (7, 4, q1_, .ref a_88), (8, 6, q0_, .int 1201), (8, 8, q0_, .int x_78), (0, 4, a0_, .ref a_75), (0, 10, a0_, .int x_36), (0, 3, a0_, .ref a_32), (0, 11, a0_, .int y_25), (0, 8, a0_, .int y_15), (0, 5, a0_, .ref a_1), (0, 0, a0_, .ref q0_), (0, 2, a0_, .ref q1_)]) rfl (fun fr_91 H locs hp hMr_91 g => ?_)
      obtain ⟨hG_92, x_93, h_94, hF_95⟩ := hp
      have hG_96 := vP.frame hMr_91 go_.2.2.2.1 ma_1 ka_1 (by decide) (by decide) hG_84
      have g := g.more hF_95
      refine lv_iload_n hx hb dX0_closeIndex_104 rfl (lv_at hl 1 rfl) ?_
      refine lv_if_eq (tgt := 155) hx hb dX0_closeIndex_105 (by decide) (fun c_ => ?_) (fun c_ => absurd (by decide) c_)
      refine lv_iload_n hx hb dX0_closeIndex_155 rfl (lv_at hl 0 rfl) ?_
      refine lv_bipush (v := 12) hx hb dX0_closeIndex_156 (by decide) ?_
      refine lv_icmp_le (tgt := 179) hx hb dX0_closeIndex_158 (by decide) (fun c_97 => ?_) (fun c_97 => ?_)
      · have fc_97 := le_f c_97
        have b_98 : bd 13 12 y_44 := leL fc_97 b_74 kb_12 (by decide)
        exact bd_no b_98 (by decide)
      · have fc_97 := nle_f c_97
        refine lv_aload_n hx hb dX0_closeIndex_161 rfl (lv_at hl 2 rfl) ?_
        refine g_getk (C := RX0) (T := TX0) (N := 14) hx hb hts (mc_ inX0) hown hK g rfl 0 (by decide) rfl (hts _ (List.mem_cons_of_mem _ t_373)) (fun _ h9 => h9) 11 rfl dX0_closeIndex_162 ?_
        refine lv_bipush (v := 7) hx hb dX0_closeIndex_165 (by decide) ?_
        refine lv_aload_n hx hb dX0_closeIndex_167 rfl (lv_at hl 2 rfl) ?_
        refine g_getr (K := 114) (C := RX0) (T := TX0) (N := 14) hx hb hts (mc_ inX0) hown hK g ma0_ ka0_ (by decide) rfl 7 (by decide) rfl (hts _ (List.mem_cons_of_mem _ t_380)) (fun _ h9 => h9) rfl dX0_closeIndex_168 (fun a_99 ma_99 ka_99 g => ?_)
        refine lv_aload_n hx hb dX0_closeIndex_171 rfl (lv_at hl 2 rfl) ?_
        refine g_getk (C := RX0) (T := TX0) (N := 14) hx hb hts (mc_ inX0) hown hK g rfl 8 (by decide) rfl (hts _ (List.mem_cons_of_mem _ t_381)) (fun _ h9 => h9) 10 rfl dX0_closeIndex_172 ?_
        refine g_iald hx hb hK g ma_99 ka_99 (by decide) rfl (in_bd b_16 (by decide)) dX0_closeIndex_175 (fun x_100 bx_100 cx_100 => ?_)
        have go_ := g
        refine g_callv (va_runV (As := [.int 7, .int x_100]) (rest := []) ⟨hx, hb, hml, hown, hts⟩ (r_X8_fail_2 l dC dI L kd tys fr_91 H.size g.2.2.2.1 q0_ mq0_ kq0_ 7 (bd_sub kb_7 (by decide)) x_100 x_78 h_79 (g.fcts [5] rfl)) (cwV 2 hts (gV_ t_1215 t_1107 t_1108 t_184 t_1109) rfl rfl rfl (by decide +kernel) ⟨(Nat.le_of_ble_eq_true rfl), (Nat.le_of_ble_eq_true rfl)⟩) (pre3V g hK mq0_ kq0_ (by decide) (q := (RX8, TX8, 10)) rfl) rfl rfl hl.1 rfl (lv_room (Nat.le_of_ble_eq_true rfl)) dX0_closeIndex_176 ⟨(Nat.le_of_ble_eq_true rfl), (Nat.le_of_ble_eq_true rfl)⟩) g hK (by decide) (by decide) (fx' := [(0, 7, a0_, .ref a_99), (7, 6, q1_, .int x_93), (7, 5, q1_, .ref a_89), (7, 4, q1_, .ref a_88), (8, 8, q0_, .int x_78), (0, 4, a0_, .ref a_75), (0, 10, a0_, .int x_36), (0, 3, a0_, .ref a_32), (0, 11, a0_, .int y_25), (0, 8, a0_, .int y_15), (0, 5, a0_, .ref a_1), (0, 0, a0_, .ref q0_), (0, 2, a0_, .ref q1_)]) rfl (fun fr_101 H locs hp hMr_101 g => ?_)
        have hF_102 := hp
        have hG_103 := dOK.frame hMr_101 go_.2.2.2.1 mq1_ kq1_ (by decide) (by decide) hG_92
        have hG_104 := vP.frame hMr_101 go_.2.2.2.1 ma_1 ka_1 (by decide) (by decide) hG_96
        have g := g.more hF_102
        refine lv_aload_n hx hb dX0_closeIndex_179 rfl (lv_at hl 2 rfl) ?_
        refine lv_iload_n hx hb dX0_closeIndex_180 rfl (lv_at hl 0 rfl) ?_
        have go_ := g
        refine g_callv (va_runV (As := [.int y_44]) (rest := []) ⟨hx, hb, hml, hown, hts⟩ (r_X0_addWhole l dC dI L kd tys fr_101 H.size g.2.2.2.1 a0_ ma0_ ka0_ y_44) (cwV 1 hts (gV_ t_1211 t_1213 t_17 t_190 t_1214) rfl rfl rfl (by decide +kernel) ⟨(Nat.le_of_ble_eq_true rfl), (Nat.le_of_ble_eq_true rfl)⟩) (pre3V g hK ma0_ ka0_ (by decide) (q := (RX0, TX0, 14)) rfl) rfl rfl hl.1 rfl (lv_room (Nat.le_of_ble_eq_true rfl)) dX0_closeIndex_181 ⟨(Nat.le_of_ble_eq_true rfl), (Nat.le_of_ble_eq_true rfl)⟩) g hK (by decide) (by decide) (fx' := [(8, 6, q0_, .int 1201), (0, 7, a0_, .ref a_99), (7, 6, q1_, .int x_93), (7, 5, q1_, .ref a_89), (7, 4, q1_, .ref a_88), (8, 8, q0_, .int x_78), (0, 4, a0_, .ref a_75), (0, 3, a0_, .ref a_32), (0, 11, a0_, .int y_25), (0, 8, a0_, .int y_15), (0, 5, a0_, .ref a_1), (0, 0, a0_, .ref q0_), (0, 2, a0_, .ref q1_)]) rfl (fun fr_105 H locs hp hMr_105 g => ?_)
        obtain ⟨x_106, h_107, hF_108⟩ := hp
        have hG_109 := dOK.frame hMr_105 go_.2.2.2.1 mq1_ kq1_ (by decide) (by decide) hG_103
        have hG_110 := vP.frame hMr_105 go_.2.2.2.1 ma_1 ka_1 (by decide) (by decide) hG_104
        have g := g.more hF_108
        subst hQ
        exact W.vret hx hb hr (fun t ht hW => ⟨⟨_, rfl, Or.inr (⟨hG_109, x_106, h_107, x_78, h_79, y_15, b_16, (g.fcts [0, 1, 2, 7, 11] rfl)⟩), q3_of g hK ht hW⟩, g.2.2.1.F ht⟩) g.2.2.1.2.2 dX0_closeIndex_184
  · have fc_34 := eq_f c_34
    have b_111 : bd 5 5 x_33 := eqX fc_34 (bdT x_33) kb_5 (by decide)
    refine lv_iconst (v := 1) hx hb dX0_closeIndex_40 (by decide) ?_
    refine lv_goto (tgt := 45) hx hb dX0_closeIndex_41 (by decide) ?_
    refine lv_istore_n (lv' := [(1, .int 1), (0, .ref a0_)]) hx hb dX0_closeIndex_45 rfl hl (by decide) rfl (fun ls hl => ?_)
    refine lv_aload_n hx hb dX0_closeIndex_46 rfl (lv_at hl 1 rfl) ?_
    have go_ := g
    refine g_calli (va_runV (As := []) (rest := []) ⟨hx, hb, hml, hown, hts⟩ (r_X0_takeHeight l dC dI L kd tys f H.size g.2.2.2.1 a0_ ma0_ ka0_) (cwV 0 hts (gV_ t_1199 t_1201 t_16 t_190 t_1202) rfl rfl rfl (by decide +kernel) ⟨(Nat.le_of_ble_eq_true rfl), (Nat.le_of_ble_eq_true rfl)⟩) (pre3V g hK ma0_ ka0_ (by decide) (q := (RX0, TX0, 14)) rfl) rfl rfl hl.1 rfl (lv_room (Nat.le_of_ble_eq_true rfl)) dX0_closeIndex_47 ⟨(Nat.le_of_ble_eq_true rfl), (Nat.le_of_ble_eq_true rfl)⟩) g hK (by decide) (by decide) (fx' := [(0, 3, a0_, .ref a_32), (0, 11, a0_, .int y_25), (0, 8, a0_, .int y_15), (8, 6, q0_, .int x_7), (0, 5, a0_, .ref a_1), (0, 0, a0_, .ref q0_), (0, 2, a0_, .ref q1_), (8, 8, q0_, .int y1_)]) rfl (fun r_112 fr_112 H locs hp hMr_112 g => ?_)
    obtain ⟨x_113, h_114, hF_115⟩ := hp
    have hG_116 := cOK.frame hMr_112 go_.2.2.2.1 mq1_ kq1_ (by decide) (by decide) hG_27
    have hG_117 := dOK.frame hMr_112 go_.2.2.2.1 mq1_ kq1_ (by decide) (by decide) hG_28
    have hG_118 := jS.frame hMr_112 go_.2.2.2.1 mq1_ kq1_ (by decide) (by decide) hG_29
    have hG_119 := vP.frame hMr_112 go_.2.2.2.1 ma_1 ka_1 (by decide) (by decide) hG_30
    have hG_120 := eJx.frame hMr_112 go_.2.2.2.1 ma0_ ka0_ (by decide) (by decide) hG_31
    have g := g.more hF_115
    refine lv_iconst (v := 1) hx hb dX0_closeIndex_50 (by decide) ?_
    refine lv_iadd hx hb dX0_closeIndex_51 ?_
    refine lv_topi (fun y_121 ey_121 => ?_)
    refine lv_istore_n (lv' := [(2, .int y_121), (1, .int 1), (0, .ref a0_)]) hx hb dX0_closeIndex_52 rfl hl (by decide) rfl (fun ls hl => ?_)
    refine lv_iload_n hx hb dX0_closeIndex_53 rfl (lv_at hl 0 rfl) ?_
    refine lv_bipush (v := 12) hx hb dX0_closeIndex_54 (by decide) ?_
    have kb_12 : bd 12 12 (12 : Int32) := ⟨by decide, by decide⟩
    refine lv_icmp_le (tgt := 77) hx hb dX0_closeIndex_56 (by decide) (fun c_122 => ?_) (fun c_122 => ?_)
    · have fc_122 := le_f c_122
      have b_123 : bd (-2147483648) 12 y_121 := leL fc_122 (bdT y_121) kb_12 (by decide)
      refine lv_aload_n hx hb dX0_closeIndex_77 rfl (lv_at hl 2 rfl) ?_
      refine g_getk (C := RX0) (T := TX0) (N := 14) hx hb hts (mc_ inX0) hown hK g rfl 2 (by decide) rfl (hts _ (List.mem_cons_of_mem _ t_375)) (fun _ h9 => h9) 7 rfl dX0_closeIndex_78 ?_
      refine lv_iload_n hx hb dX0_closeIndex_81 rfl (lv_at hl 1 rfl) ?_
      refine lv_if_eq (tgt := 90) hx hb dX0_closeIndex_82 (by decide) (fun c_ => absurd c_ (by decide)) (fun c_ => ?_)
      refine lv_bipush (v := 10) hx hb dX0_closeIndex_85 (by decide) ?_
      refine lv_goto (tgt := 92) hx hb dX0_closeIndex_87 (by decide) ?_
      refine lv_aload_n hx hb dX0_closeIndex_92 rfl (lv_at hl 2 rfl) ?_
      refine g_getk (C := RX0) (T := TX0) (N := 14) hx hb hts (mc_ inX0) hown hK g rfl 5 (by decide) rfl (hts _ (List.mem_cons_of_mem _ t_378)) (fun _ h9 => h9) 5 rfl dX0_closeIndex_93 ?_
      refine lv_aload_n hx hb dX0_closeIndex_96 rfl (lv_at hl 2 rfl) ?_
      refine g_getk (C := RX0) (T := TX0) (N := 14) hx hb hts (mc_ inX0) hown hK g rfl 8 (by decide) rfl (hts _ (List.mem_cons_of_mem _ t_381)) (fun _ h9 => h9) 3 rfl dX0_closeIndex_97 ?_
      refine g_iald hx hb hK g ma_1 ka_1 (by decide) rfl (in_bd b_16 (by decide)) dX0_closeIndex_100 (fun x_124 bx_124 cx_124 => ?_)
      have b_125 : bd 0 400 x_124 := (by rw [cx_124.trans (hG_119 _ (by have h9 := tnZ (i := y_15) (by have h9_0 := h_114; unfold bd at h9_0; have h9_1 := b_111; unfold bd at h9_1; have h9_2 := h_8; unfold bd at h9_2; have h9_3 := by0_; unfold bd at h9_3; have h9_4 := by1_; unfold bd at h9_4; have h9_5 := b_123; unfold bd at h9_5; have h9_6 := b_16; unfold bd at h9_6; have h8_0 := kb_1; unfold bd at h8_0; have h8_1 := kb_12; unfold bd at h8_1; have h8_2 := kb_5; unfold bd at h8_2; omega); have h9_0 := h_114; unfold bd at h9_0; have h9_1 := b_111; unfold bd at h9_1; have h9_2 := h_8; unfold bd at h9_2; have h9_3 := by0_; unfold bd at h9_3; have h9_4 := by1_; unfold bd at h9_4; have h9_5 := b_123; unfold bd at h9_5; have h9_6 := b_16; unfold bd at h9_6; have h8_0 := kb_1; unfold bd at h8_0; have h8_1 := kb_12; unfold bd at h8_1; have h8_2 := kb_5; unfold bd at h8_2; omega))]; exact hb_5)
      obtain ⟨a_126, ma_126, ka_126, g⟩ := g_factr g mq1_ kq1_ (by decide) 4 rfl
      obtain ⟨a_127, ma_127, ka_127, g⟩ := g_factr g mq1_ kq1_ (by decide) 5 rfl
      obtain ⟨x_128, bx_128, g⟩ := g_facti g mq1_ kq1_ (by decide) 6 rfl
      have kb_10 : bd 10 10 (10 : Int32) := ⟨by decide, by decide⟩
      have go_ := g
      refine g_callv (va_runV (As := [.int 10, .int x_124]) (rest := []) ⟨hx, hb, hml, hown, hts⟩ (r_X7_emitN l dC dI L kd tys fr_112 H.size g.2.2.2.1 q1_ mq1_ kq1_ a_126 ma_126 ka_126 a_127 ma_127 ka_127 x_128 bx_128 T_ hG_117 (10 : Int32) x_124 (fun j9 => jOK fr_112 q1_ j9) hG_116 (fun _ h9 => h9) ⟨(fun h9 => ⟨(by have h9_0 := h_114; unfold bd at h9_0; have h9_1 := b_125; unfold bd at h9_1; have h9_2 := bx_128; unfold bd at h9_2; have h9_3 := b_111; unfold bd at h9_3; have h9_4 := h_8; unfold bd at h9_4; have h9_5 := by0_; unfold bd at h9_5; have h9_6 := by1_; unfold bd at h9_6; have h9_7 := b_123; unfold bd at h9_7; have h9_8 := b_16; unfold bd at h9_8; have h8_0 := kb_1; unfold bd at h8_0; have h8_1 := kb_10; unfold bd at h8_1; have h8_2 := kb_12; unfold bd at h8_2; have h8_3 := kb_5; unfold bd at h8_3; omega), (by have h9_0 := h_114; unfold bd at h9_0; have h9_1 := b_125; unfold bd at h9_1; have h9_2 := bx_128; unfold bd at h9_2; have h9_3 := b_111; unfold bd at h9_3; have h9_4 := h_8; unfold bd at h9_4; have h9_5 := by0_; unfold bd at h9_5; have h9_6 := by1_; unfold bd at h9_6; have h9_7 := b_123; unfold bd at h9_7; have h9_8 := b_16; unfold bd at h9_8; have h8_0 := kb_1; unfold bd at h8_0; have h8_1 := kb_10; unfold bd at h8_1; have h8_2 := kb_12; unfold bd at h8_2; have h8_3 := kb_5; unfold bd at h8_3; omega)⟩), (fun h9 => ⟨(by have h9_0 := h_114; unfold bd at h9_0; have h9_1 := b_125; unfold bd at h9_1; have h9_2 := bx_128; unfold bd at h9_2; have h9_3 := b_111; unfold bd at h9_3; have h9_4 := h_8; unfold bd at h9_4; have h9_5 := by0_; unfold bd at h9_5; have h9_6 := by1_; unfold bd at h9_6; have h9_7 := b_123; unfold bd at h9_7; have h9_8 := b_16; unfold bd at h9_8; have h8_0 := kb_1; unfold bd at h8_0; have h8_1 := kb_10; unfold bd at h8_1; have h8_2 := kb_12; unfold bd at h8_2; have h8_3 := kb_5; unfold bd at h8_3; omega), (by have h9_0 := h_114; unfold bd at h9_0; have h9_1 := b_125; unfold bd at h9_1; have h9_2 := bx_128; unfold bd at h9_2; have h9_3 := b_111; unfold bd at h9_3; have h9_4 := h_8; unfold bd at h9_4; have h9_5 := by0_; unfold bd at h9_5; have h9_6 := by1_; unfold bd at h9_6; have h9_7 := b_123; unfold bd at h9_7; have h9_8 := b_16; unfold bd at h9_8; have h8_0 := kb_1; unfold bd at h8_0; have h8_1 := kb_10; unfold bd at h8_1; have h8_2 := kb_12; unfold bd at h8_2; have h8_3 := kb_5; unfold bd at h8_3; omega)⟩), (fun h9 => ⟨(by have h9_0 := h_114; unfold bd at h9_0; have h9_1 := b_125; unfold bd at h9_1; have h9_2 := bx_128; unfold bd at h9_2; have h9_3 := b_111; unfold bd at h9_3; have h9_4 := h_8; unfold bd at h9_4; have h9_5 := by0_; unfold bd at h9_5; have h9_6 := by1_; unfold bd at h9_6; have h9_7 := b_123; unfold bd at h9_7; have h9_8 := b_16; unfold bd at h9_8; have h8_0 := kb_1; unfold bd at h8_0; have h8_1 := kb_10; unfold bd at h8_1; have h8_2 := kb_12; unfold bd at h8_2; have h8_3 := kb_5; unfold bd at h8_3; omega), (by have h9_0 := h_114; unfold bd at h9_0; have h9_1 := b_125; unfold bd at h9_1; have h9_2 := bx_128; unfold bd at h9_2; have h9_3 := b_111; unfold bd at h9_3; have h9_4 := h_8; unfold bd at h9_4; have h9_5 := by0_; unfold bd at h9_5; have h9_6 := by1_; unfold bd at h9_6; have h9_7 := b_123; unfold bd at h9_7; have h9_8 := b_16; unfold bd at h9_8; have h8_0 := kb_1; unfold bd at h8_0; have h8_1 := kb_10; unfold bd at h8_1; have h8_2 := kb_12; unfold bd at h8_2; have h8_3 := kb_5; unfold bd at h8_3; omega)⟩)⟩ (g.fcts [2, 1, 0] rfl)) (cwV 2 hts (gV_ t_1203 t_1204 t_1205 t_191 t_1206) rfl rfl rfl (by decide +kernel) ⟨(Nat.le_of_ble_eq_true rfl), (Nat.le_of_ble_eq_true rfl)⟩) (pre3V g hK mq1_ kq1_ (by decide) (q := (RX7, TX7, 19)) rfl) rfl rfl hl.1 rfl (lv_room (Nat.le_of_ble_eq_true rfl)) dX0_closeIndex_101 ⟨(Nat.le_of_ble_eq_true rfl), (Nat.le_of_ble_eq_true rfl)⟩) g hK (by decide) (by decide) (fx' := [(7, 5, q1_, .ref a_127), (7, 4, q1_, .ref a_126), (0, 10, a0_, .int x_113), (0, 3, a0_, .ref a_32), (0, 11, a0_, .int y_25), (0, 8, a0_, .int y_15), (8, 6, q0_, .int x_7), (0, 5, a0_, .ref a_1), (0, 0, a0_, .ref q0_), (0, 2, a0_, .ref q1_), (8, 8, q0_, .int y1_)]) rfl (fun fr_129 H locs hp hMr_129 g => ?_)
      obtain ⟨hG_130, hG_131, hG_132, hx_133, x_134, h_135, hF_136⟩ := hp
      have hG_137 := vP.frame hMr_129 go_.2.2.2.1 ma_1 ka_1 (by decide) (by decide) hG_119
      have g := g.more hF_136
      have hs_138 := jS.mv hG_118 hG_132
      have hG_139 := eJx.mv hG_120 hMr_129 go_.2.2.2.1 ma0_ ka0_ (by decide) (by decide) (((hMr_129 a0_ ma0_).1 2 (by rw [ka0_]; decide) (by rw [ka0_]; decide)).symm.trans (fx_at g (i := 10) rfl).2.2.2) hG_132
      refine lv_iload_n hx hb dX0_closeIndex_104 rfl (lv_at hl 1 rfl) ?_
      refine lv_if_eq (tgt := 155) hx hb dX0_closeIndex_105 (by decide) (fun c_ => absurd c_ (by decide)) (fun c_ => ?_)
      refine lv_aload_n hx hb dX0_closeIndex_108 rfl (lv_at hl 2 rfl) ?_
      refine g_getk (C := RX0) (T := TX0) (N := 14) hx hb hts (mc_ inX0) hown hK g rfl 0 (by decide) rfl (hts _ (List.mem_cons_of_mem _ t_373)) (fun _ h9 => h9) 9 rfl dX0_closeIndex_109 ?_
      have go_ := g
      refine g_calli (va_runV (As := []) (rest := []) ⟨hx, hb, hml, hown, hts⟩ (r_X8_kind l dC dI L kd tys fr_129 H.size g.2.2.2.1 q0_ mq0_ kq0_) (cwV 0 hts (gV_ t_1186 t_1119 t_1120 t_184 t_1121) rfl rfl rfl (by decide +kernel) ⟨(Nat.le_of_ble_eq_true rfl), (Nat.le_of_ble_eq_true rfl)⟩) (pre3V g hK mq0_ kq0_ (by decide) (q := (RX8, TX8, 10)) rfl) rfl rfl hl.1 rfl (lv_room (Nat.le_of_ble_eq_true rfl)) dX0_closeIndex_112 ⟨(Nat.le_of_ble_eq_true rfl), (Nat.le_of_ble_eq_true rfl)⟩) g hK (by decide) (by decide) (fx' := [(7, 6, q1_, .int x_134), (7, 5, q1_, .ref a_127), (7, 4, q1_, .ref a_126), (0, 10, a0_, .int x_113), (0, 3, a0_, .ref a_32), (0, 11, a0_, .int y_25), (0, 8, a0_, .int y_15), (8, 6, q0_, .int x_7), (0, 5, a0_, .ref a_1), (0, 0, a0_, .ref q0_), (0, 2, a0_, .ref q1_), (8, 8, q0_, .int y1_)]) rfl (fun r_140 fr_140 H locs hp hMr_140 g => ?_)
      have hG_141 := cOK.frame hMr_140 go_.2.2.2.1 mq1_ kq1_ (by decide) (by decide) hG_131
      have hG_142 := dOK.frame hMr_140 go_.2.2.2.1 mq1_ kq1_ (by decide) (by decide) hG_130
      have hG_143 := jS.frame hMr_140 go_.2.2.2.1 mq1_ kq1_ (by decide) (by decide) hs_138
      have hG_144 := vP.frame hMr_140 go_.2.2.2.1 ma_1 ka_1 (by decide) (by decide) hG_137
      have hG_145 := eJx.frame hMr_140 go_.2.2.2.1 ma0_ ka0_ (by decide) (by decide) hG_139
      refine lv_bipush (v := 41) hx hb dX0_closeIndex_115 (by decide) ?_
      have kb_41 : bd 41 41 (41 : Int32) := ⟨by decide, by decide⟩
      refine lv_icmp_eq (tgt := 135) hx hb dX0_closeIndex_117 (by decide) (fun c_146 => ?_) (fun c_146 => ?_)
      · have fc_146 := eq_f c_146
        have b_147 : bd 41 41 r_140 := eqX fc_146 (bdT r_140) kb_41 (by decide)
        refine lv_aload_n hx hb dX0_closeIndex_135 rfl (lv_at hl 2 rfl) ?_
        refine g_getk (C := RX0) (T := TX0) (N := 14) hx hb hts (mc_ inX0) hown hK g rfl 0 (by decide) rfl (hts _ (List.mem_cons_of_mem _ t_373)) (fun _ h9 => h9) 9 rfl dX0_closeIndex_136 ?_
        have go_ := g
        refine g_callv (va_runV (As := []) (rest := []) ⟨hx, hb, hml, hown, hts⟩ (r_X8_next l dC dI L kd tys fr_140 H.size g.2.2.2.1 q0_ mq0_ kq0_) (cwV 0 hts (gV_ t_1225 t_1103 t_1104 t_184 t_1105) rfl rfl rfl (by decide +kernel) ⟨(Nat.le_of_ble_eq_true rfl), (Nat.le_of_ble_eq_true rfl)⟩) (pre3V g hK mq0_ kq0_ (by decide) (q := (RX8, TX8, 10)) rfl) rfl rfl hl.1 rfl (lv_room (Nat.le_of_ble_eq_true rfl)) dX0_closeIndex_139 ⟨(Nat.le_of_ble_eq_true rfl), (Nat.le_of_ble_eq_true rfl)⟩) g hK (by decide) (by decide) (fx' := [(7, 6, q1_, .int x_134), (7, 5, q1_, .ref a_127), (7, 4, q1_, .ref a_126), (0, 10, a0_, .int x_113), (0, 3, a0_, .ref a_32), (0, 11, a0_, .int y_25), (0, 8, a0_, .int y_15), (0, 5, a0_, .ref a_1), (0, 0, a0_, .ref q0_), (0, 2, a0_, .ref q1_), (8, 8, q0_, .int y1_)]) rfl (fun fr_148 H locs hp hMr_148 g => ?_)
        obtain ⟨x_149, h_150, hF_151⟩ := hp
        have hG_152 := cOK.frame hMr_148 go_.2.2.2.1 mq1_ kq1_ (by decide) (by decide) hG_141
        have hG_153 := dOK.frame hMr_148 go_.2.2.2.1 mq1_ kq1_ (by decide) (by decide) hG_142
        have hG_154 := jS.frame hMr_148 go_.2.2.2.1 mq1_ kq1_ (by decide) (by decide) hG_143
        have hG_155 := vP.frame hMr_148 go_.2.2.2.1 ma_1 ka_1 (by decide) (by decide) hG_144
        have hG_156 := eJx.frame hMr_148 go_.2.2.2.1 ma0_ ka0_ (by decide) (by decide) hG_145
        have g := g.more hF_151
        refine lv_aload_n hx hb dX0_closeIndex_142 rfl (lv_at hl 2 rfl) ?_
        refine lv_dup hx hb dX0_closeIndex_143 rfl ?_
        refine g_getk (C := RX0) (T := TX0) (N := 14) hx hb hts (mc_ inX0) hown hK g rfl 11 (by decide) rfl (hts _ (List.mem_cons_of_mem _ t_384)) (fun _ h9 => h9) 6 rfl dX0_closeIndex_144 ?_
        refine lv_iconst (v := 1) hx hb dX0_closeIndex_147 (by decide) ?_
        refine lv_isub hx hb dX0_closeIndex_148 ?_
        refine lv_topi (fun y_157 ey_157 => ?_)
        have go_ := g
        refine g_put (C := RX0) (T := TX0) (N := 14) hx hb hts (mc_ inX0) tyX0 tyX0_ok nmX0 hown hK g ma0_ ka0_ (by decide) rfl 11 (by decide) (hts _ (List.mem_cons_of_mem _ t_384)) (fun _ h9 => h9) rfl rfl (okV_i (bdT y_157)) rfl rfl (by decide) (Or.inr (Or.inl (by decide))) (fx' := [(8, 6, q0_, .int x_149), (7, 6, q1_, .int x_134), (7, 5, q1_, .ref a_127), (7, 4, q1_, .ref a_126), (0, 10, a0_, .int x_113), (0, 3, a0_, .ref a_32), (0, 8, a0_, .int y_15), (0, 5, a0_, .ref a_1), (0, 0, a0_, .ref q0_), (0, 2, a0_, .ref q1_), (8, 8, q0_, .int y1_)]) rfl dX0_closeIndex_149 (fun f H locs hM_158 g => ?_)
        have hG_159 := cOK.frame hM_158 go_.2.2.2.1 mq1_ kq1_ (by decide) (by decide) hG_152
        have hG_160 := dOK.frame hM_158 go_.2.2.2.1 mq1_ kq1_ (by decide) (by decide) hG_153
        have hG_161 := jS.frame hM_158 go_.2.2.2.1 mq1_ kq1_ (by decide) (by decide) hG_154
        have hG_162 := vP.frame hM_158 go_.2.2.2.1 ma_1 ka_1 (by decide) (by decide) hG_155
        have hG_163 := eJx.frame hM_158 go_.2.2.2.1 ma0_ ka0_ (by decide) (by decide) hG_156
        obtain ⟨y_164, ey_164⟩ : ∃ z : Int32, z = y_121 + 1 := ⟨_, rfl⟩
        refine lv_iinc (v := y_164) (lv' := [(2, .int y_164), (1, .int 1), (0, .ref a0_)]) hx hb dX0_closeIndex_152 hl (k := 0) rfl (by rw [ey_164]; rfl) (by decide) rfl (fun ls hl => ?_)
        have ty_164 := add_bd ey_164 b_123 kb_1 (by decide)
        have b_165 : bd (-2147483647) 13 y_164 := add_rg ty_164 b_123 kb_1 (by decide)
        refine lv_iload_n hx hb dX0_closeIndex_155 rfl (lv_at hl 0 rfl) ?_
        refine lv_bipush (v := 12) hx hb dX0_closeIndex_156 (by decide) ?_
        refine lv_icmp_le (tgt := 179) hx hb dX0_closeIndex_158 (by decide) (fun c_166 => ?_) (fun c_166 => ?_)
        · have fc_166 := le_f c_166
          have b_167 : bd (-2147483647) 12 y_164 := leL fc_166 b_165 kb_12 (by decide)
          have b_168 : bd (-2147483648) 11 y_121 := add_inv ty_164 b_167 b_123 kb_1 (by decide)
          refine lv_aload_n hx hb dX0_closeIndex_179 rfl (lv_at hl 2 rfl) ?_
          refine lv_iload_n hx hb dX0_closeIndex_180 rfl (lv_at hl 0 rfl) ?_
          have go_ := g
          refine g_callv (va_runV (As := [.int y_164]) (rest := []) ⟨hx, hb, hml, hown, hts⟩ (r_X0_addWhole l dC dI L kd tys f H.size g.2.2.2.1 a0_ ma0_ ka0_ y_164) (cwV 1 hts (gV_ t_1211 t_1213 t_17 t_190 t_1214) rfl rfl rfl (by decide +kernel) ⟨(Nat.le_of_ble_eq_true rfl), (Nat.le_of_ble_eq_true rfl)⟩) (pre3V g hK ma0_ ka0_ (by decide) (q := (RX0, TX0, 14)) rfl) rfl rfl hl.1 rfl (lv_room (Nat.le_of_ble_eq_true rfl)) dX0_closeIndex_181 ⟨(Nat.le_of_ble_eq_true rfl), (Nat.le_of_ble_eq_true rfl)⟩) g hK (by decide) (by decide) (fx' := [(0, 11, a0_, .int y_157), (8, 6, q0_, .int x_149), (7, 6, q1_, .int x_134), (7, 5, q1_, .ref a_127), (7, 4, q1_, .ref a_126), (0, 3, a0_, .ref a_32), (0, 8, a0_, .int y_15), (0, 5, a0_, .ref a_1), (0, 0, a0_, .ref q0_), (0, 2, a0_, .ref q1_), (8, 8, q0_, .int y1_)]) rfl (fun fr_169 H locs hp hMr_169 g => ?_)
          obtain ⟨x_170, h_171, hF_172⟩ := hp
          have hG_173 := cOK.frame hMr_169 go_.2.2.2.1 mq1_ kq1_ (by decide) (by decide) hG_159
          have hG_174 := dOK.frame hMr_169 go_.2.2.2.1 mq1_ kq1_ (by decide) (by decide) hG_160
          have hG_175 := jS.frame hMr_169 go_.2.2.2.1 mq1_ kq1_ (by decide) (by decide) hG_161
          have hG_176 := vP.frame hMr_169 go_.2.2.2.1 ma_1 ka_1 (by decide) (by decide) hG_162
          have hG_177 := eJx.frame hMr_169 go_.2.2.2.1 ma0_ ka0_ (by decide) (by decide) hG_163
          have g := g.more hF_172
          subst hQ
          exact W.vret hx hb hr (fun t ht hW => ⟨⟨_, rfl, Or.inl ⟨hG_177, hG_173, hG_174, hG_175, x_170, h_171, y_15, b_16, x_149, h_150, (g.fcts [0, 1, 8, 3, 12] rfl)⟩, q3_of g hK ht hW⟩, g.2.2.1.F ht⟩) g.2.2.1.2.2 dX0_closeIndex_184
        · have fc_166 := nle_f c_166
          have b_178 : bd 13 13 y_164 := ltR fc_166 kb_12 b_165 (by decide)
          have b_179 : bd 12 12 y_121 := add_inv ty_164 b_178 b_123 kb_1 (by decide)
          refine lv_aload_n hx hb dX0_closeIndex_161 rfl (lv_at hl 2 rfl) ?_
          refine g_getk (C := RX0) (T := TX0) (N := 14) hx hb hts (mc_ inX0) hown hK g rfl 0 (by decide) rfl (hts _ (List.mem_cons_of_mem _ t_373)) (fun _ h9 => h9) 9 rfl dX0_closeIndex_162 ?_
          refine lv_bipush (v := 7) hx hb dX0_closeIndex_165 (by decide) ?_
          refine lv_aload_n hx hb dX0_closeIndex_167 rfl (lv_at hl 2 rfl) ?_
          refine g_getr (K := 114) (C := RX0) (T := TX0) (N := 14) hx hb hts (mc_ inX0) hown hK g ma0_ ka0_ (by decide) rfl 7 (by decide) rfl (hts _ (List.mem_cons_of_mem _ t_380)) (fun _ h9 => h9) rfl dX0_closeIndex_168 (fun a_180 ma_180 ka_180 g => ?_)
          refine lv_aload_n hx hb dX0_closeIndex_171 rfl (lv_at hl 2 rfl) ?_
          refine g_getk (C := RX0) (T := TX0) (N := 14) hx hb hts (mc_ inX0) hown hK g rfl 8 (by decide) rfl (hts _ (List.mem_cons_of_mem _ t_381)) (fun _ h9 => h9) 8 rfl dX0_closeIndex_172 ?_
          refine g_iald hx hb hK g ma_180 ka_180 (by decide) rfl (in_bd b_16 (by decide)) dX0_closeIndex_175 (fun x_181 bx_181 cx_181 => ?_)
          have kb_7 : bd 7 7 (7 : Int32) := ⟨by decide, by decide⟩
          have go_ := g
          refine g_callv (va_runV (As := [.int 7, .int x_181]) (rest := []) ⟨hx, hb, hml, hown, hts⟩ (r_X8_fail l dC dI L kd tys f H.size g.2.2.2.1 q0_ mq0_ kq0_ 7 (bd_sub kb_7 (by decide)) x_181 y1_ by1_ (g.fcts [12] rfl)) (cwV 2 hts (gV_ t_1215 t_1107 t_1108 t_184 t_1109) rfl rfl rfl (by decide +kernel) ⟨(Nat.le_of_ble_eq_true rfl), (Nat.le_of_ble_eq_true rfl)⟩) (pre3V g hK mq0_ kq0_ (by decide) (q := (RX8, TX8, 10)) rfl) rfl rfl hl.1 rfl (lv_room (Nat.le_of_ble_eq_true rfl)) dX0_closeIndex_176 ⟨(Nat.le_of_ble_eq_true rfl), (Nat.le_of_ble_eq_true rfl)⟩) g hK (by decide) (by decide) (fx' := [(0, 7, a0_, .ref a_180), (0, 11, a0_, .int y_157), (7, 6, q1_, .int x_134), (7, 5, q1_, .ref a_127), (7, 4, q1_, .ref a_126), (0, 10, a0_, .int x_113), (0, 3, a0_, .ref a_32), (0, 8, a0_, .int y_15), (0, 5, a0_, .ref a_1), (0, 0, a0_, .ref q0_), (0, 2, a0_, .ref q1_)]) rfl (fun fr_182 H locs hp hMr_182 g => ?_)
          obtain ⟨x_183, h_184, hF_185⟩ := hp
          have hG_186 := cOK.frame hMr_182 go_.2.2.2.1 mq1_ kq1_ (by decide) (by decide) hG_159
          have hG_187 := dOK.frame hMr_182 go_.2.2.2.1 mq1_ kq1_ (by decide) (by decide) hG_160
          have hG_188 := jS.frame hMr_182 go_.2.2.2.1 mq1_ kq1_ (by decide) (by decide) hG_161
          have hG_189 := vP.frame hMr_182 go_.2.2.2.1 ma_1 ka_1 (by decide) (by decide) hG_162
          have hG_190 := eJx.frame hMr_182 go_.2.2.2.1 ma0_ ka0_ (by decide) (by decide) hG_163
          have g := g.more hF_185
          refine lv_aload_n hx hb dX0_closeIndex_179 rfl (lv_at hl 2 rfl) ?_
          refine lv_iload_n hx hb dX0_closeIndex_180 rfl (lv_at hl 0 rfl) ?_
          have go_ := g
          refine g_callv (va_runV (As := [.int y_164]) (rest := []) ⟨hx, hb, hml, hown, hts⟩ (r_X0_addWhole l dC dI L kd tys fr_182 H.size g.2.2.2.1 a0_ ma0_ ka0_ y_164) (cwV 1 hts (gV_ t_1211 t_1213 t_17 t_190 t_1214) rfl rfl rfl (by decide +kernel) ⟨(Nat.le_of_ble_eq_true rfl), (Nat.le_of_ble_eq_true rfl)⟩) (pre3V g hK ma0_ ka0_ (by decide) (q := (RX0, TX0, 14)) rfl) rfl rfl hl.1 rfl (lv_room (Nat.le_of_ble_eq_true rfl)) dX0_closeIndex_181 ⟨(Nat.le_of_ble_eq_true rfl), (Nat.le_of_ble_eq_true rfl)⟩) g hK (by decide) (by decide) (fx' := [(8, 6, q0_, .int 1201), (8, 8, q0_, .int x_183), (0, 7, a0_, .ref a_180), (0, 11, a0_, .int y_157), (7, 6, q1_, .int x_134), (7, 5, q1_, .ref a_127), (7, 4, q1_, .ref a_126), (0, 3, a0_, .ref a_32), (0, 8, a0_, .int y_15), (0, 5, a0_, .ref a_1), (0, 0, a0_, .ref q0_), (0, 2, a0_, .ref q1_)]) rfl (fun fr_191 H locs hp hMr_191 g => ?_)
          obtain ⟨x_192, h_193, hF_194⟩ := hp
          have hG_195 := cOK.frame hMr_191 go_.2.2.2.1 mq1_ kq1_ (by decide) (by decide) hG_186
          have hG_196 := dOK.frame hMr_191 go_.2.2.2.1 mq1_ kq1_ (by decide) (by decide) hG_187
          have hG_197 := jS.frame hMr_191 go_.2.2.2.1 mq1_ kq1_ (by decide) (by decide) hG_188
          have hG_198 := vP.frame hMr_191 go_.2.2.2.1 ma_1 ka_1 (by decide) (by decide) hG_189
          have hG_199 := eJx.frame hMr_191 go_.2.2.2.1 ma0_ ka0_ (by decide) (by decide) hG_190
          have g := g.more hF_194
          subst hQ
          exact W.vret hx hb hr (fun t ht hW => ⟨⟨_, rfl, Or.inr (⟨hG_196, x_192, h_193, x_183, h_184, y_15, b_16, (g.fcts [0, 1, 2, 3, 10] rfl)⟩), q3_of g hK ht hW⟩, g.2.2.1.F ht⟩) g.2.2.1.2.2 dX0_closeIndex_184
      · have fc_146 := neq_f c_146
        refine lv_aload_n hx hb dX0_closeIndex_120 rfl (lv_at hl 2 rfl) ?_
        refine g_getk (C := RX0) (T := TX0) (N := 14) hx hb hts (mc_ inX0) hown hK g rfl 0 (by decide) rfl (hts _ (List.mem_cons_of_mem _ t_373)) (fun _ h9 => h9) 9 rfl dX0_closeIndex_121 ?_
        refine lv_iconst (v := 1) hx hb dX0_closeIndex_124 (by decide) ?_
        refine lv_aload_n hx hb dX0_closeIndex_125 rfl (lv_at hl 2 rfl) ?_
        refine g_getk (C := RX0) (T := TX0) (N := 14) hx hb hts (mc_ inX0) hown hK g rfl 0 (by decide) rfl (hts _ (List.mem_cons_of_mem _ t_373)) (fun _ h9 => h9) 9 rfl dX0_closeIndex_126 ?_
        have go_ := g
        refine g_calli (va_runV (As := []) (rest := [.int 1, .ref q0_]) ⟨hx, hb, hml, hown, hts⟩ (r_X8_place l dC dI L kd tys fr_140 H.size g.2.2.2.1 q0_ mq0_ kq0_) (cwV 0 hts (gV_ t_1220 t_1111 t_1112 t_184 t_1113) rfl rfl rfl (by decide +kernel) ⟨(Nat.le_of_ble_eq_true rfl), (Nat.le_of_ble_eq_true rfl)⟩) (pre3V g hK mq0_ kq0_ (by decide) (q := (RX8, TX8, 10)) rfl) rfl rfl hl.1 rfl (lv_room (Nat.le_of_ble_eq_true rfl)) dX0_closeIndex_129 ⟨(Nat.le_of_ble_eq_true rfl), (Nat.le_of_ble_eq_true rfl)⟩) g hK (by decide) (by decide) (fx' := [(7, 6, q1_, .int x_134), (7, 5, q1_, .ref a_127), (7, 4, q1_, .ref a_126), (0, 10, a0_, .int x_113), (0, 3, a0_, .ref a_32), (0, 11, a0_, .int y_25), (0, 8, a0_, .int y_15), (8, 6, q0_, .int x_7), (0, 5, a0_, .ref a_1), (0, 0, a0_, .ref q0_), (0, 2, a0_, .ref q1_), (8, 8, q0_, .int y1_)]) rfl (fun r_200 fr_200 H locs hp hMr_200 g => ?_)
        have hG_201 := cOK.frame hMr_200 go_.2.2.2.1 mq1_ kq1_ (by decide) (by decide) hG_141
        have hG_202 := dOK.frame hMr_200 go_.2.2.2.1 mq1_ kq1_ (by decide) (by decide) hG_142
        have hG_203 := jS.frame hMr_200 go_.2.2.2.1 mq1_ kq1_ (by decide) (by decide) hG_143
        have hG_204 := vP.frame hMr_200 go_.2.2.2.1 ma_1 ka_1 (by decide) (by decide) hG_144
        have hG_205 := eJx.frame hMr_200 go_.2.2.2.1 ma0_ ka0_ (by decide) (by decide) hG_145
        have go_ := g
        refine g_callv (va_runV (As := [.int 1, .int r_200]) (rest := []) ⟨hx, hb, hml, hown, hts⟩ (r_X8_fail l dC dI L kd tys fr_200 H.size g.2.2.2.1 q0_ mq0_ kq0_ 1 (bd_sub kb_1 (by decide)) r_200 y1_ by1_ (g.fcts [11] rfl)) (cwV 2 hts (gV_ t_1215 t_1107 t_1108 t_184 t_1109) rfl rfl rfl (by decide +kernel) ⟨(Nat.le_of_ble_eq_true rfl), (Nat.le_of_ble_eq_true rfl)⟩) (pre3V g hK mq0_ kq0_ (by decide) (q := (RX8, TX8, 10)) rfl) rfl rfl hl.1 rfl (lv_room (Nat.le_of_ble_eq_true rfl)) dX0_closeIndex_132 ⟨(Nat.le_of_ble_eq_true rfl), (Nat.le_of_ble_eq_true rfl)⟩) g hK (by decide) (by decide) (fx' := [(7, 6, q1_, .int x_134), (7, 5, q1_, .ref a_127), (7, 4, q1_, .ref a_126), (0, 10, a0_, .int x_113), (0, 3, a0_, .ref a_32), (0, 11, a0_, .int y_25), (0, 8, a0_, .int y_15), (0, 5, a0_, .ref a_1), (0, 0, a0_, .ref q0_), (0, 2, a0_, .ref q1_)]) rfl (fun fr_206 H locs hp hMr_206 g => ?_)
        obtain ⟨x_207, h_208, hF_209⟩ := hp
        have hG_210 := cOK.frame hMr_206 go_.2.2.2.1 mq1_ kq1_ (by decide) (by decide) hG_201
        have hG_211 := dOK.frame hMr_206 go_.2.2.2.1 mq1_ kq1_ (by decide) (by decide) hG_202
        have hG_212 := jS.frame hMr_206 go_.2.2.2.1 mq1_ kq1_ (by decide) (by decide) hG_203
        have hG_213 := vP.frame hMr_206 go_.2.2.2.1 ma_1 ka_1 (by decide) (by decide) hG_204
        have hG_214 := eJx.frame hMr_206 go_.2.2.2.1 ma0_ ka0_ (by decide) (by decide) hG_205
        have g := g.more hF_209
        refine lv_aload_n hx hb dX0_closeIndex_135 rfl (lv_at hl 2 rfl) ?_
        refine g_getk (C := RX0) (T := TX0) (N := 14) hx hb hts (mc_ inX0) hown hK g rfl 0 (by decide) rfl (hts _ (List.mem_cons_of_mem _ t_373)) (fun _ h9 => h9) 10 rfl dX0_closeIndex_136 ?_
        have kb_1201 : bd 1201 1201 (1201 : Int32) := ⟨by decide, by decide⟩
        have go_ := g
        refine g_callv (va_runV (As := []) (rest := []) ⟨hx, hb, hml, hown, hts⟩ (r_X8_next_2 l dC dI L kd tys fr_206 H.size g.2.2.2.1 q0_ mq0_ kq0_ 1201 kb_1201 (g.fcts [0] rfl)) (cwV 0 hts (gV_ t_1225 t_1103 t_1104 t_184 t_1105) rfl rfl rfl (by decide +kernel) ⟨(Nat.le_of_ble_eq_true rfl), (Nat.le_of_ble_eq_true rfl)⟩) (pre3V g hK mq0_ kq0_ (by decide) (q := (RX8, TX8, 10)) rfl) rfl rfl hl.1 rfl (lv_room (Nat.le_of_ble_eq_true rfl)) dX0_closeIndex_139 ⟨(Nat.le_of_ble_eq_true rfl), (Nat.le_of_ble_eq_true rfl)⟩) g hK (by decide) (by decide) (fx' := [(8, 6, q0_, .int 1201), (8, 8, q0_, .int x_207), (7, 6, q1_, .int x_134), (7, 5, q1_, .ref a_127), (7, 4, q1_, .ref a_126), (0, 10, a0_, .int x_113), (0, 3, a0_, .ref a_32), (0, 11, a0_, .int y_25), (0, 8, a0_, .int y_15), (0, 5, a0_, .ref a_1), (0, 0, a0_, .ref q0_), (0, 2, a0_, .ref q1_)]) rfl (fun fr_215 H locs hp hMr_215 g => ?_)
        have hG_216 := cOK.frame hMr_215 go_.2.2.2.1 mq1_ kq1_ (by decide) (by decide) hG_210
        have hG_217 := dOK.frame hMr_215 go_.2.2.2.1 mq1_ kq1_ (by decide) (by decide) hG_211
        have hG_218 := jS.frame hMr_215 go_.2.2.2.1 mq1_ kq1_ (by decide) (by decide) hG_212
        have hG_219 := vP.frame hMr_215 go_.2.2.2.1 ma_1 ka_1 (by decide) (by decide) hG_213
        have hG_220 := eJx.frame hMr_215 go_.2.2.2.1 ma0_ ka0_ (by decide) (by decide) hG_214
        refine lv_aload_n hx hb dX0_closeIndex_142 rfl (lv_at hl 2 rfl) ?_
        refine lv_dup hx hb dX0_closeIndex_143 rfl ?_
        refine g_getk (C := RX0) (T := TX0) (N := 14) hx hb hts (mc_ inX0) hown hK g rfl 11 (by decide) rfl (hts _ (List.mem_cons_of_mem _ t_384)) (fun _ h9 => h9) 7 rfl dX0_closeIndex_144 ?_
        refine lv_iconst (v := 1) hx hb dX0_closeIndex_147 (by decide) ?_
        refine lv_isub hx hb dX0_closeIndex_148 ?_
        refine lv_topi (fun y_221 ey_221 => ?_)
        have go_ := g
        refine g_put (C := RX0) (T := TX0) (N := 14) hx hb hts (mc_ inX0) tyX0 tyX0_ok nmX0 hown hK g ma0_ ka0_ (by decide) rfl 11 (by decide) (hts _ (List.mem_cons_of_mem _ t_384)) (fun _ h9 => h9) rfl rfl (okV_i (bdT y_221)) rfl rfl (by decide) (Or.inr (Or.inl (by decide))) (fx' := [(8, 6, q0_, .int 1201), (8, 8, q0_, .int x_207), (7, 6, q1_, .int x_134), (7, 5, q1_, .ref a_127), (7, 4, q1_, .ref a_126), (0, 10, a0_, .int x_113), (0, 3, a0_, .ref a_32), (0, 8, a0_, .int y_15), (0, 5, a0_, .ref a_1), (0, 0, a0_, .ref q0_), (0, 2, a0_, .ref q1_)]) rfl dX0_closeIndex_149 (fun f H locs hM_222 g => ?_)
        have hG_223 := cOK.frame hM_222 go_.2.2.2.1 mq1_ kq1_ (by decide) (by decide) hG_216
        have hG_224 := dOK.frame hM_222 go_.2.2.2.1 mq1_ kq1_ (by decide) (by decide) hG_217
        have hG_225 := jS.frame hM_222 go_.2.2.2.1 mq1_ kq1_ (by decide) (by decide) hG_218
        have hG_226 := vP.frame hM_222 go_.2.2.2.1 ma_1 ka_1 (by decide) (by decide) hG_219
        have hG_227 := eJx.frame hM_222 go_.2.2.2.1 ma0_ ka0_ (by decide) (by decide) hG_220
        obtain ⟨y_228, ey_228⟩ : ∃ z : Int32, z = y_121 + 1 := ⟨_, rfl⟩
        refine lv_iinc (v := y_228) (lv' := [(2, .int y_228), (1, .int 1), (0, .ref a0_)]) hx hb dX0_closeIndex_152 hl (k := 0) rfl (by rw [ey_228]; rfl) (by decide) rfl (fun ls hl => ?_)
        have ty_228 := add_bd ey_228 b_123 kb_1 (by decide)
        have b_229 : bd (-2147483647) 13 y_228 := add_rg ty_228 b_123 kb_1 (by decide)
        refine lv_iload_n hx hb dX0_closeIndex_155 rfl (lv_at hl 0 rfl) ?_
        refine lv_bipush (v := 12) hx hb dX0_closeIndex_156 (by decide) ?_
        refine lv_icmp_le (tgt := 179) hx hb dX0_closeIndex_158 (by decide) (fun c_230 => ?_) (fun c_230 => ?_)
        · have fc_230 := le_f c_230
          have b_231 : bd (-2147483647) 12 y_228 := leL fc_230 b_229 kb_12 (by decide)
          have b_232 : bd (-2147483648) 11 y_121 := add_inv ty_228 b_231 b_123 kb_1 (by decide)
          refine lv_aload_n hx hb dX0_closeIndex_179 rfl (lv_at hl 2 rfl) ?_
          refine lv_iload_n hx hb dX0_closeIndex_180 rfl (lv_at hl 0 rfl) ?_
          have go_ := g
          refine g_callv (va_runV (As := [.int y_228]) (rest := []) ⟨hx, hb, hml, hown, hts⟩ (r_X0_addWhole l dC dI L kd tys f H.size g.2.2.2.1 a0_ ma0_ ka0_ y_228) (cwV 1 hts (gV_ t_1211 t_1213 t_17 t_190 t_1214) rfl rfl rfl (by decide +kernel) ⟨(Nat.le_of_ble_eq_true rfl), (Nat.le_of_ble_eq_true rfl)⟩) (pre3V g hK ma0_ ka0_ (by decide) (q := (RX0, TX0, 14)) rfl) rfl rfl hl.1 rfl (lv_room (Nat.le_of_ble_eq_true rfl)) dX0_closeIndex_181 ⟨(Nat.le_of_ble_eq_true rfl), (Nat.le_of_ble_eq_true rfl)⟩) g hK (by decide) (by decide) (fx' := [(0, 11, a0_, .int y_221), (8, 6, q0_, .int 1201), (8, 8, q0_, .int x_207), (7, 6, q1_, .int x_134), (7, 5, q1_, .ref a_127), (7, 4, q1_, .ref a_126), (0, 3, a0_, .ref a_32), (0, 8, a0_, .int y_15), (0, 5, a0_, .ref a_1), (0, 0, a0_, .ref q0_), (0, 2, a0_, .ref q1_)]) rfl (fun fr_233 H locs hp hMr_233 g => ?_)
          obtain ⟨x_234, h_235, hF_236⟩ := hp
          have hG_237 := cOK.frame hMr_233 go_.2.2.2.1 mq1_ kq1_ (by decide) (by decide) hG_223
          have hG_238 := dOK.frame hMr_233 go_.2.2.2.1 mq1_ kq1_ (by decide) (by decide) hG_224
          have hG_239 := jS.frame hMr_233 go_.2.2.2.1 mq1_ kq1_ (by decide) (by decide) hG_225
          have hG_240 := vP.frame hMr_233 go_.2.2.2.1 ma_1 ka_1 (by decide) (by decide) hG_226
          have hG_241 := eJx.frame hMr_233 go_.2.2.2.1 ma0_ ka0_ (by decide) (by decide) hG_227
          have g := g.more hF_236
          subst hQ
          exact W.vret hx hb hr (fun t ht hW => ⟨⟨_, rfl, Or.inr (⟨hG_238, x_234, h_235, x_207, h_208, y_15, b_16, (g.fcts [0, 1, 3, 4, 9] rfl)⟩), q3_of g hK ht hW⟩, g.2.2.1.F ht⟩) g.2.2.1.2.2 dX0_closeIndex_184
        · have fc_230 := nle_f c_230
          have b_242 : bd 13 13 y_228 := ltR fc_230 kb_12 b_229 (by decide)
          have b_243 : bd 12 12 y_121 := add_inv ty_228 b_242 b_123 kb_1 (by decide)
          refine lv_aload_n hx hb dX0_closeIndex_161 rfl (lv_at hl 2 rfl) ?_
          refine g_getk (C := RX0) (T := TX0) (N := 14) hx hb hts (mc_ inX0) hown hK g rfl 0 (by decide) rfl (hts _ (List.mem_cons_of_mem _ t_373)) (fun _ h9 => h9) 10 rfl dX0_closeIndex_162 ?_
          refine lv_bipush (v := 7) hx hb dX0_closeIndex_165 (by decide) ?_
          refine lv_aload_n hx hb dX0_closeIndex_167 rfl (lv_at hl 2 rfl) ?_
          refine g_getr (K := 114) (C := RX0) (T := TX0) (N := 14) hx hb hts (mc_ inX0) hown hK g ma0_ ka0_ (by decide) rfl 7 (by decide) rfl (hts _ (List.mem_cons_of_mem _ t_380)) (fun _ h9 => h9) rfl dX0_closeIndex_168 (fun a_244 ma_244 ka_244 g => ?_)
          refine lv_aload_n hx hb dX0_closeIndex_171 rfl (lv_at hl 2 rfl) ?_
          refine g_getk (C := RX0) (T := TX0) (N := 14) hx hb hts (mc_ inX0) hown hK g rfl 8 (by decide) rfl (hts _ (List.mem_cons_of_mem _ t_381)) (fun _ h9 => h9) 9 rfl dX0_closeIndex_172 ?_
          refine g_iald hx hb hK g ma_244 ka_244 (by decide) rfl (in_bd b_16 (by decide)) dX0_closeIndex_175 (fun x_245 bx_245 cx_245 => ?_)
          have kb_7 : bd 7 7 (7 : Int32) := ⟨by decide, by decide⟩
          have go_ := g
          refine g_callv (va_runV (As := [.int 7, .int x_245]) (rest := []) ⟨hx, hb, hml, hown, hts⟩ (r_X8_fail_2 l dC dI L kd tys f H.size g.2.2.2.1 q0_ mq0_ kq0_ 7 (bd_sub kb_7 (by decide)) x_245 x_207 h_208 (g.fcts [3] rfl)) (cwV 2 hts (gV_ t_1215 t_1107 t_1108 t_184 t_1109) rfl rfl rfl (by decide +kernel) ⟨(Nat.le_of_ble_eq_true rfl), (Nat.le_of_ble_eq_true rfl)⟩) (pre3V g hK mq0_ kq0_ (by decide) (q := (RX8, TX8, 10)) rfl) rfl rfl hl.1 rfl (lv_room (Nat.le_of_ble_eq_true rfl)) dX0_closeIndex_176 ⟨(Nat.le_of_ble_eq_true rfl), (Nat.le_of_ble_eq_true rfl)⟩) g hK (by decide) (by decide) (fx' := [(0, 7, a0_, .ref a_244), (0, 11, a0_, .int y_221), (8, 8, q0_, .int x_207), (7, 6, q1_, .int x_134), (7, 5, q1_, .ref a_127), (7, 4, q1_, .ref a_126), (0, 10, a0_, .int x_113), (0, 3, a0_, .ref a_32), (0, 8, a0_, .int y_15), (0, 5, a0_, .ref a_1), (0, 0, a0_, .ref q0_), (0, 2, a0_, .ref q1_)]) rfl (fun fr_246 H locs hp hMr_246 g => ?_)
          have hF_247 := hp
          have hG_248 := cOK.frame hMr_246 go_.2.2.2.1 mq1_ kq1_ (by decide) (by decide) hG_223
          have hG_249 := dOK.frame hMr_246 go_.2.2.2.1 mq1_ kq1_ (by decide) (by decide) hG_224
          have hG_250 := jS.frame hMr_246 go_.2.2.2.1 mq1_ kq1_ (by decide) (by decide) hG_225
          have hG_251 := vP.frame hMr_246 go_.2.2.2.1 ma_1 ka_1 (by decide) (by decide) hG_226
          have hG_252 := eJx.frame hMr_246 go_.2.2.2.1 ma0_ ka0_ (by decide) (by decide) hG_227
          have g := g.more hF_247
          refine lv_aload_n hx hb dX0_closeIndex_179 rfl (lv_at hl 2 rfl) ?_
          refine lv_iload_n hx hb dX0_closeIndex_180 rfl (lv_at hl 0 rfl) ?_
          have go_ := g
          refine g_callv (va_runV (As := [.int y_228]) (rest := []) ⟨hx, hb, hml, hown, hts⟩ (r_X0_addWhole l dC dI L kd tys fr_246 H.size g.2.2.2.1 a0_ ma0_ ka0_ y_228) (cwV 1 hts (gV_ t_1211 t_1213 t_17 t_190 t_1214) rfl rfl rfl (by decide +kernel) ⟨(Nat.le_of_ble_eq_true rfl), (Nat.le_of_ble_eq_true rfl)⟩) (pre3V g hK ma0_ ka0_ (by decide) (q := (RX0, TX0, 14)) rfl) rfl rfl hl.1 rfl (lv_room (Nat.le_of_ble_eq_true rfl)) dX0_closeIndex_181 ⟨(Nat.le_of_ble_eq_true rfl), (Nat.le_of_ble_eq_true rfl)⟩) g hK (by decide) (by decide) (fx' := [(8, 6, q0_, .int 1201), (0, 7, a0_, .ref a_244), (0, 11, a0_, .int y_221), (8, 8, q0_, .int x_207), (7, 6, q1_, .int x_134), (7, 5, q1_, .ref a_127), (7, 4, q1_, .ref a_126), (0, 3, a0_, .ref a_32), (0, 8, a0_, .int y_15), (0, 5, a0_, .ref a_1), (0, 0, a0_, .ref q0_), (0, 2, a0_, .ref q1_)]) rfl (fun fr_253 H locs hp hMr_253 g => ?_)
          obtain ⟨x_254, h_255, hF_256⟩ := hp
          have hG_257 := cOK.frame hMr_253 go_.2.2.2.1 mq1_ kq1_ (by decide) (by decide) hG_248
          have hG_258 := dOK.frame hMr_253 go_.2.2.2.1 mq1_ kq1_ (by decide) (by decide) hG_249
          have hG_259 := jS.frame hMr_253 go_.2.2.2.1 mq1_ kq1_ (by decide) (by decide) hG_250
          have hG_260 := vP.frame hMr_253 go_.2.2.2.1 ma_1 ka_1 (by decide) (by decide) hG_251
          have hG_261 := eJx.frame hMr_253 go_.2.2.2.1 ma0_ ka0_ (by decide) (by decide) hG_252
          have g := g.more hF_256
          subst hQ
          exact W.vret hx hb hr (fun t ht hW => ⟨⟨_, rfl, Or.inr (⟨hG_258, x_254, h_255, x_207, h_208, y_15, b_16, (g.fcts [0, 1, 2, 5, 10] rfl)⟩), q3_of g hK ht hW⟩, g.2.2.1.F ht⟩) g.2.2.1.2.2 dX0_closeIndex_184
    · have fc_122 := nle_f c_122
      have b_262 : bd 13 2147483647 y_121 := ltR fc_122 kb_12 (bdT y_121) (by decide)
      refine lv_aload_n hx hb dX0_closeIndex_59 rfl (lv_at hl 2 rfl) ?_
      refine g_getk (C := RX0) (T := TX0) (N := 14) hx hb hts (mc_ inX0) hown hK g rfl 0 (by decide) rfl (hts _ (List.mem_cons_of_mem _ t_373)) (fun _ h9 => h9) 6 rfl dX0_closeIndex_60 ?_
      refine lv_bipush (v := 7) hx hb dX0_closeIndex_63 (by decide) ?_
      refine lv_aload_n hx hb dX0_closeIndex_65 rfl (lv_at hl 2 rfl) ?_
      refine g_getr (K := 111) (C := RX0) (T := TX0) (N := 14) hx hb hts (mc_ inX0) hown hK g ma0_ ka0_ (by decide) rfl 4 (by decide) rfl (hts _ (List.mem_cons_of_mem _ t_377)) (fun _ h9 => h9) rfl dX0_closeIndex_66 (fun a_263 ma_263 ka_263 g => ?_)
      refine lv_aload_n hx hb dX0_closeIndex_69 rfl (lv_at hl 2 rfl) ?_
      refine g_getk (C := RX0) (T := TX0) (N := 14) hx hb hts (mc_ inX0) hown hK g rfl 8 (by decide) rfl (hts _ (List.mem_cons_of_mem _ t_381)) (fun _ h9 => h9) 4 rfl dX0_closeIndex_70 ?_
      refine g_iald hx hb hK g ma_263 ka_263 (by decide) rfl (in_bd b_16 (by decide)) dX0_closeIndex_73 (fun x_264 bx_264 cx_264 => ?_)
      have kb_7 : bd 7 7 (7 : Int32) := ⟨by decide, by decide⟩
      have go_ := g
      refine g_callv (va_runV (As := [.int 7, .int x_264]) (rest := []) ⟨hx, hb, hml, hown, hts⟩ (r_X8_fail l dC dI L kd tys fr_112 H.size g.2.2.2.1 q0_ mq0_ kq0_ 7 (bd_sub kb_7 (by decide)) x_264 y1_ by1_ (g.fcts [9] rfl)) (cwV 2 hts (gV_ t_1215 t_1107 t_1108 t_184 t_1109) rfl rfl rfl (by decide +kernel) ⟨(Nat.le_of_ble_eq_true rfl), (Nat.le_of_ble_eq_true rfl)⟩) (pre3V g hK mq0_ kq0_ (by decide) (q := (RX8, TX8, 10)) rfl) rfl rfl hl.1 rfl (lv_room (Nat.le_of_ble_eq_true rfl)) dX0_closeIndex_74 ⟨(Nat.le_of_ble_eq_true rfl), (Nat.le_of_ble_eq_true rfl)⟩) g hK (by decide) (by decide) (fx' := [(0, 4, a0_, .ref a_263), (0, 10, a0_, .int x_113), (0, 3, a0_, .ref a_32), (0, 11, a0_, .int y_25), (0, 8, a0_, .int y_15), (0, 5, a0_, .ref a_1), (0, 0, a0_, .ref q0_), (0, 2, a0_, .ref q1_)]) rfl (fun fr_265 H locs hp hMr_265 g => ?_)
      obtain ⟨x_266, h_267, hF_268⟩ := hp
      have hG_269 := cOK.frame hMr_265 go_.2.2.2.1 mq1_ kq1_ (by decide) (by decide) hG_116
      have hG_270 := dOK.frame hMr_265 go_.2.2.2.1 mq1_ kq1_ (by decide) (by decide) hG_117
      have hG_271 := jS.frame hMr_265 go_.2.2.2.1 mq1_ kq1_ (by decide) (by decide) hG_118
      have hG_272 := vP.frame hMr_265 go_.2.2.2.1 ma_1 ka_1 (by decide) (by decide) hG_119
      have hG_273 := eJx.frame hMr_265 go_.2.2.2.1 ma0_ ka0_ (by decide) (by decide) hG_120
      have g := g.more hF_268
      refine lv_aload_n hx hb dX0_closeIndex_77 rfl (lv_at hl 2 rfl) ?_
      refine g_getk (C := RX0) (T := TX0) (N := 14) hx hb hts (mc_ inX0) hown hK g rfl 2 (by decide) rfl (hts _ (List.mem_cons_of_mem _ t_375)) (fun _ h9 => h9) 9 rfl dX0_closeIndex_78 ?_
      refine lv_iload_n hx hb dX0_closeIndex_81 rfl (lv_at hl 1 rfl) ?_
      refine lv_if_eq (tgt := 90) hx hb dX0_closeIndex_82 (by decide) (fun c_ => absurd c_ (by decide)) (fun c_ => ?_)
      refine lv_bipush (v := 10) hx hb dX0_closeIndex_85 (by decide) ?_
      refine lv_goto (tgt := 92) hx hb dX0_closeIndex_87 (by decide) ?_
      refine lv_aload_n hx hb dX0_closeIndex_92 rfl (lv_at hl 2 rfl) ?_
      refine g_getk (C := RX0) (T := TX0) (N := 14) hx hb hts (mc_ inX0) hown hK g rfl 5 (by decide) rfl (hts _ (List.mem_cons_of_mem _ t_378)) (fun _ h9 => h9) 7 rfl dX0_closeIndex_93 ?_
      refine lv_aload_n hx hb dX0_closeIndex_96 rfl (lv_at hl 2 rfl) ?_
      refine g_getk (C := RX0) (T := TX0) (N := 14) hx hb hts (mc_ inX0) hown hK g rfl 8 (by decide) rfl (hts _ (List.mem_cons_of_mem _ t_381)) (fun _ h9 => h9) 6 rfl dX0_closeIndex_97 ?_
      refine g_iald hx hb hK g ma_1 ka_1 (by decide) rfl (in_bd b_16 (by decide)) dX0_closeIndex_100 (fun x_274 bx_274 cx_274 => ?_)
      have b_275 : bd 0 400 x_274 := (by rw [cx_274.trans (hG_272 _ (by have h9 := tnZ (i := y_15) (by have h9_0 := h_114; unfold bd at h9_0; have h9_1 := h_267; unfold bd at h9_1; have h9_2 := b_111; unfold bd at h9_2; have h9_3 := h_8; unfold bd at h9_3; have h9_4 := by0_; unfold bd at h9_4; have h9_5 := by1_; unfold bd at h9_5; have h9_6 := b_262; unfold bd at h9_6; have h9_7 := b_16; unfold bd at h9_7; have h8_0 := kb_1; unfold bd at h8_0; have h8_1 := kb_12; unfold bd at h8_1; have h8_2 := kb_5; unfold bd at h8_2; have h8_3 := kb_7; unfold bd at h8_3; omega); have h9_0 := h_114; unfold bd at h9_0; have h9_1 := h_267; unfold bd at h9_1; have h9_2 := b_111; unfold bd at h9_2; have h9_3 := h_8; unfold bd at h9_3; have h9_4 := by0_; unfold bd at h9_4; have h9_5 := by1_; unfold bd at h9_5; have h9_6 := b_262; unfold bd at h9_6; have h9_7 := b_16; unfold bd at h9_7; have h8_0 := kb_1; unfold bd at h8_0; have h8_1 := kb_12; unfold bd at h8_1; have h8_2 := kb_5; unfold bd at h8_2; have h8_3 := kb_7; unfold bd at h8_3; omega))]; exact hb_5)
      obtain ⟨a_276, ma_276, ka_276, g⟩ := g_factr g mq1_ kq1_ (by decide) 4 rfl
      obtain ⟨a_277, ma_277, ka_277, g⟩ := g_factr g mq1_ kq1_ (by decide) 5 rfl
      obtain ⟨x_278, bx_278, g⟩ := g_facti g mq1_ kq1_ (by decide) 6 rfl
      have go_ := g
      refine g_callv (va_runV (As := [.int 10, .int x_274]) (rest := []) ⟨hx, hb, hml, hown, hts⟩ (r_X7_emitF l dC dI L kd tys fr_265 H.size g.2.2.2.1 q1_ mq1_ kq1_ a_276 ma_276 ka_276 a_277 ma_277 ka_277 x_278 bx_278 T_ hG_270 (10 : Int32) x_274 (g.fcts [2, 1, 0] rfl)) (cwV 2 hts (gV_ t_1203 t_1204 t_1205 t_191 t_1206) rfl rfl rfl (by decide +kernel) ⟨(Nat.le_of_ble_eq_true rfl), (Nat.le_of_ble_eq_true rfl)⟩) (pre3V g hK mq1_ kq1_ (by decide) (q := (RX7, TX7, 19)) rfl) rfl rfl hl.1 rfl (lv_room (Nat.le_of_ble_eq_true rfl)) dX0_closeIndex_101 ⟨(Nat.le_of_ble_eq_true rfl), (Nat.le_of_ble_eq_true rfl)⟩) g hK (by decide) (by decide) (fx' := [(7, 5, q1_, .ref a_277), (7, 4, q1_, .ref a_276), (8, 6, q0_, .int 1201), (8, 8, q0_, .int x_266), (0, 4, a0_, .ref a_263), (0, 10, a0_, .int x_113), (0, 3, a0_, .ref a_32), (0, 11, a0_, .int y_25), (0, 8, a0_, .int y_15), (0, 5, a0_, .ref a_1), (0, 0, a0_, .ref q0_), (0, 2, a0_, .ref q1_)]) rfl (fun fr_279 H locs hp hMr_279 g => ?_)
      obtain ⟨hG_280, x_281, h_282, hF_283⟩ := hp
      have hG_284 := vP.frame hMr_279 go_.2.2.2.1 ma_1 ka_1 (by decide) (by decide) hG_272
      have g := g.more hF_283
      refine lv_iload_n hx hb dX0_closeIndex_104 rfl (lv_at hl 1 rfl) ?_
      refine lv_if_eq (tgt := 155) hx hb dX0_closeIndex_105 (by decide) (fun c_ => absurd c_ (by decide)) (fun c_ => ?_)
      refine lv_aload_n hx hb dX0_closeIndex_108 rfl (lv_at hl 2 rfl) ?_
      refine g_getk (C := RX0) (T := TX0) (N := 14) hx hb hts (mc_ inX0) hown hK g rfl 0 (by decide) rfl (hts _ (List.mem_cons_of_mem _ t_373)) (fun _ h9 => h9) 11 rfl dX0_closeIndex_109 ?_
      have kb_1201 : bd 1201 1201 (1201 : Int32) := ⟨by decide, by decide⟩
      have go_ := g
      refine g_calli (va_runV (As := []) (rest := []) ⟨hx, hb, hml, hown, hts⟩ (r_X8_kind_2 l dC dI L kd tys fr_279 H.size g.2.2.2.1 q0_ mq0_ kq0_ 1201 kb_1201 (g.fcts [3] rfl)) (cwV 0 hts (gV_ t_1186 t_1119 t_1120 t_184 t_1121) rfl rfl rfl (by decide +kernel) ⟨(Nat.le_of_ble_eq_true rfl), (Nat.le_of_ble_eq_true rfl)⟩) (pre3V g hK mq0_ kq0_ (by decide) (q := (RX8, TX8, 10)) rfl) rfl rfl hl.1 rfl (lv_room (Nat.le_of_ble_eq_true rfl)) dX0_closeIndex_112 ⟨(Nat.le_of_ble_eq_true rfl), (Nat.le_of_ble_eq_true rfl)⟩) g hK (by decide) (by decide) (fx' := [(7, 6, q1_, .int x_281), (7, 5, q1_, .ref a_277), (7, 4, q1_, .ref a_276), (8, 6, q0_, .int 1201), (8, 8, q0_, .int x_266), (0, 4, a0_, .ref a_263), (0, 10, a0_, .int x_113), (0, 3, a0_, .ref a_32), (0, 11, a0_, .int y_25), (0, 8, a0_, .int y_15), (0, 5, a0_, .ref a_1), (0, 0, a0_, .ref q0_), (0, 2, a0_, .ref q1_)]) rfl (fun r_285 fr_285 H locs hp hMr_285 g => ?_)
      obtain ⟨h_286, -⟩ := hp
      have hG_287 := dOK.frame hMr_285 go_.2.2.2.1 mq1_ kq1_ (by decide) (by decide) hG_280
      have hG_288 := vP.frame hMr_285 go_.2.2.2.1 ma_1 ka_1 (by decide) (by decide) hG_284
      obtain rfl : r_285 = 0 := h_286
      refine lv_bipush (v := 41) hx hb dX0_closeIndex_115 (by decide) ?_
      refine lv_icmp_eq (tgt := 135) hx hb dX0_closeIndex_117 (by decide) (fun c_ => absurd c_ (by decide)) (fun c_ => ?_)
      refine lv_aload_n hx hb dX0_closeIndex_120 rfl (lv_at hl 2 rfl) ?_
      refine g_getk (C := RX0) (T := TX0) (N := 14) hx hb hts (mc_ inX0) hown hK g rfl 0 (by decide) rfl (hts _ (List.mem_cons_of_mem _ t_373)) (fun _ h9 => h9) 11 rfl dX0_closeIndex_121 ?_
      refine lv_iconst (v := 1) hx hb dX0_closeIndex_124 (by decide) ?_
      refine lv_aload_n hx hb dX0_closeIndex_125 rfl (lv_at hl 2 rfl) ?_
      refine g_getk (C := RX0) (T := TX0) (N := 14) hx hb hts (mc_ inX0) hown hK g rfl 0 (by decide) rfl (hts _ (List.mem_cons_of_mem _ t_373)) (fun _ h9 => h9) 11 rfl dX0_closeIndex_126 ?_
      have go_ := g
      refine g_calli (va_runV (As := []) (rest := [.int 1, .ref q0_]) ⟨hx, hb, hml, hown, hts⟩ (r_X8_place l dC dI L kd tys fr_285 H.size g.2.2.2.1 q0_ mq0_ kq0_) (cwV 0 hts (gV_ t_1220 t_1111 t_1112 t_184 t_1113) rfl rfl rfl (by decide +kernel) ⟨(Nat.le_of_ble_eq_true rfl), (Nat.le_of_ble_eq_true rfl)⟩) (pre3V g hK mq0_ kq0_ (by decide) (q := (RX8, TX8, 10)) rfl) rfl rfl hl.1 rfl (lv_room (Nat.le_of_ble_eq_true rfl)) dX0_closeIndex_129 ⟨(Nat.le_of_ble_eq_true rfl), (Nat.le_of_ble_eq_true rfl)⟩) g hK (by decide) (by decide) (fx' := [(7, 6, q1_, .int x_281), (7, 5, q1_, .ref a_277), (7, 4, q1_, .ref a_276), (8, 6, q0_, .int 1201), (8, 8, q0_, .int x_266), (0, 4, a0_, .ref a_263), (0, 10, a0_, .int x_113), (0, 3, a0_, .ref a_32), (0, 11, a0_, .int y_25), (0, 8, a0_, .int y_15), (0, 5, a0_, .ref a_1), (0, 0, a0_, .ref q0_), (0, 2, a0_, .ref q1_)]) rfl (fun r_289 fr_289 H locs hp hMr_289 g => ?_)
      have hG_290 := dOK.frame hMr_289 go_.2.2.2.1 mq1_ kq1_ (by decide) (by decide) hG_287
      have hG_291 := vP.frame hMr_289 go_.2.2.2.1 ma_1 ka_1 (by decide) (by decide) hG_288
      have go_ := g
      refine g_callv (va_runV (As := [.int 1, .int r_289]) (rest := []) ⟨hx, hb, hml, hown, hts⟩ (r_X8_fail_2 l dC dI L kd tys fr_289 H.size g.2.2.2.1 q0_ mq0_ kq0_ 1 (bd_sub kb_1 (by decide)) r_289 x_266 h_267 (g.fcts [4] rfl)) (cwV 2 hts (gV_ t_1215 t_1107 t_1108 t_184 t_1109) rfl rfl rfl (by decide +kernel) ⟨(Nat.le_of_ble_eq_true rfl), (Nat.le_of_ble_eq_true rfl)⟩) (pre3V g hK mq0_ kq0_ (by decide) (q := (RX8, TX8, 10)) rfl) rfl rfl hl.1 rfl (lv_room (Nat.le_of_ble_eq_true rfl)) dX0_closeIndex_132 ⟨(Nat.le_of_ble_eq_true rfl), (Nat.le_of_ble_eq_true rfl)⟩) g hK (by decide) (by decide) (fx' := [(7, 6, q1_, .int x_281), (7, 5, q1_, .ref a_277), (7, 4, q1_, .ref a_276), (8, 8, q0_, .int x_266), (0, 4, a0_, .ref a_263), (0, 10, a0_, .int x_113), (0, 3, a0_, .ref a_32), (0, 11, a0_, .int y_25), (0, 8, a0_, .int y_15), (0, 5, a0_, .ref a_1), (0, 0, a0_, .ref q0_), (0, 2, a0_, .ref q1_)]) rfl (fun fr_292 H locs hp hMr_292 g => ?_)
      have hF_293 := hp
      have hG_294 := dOK.frame hMr_292 go_.2.2.2.1 mq1_ kq1_ (by decide) (by decide) hG_290
      have hG_295 := vP.frame hMr_292 go_.2.2.2.1 ma_1 ka_1 (by decide) (by decide) hG_291
      have g := g.more hF_293
      refine lv_aload_n hx hb dX0_closeIndex_135 rfl (lv_at hl 2 rfl) ?_
      refine g_getk (C := RX0) (T := TX0) (N := 14) hx hb hts (mc_ inX0) hown hK g rfl 0 (by decide) rfl (hts _ (List.mem_cons_of_mem _ t_373)) (fun _ h9 => h9) 11 rfl dX0_closeIndex_136 ?_
      have go_ := g
      refine g_callv (va_runV (As := []) (rest := []) ⟨hx, hb, hml, hown, hts⟩ (r_X8_next_2 l dC dI L kd tys fr_292 H.size g.2.2.2.1 q0_ mq0_ kq0_ 1201 kb_1201 (g.fcts [0] rfl)) (cwV 0 hts (gV_ t_1225 t_1103 t_1104 t_184 t_1105) rfl rfl rfl (by decide +kernel) ⟨(Nat.le_of_ble_eq_true rfl), (Nat.le_of_ble_eq_true rfl)⟩) (pre3V g hK mq0_ kq0_ (by decide) (q := (RX8, TX8, 10)) rfl) rfl rfl hl.1 rfl (lv_room (Nat.le_of_ble_eq_true rfl)) dX0_closeIndex_139 ⟨(Nat.le_of_ble_eq_true rfl), (Nat.le_of_ble_eq_true rfl)⟩) g hK (by decide) (by decide) (fx' := [(8, 6, q0_, .int 1201), (7, 6, q1_, .int x_281), (7, 5, q1_, .ref a_277), (7, 4, q1_, .ref a_276), (8, 8, q0_, .int x_266), (0, 4, a0_, .ref a_263), (0, 10, a0_, .int x_113), (0, 3, a0_, .ref a_32), (0, 11, a0_, .int y_25), (0, 8, a0_, .int y_15), (0, 5, a0_, .ref a_1), (0, 0, a0_, .ref q0_), (0, 2, a0_, .ref q1_)]) rfl (fun fr_296 H locs hp hMr_296 g => ?_)
      have hG_297 := dOK.frame hMr_296 go_.2.2.2.1 mq1_ kq1_ (by decide) (by decide) hG_294
      have hG_298 := vP.frame hMr_296 go_.2.2.2.1 ma_1 ka_1 (by decide) (by decide) hG_295
      refine lv_aload_n hx hb dX0_closeIndex_142 rfl (lv_at hl 2 rfl) ?_
      refine lv_dup hx hb dX0_closeIndex_143 rfl ?_
      refine g_getk (C := RX0) (T := TX0) (N := 14) hx hb hts (mc_ inX0) hown hK g rfl 11 (by decide) rfl (hts _ (List.mem_cons_of_mem _ t_384)) (fun _ h9 => h9) 8 rfl dX0_closeIndex_144 ?_
      refine lv_iconst (v := 1) hx hb dX0_closeIndex_147 (by decide) ?_
      refine lv_isub hx hb dX0_closeIndex_148 ?_
      refine lv_topi (fun y_299 ey_299 => ?_)
      have go_ := g
      refine g_put (C := RX0) (T := TX0) (N := 14) hx hb hts (mc_ inX0) tyX0 tyX0_ok nmX0 hown hK g ma0_ ka0_ (by decide) rfl 11 (by decide) (hts _ (List.mem_cons_of_mem _ t_384)) (fun _ h9 => h9) rfl rfl (okV_i (bdT y_299)) rfl rfl (by decide) (Or.inr (Or.inl (by decide))) (fx' := [(8, 6, q0_, .int 1201), (7, 6, q1_, .int x_281), (7, 5, q1_, .ref a_277), (7, 4, q1_, .ref a_276), (8, 8, q0_, .int x_266), (0, 4, a0_, .ref a_263), (0, 10, a0_, .int x_113), (0, 3, a0_, .ref a_32), (0, 8, a0_, .int y_15), (0, 5, a0_, .ref a_1), (0, 0, a0_, .ref q0_), (0, 2, a0_, .ref q1_)]) rfl dX0_closeIndex_149 (fun f H locs hM_300 g => ?_)
      have hG_301 := dOK.frame hM_300 go_.2.2.2.1 mq1_ kq1_ (by decide) (by decide) hG_297
      have hG_302 := vP.frame hM_300 go_.2.2.2.1 ma_1 ka_1 (by decide) (by decide) hG_298
      obtain ⟨y_303, ey_303⟩ : ∃ z : Int32, z = y_121 + 1 := ⟨_, rfl⟩
      refine lv_iinc (v := y_303) (lv' := [(2, .int y_303), (1, .int 1), (0, .ref a0_)]) hx hb dX0_closeIndex_152 hl (k := 0) rfl (by rw [ey_303]; rfl) (by decide) rfl (fun ls hl => ?_)
      refine lv_iload_n hx hb dX0_closeIndex_155 rfl (lv_at hl 0 rfl) ?_
      refine lv_bipush (v := 12) hx hb dX0_closeIndex_156 (by decide) ?_
      refine lv_icmp_le (tgt := 179) hx hb dX0_closeIndex_158 (by decide) (fun c_304 => ?_) (fun c_304 => ?_)
      · have fc_304 := le_f c_304
        have b_305 : bd (-2147483648) 12 y_303 := leL fc_304 (bdT y_303) kb_12 (by decide)
        refine lv_aload_n hx hb dX0_closeIndex_179 rfl (lv_at hl 2 rfl) ?_
        refine lv_iload_n hx hb dX0_closeIndex_180 rfl (lv_at hl 0 rfl) ?_
        have go_ := g
        refine g_callv (va_runV (As := [.int y_303]) (rest := []) ⟨hx, hb, hml, hown, hts⟩ (r_X0_addWhole l dC dI L kd tys f H.size g.2.2.2.1 a0_ ma0_ ka0_ y_303) (cwV 1 hts (gV_ t_1211 t_1213 t_17 t_190 t_1214) rfl rfl rfl (by decide +kernel) ⟨(Nat.le_of_ble_eq_true rfl), (Nat.le_of_ble_eq_true rfl)⟩) (pre3V g hK ma0_ ka0_ (by decide) (q := (RX0, TX0, 14)) rfl) rfl rfl hl.1 rfl (lv_room (Nat.le_of_ble_eq_true rfl)) dX0_closeIndex_181 ⟨(Nat.le_of_ble_eq_true rfl), (Nat.le_of_ble_eq_true rfl)⟩) g hK (by decide) (by decide) (fx' := [(0, 11, a0_, .int y_299), (8, 6, q0_, .int 1201), (7, 6, q1_, .int x_281), (7, 5, q1_, .ref a_277), (7, 4, q1_, .ref a_276), (8, 8, q0_, .int x_266), (0, 4, a0_, .ref a_263), (0, 3, a0_, .ref a_32), (0, 8, a0_, .int y_15), (0, 5, a0_, .ref a_1), (0, 0, a0_, .ref q0_), (0, 2, a0_, .ref q1_)]) rfl (fun fr_306 H locs hp hMr_306 g => ?_)
        obtain ⟨x_307, h_308, hF_309⟩ := hp
        have hG_310 := dOK.frame hMr_306 go_.2.2.2.1 mq1_ kq1_ (by decide) (by decide) hG_301
        have hG_311 := vP.frame hMr_306 go_.2.2.2.1 ma_1 ka_1 (by decide) (by decide) hG_302
        have g := g.more hF_309
        subst hQ
        exact W.vret hx hb hr (fun t ht hW => ⟨⟨_, rfl, Or.inr (⟨hG_310, x_307, h_308, x_266, h_267, y_15, b_16, (g.fcts [0, 1, 3, 7, 10] rfl)⟩), q3_of g hK ht hW⟩, g.2.2.1.F ht⟩) g.2.2.1.2.2 dX0_closeIndex_184
      · have fc_304 := nle_f c_304
        have b_312 : bd 13 2147483647 y_303 := ltR fc_304 kb_12 (bdT y_303) (by decide)
        refine lv_aload_n hx hb dX0_closeIndex_161 rfl (lv_at hl 2 rfl) ?_
        refine g_getk (C := RX0) (T := TX0) (N := 14) hx hb hts (mc_ inX0) hown hK g rfl 0 (by decide) rfl (hts _ (List.mem_cons_of_mem _ t_373)) (fun _ h9 => h9) 11 rfl dX0_closeIndex_162 ?_
        refine lv_bipush (v := 7) hx hb dX0_closeIndex_165 (by decide) ?_
        refine lv_aload_n hx hb dX0_closeIndex_167 rfl (lv_at hl 2 rfl) ?_
        refine g_getr (K := 114) (C := RX0) (T := TX0) (N := 14) hx hb hts (mc_ inX0) hown hK g ma0_ ka0_ (by decide) rfl 7 (by decide) rfl (hts _ (List.mem_cons_of_mem _ t_380)) (fun _ h9 => h9) rfl dX0_closeIndex_168 (fun a_313 ma_313 ka_313 g => ?_)
        refine lv_aload_n hx hb dX0_closeIndex_171 rfl (lv_at hl 2 rfl) ?_
        refine g_getk (C := RX0) (T := TX0) (N := 14) hx hb hts (mc_ inX0) hown hK g rfl 8 (by decide) rfl (hts _ (List.mem_cons_of_mem _ t_381)) (fun _ h9 => h9) 10 rfl dX0_closeIndex_172 ?_
        refine g_iald hx hb hK g ma_313 ka_313 (by decide) rfl (in_bd b_16 (by decide)) dX0_closeIndex_175 (fun x_314 bx_314 cx_314 => ?_)
        have go_ := g
        refine g_callv (va_runV (As := [.int 7, .int x_314]) (rest := []) ⟨hx, hb, hml, hown, hts⟩ (r_X8_fail_2 l dC dI L kd tys f H.size g.2.2.2.1 q0_ mq0_ kq0_ 7 (bd_sub kb_7 (by decide)) x_314 x_266 h_267 (g.fcts [6] rfl)) (cwV 2 hts (gV_ t_1215 t_1107 t_1108 t_184 t_1109) rfl rfl rfl (by decide +kernel) ⟨(Nat.le_of_ble_eq_true rfl), (Nat.le_of_ble_eq_true rfl)⟩) (pre3V g hK mq0_ kq0_ (by decide) (q := (RX8, TX8, 10)) rfl) rfl rfl hl.1 rfl (lv_room (Nat.le_of_ble_eq_true rfl)) dX0_closeIndex_176 ⟨(Nat.le_of_ble_eq_true rfl), (Nat.le_of_ble_eq_true rfl)⟩) g hK (by decide) (by decide) (fx' := [(0, 7, a0_, .ref a_313), (0, 11, a0_, .int y_299), (7, 6, q1_, .int x_281), (7, 5, q1_, .ref a_277), (7, 4, q1_, .ref a_276), (8, 8, q0_, .int x_266), (0, 4, a0_, .ref a_263), (0, 10, a0_, .int x_113), (0, 3, a0_, .ref a_32), (0, 8, a0_, .int y_15), (0, 5, a0_, .ref a_1), (0, 0, a0_, .ref q0_), (0, 2, a0_, .ref q1_)]) rfl (fun fr_315 H locs hp hMr_315 g => ?_)
        have hF_316 := hp
        have hG_317 := dOK.frame hMr_315 go_.2.2.2.1 mq1_ kq1_ (by decide) (by decide) hG_301
        have hG_318 := vP.frame hMr_315 go_.2.2.2.1 ma_1 ka_1 (by decide) (by decide) hG_302
        have g := g.more hF_316
        refine lv_aload_n hx hb dX0_closeIndex_179 rfl (lv_at hl 2 rfl) ?_
        refine lv_iload_n hx hb dX0_closeIndex_180 rfl (lv_at hl 0 rfl) ?_
        have go_ := g
        refine g_callv (va_runV (As := [.int y_303]) (rest := []) ⟨hx, hb, hml, hown, hts⟩ (r_X0_addWhole l dC dI L kd tys fr_315 H.size g.2.2.2.1 a0_ ma0_ ka0_ y_303) (cwV 1 hts (gV_ t_1211 t_1213 t_17 t_190 t_1214) rfl rfl rfl (by decide +kernel) ⟨(Nat.le_of_ble_eq_true rfl), (Nat.le_of_ble_eq_true rfl)⟩) (pre3V g hK ma0_ ka0_ (by decide) (q := (RX0, TX0, 14)) rfl) rfl rfl hl.1 rfl (lv_room (Nat.le_of_ble_eq_true rfl)) dX0_closeIndex_181 ⟨(Nat.le_of_ble_eq_true rfl), (Nat.le_of_ble_eq_true rfl)⟩) g hK (by decide) (by decide) (fx' := [(8, 6, q0_, .int 1201), (0, 7, a0_, .ref a_313), (0, 11, a0_, .int y_299), (7, 6, q1_, .int x_281), (7, 5, q1_, .ref a_277), (7, 4, q1_, .ref a_276), (8, 8, q0_, .int x_266), (0, 4, a0_, .ref a_263), (0, 3, a0_, .ref a_32), (0, 8, a0_, .int y_15), (0, 5, a0_, .ref a_1), (0, 0, a0_, .ref q0_), (0, 2, a0_, .ref q1_)]) rfl (fun fr_319 H locs hp hMr_319 g => ?_)
        obtain ⟨x_320, h_321, hF_322⟩ := hp
        have hG_323 := dOK.frame hMr_319 go_.2.2.2.1 mq1_ kq1_ (by decide) (by decide) hG_317
        have hG_324 := vP.frame hMr_319 go_.2.2.2.1 ma_1 ka_1 (by decide) (by decide) hG_318
        have g := g.more hF_322
        subst hQ
        exact W.vret hx hb hr (fun t ht hW => ⟨⟨_, rfl, Or.inr (⟨hG_323, x_320, h_321, x_266, h_267, y_15, b_16, (g.fcts [0, 1, 2, 8, 11] rfl)⟩), q3_of g hK ht hW⟩, g.2.2.1.F ht⟩) g.2.2.1.2.2 dX0_closeIndex_184
set_option maxHeartbeats 4000000 in
set_option maxRecDepth 100000 in
theorem r_X0_push_3 (l : Launch) (dC : Nat → ClassId) (dI : Nat → Nat → Nat) (L : List Nat) (kd : Nat → Nat) (tys : List (ClassId × FieldType)) (f0 : Nat → va_E) (sz : Nat) (hWT : WT L kd tys f0) (a0_ : Nat) (ma0_ : a0_ ∈ L) (ka0_ : kd a0_ = 0) (x1_ : Int32) (x2_ : Int32) (x3_ : Int32) (q0_ : Nat) (mq0_ : q0_ ∈ L) (kq0_ : kd q0_ = 7) (q1_ : Nat) (mq1_ : q1_ ∈ L) (kq1_ : kd q1_ = 110) (q2_ : Nat) (mq2_ : q2_ ∈ L) (kq2_ : kd q2_ = 112) (hGia0_ : eJx f0 a0_) (hGea0_ : eOK f0 a0_) (hr_ : erel x1_ x3_) (hr2_ : kQj f0 q0_ x1_ x3_) (hfx : Fs L kd f0 [(0, 2, a0_, .ref q0_), (0, 3, a0_, .ref q1_), (0, 5, a0_, .ref q2_)]) : Met l yX0_push (.code yX0_push cX0_push 4 none :: lw_g) ({ frames := 0, cells := 0, slots := 0, locals := 0 }) (va_Pc [.ref a0_, .int x1_, .int x2_, .int x3_] (P3 (dC, dI) L tys f0 sz)) (va_Qv (fun (f : Nat → va_E) => (eJx f a0_ ∧ eOK f a0_ ∧ ∃ z0_ : Int32, bd 1 300 z0_ ∧ Fs L kd f [(0, 8, a0_, .int z0_)])) (Q3 (dC, dI) L kd tys [(0, 8)] [110, 111, 112, 113, 114] f0 sz) (pA L sz)) 0 0 (pA L sz) := by
  refine Met.ofW (cc := cX0_push) (maxL := 4) (ret := none) (by decide) rfl ?_
  intro p e s m args below meth c s₁ B hml hv
  obtain ⟨rfl, hsz, hP, hK, hD0⟩ := hv
  have hx := B.exec
  have hb := B.bytes
  have hr := B.returns
  have hts := atoms_spec (ws := (.code yX0_push cX0_push 4 none :: lw_g)) B.pre
  have hown : s.vm.findClass RX0 = some m.cls := findClass_of_methodNamed B.named
  have hlocks := B.notSynchronized
  subst hsz
  have g : G3 (dC, dI) L kd tys s f0 [(0, 8)] [110, 111, 112, 113, 114] f0 s.heap [] [(0, 2, a0_, .ref q0_), (0, 3, a0_, .ref q1_), (0, 5, a0_, .ref q2_)] := G3.start hP hD0 hWT hfx
  have e3_ := (fx_at g (i := 1) rfl).2.2.2
  have e5_ := (fx_at g (i := 2) rfl).2.2.2
  have hl := lv_entry ([.ref a0_, .int x1_, .int x2_, .int x3_]) (n := 4) (Nat.le_of_ble_eq_true rfl)
  rw [lg_entry_eq]
  generalize (lg_sl ([.ref a0_, .int x1_, .int x2_, .int x3_]) ++ List.replicate (4 - (lg_sl ([.ref a0_, .int x1_, .int x2_, .int x3_])).length) Slot.unset).toArray = ls at hl ⊢
  have hl : lv_has ls 4 [(0, .ref a0_), (1, .int x1_), (2, .int x2_), (3, .int x3_)] := hl
  refine W_q (fun Q hQ => ?_)
  refine lv_aload_n hx hb dX0_push_0 rfl (lv_at hl 0 rfl) ?_
  refine g_geti (C := RX0) (T := TX0) (N := 14) hx hb hts (mc_ inX0) hown hK g ma0_ ka0_ (by decide) rfl 8 (by decide) rfl (hts _ (List.mem_cons_of_mem _ t_381)) (fun _ h9 => h9) rfl dX0_push_1 (fun x_1 bx_1 g => ?_)
  refine lv_sipush (v := 300) hx hb dX0_push_4 (by decide) ?_
  have kb_300 : bd 300 300 (300 : Int32) := ⟨by decide, by decide⟩
  refine lv_icmp_ge (tgt := 70) hx hb dX0_push_7 (by decide) (fun c_2 => ?_) (fun c_2 => ?_)
  · have fc_2 := le_f c_2
    have b_3 : bd 300 300 x_1 := leR fc_2 kb_300 bx_1 (by decide)
    subst hQ
    exact W.vret hx hb hr (fun t ht hW => ⟨⟨_, rfl, ⟨hGia0_, hGea0_, x_1, (bd_sub b_3 (by decide)), (g.fcts [0] rfl)⟩, q3_of g hK ht hW⟩, g.2.2.1.F ht⟩) g.2.2.1.2.2 dX0_push_70
  · have fc_2 := nle_f c_2
    have b_4 : bd 0 299 x_1 := ltL fc_2 bx_1 kb_300 (by decide)
    refine lv_aload_n hx hb dX0_push_10 rfl (lv_at hl 0 rfl) ?_
    refine g_getk (C := RX0) (T := TX0) (N := 14) hx hb hts (mc_ inX0) hown hK g rfl 3 (by decide) rfl (hts _ (List.mem_cons_of_mem _ t_376)) (fun _ h9 => h9) 2 rfl dX0_push_11 ?_
    refine lv_aload_n hx hb dX0_push_14 rfl (lv_at hl 0 rfl) ?_
    refine g_getk (C := RX0) (T := TX0) (N := 14) hx hb hts (mc_ inX0) hown hK g rfl 8 (by decide) rfl (hts _ (List.mem_cons_of_mem _ t_381)) (fun _ h9 => h9) 0 rfl dX0_push_15 ?_
    refine lv_iload_n hx hb dX0_push_18 rfl (lv_at hl 1 rfl) ?_
    have go_ := g
    refine g_iastX hx hb hK g mq1_ kq1_ (by decide) rfl (in_bd b_4 (by decide)) (bdT x1_) (by decide) dX0_push_19 (fun f1 H locs hM_5 u_7 g => ?_)
    have hG_6 := kQj.frame hM_5 go_.2.2.2.1 mq0_ kq0_ (by decide) (by decide) hr2_
    have hi_8 := eJx.sk hGia0_ (fx_at go_ (i := 1) rfl).2.2.2 (fx_at go_ (i := 2) rfl).2.2.2 (fx_at go_ (i := 0) rfl).2.2.2 u_7 b_4.1 go_.2.2.2.1 ma0_ ka0_
    have hv_9 : vK f1 q1_ x_1.toNatClampNeg x1_ := by unfold vK; rw [u_7.2, if_pos rfl]
    refine lv_aload_n hx hb dX0_push_20 rfl (lv_at hl 0 rfl) ?_
    refine g_getr (K := 111) (C := RX0) (T := TX0) (N := 14) hx hb hts (mc_ inX0) hown hK g ma0_ ka0_ (by decide) rfl 4 (by decide) rfl (hts _ (List.mem_cons_of_mem _ t_377)) (fun _ h9 => h9) rfl dX0_push_21 (fun a_10 ma_10 ka_10 g => ?_)
    refine lv_aload_n hx hb dX0_push_24 rfl (lv_at hl 0 rfl) ?_
    refine g_getk (C := RX0) (T := TX0) (N := 14) hx hb hts (mc_ inX0) hown hK g rfl 8 (by decide) rfl (hts _ (List.mem_cons_of_mem _ t_381)) (fun _ h9 => h9) 1 rfl dX0_push_25 ?_
    refine lv_iload_n hx hb dX0_push_28 rfl (lv_at hl 2 rfl) ?_
    have go_ := g
    refine g_iast hx hb hK g ma_10 ka_10 (by decide) rfl (in_bd b_4 (by decide)) (bdT x2_) (by decide) dX0_push_29 (fun f H locs hM_11 g => ?_)
    have hG_12 := kQj.frame hM_11 go_.2.2.2.1 mq0_ kq0_ (by decide) (by decide) hG_6
    have hG_13 := eJx.frame hM_11 go_.2.2.2.1 ma0_ ka0_ (by decide) (by decide) hi_8
    have hG_14 := vK.frame hM_11 go_.2.2.2.1 mq1_ kq1_ (by decide) (by decide) hv_9
    refine lv_aload_n hx hb dX0_push_30 rfl (lv_at hl 0 rfl) ?_
    refine g_getk (C := RX0) (T := TX0) (N := 14) hx hb hts (mc_ inX0) hown hK g rfl 5 (by decide) rfl (hts _ (List.mem_cons_of_mem _ t_378)) (fun _ h9 => h9) 4 rfl dX0_push_31 ?_
    refine lv_aload_n hx hb dX0_push_34 rfl (lv_at hl 0 rfl) ?_
    refine g_getk (C := RX0) (T := TX0) (N := 14) hx hb hts (mc_ inX0) hown hK g rfl 8 (by decide) rfl (hts _ (List.mem_cons_of_mem _ t_381)) (fun _ h9 => h9) 1 rfl dX0_push_35 ?_
    refine lv_iload_n hx hb dX0_push_38 rfl (lv_at hl 3 rfl) ?_
    have go_ := g
    refine g_iastX hx hb hK g mq2_ kq2_ (by decide) rfl (in_bd b_4 (by decide)) (bdT x3_) (by decide) dX0_push_39 (fun f3 H locs hM_15 u_18 g => ?_)
    have hG_16 := kQj.frame hM_15 go_.2.2.2.1 mq0_ kq0_ (by decide) (by decide) hG_12
    have hG_17 := vK.frame hM_15 go_.2.2.2.1 mq1_ kq1_ (by decide) (by decide) hG_14
    have hG_19 : eOK f3 a0_ := push_e hGea0_ e3_ e5_ (ne_kd kq1_ kq2_ (by decide)) (ne_kd ka0_ kq1_ (by decide)) (ne_kd ka0_ kq2_ (by decide)) ma0_ ka0_ mq1_ kq1_ mq2_ kq2_ u_7 hM_11 u_18 hr_
    have hi_20 := eJx.stt hG_13 (fx_at go_ (i := 2) rfl).2.2.2 (fx_at go_ (i := 4) rfl).2.2.2 (fx_at go_ (i := 1) rfl).2.2.2 u_18 b_4.1 go_.2.2.2.1 ma0_ ka0_
    have hv_21 : vT f3 q2_ x_1.toNatClampNeg x3_ := by unfold vT; rw [u_18.2, if_pos rfl]
    refine lv_aload_n hx hb dX0_push_40 rfl (lv_at hl 0 rfl) ?_
    refine g_getr (K := 113) (C := RX0) (T := TX0) (N := 14) hx hb hts (mc_ inX0) hown hK g ma0_ ka0_ (by decide) rfl 6 (by decide) rfl (hts _ (List.mem_cons_of_mem _ t_379)) (fun _ h9 => h9) rfl dX0_push_41 (fun a_22 ma_22 ka_22 g => ?_)
    refine lv_aload_n hx hb dX0_push_44 rfl (lv_at hl 0 rfl) ?_
    refine g_getk (C := RX0) (T := TX0) (N := 14) hx hb hts (mc_ inX0) hown hK g rfl 8 (by decide) rfl (hts _ (List.mem_cons_of_mem _ t_381)) (fun _ h9 => h9) 2 rfl dX0_push_45 ?_
    refine lv_iconst (v := 0) hx hb dX0_push_48 (by decide) ?_
    have kb_0 : bd 0 0 (0 : Int32) := ⟨by decide, by decide⟩
    have go_ := g
    refine g_iast hx hb hK g ma_22 ka_22 (by decide) rfl (in_bd b_4 (by decide)) (bd_sub kb_0 (by decide)) (by decide) dX0_push_49 (fun f H locs hM_23 g => ?_)
    have hG_24 := kQj.frame hM_23 go_.2.2.2.1 mq0_ kq0_ (by decide) (by decide) hG_16
    have hG_25 := vK.frame hM_23 go_.2.2.2.1 mq1_ kq1_ (by decide) (by decide) hG_17
    have hG_26 := eOK.frame hM_23 go_.2.2.2.1 ma0_ ka0_ (by decide) (by decide) hG_19
    have hG_27 := eJx.frame hM_23 go_.2.2.2.1 ma0_ ka0_ (by decide) (by decide) hi_20
    have hG_28 := vT.frame hM_23 go_.2.2.2.1 mq2_ kq2_ (by decide) (by decide) hv_21
    refine lv_aload_n hx hb dX0_push_50 rfl (lv_at hl 0 rfl) ?_
    refine g_getr (K := 114) (C := RX0) (T := TX0) (N := 14) hx hb hts (mc_ inX0) hown hK g ma0_ ka0_ (by decide) rfl 7 (by decide) rfl (hts _ (List.mem_cons_of_mem _ t_380)) (fun _ h9 => h9) rfl dX0_push_51 (fun a_29 ma_29 ka_29 g => ?_)
    refine lv_aload_n hx hb dX0_push_54 rfl (lv_at hl 0 rfl) ?_
    refine g_getk (C := RX0) (T := TX0) (N := 14) hx hb hts (mc_ inX0) hown hK g rfl 8 (by decide) rfl (hts _ (List.mem_cons_of_mem _ t_381)) (fun _ h9 => h9) 3 rfl dX0_push_55 ?_
    refine lv_iconst (v := 0) hx hb dX0_push_58 (by decide) ?_
    have go_ := g
    refine g_iast hx hb hK g ma_29 ka_29 (by decide) rfl (in_bd b_4 (by decide)) (bd_sub kb_0 (by decide)) (by decide) dX0_push_59 (fun f H locs hM_30 g => ?_)
    have hG_31 := kQj.frame hM_30 go_.2.2.2.1 mq0_ kq0_ (by decide) (by decide) hG_24
    have hG_32 := vK.frame hM_30 go_.2.2.2.1 mq1_ kq1_ (by decide) (by decide) hG_25
    have hG_33 := eOK.frame hM_30 go_.2.2.2.1 ma0_ ka0_ (by decide) (by decide) hG_26
    have hG_34 := eJx.frame hM_30 go_.2.2.2.1 ma0_ ka0_ (by decide) (by decide) hG_27
    have hG_35 := vT.frame hM_30 go_.2.2.2.1 mq2_ kq2_ (by decide) (by decide) hG_28
    refine lv_aload_n hx hb dX0_push_60 rfl (lv_at hl 0 rfl) ?_
    refine lv_dup hx hb dX0_push_61 rfl ?_
    refine g_getk (C := RX0) (T := TX0) (N := 14) hx hb hts (mc_ inX0) hown hK g rfl 8 (by decide) rfl (hts _ (List.mem_cons_of_mem _ t_381)) (fun _ h9 => h9) 3 rfl dX0_push_62 ?_
    refine lv_iconst (v := 1) hx hb dX0_push_65 (by decide) ?_
    have kb_1 : bd 1 1 (1 : Int32) := ⟨by decide, by decide⟩
    refine lv_iadd hx hb dX0_push_66 ?_
    refine lv_topi (fun y_36 ey_36 => ?_)
    have ty_36 := add_bd ey_36 b_4 kb_1 (by decide)
    have b_37 : bd 1 300 y_36 := add_rg ty_36 b_4 kb_1 (by decide)
    have go_ := g
    refine g_putX (C := RX0) (T := TX0) (N := 14) hx hb hts (mc_ inX0) tyX0 tyX0_ok nmX0 hown hK g ma0_ ka0_ (by decide) rfl 8 (by decide) (hts _ (List.mem_cons_of_mem _ t_381)) (fun _ h9 => h9) rfl rfl (okV_i (bd_sub b_37 (by decide))) rfl rfl (by decide) (Or.inr (Or.inl (by decide))) (fx' := [(0, 7, a0_, .ref a_29), (0, 6, a0_, .ref a_22), (0, 4, a0_, .ref a_10), (0, 2, a0_, .ref q0_), (0, 3, a0_, .ref q1_), (0, 5, a0_, .ref q2_)]) rfl dX0_push_67 (fun f H locs hM_38 u_43 g => ?_)
    have hG_39 := kQj.frame hM_38 go_.2.2.2.1 mq0_ kq0_ (by decide) (by decide) hG_31
    have hG_40 := vK.frame hM_38 go_.2.2.2.1 mq1_ kq1_ (by decide) (by decide) hG_32
    have hG_41 := eOK.frame hM_38 go_.2.2.2.1 ma0_ ka0_ (by decide) (by decide) hG_33
    have hG_42 := vT.frame hM_38 go_.2.2.2.1 mq2_ kq2_ (by decide) (by decide) hG_35
    have hi_44 := eJx.inc hG_34 (fx_at go_ (i := 4) rfl).2.2.2 (fx_at go_ (i := 5) rfl).2.2.2 (fx_at go_ (i := 6) rfl).2.2.2 (fx_at go_ (i := 3) rfl).2.2.2 mq0_ kq0_ u_43 (b_4).1 (by have h9_0 := b_4; unfold bd at h9_0; have h9_1 := b_37; unfold bd at h9_1; have h8_0 := kb_0; unfold bd at h8_0; have h8_1 := kb_1; unfold bd at h8_1; have h8_2 := kb_300; unfold bd at h8_2; omega) hG_32 hG_35 hG_31 go_.2.2.2.1 ma0_ ka0_
    subst hQ
    exact W.vret hx hb hr (fun t ht hW => ⟨⟨_, rfl, ⟨hi_44, hG_41, y_36, b_37, (g.fcts [0] rfl)⟩, q3_of g hK ht hW⟩, g.2.2.1.F ht⟩) g.2.2.1.2.2 dX0_push_70
set_option maxHeartbeats 4000000 in
set_option maxRecDepth 100000 in
theorem r_X0_push_4 (l : Launch) (dC : Nat → ClassId) (dI : Nat → Nat → Nat) (L : List Nat) (kd : Nat → Nat) (tys : List (ClassId × FieldType)) (f0 : Nat → va_E) (sz : Nat) (hWT : WT L kd tys f0) (a0_ : Nat) (ma0_ : a0_ ∈ L) (ka0_ : kd a0_ = 0) (x1_ : Int32) (x2_ : Int32) (x3_ : Int32) (q0_ : Nat) (mq0_ : q0_ ∈ L) (kq0_ : kd q0_ = 7) (q1_ : Nat) (mq1_ : q1_ ∈ L) (kq1_ : kd q1_ = 110) (q2_ : Nat) (mq2_ : q2_ ∈ L) (kq2_ : kd q2_ = 112) (hGea0_ : eOK f0 a0_) (hr_ : erel x1_ x3_) (hfx : Fs L kd f0 [(0, 2, a0_, .ref q0_), (0, 3, a0_, .ref q1_), (0, 5, a0_, .ref q2_)]) : Met l yX0_push (.code yX0_push cX0_push 4 none :: lw_g) ({ frames := 0, cells := 0, slots := 0, locals := 0 }) (va_Pc [.ref a0_, .int x1_, .int x2_, .int x3_] (P3 (dC, dI) L tys f0 sz)) (va_Qv (fun (f : Nat → va_E) => (eOK f a0_ ∧ ∃ z0_ : Int32, bd 1 300 z0_ ∧ Fs L kd f [(0, 8, a0_, .int z0_)])) (Q3 (dC, dI) L kd tys [(0, 8)] [110, 111, 112, 113, 114] f0 sz) (pA L sz)) 0 0 (pA L sz) := by
  refine Met.ofW (cc := cX0_push) (maxL := 4) (ret := none) (by decide) rfl ?_
  intro p e s m args below meth c s₁ B hml hv
  obtain ⟨rfl, hsz, hP, hK, hD0⟩ := hv
  have hx := B.exec
  have hb := B.bytes
  have hr := B.returns
  have hts := atoms_spec (ws := (.code yX0_push cX0_push 4 none :: lw_g)) B.pre
  have hown : s.vm.findClass RX0 = some m.cls := findClass_of_methodNamed B.named
  have hlocks := B.notSynchronized
  subst hsz
  have g : G3 (dC, dI) L kd tys s f0 [(0, 8)] [110, 111, 112, 113, 114] f0 s.heap [] [(0, 2, a0_, .ref q0_), (0, 3, a0_, .ref q1_), (0, 5, a0_, .ref q2_)] := G3.start hP hD0 hWT hfx
  have e3_ := (fx_at g (i := 1) rfl).2.2.2
  have e5_ := (fx_at g (i := 2) rfl).2.2.2
  have hl := lv_entry ([.ref a0_, .int x1_, .int x2_, .int x3_]) (n := 4) (Nat.le_of_ble_eq_true rfl)
  rw [lg_entry_eq]
  generalize (lg_sl ([.ref a0_, .int x1_, .int x2_, .int x3_]) ++ List.replicate (4 - (lg_sl ([.ref a0_, .int x1_, .int x2_, .int x3_])).length) Slot.unset).toArray = ls at hl ⊢
  have hl : lv_has ls 4 [(0, .ref a0_), (1, .int x1_), (2, .int x2_), (3, .int x3_)] := hl
  refine W_q (fun Q hQ => ?_)
  refine lv_aload_n hx hb dX0_push_0 rfl (lv_at hl 0 rfl) ?_
  refine g_geti (C := RX0) (T := TX0) (N := 14) hx hb hts (mc_ inX0) hown hK g ma0_ ka0_ (by decide) rfl 8 (by decide) rfl (hts _ (List.mem_cons_of_mem _ t_381)) (fun _ h9 => h9) rfl dX0_push_1 (fun x_1 bx_1 g => ?_)
  refine lv_sipush (v := 300) hx hb dX0_push_4 (by decide) ?_
  have kb_300 : bd 300 300 (300 : Int32) := ⟨by decide, by decide⟩
  refine lv_icmp_ge (tgt := 70) hx hb dX0_push_7 (by decide) (fun c_2 => ?_) (fun c_2 => ?_)
  · have fc_2 := le_f c_2
    have b_3 : bd 300 300 x_1 := leR fc_2 kb_300 bx_1 (by decide)
    subst hQ
    exact W.vret hx hb hr (fun t ht hW => ⟨⟨_, rfl, ⟨hGea0_, x_1, (bd_sub b_3 (by decide)), (g.fcts [0] rfl)⟩, q3_of g hK ht hW⟩, g.2.2.1.F ht⟩) g.2.2.1.2.2 dX0_push_70
  · have fc_2 := nle_f c_2
    have b_4 : bd 0 299 x_1 := ltL fc_2 bx_1 kb_300 (by decide)
    refine lv_aload_n hx hb dX0_push_10 rfl (lv_at hl 0 rfl) ?_
    refine g_getk (C := RX0) (T := TX0) (N := 14) hx hb hts (mc_ inX0) hown hK g rfl 3 (by decide) rfl (hts _ (List.mem_cons_of_mem _ t_376)) (fun _ h9 => h9) 2 rfl dX0_push_11 ?_
    refine lv_aload_n hx hb dX0_push_14 rfl (lv_at hl 0 rfl) ?_
    refine g_getk (C := RX0) (T := TX0) (N := 14) hx hb hts (mc_ inX0) hown hK g rfl 8 (by decide) rfl (hts _ (List.mem_cons_of_mem _ t_381)) (fun _ h9 => h9) 0 rfl dX0_push_15 ?_
    refine lv_iload_n hx hb dX0_push_18 rfl (lv_at hl 1 rfl) ?_
    have go_ := g
    refine g_iastX hx hb hK g mq1_ kq1_ (by decide) rfl (in_bd b_4 (by decide)) (bdT x1_) (by decide) dX0_push_19 (fun f1 H locs hM_5 u_6 g => ?_)
    refine lv_aload_n hx hb dX0_push_20 rfl (lv_at hl 0 rfl) ?_
    refine g_getr (K := 111) (C := RX0) (T := TX0) (N := 14) hx hb hts (mc_ inX0) hown hK g ma0_ ka0_ (by decide) rfl 4 (by decide) rfl (hts _ (List.mem_cons_of_mem _ t_377)) (fun _ h9 => h9) rfl dX0_push_21 (fun a_7 ma_7 ka_7 g => ?_)
    refine lv_aload_n hx hb dX0_push_24 rfl (lv_at hl 0 rfl) ?_
    refine g_getk (C := RX0) (T := TX0) (N := 14) hx hb hts (mc_ inX0) hown hK g rfl 8 (by decide) rfl (hts _ (List.mem_cons_of_mem _ t_381)) (fun _ h9 => h9) 1 rfl dX0_push_25 ?_
    refine lv_iload_n hx hb dX0_push_28 rfl (lv_at hl 2 rfl) ?_
    refine g_iast hx hb hK g ma_7 ka_7 (by decide) rfl (in_bd b_4 (by decide)) (bdT x2_) (by decide) dX0_push_29 (fun f H locs hM_8 g => ?_)
    refine lv_aload_n hx hb dX0_push_30 rfl (lv_at hl 0 rfl) ?_
    refine g_getk (C := RX0) (T := TX0) (N := 14) hx hb hts (mc_ inX0) hown hK g rfl 5 (by decide) rfl (hts _ (List.mem_cons_of_mem _ t_378)) (fun _ h9 => h9) 4 rfl dX0_push_31 ?_
    refine lv_aload_n hx hb dX0_push_34 rfl (lv_at hl 0 rfl) ?_
    refine g_getk (C := RX0) (T := TX0) (N := 14) hx hb hts (mc_ inX0) hown hK g rfl 8 (by decide) rfl (hts _ (List.mem_cons_of_mem _ t_381)) (fun _ h9 => h9) 1 rfl dX0_push_35 ?_
    refine lv_iload_n hx hb dX0_push_38 rfl (lv_at hl 3 rfl) ?_
    refine g_iastX hx hb hK g mq2_ kq2_ (by decide) rfl (in_bd b_4 (by decide)) (bdT x3_) (by decide) dX0_push_39 (fun f3 H locs hM_9 u_10 g => ?_)
    have hG_11 : eOK f3 a0_ := push_e hGea0_ e3_ e5_ (ne_kd kq1_ kq2_ (by decide)) (ne_kd ka0_ kq1_ (by decide)) (ne_kd ka0_ kq2_ (by decide)) ma0_ ka0_ mq1_ kq1_ mq2_ kq2_ u_6 hM_8 u_10 hr_
    refine lv_aload_n hx hb dX0_push_40 rfl (lv_at hl 0 rfl) ?_
    refine g_getr (K := 113) (C := RX0) (T := TX0) (N := 14) hx hb hts (mc_ inX0) hown hK g ma0_ ka0_ (by decide) rfl 6 (by decide) rfl (hts _ (List.mem_cons_of_mem _ t_379)) (fun _ h9 => h9) rfl dX0_push_41 (fun a_12 ma_12 ka_12 g => ?_)
    refine lv_aload_n hx hb dX0_push_44 rfl (lv_at hl 0 rfl) ?_
    refine g_getk (C := RX0) (T := TX0) (N := 14) hx hb hts (mc_ inX0) hown hK g rfl 8 (by decide) rfl (hts _ (List.mem_cons_of_mem _ t_381)) (fun _ h9 => h9) 2 rfl dX0_push_45 ?_
    refine lv_iconst (v := 0) hx hb dX0_push_48 (by decide) ?_
    have kb_0 : bd 0 0 (0 : Int32) := ⟨by decide, by decide⟩
    have go_ := g
    refine g_iast hx hb hK g ma_12 ka_12 (by decide) rfl (in_bd b_4 (by decide)) (bd_sub kb_0 (by decide)) (by decide) dX0_push_49 (fun f H locs hM_13 g => ?_)
    have hG_14 := eOK.frame hM_13 go_.2.2.2.1 ma0_ ka0_ (by decide) (by decide) hG_11
    refine lv_aload_n hx hb dX0_push_50 rfl (lv_at hl 0 rfl) ?_
    refine g_getr (K := 114) (C := RX0) (T := TX0) (N := 14) hx hb hts (mc_ inX0) hown hK g ma0_ ka0_ (by decide) rfl 7 (by decide) rfl (hts _ (List.mem_cons_of_mem _ t_380)) (fun _ h9 => h9) rfl dX0_push_51 (fun a_15 ma_15 ka_15 g => ?_)
    refine lv_aload_n hx hb dX0_push_54 rfl (lv_at hl 0 rfl) ?_
    refine g_getk (C := RX0) (T := TX0) (N := 14) hx hb hts (mc_ inX0) hown hK g rfl 8 (by decide) rfl (hts _ (List.mem_cons_of_mem _ t_381)) (fun _ h9 => h9) 3 rfl dX0_push_55 ?_
    refine lv_iconst (v := 0) hx hb dX0_push_58 (by decide) ?_
    have go_ := g
    refine g_iast hx hb hK g ma_15 ka_15 (by decide) rfl (in_bd b_4 (by decide)) (bd_sub kb_0 (by decide)) (by decide) dX0_push_59 (fun f H locs hM_16 g => ?_)
    have hG_17 := eOK.frame hM_16 go_.2.2.2.1 ma0_ ka0_ (by decide) (by decide) hG_14
    refine lv_aload_n hx hb dX0_push_60 rfl (lv_at hl 0 rfl) ?_
    refine lv_dup hx hb dX0_push_61 rfl ?_
    refine g_getk (C := RX0) (T := TX0) (N := 14) hx hb hts (mc_ inX0) hown hK g rfl 8 (by decide) rfl (hts _ (List.mem_cons_of_mem _ t_381)) (fun _ h9 => h9) 3 rfl dX0_push_62 ?_
    refine lv_iconst (v := 1) hx hb dX0_push_65 (by decide) ?_
    have kb_1 : bd 1 1 (1 : Int32) := ⟨by decide, by decide⟩
    refine lv_iadd hx hb dX0_push_66 ?_
    refine lv_topi (fun y_18 ey_18 => ?_)
    have ty_18 := add_bd ey_18 b_4 kb_1 (by decide)
    have b_19 : bd 1 300 y_18 := add_rg ty_18 b_4 kb_1 (by decide)
    have go_ := g
    refine g_put (C := RX0) (T := TX0) (N := 14) hx hb hts (mc_ inX0) tyX0 tyX0_ok nmX0 hown hK g ma0_ ka0_ (by decide) rfl 8 (by decide) (hts _ (List.mem_cons_of_mem _ t_381)) (fun _ h9 => h9) rfl rfl (okV_i (bd_sub b_19 (by decide))) rfl rfl (by decide) (Or.inr (Or.inl (by decide))) (fx' := [(0, 7, a0_, .ref a_15), (0, 6, a0_, .ref a_12), (0, 4, a0_, .ref a_7), (0, 2, a0_, .ref q0_), (0, 3, a0_, .ref q1_), (0, 5, a0_, .ref q2_)]) rfl dX0_push_67 (fun f H locs hM_20 g => ?_)
    have hG_21 := eOK.frame hM_20 go_.2.2.2.1 ma0_ ka0_ (by decide) (by decide) hG_17
    subst hQ
    exact W.vret hx hb hr (fun t ht hW => ⟨⟨_, rfl, ⟨hG_21, y_18, b_19, (g.fcts [0] rfl)⟩, q3_of g hK ht hW⟩, g.2.2.1.F ht⟩) g.2.2.1.2.2 dX0_push_70
