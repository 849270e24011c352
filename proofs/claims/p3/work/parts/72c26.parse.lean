set_option maxHeartbeats 4000000 in
set_option maxRecDepth 100000 in
theorem r_X2_openBlock (l : Launch) (dC : Nat → ClassId) (dI : Nat → Nat → Nat) (L : List Nat) (kd : Nat → Nat) (tys : List (ClassId × FieldType)) (f0 : Nat → va_E) (sz : Nat) (hWT : WT L kd tys f0) (a0_ : Nat) (ma0_ : a0_ ∈ L) (ka0_ : kd a0_ = 2) (x1_ : Int32) (x2_ : Int32) (x3_ : Int32) (q0_ : Nat) (mq0_ : q0_ ∈ L) (kq0_ : kd q0_ = 8) (q1_ : Nat) (mq1_ : q1_ ∈ L) (kq1_ : kd q1_ = 7) (y0_ : Int32) (by0_ : bd 0 0 y0_) (hGba0_ : bJx f0 a0_) (hl_ : lJ f0 q1_ x1_ x2_) (hfx : Fs L kd f0 [(2, 0, a0_, .ref q0_), (2, 3, a0_, .ref q1_), (8, 8, q0_, .int y0_)]) : Met l yX2_openBlock (.code yX2_openBlock cX2_openBlock 4 none :: lw_g) ({ frames := 1, cells := 0, slots := 0, locals := 23 }) (va_Pc [.ref a0_, .int x1_, .int x2_, .int x3_] (P3 (dC, dI) L tys f0 sz)) (va_Qv (fun (f : Nat → va_E) => (bJx f a0_ ∧ ∃ z0_ : Int32, bd 1 1201 z0_ ∧ ∃ z1_ : Int32, bd 1 8 z1_ ∧ Fs L kd f [(8, 6, q0_, .int z0_), (2, 11, a0_, .int z1_), (8, 8, q0_, .int y0_)]) ∨ (bJx f a0_ ∧ ∃ z1_ : Int32, bd 1 7 z1_ ∧ Fs L kd f [(8, 6, q0_, .int 1201), (8, 8, q0_, .int z1_)])) (Q3 (dC, dI) L kd tys [(2, 11), (8, 6), (8, 8), (8, 9)] [118, 119, 120, 121] f0 sz) (pA L sz)) 0 0 (pA L sz) := by
  refine Met.ofW (cc := cX2_openBlock) (maxL := 4) (ret := none) (by decide) rfl ?_
  intro p e s m args below meth c s₁ B hml hv
  obtain ⟨rfl, hsz, hP, hK, hD0⟩ := hv
  have hx := B.exec
  have hb := B.bytes
  have hr := B.returns
  have hts := atoms_spec (ws := (.code yX2_openBlock cX2_openBlock 4 none :: lw_g)) B.pre
  have hown : s.vm.findClass RX2 = some m.cls := findClass_of_methodNamed B.named
  have hlocks := B.notSynchronized
  subst hsz
  have g : G3 (dC, dI) L kd tys s f0 [(2, 11), (8, 6), (8, 8), (8, 9)] [118, 119, 120, 121] f0 s.heap [] [(2, 0, a0_, .ref q0_), (2, 3, a0_, .ref q1_), (8, 8, q0_, .int y0_)] := G3.start hP hD0 hWT hfx
  have hl := lv_entry ([.ref a0_, .int x1_, .int x2_, .int x3_]) (n := 4) (Nat.le_of_ble_eq_true rfl)
  rw [lg_entry_eq]
  generalize (lg_sl ([.ref a0_, .int x1_, .int x2_, .int x3_]) ++ List.replicate (4 - (lg_sl ([.ref a0_, .int x1_, .int x2_, .int x3_])).length) Slot.unset).toArray = ls at hl ⊢
  have hl : lv_has ls 4 [(0, .ref a0_), (1, .int x1_), (2, .int x2_), (3, .int x3_)] := hl
  refine W_q (fun Q hQ => ?_)
  refine lv_aload_n hx hb dX2_openBlock_0 rfl (lv_at hl 0 rfl) ?_
  refine g_getk (C := RX2) (T := TX2) (N := 16) hx hb hts (mc_ inX2) hown hK g rfl 0 (by decide) rfl (hts _ (List.mem_cons_of_mem _ t_416)) (fun _ h9 => h9) 0 rfl dX2_openBlock_1 ?_
  have go_ := g
  refine g_calli (va_runV (As := []) (rest := []) ⟨hx, hb, hml, hown, hts⟩ (r_X8_kind l dC dI L kd tys f0 s.heap.size g.2.2.2.1 q0_ mq0_ kq0_) (cwV 0 hts (gV_ t_1118 t_1119 t_1120 t_184 t_1121) rfl rfl rfl (by decide +kernel) ⟨(Nat.le_of_ble_eq_true rfl), (Nat.le_of_ble_eq_true rfl)⟩) (pre3V g hK mq0_ kq0_ (by decide) (q := (RX8, TX8, 10)) rfl) rfl rfl hl.1 rfl (lv_room (Nat.le_of_ble_eq_true rfl)) dX2_openBlock_4 ⟨(Nat.le_of_ble_eq_true rfl), (Nat.le_of_ble_eq_true rfl)⟩) g hK (by decide) (by decide) (fx' := [(2, 0, a0_, .ref q0_), (2, 3, a0_, .ref q1_), (8, 8, q0_, .int y0_)]) rfl (fun r_1 fr_1 H locs hp hMr_1 g => ?_)
  have hG_2 := bJx.frame hMr_1 go_.2.2.2.1 ma0_ ka0_ (by decide) (by decide) hGba0_
  have hG_3 := lJ.frame hMr_1 go_.2.2.2.1 mq1_ kq1_ (by decide) (by decide) hl_
  refine lv_bipush (v := 123) hx hb dX2_openBlock_7 (by decide) ?_
  have kb_123 : bd 123 123 (123 : Int32) := ⟨by decide, by decide⟩
  refine lv_icmp_eq (tgt := 30) hx hb dX2_openBlock_9 (by decide) (fun c_4 => ?_) (fun c_4 => ?_)
  · have fc_4 := eq_f c_4
    have b_5 : bd 123 123 r_1 := eqX fc_4 (bdT r_1) kb_123 (by decide)
    refine lv_aload_n hx hb dX2_openBlock_30 rfl (lv_at hl 0 rfl) ?_
    refine g_geti (C := RX2) (T := TX2) (N := 16) hx hb hts (mc_ inX2) hown hK g ma0_ ka0_ (by decide) rfl 11 (by decide) rfl (hts _ (List.mem_cons_of_mem _ t_427)) (fun _ h9 => h9) rfl dX2_openBlock_31 (fun x_6 bx_6 g => ?_)
    refine lv_bipush (v := 8) hx hb dX2_openBlock_34 (by decide) ?_
    have kb_8 : bd 8 8 (8 : Int32) := ⟨by decide, by decide⟩
    refine lv_icmp_lt (tgt := 57) hx hb dX2_openBlock_36 (by decide) (fun c_7 => ?_) (fun c_7 => ?_)
    · have fc_7 := lt_f c_7
      have b_8 : bd 0 7 x_6 := ltL fc_7 bx_6 kb_8 (by decide)
      refine lv_aload_n hx hb dX2_openBlock_57 rfl (lv_at hl 0 rfl) ?_
      refine g_getr (K := 118) (C := RX2) (T := TX2) (N := 16) hx hb hts (mc_ inX2) hown hK g ma0_ ka0_ (by decide) rfl 7 (by decide) rfl (hts _ (List.mem_cons_of_mem _ t_423)) (fun _ h9 => h9) rfl dX2_openBlock_58 (fun a_9 ma_9 ka_9 g => ?_)
      refine lv_aload_n hx hb dX2_openBlock_61 rfl (lv_at hl 0 rfl) ?_
      refine g_getk (C := RX2) (T := TX2) (N := 16) hx hb hts (mc_ inX2) hown hK g rfl 11 (by decide) rfl (hts _ (List.mem_cons_of_mem _ t_427)) (fun _ h9 => h9) 1 rfl dX2_openBlock_62 ?_
      refine lv_iload_n hx hb dX2_openBlock_65 rfl (lv_at hl 1 rfl) ?_
      have go_ := g
      refine g_iastX hx hb hK g ma_9 ka_9 (by decide) rfl (in_bd b_8 (by decide)) (bdT x1_) (by decide) dX2_openBlock_66 (fun f H locs hM_10 u_12 g => ?_)
      have hG_11 := lJ.frame hM_10 go_.2.2.2.1 mq1_ kq1_ (by decide) (by decide) hG_3
      have hb_13 := bJx.st hG_2 (fx_at go_ (i := 1) rfl).2.2.2 u_12 (Or.inl ka_9) b_8.1 go_.2.2.2.1 ma0_ ka0_
      have hv_14 : vC f a_9 x_6.toNatClampNeg x1_ := by unfold vC; rw [u_12.2, if_pos rfl]
      refine lv_aload_n hx hb dX2_openBlock_67 rfl (lv_at hl 0 rfl) ?_
      refine g_getr (K := 119) (C := RX2) (T := TX2) (N := 16) hx hb hts (mc_ inX2) hown hK g ma0_ ka0_ (by decide) rfl 8 (by decide) rfl (hts _ (List.mem_cons_of_mem _ t_424)) (fun _ h9 => h9) rfl dX2_openBlock_68 (fun a_15 ma_15 ka_15 g => ?_)
      refine lv_aload_n hx hb dX2_openBlock_71 rfl (lv_at hl 0 rfl) ?_
      refine g_getk (C := RX2) (T := TX2) (N := 16) hx hb hts (mc_ inX2) hown hK g rfl 11 (by decide) rfl (hts _ (List.mem_cons_of_mem _ t_427)) (fun _ h9 => h9) 2 rfl dX2_openBlock_72 ?_
      refine lv_iload_n hx hb dX2_openBlock_75 rfl (lv_at hl 2 rfl) ?_
      have go_ := g
      refine g_iastX hx hb hK g ma_15 ka_15 (by decide) rfl (in_bd b_8 (by decide)) (bdT x2_) (by decide) dX2_openBlock_76 (fun f H locs hM_16 u_19 g => ?_)
      have hG_17 := lJ.frame hM_16 go_.2.2.2.1 mq1_ kq1_ (by decide) (by decide) hG_11
      have hG_18 := vC.frame hM_16 go_.2.2.2.1 ma_9 ka_9 (by decide) (by decide) hv_14
      have hb_20 := bJx.st hb_13 (fx_at go_ (i := 2) rfl).2.2.2 u_19 (Or.inr ka_15) b_8.1 go_.2.2.2.1 ma0_ ka0_
      have hv_21 : vB f a_15 x_6.toNatClampNeg x2_ := by unfold vB; rw [u_19.2, if_pos rfl]
      refine lv_aload_n hx hb dX2_openBlock_77 rfl (lv_at hl 0 rfl) ?_
      refine g_getr (K := 120) (C := RX2) (T := TX2) (N := 16) hx hb hts (mc_ inX2) hown hK g ma0_ ka0_ (by decide) rfl 9 (by decide) rfl (hts _ (List.mem_cons_of_mem _ t_425)) (fun _ h9 => h9) rfl dX2_openBlock_78 (fun a_22 ma_22 ka_22 g => ?_)
      refine lv_aload_n hx hb dX2_openBlock_81 rfl (lv_at hl 0 rfl) ?_
      refine g_getk (C := RX2) (T := TX2) (N := 16) hx hb hts (mc_ inX2) hown hK g rfl 11 (by decide) rfl (hts _ (List.mem_cons_of_mem _ t_427)) (fun _ h9 => h9) 3 rfl dX2_openBlock_82 ?_
      refine lv_iload_n hx hb dX2_openBlock_85 rfl (lv_at hl 3 rfl) ?_
      have go_ := g
      refine g_iast hx hb hK g ma_22 ka_22 (by decide) rfl (in_bd b_8 (by decide)) (bdT x3_) (by decide) dX2_openBlock_86 (fun f H locs hM_23 g => ?_)
      have hG_24 := lJ.frame hM_23 go_.2.2.2.1 mq1_ kq1_ (by decide) (by decide) hG_17
      have hG_25 := vC.frame hM_23 go_.2.2.2.1 ma_9 ka_9 (by decide) (by decide) hG_18
      have hG_26 := bJx.frame hM_23 go_.2.2.2.1 ma0_ ka0_ (by decide) (by decide) hb_20
      have hG_27 := vB.frame hM_23 go_.2.2.2.1 ma_15 ka_15 (by decide) (by decide) hv_21
      refine lv_aload_n hx hb dX2_openBlock_87 rfl (lv_at hl 0 rfl) ?_
      refine g_getr (K := 121) (C := RX2) (T := TX2) (N := 16) hx hb hts (mc_ inX2) hown hK g ma0_ ka0_ (by decide) rfl 10 (by decide) rfl (hts _ (List.mem_cons_of_mem _ t_426)) (fun _ h9 => h9) rfl dX2_openBlock_88 (fun a_28 ma_28 ka_28 g => ?_)
      refine lv_aload_n hx hb dX2_openBlock_91 rfl (lv_at hl 0 rfl) ?_
      refine g_getk (C := RX2) (T := TX2) (N := 16) hx hb hts (mc_ inX2) hown hK g rfl 11 (by decide) rfl (hts _ (List.mem_cons_of_mem _ t_427)) (fun _ h9 => h9) 4 rfl dX2_openBlock_92 ?_
      refine lv_aload_n hx hb dX2_openBlock_95 rfl (lv_at hl 0 rfl) ?_
      refine g_getr (K := 5) (C := RX2) (T := TX2) (N := 16) hx hb hts (mc_ inX2) hown hK g ma0_ ka0_ (by decide) rfl 1 (by decide) rfl (hts _ (List.mem_cons_of_mem _ t_417)) (fun _ h9 => h9) rfl dX2_openBlock_96 (fun a_29 ma_29 ka_29 g => ?_)
      refine g_geti (C := RX5) (T := TX5) (N := 9) hx hb hts (mc_ inX5) hown hK g ma_29 ka_29 (by decide) rfl 6 (by decide) rfl (hts _ (List.mem_cons_of_mem _ t_341)) (fun _ h9 => h9) rfl dX2_openBlock_99 (fun x_30 bx_30 g => ?_)
      have go_ := g
      refine g_iast hx hb hK g ma_28 ka_28 (by decide) rfl (in_bd b_8 (by decide)) bx_30 (by decide) dX2_openBlock_102 (fun f H locs hM_31 g => ?_)
      have hG_32 := lJ.frame hM_31 go_.2.2.2.1 mq1_ kq1_ (by decide) (by decide) hG_24
      have hG_33 := vC.frame hM_31 go_.2.2.2.1 ma_9 ka_9 (by decide) (by decide) hG_25
      have hG_34 := bJx.frame hM_31 go_.2.2.2.1 ma0_ ka0_ (by decide) (by decide) hG_26
      have hG_35 := vB.frame hM_31 go_.2.2.2.1 ma_15 ka_15 (by decide) (by decide) hG_27
      refine lv_aload_n hx hb dX2_openBlock_103 rfl (lv_at hl 0 rfl) ?_
      refine lv_dup hx hb dX2_openBlock_104 rfl ?_
      refine g_getk (C := RX2) (T := TX2) (N := 16) hx hb hts (mc_ inX2) hown hK g rfl 11 (by decide) rfl (hts _ (List.mem_cons_of_mem _ t_427)) (fun _ h9 => h9) 6 rfl dX2_openBlock_105 ?_
      refine lv_iconst (v := 1) hx hb dX2_openBlock_108 (by decide) ?_
      have kb_1 : bd 1 1 (1 : Int32) := ⟨by decide, by decide⟩
      refine lv_iadd hx hb dX2_openBlock_109 ?_
      refine lv_topi (fun y_36 ey_36 => ?_)
      have ty_36 := add_bd ey_36 b_8 kb_1 (by decide)
      have b_37 : bd 1 8 y_36 := add_rg ty_36 b_8 kb_1 (by decide)
      have go_ := g
      refine g_putX (C := RX2) (T := TX2) (N := 16) hx hb hts (mc_ inX2) tyX2 tyX2_ok nmX2 hown hK g ma0_ ka0_ (by decide) rfl 11 (by decide) (hts _ (List.mem_cons_of_mem _ t_427)) (fun _ h9 => h9) rfl rfl (okV_i (bd_sub b_37 (by decide))) rfl rfl (by decide) (Or.inr (Or.inl (by decide))) (fx' := [(5, 6, a_29, .int x_30), (2, 1, a0_, .ref a_29), (2, 10, a0_, .ref a_28), (2, 9, a0_, .ref a_22), (2, 8, a0_, .ref a_15), (2, 7, a0_, .ref a_9), (2, 0, a0_, .ref q0_), (2, 3, a0_, .ref q1_), (8, 8, q0_, .int y0_)]) rfl dX2_openBlock_110 (fun f H locs hM_38 u_42 g => ?_)
      have hG_39 := lJ.frame hM_38 go_.2.2.2.1 mq1_ kq1_ (by decide) (by decide) hG_32
      have hG_40 := vC.frame hM_38 go_.2.2.2.1 ma_9 ka_9 (by decide) (by decide) hG_33
      have hG_41 := vB.frame hM_38 go_.2.2.2.1 ma_15 ka_15 (by decide) (by decide) hG_35
      have hb_43 := bJx.inc hG_34 (fx_at go_ (i := 8) rfl).2.2.2 (fx_at go_ (i := 5) rfl).2.2.2 (fx_at go_ (i := 4) rfl).2.2.2 (fx_at go_ (i := 6) rfl).2.2.2 mq1_ kq1_ u_42 (b_8).1 (by have h9_0 := b_5; unfold bd at h9_0; have h9_1 := bx_30; unfold bd at h9_1; have h9_2 := b_8; unfold bd at h9_2; have h9_3 := by0_; unfold bd at h9_3; have h9_4 := b_37; unfold bd at h9_4; have h8_0 := kb_1; unfold bd at h8_0; have h8_1 := kb_123; unfold bd at h8_1; have h8_2 := kb_8; unfold bd at h8_2; omega) hG_33 hG_35 hG_32 go_.2.2.2.1 ma0_ ka0_
      refine lv_aload_n hx hb dX2_openBlock_113 rfl (lv_at hl 0 rfl) ?_
      refine g_getk (C := RX2) (T := TX2) (N := 16) hx hb hts (mc_ inX2) hown hK g rfl 0 (by decide) rfl (hts _ (List.mem_cons_of_mem _ t_416)) (fun _ h9 => h9) 7 rfl dX2_openBlock_114 ?_
      have go_ := g
      refine g_callv (va_runV (As := []) (rest := []) ⟨hx, hb, hml, hown, hts⟩ (r_X8_next l dC dI L kd tys f H.size g.2.2.2.1 q0_ mq0_ kq0_) (cwV 0 hts (gV_ t_1131 t_1103 t_1104 t_184 t_1105) rfl rfl rfl (by decide +kernel) ⟨(Nat.le_of_ble_eq_true rfl), (Nat.le_of_ble_eq_true rfl)⟩) (pre3V g hK mq0_ kq0_ (by decide) (q := (RX8, TX8, 10)) rfl) rfl rfl hl.1 rfl (lv_room (Nat.le_of_ble_eq_true rfl)) dX2_openBlock_117 ⟨(Nat.le_of_ble_eq_true rfl), (Nat.le_of_ble_eq_true rfl)⟩) g hK (by decide) (by decide) (fx' := [(2, 11, a0_, .int y_36), (5, 6, a_29, .int x_30), (2, 1, a0_, .ref a_29), (2, 10, a0_, .ref a_28), (2, 9, a0_, .ref a_22), (2, 8, a0_, .ref a_15), (2, 7, a0_, .ref a_9), (2, 0, a0_, .ref q0_), (2, 3, a0_, .ref q1_), (8, 8, q0_, .int y0_)]) rfl (fun fr_44 H locs hp hMr_44 g => ?_)
      obtain ⟨x_45, h_46, hF_47⟩ := hp
      have hG_48 := lJ.frame hMr_44 go_.2.2.2.1 mq1_ kq1_ (by decide) (by decide) hG_39
      have hG_49 := vC.frame hMr_44 go_.2.2.2.1 ma_9 ka_9 (by decide) (by decide) hG_40
      have hG_50 := vB.frame hMr_44 go_.2.2.2.1 ma_15 ka_15 (by decide) (by decide) hG_41
      have hG_51 := bJx.frame hMr_44 go_.2.2.2.1 ma0_ ka0_ (by decide) (by decide) hb_43
      have g := g.more hF_47
      subst hQ
      exact W.vret hx hb hr (fun t ht hW => ⟨⟨_, rfl, Or.inl ⟨hG_51, x_45, h_46, y_36, b_37, (g.fcts [0, 1, 10] rfl)⟩, q3_of g hK ht hW⟩, g.2.2.1.F ht⟩) g.2.2.1.2.2 dX2_openBlock_120
    · have fc_7 := nlt_f c_7
      have b_52 : bd 8 8 x_6 := leR fc_7 kb_8 bx_6 (by decide)
      refine lv_aload_n hx hb dX2_openBlock_39 rfl (lv_at hl 0 rfl) ?_
      refine g_getk (C := RX2) (T := TX2) (N := 16) hx hb hts (mc_ inX2) hown hK g rfl 0 (by decide) rfl (hts _ (List.mem_cons_of_mem _ t_416)) (fun _ h9 => h9) 1 rfl dX2_openBlock_40 ?_
      refine lv_iconst (v := 4) hx hb dX2_openBlock_43 (by decide) ?_
      refine lv_aload_n hx hb dX2_openBlock_44 rfl (lv_at hl 0 rfl) ?_
      refine g_getk (C := RX2) (T := TX2) (N := 16) hx hb hts (mc_ inX2) hown hK g rfl 0 (by decide) rfl (hts _ (List.mem_cons_of_mem _ t_416)) (fun _ h9 => h9) 1 rfl dX2_openBlock_45 ?_
      have go_ := g
      refine g_calli (va_runV (As := []) (rest := [.int 4, .ref q0_]) ⟨hx, hb, hml, hown, hts⟩ (r_X8_place l dC dI L kd tys fr_1 H.size g.2.2.2.1 q0_ mq0_ kq0_) (cwV 0 hts (gV_ t_1110 t_1111 t_1112 t_184 t_1113) rfl rfl rfl (by decide +kernel) ⟨(Nat.le_of_ble_eq_true rfl), (Nat.le_of_ble_eq_true rfl)⟩) (pre3V g hK mq0_ kq0_ (by decide) (q := (RX8, TX8, 10)) rfl) rfl rfl hl.1 rfl (lv_room (Nat.le_of_ble_eq_true rfl)) dX2_openBlock_48 ⟨(Nat.le_of_ble_eq_true rfl), (Nat.le_of_ble_eq_true rfl)⟩) g hK (by decide) (by decide) (fx' := [(2, 11, a0_, .int x_6), (2, 0, a0_, .ref q0_), (2, 3, a0_, .ref q1_), (8, 8, q0_, .int y0_)]) rfl (fun r_53 fr_53 H locs hp hMr_53 g => ?_)
      have hG_54 := bJx.frame hMr_53 go_.2.2.2.1 ma0_ ka0_ (by decide) (by decide) hG_2
      have hG_55 := lJ.frame hMr_53 go_.2.2.2.1 mq1_ kq1_ (by decide) (by decide) hG_3
      have kb_4 : bd 4 4 (4 : Int32) := ⟨by decide, by decide⟩
      have go_ := g
      refine g_callv (va_runV (As := [.int 4, .int r_53]) (rest := []) ⟨hx, hb, hml, hown, hts⟩ (r_X8_fail l dC dI L kd tys fr_53 H.size g.2.2.2.1 q0_ mq0_ kq0_ 4 (bd_sub kb_4 (by decide)) r_53 y0_ by0_ (g.fcts [3] rfl)) (cwV 2 hts (gV_ t_1122 t_1107 t_1108 t_184 t_1109) rfl rfl rfl (by decide +kernel) ⟨(Nat.le_of_ble_eq_true rfl), (Nat.le_of_ble_eq_true rfl)⟩) (pre3V g hK mq0_ kq0_ (by decide) (q := (RX8, TX8, 10)) rfl) rfl rfl hl.1 rfl (lv_room (Nat.le_of_ble_eq_true rfl)) dX2_openBlock_51 ⟨(Nat.le_of_ble_eq_true rfl), (Nat.le_of_ble_eq_true rfl)⟩) g hK (by decide) (by decide) (fx' := [(2, 11, a0_, .int x_6), (2, 0, a0_, .ref q0_), (2, 3, a0_, .ref q1_)]) rfl (fun fr_56 H locs hp hMr_56 g => ?_)
      obtain ⟨x_57, h_58, hF_59⟩ := hp
      have hG_60 := bJx.frame hMr_56 go_.2.2.2.1 ma0_ ka0_ (by decide) (by decide) hG_54
      have hG_61 := lJ.frame hMr_56 go_.2.2.2.1 mq1_ kq1_ (by decide) (by decide) hG_55
      have g := g.more hF_59
      refine lv_goto (tgt := 120) hx hb dX2_openBlock_54 (by decide) ?_
      subst hQ
      exact W.vret hx hb hr (fun t ht hW => ⟨⟨_, rfl, Or.inr (⟨hG_60, x_57, h_58, (g.fcts [0, 1] rfl)⟩), q3_of g hK ht hW⟩, g.2.2.1.F ht⟩) g.2.2.1.2.2 dX2_openBlock_120
  · have fc_4 := neq_f c_4
    refine lv_aload_n hx hb dX2_openBlock_12 rfl (lv_at hl 0 rfl) ?_
    refine g_getk (C := RX2) (T := TX2) (N := 16) hx hb hts (mc_ inX2) hown hK g rfl 0 (by decide) rfl (hts _ (List.mem_cons_of_mem _ t_416)) (fun _ h9 => h9) 0 rfl dX2_openBlock_13 ?_
    refine lv_iconst (v := 1) hx hb dX2_openBlock_16 (by decide) ?_
    refine lv_aload_n hx hb dX2_openBlock_17 rfl (lv_at hl 0 rfl) ?_
    refine g_getk (C := RX2) (T := TX2) (N := 16) hx hb hts (mc_ inX2) hown hK g rfl 0 (by decide) rfl (hts _ (List.mem_cons_of_mem _ t_416)) (fun _ h9 => h9) 0 rfl dX2_openBlock_18 ?_
    have go_ := g
    refine g_calli (va_runV (As := []) (rest := [.int 1, .ref q0_]) ⟨hx, hb, hml, hown, hts⟩ (r_X8_place l dC dI L kd tys fr_1 H.size g.2.2.2.1 q0_ mq0_ kq0_) (cwV 0 hts (gV_ t_1110 t_1111 t_1112 t_184 t_1113) rfl rfl rfl (by decide +kernel) ⟨(Nat.le_of_ble_eq_true rfl), (Nat.le_of_ble_eq_true rfl)⟩) (pre3V g hK mq0_ kq0_ (by decide) (q := (RX8, TX8, 10)) rfl) rfl rfl hl.1 rfl (lv_room (Nat.le_of_ble_eq_true rfl)) dX2_openBlock_21 ⟨(Nat.le_of_ble_eq_true rfl), (Nat.le_of_ble_eq_true rfl)⟩) g hK (by decide) (by decide) (fx' := [(2, 0, a0_, .ref q0_), (2, 3, a0_, .ref q1_), (8, 8, q0_, .int y0_)]) rfl (fun r_62 fr_62 H locs hp hMr_62 g => ?_)
    have hG_63 := bJx.frame hMr_62 go_.2.2.2.1 ma0_ ka0_ (by decide) (by decide) hG_2
    have hG_64 := lJ.frame hMr_62 go_.2.2.2.1 mq1_ kq1_ (by decide) (by decide) hG_3
    have kb_1 : bd 1 1 (1 : Int32) := ⟨by decide, by decide⟩
    have go_ := g
    refine g_callv (va_runV (As := [.int 1, .int r_62]) (rest := []) ⟨hx, hb, hml, hown, hts⟩ (r_X8_fail l dC dI L kd tys fr_62 H.size g.2.2.2.1 q0_ mq0_ kq0_ 1 (bd_sub kb_1 (by decide)) r_62 y0_ by0_ (g.fcts [2] rfl)) (cwV 2 hts (gV_ t_1122 t_1107 t_1108 t_184 t_1109) rfl rfl rfl (by decide +kernel) ⟨(Nat.le_of_ble_eq_true rfl), (Nat.le_of_ble_eq_true rfl)⟩) (pre3V g hK mq0_ kq0_ (by decide) (q := (RX8, TX8, 10)) rfl) rfl rfl hl.1 rfl (lv_room (Nat.le_of_ble_eq_true rfl)) dX2_openBlock_24 ⟨(Nat.le_of_ble_eq_true rfl), (Nat.le_of_ble_eq_true rfl)⟩) g hK (by decide) (by decide) (fx' := [(2, 0, a0_, .ref q0_), (2, 3, a0_, .ref q1_)]) rfl (fun fr_65 H locs hp hMr_65 g => ?_)
    obtain ⟨x_66, h_67, hF_68⟩ := hp
    have hG_69 := bJx.frame hMr_65 go_.2.2.2.1 ma0_ ka0_ (by decide) (by decide) hG_63
    have hG_70 := lJ.frame hMr_65 go_.2.2.2.1 mq1_ kq1_ (by decide) (by decide) hG_64
    have g := g.more hF_68
    refine lv_goto (tgt := 120) hx hb dX2_openBlock_27 (by decide) ?_
    subst hQ
    exact W.vret hx hb hr (fun t ht hW => ⟨⟨_, rfl, Or.inr (⟨hG_69, x_66, h_67, (g.fcts [0, 1] rfl)⟩), q3_of g hK ht hW⟩, g.2.2.1.F ht⟩) g.2.2.1.2.2 dX2_openBlock_120
set_option maxHeartbeats 4000000 in
set_option maxRecDepth 100000 in
theorem r_X2_openBody (l : Launch) (dC : Nat → ClassId) (dI : Nat → Nat → Nat) (L : List Nat) (kd : Nat → Nat) (tys : List (ClassId × FieldType)) (f0 : Nat → va_E) (sz : Nat) (hWT : WT L kd tys f0) (a0_ : Nat) (ma0_ : a0_ ∈ L) (ka0_ : kd a0_ = 2) (q0_ : Nat) (mq0_ : q0_ ∈ L) (kq0_ : kd q0_ = 8) (q1_ : Nat) (mq1_ : q1_ ∈ L) (kq1_ : kd q1_ = 7) (q2_ : Nat) (mq2_ : q2_ ∈ L) (kq2_ : kd q2_ = 6) (y0_ : Int32) (by0_ : bd 0 0 y0_) (hfx : Fs L kd f0 [(2, 0, a0_, .ref q0_), (2, 3, a0_, .ref q1_), (2, 5, a0_, .ref q2_), (8, 8, q0_, .int y0_)]) : Met l yX2_openBody (.code yX2_openBody cX2_openBody 3 none :: lw_g) ({ frames := 2, cells := 0, slots := 0, locals := 46 }) (va_Pc [.ref a0_] (P3 (dC, dI) L tys f0 sz)) (va_Qv (fun (f : Nat → va_E) => ((bJx f a0_) ∧ ∃ z0_ : Int32, bd 1 1201 z0_ ∧ ∃ z1_ : Int32, bd 1 8 z1_ ∧ ∃ z3_ : Int32, bd 0 2000 z3_ ∧ Fs L kd f [(8, 6, q0_, .int z0_), (2, 11, a0_, .int z1_), (8, 8, q0_, .int y0_), (6, 8, q2_, .int z3_)]) ∨ ((bJx f a0_) ∧ ∃ z1_ : Int32, bd 1 7 z1_ ∧ ∃ z2_ : Int32, bd 0 2000 z2_ ∧ Fs L kd f [(8, 6, q0_, .int 1201), (8, 8, q0_, .int z1_), (6, 8, q2_, .int z2_)])) (Q3 (dC, dI) L kd tys [(2, 11), (6, 8), (8, 6), (8, 8), (8, 9)] [118, 119, 120, 121] f0 sz) (pA L sz)) 0 0 (pA L sz) := by
  refine Met.ofW (cc := cX2_openBody) (maxL := 3) (ret := none) (by decide) rfl ?_
  intro p e s m args below meth c s₁ B hml hv
  obtain ⟨rfl, hsz, hP, hK, hD0⟩ := hv
  have hx := B.exec
  have hb := B.bytes
  have hr := B.returns
  have hts := atoms_spec (ws := (.code yX2_openBody cX2_openBody 3 none :: lw_g)) B.pre
  have hown : s.vm.findClass RX2 = some m.cls := findClass_of_methodNamed B.named
  have hlocks := B.notSynchronized
  subst hsz
  have g : G3 (dC, dI) L kd tys s f0 [(2, 11), (6, 8), (8, 6), (8, 8), (8, 9)] [118, 119, 120, 121] f0 s.heap [] [(2, 0, a0_, .ref q0_), (2, 3, a0_, .ref q1_), (2, 5, a0_, .ref q2_), (8, 8, q0_, .int y0_)] := G3.start hP hD0 hWT hfx
  have hl := lv_entry ([.ref a0_]) (n := 3) (Nat.le_of_ble_eq_true rfl)
  rw [lg_entry_eq]
  generalize (lg_sl ([.ref a0_]) ++ List.replicate (3 - (lg_sl ([.ref a0_])).length) Slot.unset).toArray = ls at hl ⊢
  have hl : lv_has ls 3 [(0, .ref a0_)] := hl
  refine W_q (fun Q hQ => ?_)
  refine lv_aload_n hx hb dX2_openBody_0 rfl (lv_at hl 0 rfl) ?_
  refine g_getk (C := RX2) (T := TX2) (N := 16) hx hb hts (mc_ inX2) hown hK g rfl 0 (by decide) rfl (hts _ (List.mem_cons_of_mem _ t_416)) (fun _ h9 => h9) 0 rfl dX2_openBody_1 ?_
  refine g_calli (va_runV (As := []) (rest := []) ⟨hx, hb, hml, hown, hts⟩ (r_X8_place l dC dI L kd tys f0 s.heap.size g.2.2.2.1 q0_ mq0_ kq0_) (cwV 0 hts (gV_ t_1110 t_1111 t_1112 t_184 t_1113) rfl rfl rfl (by decide +kernel) ⟨(Nat.le_of_ble_eq_true rfl), (Nat.le_of_ble_eq_true rfl)⟩) (pre3V g hK mq0_ kq0_ (by decide) (q := (RX8, TX8, 10)) rfl) rfl rfl hl.1 rfl (lv_room (Nat.le_of_ble_eq_true rfl)) dX2_openBody_4 ⟨(Nat.le_of_ble_eq_true rfl), (Nat.le_of_ble_eq_true rfl)⟩) g hK (by decide) (by decide) (fx' := [(2, 0, a0_, .ref q0_), (2, 3, a0_, .ref q1_), (2, 5, a0_, .ref q2_), (8, 8, q0_, .int y0_)]) rfl (fun r_1 fr_1 H locs hp hMr_1 g => ?_)
  refine lv_istore_n (lv' := [(1, .int r_1), (0, .ref a0_)]) hx hb dX2_openBody_7 rfl hl (by decide) rfl (fun ls hl => ?_)
  refine lv_aload_n hx hb dX2_openBody_8 rfl (lv_at hl 1 rfl) ?_
  refine lv_iconst (v := 0) hx hb dX2_openBody_9 (by decide) ?_
  have kb_0 : bd 0 0 (0 : Int32) := ⟨by decide, by decide⟩
  refine g_put (C := RX2) (T := TX2) (N := 16) hx hb hts (mc_ inX2) tyX2 tyX2_ok nmX2 hown hK g ma0_ ka0_ (by decide) rfl 11 (by decide) (hts _ (List.mem_cons_of_mem _ t_427)) (fun _ h9 => h9) rfl rfl (okV_i (bd_sub kb_0 (by decide))) rfl rfl (by decide) (Or.inr (Or.inl (by decide))) (fx' := [(2, 0, a0_, .ref q0_), (2, 3, a0_, .ref q1_), (2, 5, a0_, .ref q2_), (8, 8, q0_, .int y0_)]) rfl dX2_openBody_10 (fun f H locs hM_2 g => ?_)
  have hb_3 := bJx.zero (fx_at g (i := 0) rfl).2.2.2 (by decide)
  refine lv_aload_n hx hb dX2_openBody_13 rfl (lv_at hl 1 rfl) ?_
  refine g_getk (C := RX2) (T := TX2) (N := 16) hx hb hts (mc_ inX2) hown hK g rfl 5 (by decide) rfl (hts _ (List.mem_cons_of_mem _ t_421)) (fun _ h9 => h9) 3 rfl dX2_openBody_14 ?_
  refine lv_aload_n hx hb dX2_openBody_17 rfl (lv_at hl 1 rfl) ?_
  refine g_getk (C := RX2) (T := TX2) (N := 16) hx hb hts (mc_ inX2) hown hK g rfl 3 (by decide) rfl (hts _ (List.mem_cons_of_mem _ t_419)) (fun _ h9 => h9) 2 rfl dX2_openBody_18 ?_
  refine g_geti (C := RX7) (T := TX7) (N := 19) hx hb hts (mc_ inX7) hown hK g mq1_ kq1_ (by decide) rfl 6 (by decide) rfl (hts _ (List.mem_cons_of_mem _ t_647)) (fun _ h9 => h9) rfl dX2_openBody_21 (fun x_4 bx_4 g => ?_)
  have go_ := g
  refine g_put (C := RX6) (T := TX6) (N := 13) hx hb hts (mc_ inX6) tyX6 tyX6_ok nmX6 hown hK g mq2_ kq2_ (by decide) rfl 8 (by decide) (hts _ (List.mem_cons_of_mem _ t_583)) (fun _ h9 => h9) rfl rfl (okV_i (bd_sub bx_4 (by decide))) rfl rfl (by decide) (Or.inr (Or.inl (by decide))) (fx' := [(7, 6, q1_, .int x_4), (2, 11, a0_, .int 0), (2, 0, a0_, .ref q0_), (2, 3, a0_, .ref q1_), (2, 5, a0_, .ref q2_), (8, 8, q0_, .int y0_)]) rfl dX2_openBody_24 (fun f H locs hM_5 g => ?_)
  have hG_6 := bJx.frame hM_5 go_.2.2.2.1 ma0_ ka0_ (by decide) (by decide) hb_3
  refine lv_aload_n hx hb dX2_openBody_27 rfl (lv_at hl 1 rfl) ?_
  refine lv_iconst (v := 0) hx hb dX2_openBody_28 (by decide) ?_
  refine lv_iconst (v := (-1)) hx hb dX2_openBody_29 (by decide) ?_
  refine lv_iconst (v := (-1)) hx hb dX2_openBody_30 (by decide) ?_
  have go_ := g
  refine g_callv (va_runV (As := [.int 0, .int (-1), .int (-1)]) (rest := []) ⟨hx, hb, hml, hown, hts⟩ (r_X2_openBlock l dC dI L kd tys f H.size g.2.2.2.1 a0_ ma0_ ka0_ 0 (-1) (-1) q0_ mq0_ kq0_ q1_ mq1_ kq1_ y0_ by0_ hG_6 (fun h9 => absurd h9 (by have h9_0 := bx_4; unfold bd at h9_0; have h9_1 := by0_; unfold bd at h9_1; have h8_0 := kb_0; unfold bd at h8_0; omega)) (g.fcts [3, 4, 6] rfl)) (cwV 3 hts (gV_ t_1338 t_1340 t_40 t_183 t_1341) rfl rfl rfl (by decide +kernel) ⟨(Nat.le_of_ble_eq_true rfl), (Nat.le_of_ble_eq_true rfl)⟩) (pre3V g hK ma0_ ka0_ (by decide) (q := (RX2, TX2, 16)) rfl) rfl rfl hl.1 rfl (lv_room (Nat.le_of_ble_eq_true rfl)) dX2_openBody_31 ⟨(Nat.le_of_ble_eq_true rfl), (Nat.le_of_ble_eq_true rfl)⟩) g hK (by decide) (by decide) (fx' := [(6, 8, q2_, .int x_4), (7, 6, q1_, .int x_4), (2, 0, a0_, .ref q0_), (2, 3, a0_, .ref q1_), (2, 5, a0_, .ref q2_)]) rfl (fun fr_7 H locs hp hMr_7 g => ?_)
  rcases hp with ⟨hG_8, x_9, h_10, x_11, h_12, hF_13⟩ | ⟨hG_14, x_15, h_16, hF_17⟩
  · have g := g.more hF_13
    refine lv_aload_n hx hb dX2_openBody_34 rfl (lv_at hl 1 rfl) ?_
    refine g_getk (C := RX2) (T := TX2) (N := 16) hx hb hts (mc_ inX2) hown hK g rfl 5 (by decide) rfl (hts _ (List.mem_cons_of_mem _ t_421)) (fun _ h9 => h9) 7 rfl dX2_openBody_35 ?_
    refine g_geti (C := RX6) (T := TX6) (N := 13) hx hb hts (mc_ inX6) hown hK g mq2_ kq2_ (by decide) rfl 7 (by decide) rfl (hts _ (List.mem_cons_of_mem _ t_580)) (fun _ h9 => h9) rfl dX2_openBody_38 (fun x_18 bx_18 g => ?_)
    refine lv_istore_n (lv' := [(2, .int x_18), (1, .int r_1), (0, .ref a0_)]) hx hb dX2_openBody_41 rfl hl (by decide) rfl (fun ls hl => ?_)
    refine lv_iload_n hx hb dX2_openBody_42 rfl (lv_at hl 0 rfl) ?_
    refine lv_if_lt (tgt := 91) hx hb dX2_openBody_43 (by decide) (fun c_19 => ?_) (fun c_19 => ?_)
    · have fc_19 := lt_f c_19
      have b_20 : bd (-1) (-1) x_18 := ltL fc_19 bx_18 kb_0 (by decide)
      subst hQ
      exact W.vret hx hb hr (fun t ht hW => ⟨⟨_, rfl, Or.inl ⟨hG_8, x_9, h_10, x_11, h_12, x_4, bx_4, (g.fcts [1, 2, 3, 4] rfl)⟩, q3_of g hK ht hW⟩, g.2.2.1.F ht⟩) g.2.2.1.2.2 dX2_openBody_91
    · have fc_19 := nlt_f c_19
      have b_21 : bd 0 95 x_18 := leR fc_19 kb_0 bx_18 (by decide)
      refine lv_iload_n hx hb dX2_openBody_46 rfl (lv_at hl 0 rfl) ?_
      refine lv_aload_n hx hb dX2_openBody_47 rfl (lv_at hl 2 rfl) ?_
      refine g_getk (C := RX2) (T := TX2) (N := 16) hx hb hts (mc_ inX2) hown hK g rfl 3 (by decide) rfl (hts _ (List.mem_cons_of_mem _ t_419)) (fun _ h9 => h9) 7 rfl dX2_openBody_48 ?_
      refine g_geti (C := RX7) (T := TX7) (N := 19) hx hb hts (mc_ inX7) hown hK g mq1_ kq1_ (by decide) rfl 3 (by decide) rfl (hts _ (List.mem_cons_of_mem _ t_638)) (fun _ h9 => h9) rfl dX2_openBody_51 (fun x_22 bx_22 g => ?_)
      refine lv_icmp_ge (tgt := 91) hx hb dX2_openBody_54 (by decide) (fun c_23 => ?_) (fun c_23 => ?_)
      · have fc_23 := le_f c_23
        have b_24 : bd 0 95 x_22 := leL fc_23 bx_22 b_21 (by decide)
        subst hQ
        exact W.vret hx hb hr (fun t ht hW => ⟨⟨_, rfl, Or.inl ⟨hG_8, x_9, h_10, x_11, h_12, x_4, bx_4, (g.fcts [2, 3, 4, 5] rfl)⟩, q3_of g hK ht hW⟩, g.2.2.1.F ht⟩) g.2.2.1.2.2 dX2_openBody_91
      · have fc_23 := nle_f c_23
        have b_25 : bd 1 96 x_22 := ltR fc_23 b_21 bx_22 (by decide)
        refine lv_aload_n hx hb dX2_openBody_57 rfl (lv_at hl 2 rfl) ?_
        refine g_getk (C := RX2) (T := TX2) (N := 16) hx hb hts (mc_ inX2) hown hK g rfl 3 (by decide) rfl (hts _ (List.mem_cons_of_mem _ t_419)) (fun _ h9 => h9) 8 rfl dX2_openBody_58 ?_
        refine g_getr (K := 137) (C := RX7) (T := TX7) (N := 19) hx hb hts (mc_ inX7) hown hK g mq1_ kq1_ (by decide) rfl 2 (by decide) rfl (hts _ (List.mem_cons_of_mem _ t_630)) (fun _ h9 => h9) rfl dX2_openBody_61 (fun a_26 ma_26 ka_26 g => ?_)
        refine lv_iload_n hx hb dX2_openBody_64 rfl (lv_at hl 0 rfl) ?_
        refine g_aald hx hb hK g ma_26 ka_26 (by decide) rfl (by decide) (in_bd b_21 (by decide)) dX2_openBody_65 (fun a_27 ma_27 ua_27 wa_27 => ?_)
        have ka_27 : kd a_27 = 6 := by omega
        refine g_geti (C := RX6) (T := TX6) (N := 13) hx hb hts (mc_ inX6) hown hK g ma_27 ka_27 (by decide) rfl 6 (by decide) rfl (hts _ (List.mem_cons_of_mem _ t_578)) (fun _ h9 => h9) rfl dX2_openBody_66 (fun x_28 bx_28 g => ?_)
        refine lv_if_eq (tgt := 91) hx hb dX2_openBody_69 (by decide) (fun c_29 => ?_) (fun c_29 => ?_)
        · have fc_29 := eq_f c_29
          have b_30 : bd 0 0 x_28 := eqX fc_29 bx_28 kb_0 (by decide)
          subst hQ
          exact W.vret hx hb hr (fun t ht hW => ⟨⟨_, rfl, Or.inl ⟨hG_8, x_9, h_10, x_11, h_12, x_4, bx_4, (g.fcts [4, 5, 6, 7] rfl)⟩, q3_of g hK ht hW⟩, g.2.2.1.F ht⟩) g.2.2.1.2.2 dX2_openBody_91
        · have fc_29 := neq_f c_29
          have b_31 : bd 1 1 x_28 := neX fc_29 bx_28 kb_0 (by decide)
          refine lv_aload_n hx hb dX2_openBody_72 rfl (lv_at hl 2 rfl) ?_
          refine g_getk (C := RX2) (T := TX2) (N := 16) hx hb hts (mc_ inX2) hown hK g rfl 5 (by decide) rfl (hts _ (List.mem_cons_of_mem _ t_421)) (fun _ h9 => h9) 11 rfl dX2_openBody_73 ?_
          refine g_geti (C := RX6) (T := TX6) (N := 13) hx hb hts (mc_ inX6) hown hK g mq2_ kq2_ (by decide) rfl 6 (by decide) rfl (hts _ (List.mem_cons_of_mem _ t_578)) (fun _ h9 => h9) rfl dX2_openBody_76 (fun x_32 bx_32 g => ?_)
          refine lv_if_ne (tgt := 91) hx hb dX2_openBody_79 (by decide) (fun c_33 => ?_) (fun c_33 => ?_)
          · have fc_33 := neq_f c_33
            have b_34 : bd 1 1 x_32 := neX fc_33 bx_32 kb_0 (by decide)
            subst hQ
            exact W.vret hx hb hr (fun t ht hW => ⟨⟨_, rfl, Or.inl ⟨hG_8, x_9, h_10, x_11, h_12, x_4, bx_4, (g.fcts [5, 6, 7, 8] rfl)⟩, q3_of g hK ht hW⟩, g.2.2.1.F ht⟩) g.2.2.1.2.2 dX2_openBody_91
          · have fc_33 := eq_f c_33
            have b_35 : bd 0 0 x_32 := eqX fc_33 bx_32 kb_0 (by decide)
            refine lv_aload_n hx hb dX2_openBody_82 rfl (lv_at hl 2 rfl) ?_
            refine g_getk (C := RX2) (T := TX2) (N := 16) hx hb hts (mc_ inX2) hown hK g rfl 0 (by decide) rfl (hts _ (List.mem_cons_of_mem _ t_416)) (fun _ h9 => h9) 10 rfl dX2_openBody_83 ?_
            refine lv_iconst (v := 5) hx hb dX2_openBody_86 (by decide) ?_
            refine lv_iload_n hx hb dX2_openBody_87 rfl (lv_at hl 1 rfl) ?_
            have kb_5 : bd 5 5 (5 : Int32) := ⟨by decide, by decide⟩
            have go_ := g
            refine g_callv (va_runV (As := [.int 5, .int r_1]) (rest := []) ⟨hx, hb, hml, hown, hts⟩ (r_X8_fail l dC dI L kd tys fr_7 H.size g.2.2.2.1 q0_ mq0_ kq0_ 5 (bd_sub kb_5 (by decide)) r_1 y0_ by0_ (g.fcts [7] rfl)) (cwV 2 hts (gV_ t_1122 t_1107 t_1108 t_184 t_1109) rfl rfl rfl (by decide +kernel) ⟨(Nat.le_of_ble_eq_true rfl), (Nat.le_of_ble_eq_true rfl)⟩) (pre3V g hK mq0_ kq0_ (by decide) (q := (RX8, TX8, 10)) rfl) rfl rfl hl.1 rfl (lv_room (Nat.le_of_ble_eq_true rfl)) dX2_openBody_88 ⟨(Nat.le_of_ble_eq_true rfl), (Nat.le_of_ble_eq_true rfl)⟩) g hK (by decide) (by decide) (fx' := [(6, 6, q2_, .int x_32), (6, 6, a_27, .int x_28), (7, 2, q1_, .ref a_26), (7, 3, q1_, .int x_22), (6, 7, q2_, .int x_18), (2, 11, a0_, .int x_11), (6, 8, q2_, .int x_4), (7, 6, q1_, .int x_4), (2, 0, a0_, .ref q0_), (2, 3, a0_, .ref q1_), (2, 5, a0_, .ref q2_)]) rfl (fun fr_36 H locs hp hMr_36 g => ?_)
            obtain ⟨x_37, h_38, hF_39⟩ := hp
            have hG_40 := bJx.frame hMr_36 go_.2.2.2.1 ma0_ ka0_ (by decide) (by decide) hG_8
            have g := g.more hF_39
            subst hQ
            exact W.vret hx hb hr (fun t ht hW => ⟨⟨_, rfl, Or.inr (⟨hG_40, x_37, h_38, x_4, bx_4, (g.fcts [0, 1, 8] rfl)⟩), q3_of g hK ht hW⟩, g.2.2.1.F ht⟩) g.2.2.1.2.2 dX2_openBody_91
  · have g := g.more hF_17
    refine lv_aload_n hx hb dX2_openBody_34 rfl (lv_at hl 1 rfl) ?_
    refine g_getk (C := RX2) (T := TX2) (N := 16) hx hb hts (mc_ inX2) hown hK g rfl 5 (by decide) rfl (hts _ (List.mem_cons_of_mem _ t_421)) (fun _ h9 => h9) 6 rfl dX2_openBody_35 ?_
    refine g_geti (C := RX6) (T := TX6) (N := 13) hx hb hts (mc_ inX6) hown hK g mq2_ kq2_ (by decide) rfl 7 (by decide) rfl (hts _ (List.mem_cons_of_mem _ t_580)) (fun _ h9 => h9) rfl dX2_openBody_38 (fun x_41 bx_41 g => ?_)
    refine lv_istore_n (lv' := [(2, .int x_41), (1, .int r_1), (0, .ref a0_)]) hx hb dX2_openBody_41 rfl hl (by decide) rfl (fun ls hl => ?_)
    refine lv_iload_n hx hb dX2_openBody_42 rfl (lv_at hl 0 rfl) ?_
    refine lv_if_lt (tgt := 91) hx hb dX2_openBody_43 (by decide) (fun c_42 => ?_) (fun c_42 => ?_)
    · have fc_42 := lt_f c_42
      have b_43 : bd (-1) (-1) x_41 := ltL fc_42 bx_41 kb_0 (by decide)
      subst hQ
      exact W.vret hx hb hr (fun t ht hW => ⟨⟨_, rfl, Or.inr (⟨hG_14, x_15, h_16, x_4, bx_4, (g.fcts [1, 2, 3] rfl)⟩), q3_of g hK ht hW⟩, g.2.2.1.F ht⟩) g.2.2.1.2.2 dX2_openBody_91
    · have fc_42 := nlt_f c_42
      have b_44 : bd 0 95 x_41 := leR fc_42 kb_0 bx_41 (by decide)
      refine lv_iload_n hx hb dX2_openBody_46 rfl (lv_at hl 0 rfl) ?_
      refine lv_aload_n hx hb dX2_openBody_47 rfl (lv_at hl 2 rfl) ?_
      refine g_getk (C := RX2) (T := TX2) (N := 16) hx hb hts (mc_ inX2) hown hK g rfl 3 (by decide) rfl (hts _ (List.mem_cons_of_mem _ t_419)) (fun _ h9 => h9) 6 rfl dX2_openBody_48 ?_
      refine g_geti (C := RX7) (T := TX7) (N := 19) hx hb hts (mc_ inX7) hown hK g mq1_ kq1_ (by decide) rfl 3 (by decide) rfl (hts _ (List.mem_cons_of_mem _ t_638)) (fun _ h9 => h9) rfl dX2_openBody_51 (fun x_45 bx_45 g => ?_)
      refine lv_icmp_ge (tgt := 91) hx hb dX2_openBody_54 (by decide) (fun c_46 => ?_) (fun c_46 => ?_)
      · have fc_46 := le_f c_46
        have b_47 : bd 0 95 x_45 := leL fc_46 bx_45 b_44 (by decide)
        subst hQ
        exact W.vret hx hb hr (fun t ht hW => ⟨⟨_, rfl, Or.inr (⟨hG_14, x_15, h_16, x_4, bx_4, (g.fcts [2, 3, 4] rfl)⟩), q3_of g hK ht hW⟩, g.2.2.1.F ht⟩) g.2.2.1.2.2 dX2_openBody_91
      · have fc_46 := nle_f c_46
        have b_48 : bd 1 96 x_45 := ltR fc_46 b_44 bx_45 (by decide)
        refine lv_aload_n hx hb dX2_openBody_57 rfl (lv_at hl 2 rfl) ?_
        refine g_getk (C := RX2) (T := TX2) (N := 16) hx hb hts (mc_ inX2) hown hK g rfl 3 (by decide) rfl (hts _ (List.mem_cons_of_mem _ t_419)) (fun _ h9 => h9) 7 rfl dX2_openBody_58 ?_
        refine g_getr (K := 137) (C := RX7) (T := TX7) (N := 19) hx hb hts (mc_ inX7) hown hK g mq1_ kq1_ (by decide) rfl 2 (by decide) rfl (hts _ (List.mem_cons_of_mem _ t_630)) (fun _ h9 => h9) rfl dX2_openBody_61 (fun a_49 ma_49 ka_49 g => ?_)
        refine lv_iload_n hx hb dX2_openBody_64 rfl (lv_at hl 0 rfl) ?_
        refine g_aald hx hb hK g ma_49 ka_49 (by decide) rfl (by decide) (in_bd b_44 (by decide)) dX2_openBody_65 (fun a_50 ma_50 ua_50 wa_50 => ?_)
        have ka_50 : kd a_50 = 6 := by omega
        refine g_geti (C := RX6) (T := TX6) (N := 13) hx hb hts (mc_ inX6) hown hK g ma_50 ka_50 (by decide) rfl 6 (by decide) rfl (hts _ (List.mem_cons_of_mem _ t_578)) (fun _ h9 => h9) rfl dX2_openBody_66 (fun x_51 bx_51 g => ?_)
        refine lv_if_eq (tgt := 91) hx hb dX2_openBody_69 (by decide) (fun c_52 => ?_) (fun c_52 => ?_)
        · have fc_52 := eq_f c_52
          have b_53 : bd 0 0 x_51 := eqX fc_52 bx_51 kb_0 (by decide)
          subst hQ
          exact W.vret hx hb hr (fun t ht hW => ⟨⟨_, rfl, Or.inr (⟨hG_14, x_15, h_16, x_4, bx_4, (g.fcts [4, 5, 6] rfl)⟩), q3_of g hK ht hW⟩, g.2.2.1.F ht⟩) g.2.2.1.2.2 dX2_openBody_91
        · have fc_52 := neq_f c_52
          have b_54 : bd 1 1 x_51 := neX fc_52 bx_51 kb_0 (by decide)
          refine lv_aload_n hx hb dX2_openBody_72 rfl (lv_at hl 2 rfl) ?_
          refine g_getk (C := RX2) (T := TX2) (N := 16) hx hb hts (mc_ inX2) hown hK g rfl 5 (by decide) rfl (hts _ (List.mem_cons_of_mem _ t_421)) (fun _ h9 => h9) 10 rfl dX2_openBody_73 ?_
          refine g_geti (C := RX6) (T := TX6) (N := 13) hx hb hts (mc_ inX6) hown hK g mq2_ kq2_ (by decide) rfl 6 (by decide) rfl (hts _ (List.mem_cons_of_mem _ t_578)) (fun _ h9 => h9) rfl dX2_openBody_76 (fun x_55 bx_55 g => ?_)
          refine lv_if_ne (tgt := 91) hx hb dX2_openBody_79 (by decide) (fun c_56 => ?_) (fun c_56 => ?_)
          · have fc_56 := neq_f c_56
            have b_57 : bd 1 1 x_55 := neX fc_56 bx_55 kb_0 (by decide)
            subst hQ
            exact W.vret hx hb hr (fun t ht hW => ⟨⟨_, rfl, Or.inr (⟨hG_14, x_15, h_16, x_4, bx_4, (g.fcts [5, 6, 7] rfl)⟩), q3_of g hK ht hW⟩, g.2.2.1.F ht⟩) g.2.2.1.2.2 dX2_openBody_91
          · have fc_56 := eq_f c_56
            have b_58 : bd 0 0 x_55 := eqX fc_56 bx_55 kb_0 (by decide)
            refine lv_aload_n hx hb dX2_openBody_82 rfl (lv_at hl 2 rfl) ?_
            refine g_getk (C := RX2) (T := TX2) (N := 16) hx hb hts (mc_ inX2) hown hK g rfl 0 (by decide) rfl (hts _ (List.mem_cons_of_mem _ t_416)) (fun _ h9 => h9) 9 rfl dX2_openBody_83 ?_
            refine lv_iconst (v := 5) hx hb dX2_openBody_86 (by decide) ?_
            refine lv_iload_n hx hb dX2_openBody_87 rfl (lv_at hl 1 rfl) ?_
            have kb_5 : bd 5 5 (5 : Int32) := ⟨by decide, by decide⟩
            have go_ := g
            refine g_callv (va_runV (As := [.int 5, .int r_1]) (rest := []) ⟨hx, hb, hml, hown, hts⟩ (r_X8_fail_2 l dC dI L kd tys fr_7 H.size g.2.2.2.1 q0_ mq0_ kq0_ 5 (bd_sub kb_5 (by decide)) r_1 x_15 h_16 (g.fcts [6] rfl)) (cwV 2 hts (gV_ t_1122 t_1107 t_1108 t_184 t_1109) rfl rfl rfl (by decide +kernel) ⟨(Nat.le_of_ble_eq_true rfl), (Nat.le_of_ble_eq_true rfl)⟩) (pre3V g hK mq0_ kq0_ (by decide) (q := (RX8, TX8, 10)) rfl) rfl rfl hl.1 rfl (lv_room (Nat.le_of_ble_eq_true rfl)) dX2_openBody_88 ⟨(Nat.le_of_ble_eq_true rfl), (Nat.le_of_ble_eq_true rfl)⟩) g hK (by decide) (by decide) (fx' := [(6, 6, q2_, .int x_55), (6, 6, a_50, .int x_51), (7, 2, q1_, .ref a_49), (7, 3, q1_, .int x_45), (6, 7, q2_, .int x_41), (8, 8, q0_, .int x_15), (6, 8, q2_, .int x_4), (7, 6, q1_, .int x_4), (2, 0, a0_, .ref q0_), (2, 3, a0_, .ref q1_), (2, 5, a0_, .ref q2_)]) rfl (fun fr_59 H locs hp hMr_59 g => ?_)
            have hF_60 := hp
            have hG_61 := bJx.frame hMr_59 go_.2.2.2.1 ma0_ ka0_ (by decide) (by decide) hG_14
            have g := g.more hF_60
            subst hQ
            exact W.vret hx hb hr (fun t ht hW => ⟨⟨_, rfl, Or.inr (⟨hG_61, x_15, h_16, x_4, bx_4, (g.fcts [0, 6, 7] rfl)⟩), q3_of g hK ht hW⟩, g.2.2.1.F ht⟩) g.2.2.1.2.2 dX2_openBody_91
set_option maxHeartbeats 4000000 in
set_option maxRecDepth 100000 in
theorem r_X2_startsStatement (l : Launch) (dC : Nat → ClassId) (dI : Nat → Nat → Nat) (L : List Nat) (kd : Nat → Nat) (tys : List (ClassId × FieldType)) (f0 : Nat → va_E) (sz : Nat) (hWT : WT L kd tys f0) (x0_ : Int32) : Met l yX2_startsStatement (.code yX2_startsStatement cX2_startsStatement 1 (some .boolean) :: lw_g) ({ frames := 0, cells := 0, slots := 0, locals := 0 }) (va_Pc [.int x0_] (P3 (dC, dI) L tys f0 sz)) (va_Qi (fun (r : Int32) (f : Nat → va_E) => (r = 0 ∧ True) ∨ (r = 1 ∧ bd 3 27 x0_ ∧ True)) (Q3 (dC, dI) L kd tys [] [] f0 sz) (pA L sz)) 0 0 (pA L sz) := by
  refine Met.ofW (cc := cX2_startsStatement) (maxL := 1) (ret := (some .boolean)) (by decide) rfl ?_
  intro p e s m args below meth c s₁ B hml hv
  obtain ⟨rfl, hsz, hP, hK, hD0⟩ := hv
  have hx := B.exec
  have hb := B.bytes
  have hr := B.returns
  have hts := atoms_spec (ws := (.code yX2_startsStatement cX2_startsStatement 1 (some .boolean) :: lw_g)) B.pre
  have hown : s.vm.findClass RX2 = some m.cls := findClass_of_methodNamed B.named
  have hlocks := B.notSynchronized
  subst hsz
  have g : G3 (dC, dI) L kd tys s f0 [] [] f0 s.heap [] [] := G3.start hP hD0 hWT Fs.nil
  have hl := lv_entry ([.int x0_]) (n := 1) (Nat.le_of_ble_eq_true rfl)
  rw [lg_entry_eq]
  generalize (lg_sl ([.int x0_]) ++ List.replicate (1 - (lg_sl ([.int x0_])).length) Slot.unset).toArray = ls at hl ⊢
  have hl : lv_has ls 1 [(0, .int x0_)] := hl
  refine W_q (fun Q hQ => ?_)
  refine lv_iload_n hx hb dX2_startsStatement_0 rfl (lv_at hl 0 rfl) ?_
  refine lv_iconst (v := 3) hx hb dX2_startsStatement_1 (by decide) ?_
  have kb_3 : bd 3 3 (3 : Int32) := ⟨by decide, by decide⟩
  refine lv_icmp_eq (tgt := 29) hx hb dX2_startsStatement_2 (by decide) (fun c_1 => ?_) (fun c_1 => ?_)
  · have fc_1 := eq_f c_1
    have b_2 : bd 3 3 x0_ := eqX fc_1 (bdT x0_) kb_3 (by decide)
    refine lv_iconst (v := 1) hx hb dX2_startsStatement_29 (by decide) ?_
    refine lv_goto (tgt := 34) hx hb dX2_startsStatement_30 (by decide) ?_
    subst hQ
    have kb_1 : bd 1 1 (1 : Int32) := ⟨by decide, by decide⟩
    exact W.zret (v := 1) hx hb hr (nar_z (bd_sub kb_1 (by decide) : bd 0 1 _).1 (bd_sub kb_1 (by decide) : bd 0 1 _).2) (fun t ht hW => ⟨⟨_, _, rfl, Or.inr (⟨rfl, (bd_sub b_2 (by decide)), trivial⟩), q3_of g hK ht hW⟩, g.2.2.1.F ht⟩) g.2.2.1.2.2 dX2_startsStatement_34
  · have fc_1 := neq_f c_1
    refine lv_iload_n hx hb dX2_startsStatement_5 rfl (lv_at hl 0 rfl) ?_
    refine lv_bipush (v := 11) hx hb dX2_startsStatement_6 (by decide) ?_
    have kb_11 : bd 11 11 (11 : Int32) := ⟨by decide, by decide⟩
    refine lv_icmp_eq (tgt := 29) hx hb dX2_startsStatement_8 (by decide) (fun c_3 => ?_) (fun c_3 => ?_)
    · have fc_3 := eq_f c_3
      have b_4 : bd 11 11 x0_ := eqX fc_3 (bdT x0_) kb_11 (by decide)
      refine lv_iconst (v := 1) hx hb dX2_startsStatement_29 (by decide) ?_
      refine lv_goto (tgt := 34) hx hb dX2_startsStatement_30 (by decide) ?_
      subst hQ
      have kb_1 : bd 1 1 (1 : Int32) := ⟨by decide, by decide⟩
      exact W.zret (v := 1) hx hb hr (nar_z (bd_sub kb_1 (by decide) : bd 0 1 _).1 (bd_sub kb_1 (by decide) : bd 0 1 _).2) (fun t ht hW => ⟨⟨_, _, rfl, Or.inr (⟨rfl, (bd_sub b_4 (by decide)), trivial⟩), q3_of g hK ht hW⟩, g.2.2.1.F ht⟩) g.2.2.1.2.2 dX2_startsStatement_34
    · have fc_3 := neq_f c_3
      refine lv_iload_n hx hb dX2_startsStatement_11 rfl (lv_at hl 0 rfl) ?_
      refine lv_bipush (v := 22) hx hb dX2_startsStatement_12 (by decide) ?_
      have kb_22 : bd 22 22 (22 : Int32) := ⟨by decide, by decide⟩
      refine lv_icmp_lt (tgt := 33) hx hb dX2_startsStatement_14 (by decide) (fun c_5 => ?_) (fun c_5 => ?_)
      · have fc_5 := lt_f c_5
        have b_6 : bd (-2147483648) 21 x0_ := ltL fc_5 (bdT x0_) kb_22 (by decide)
        refine lv_iconst (v := 0) hx hb dX2_startsStatement_33 (by decide) ?_
        subst hQ
        have kb_0 : bd 0 0 (0 : Int32) := ⟨by decide, by decide⟩
        exact W.zret (v := 0) hx hb hr (nar_z (bd_sub kb_0 (by decide) : bd 0 1 _).1 (bd_sub kb_0 (by decide) : bd 0 1 _).2) (fun t ht hW => ⟨⟨_, _, rfl, Or.inl ⟨rfl, trivial⟩, q3_of g hK ht hW⟩, g.2.2.1.F ht⟩) g.2.2.1.2.2 dX2_startsStatement_34
      · have fc_5 := nlt_f c_5
        have b_7 : bd 22 2147483647 x0_ := leR fc_5 kb_22 (bdT x0_) (by decide)
        refine lv_iload_n hx hb dX2_startsStatement_17 rfl (lv_at hl 0 rfl) ?_
        refine lv_bipush (v := 27) hx hb dX2_startsStatement_18 (by decide) ?_
        have kb_27 : bd 27 27 (27 : Int32) := ⟨by decide, by decide⟩
        refine lv_icmp_gt (tgt := 33) hx hb dX2_startsStatement_20 (by decide) (fun c_8 => ?_) (fun c_8 => ?_)
        · have fc_8 := lt_f c_8
          have b_9 : bd 28 2147483647 x0_ := ltR fc_8 kb_27 b_7 (by decide)
          refine lv_iconst (v := 0) hx hb dX2_startsStatement_33 (by decide) ?_
          subst hQ
          have kb_0 : bd 0 0 (0 : Int32) := ⟨by decide, by decide⟩
          exact W.zret (v := 0) hx hb hr (nar_z (bd_sub kb_0 (by decide) : bd 0 1 _).1 (bd_sub kb_0 (by decide) : bd 0 1 _).2) (fun t ht hW => ⟨⟨_, _, rfl, Or.inl ⟨rfl, trivial⟩, q3_of g hK ht hW⟩, g.2.2.1.F ht⟩) g.2.2.1.2.2 dX2_startsStatement_34
        · have fc_8 := nlt_f c_8
          have b_10 : bd 22 27 x0_ := leL fc_8 b_7 kb_27 (by decide)
          refine lv_iload_n hx hb dX2_startsStatement_23 rfl (lv_at hl 0 rfl) ?_
          refine lv_bipush (v := 24) hx hb dX2_startsStatement_24 (by decide) ?_
          have kb_24 : bd 24 24 (24 : Int32) := ⟨by decide, by decide⟩
          refine lv_icmp_eq (tgt := 33) hx hb dX2_startsStatement_26 (by decide) (fun c_11 => ?_) (fun c_11 => ?_)
          · have fc_11 := eq_f c_11
            have b_12 : bd 24 24 x0_ := eqX fc_11 b_10 kb_24 (by decide)
            refine lv_iconst (v := 0) hx hb dX2_startsStatement_33 (by decide) ?_
            subst hQ
            have kb_0 : bd 0 0 (0 : Int32) := ⟨by decide, by decide⟩
            exact W.zret (v := 0) hx hb hr (nar_z (bd_sub kb_0 (by decide) : bd 0 1 _).1 (bd_sub kb_0 (by decide) : bd 0 1 _).2) (fun t ht hW => ⟨⟨_, _, rfl, Or.inl ⟨rfl, trivial⟩, q3_of g hK ht hW⟩, g.2.2.1.F ht⟩) g.2.2.1.2.2 dX2_startsStatement_34
          · have fc_11 := neq_f c_11
            refine lv_iconst (v := 1) hx hb dX2_startsStatement_29 (by decide) ?_
            refine lv_goto (tgt := 34) hx hb dX2_startsStatement_30 (by decide) ?_
            subst hQ
            have kb_1 : bd 1 1 (1 : Int32) := ⟨by decide, by decide⟩
            exact W.zret (v := 1) hx hb hr (nar_z (bd_sub kb_1 (by decide) : bd 0 1 _).1 (bd_sub kb_1 (by decide) : bd 0 1 _).2) (fun t ht hW => ⟨⟨_, _, rfl, Or.inr (⟨rfl, (bd_sub b_10 (by decide)), trivial⟩), q3_of g hK ht hW⟩, g.2.2.1.F ht⟩) g.2.2.1.2.2 dX2_startsStatement_34
set_option maxHeartbeats 4000000 in
set_option maxRecDepth 100000 in
theorem r_X7_addStatement (l : Launch) (dC : Nat → ClassId) (dI : Nat → Nat → Nat) (L : List Nat) (kd : Nat → Nat) (tys : List (ClassId × FieldType)) (f0 : Nat → va_E) (sz : Nat) (hWT : WT L kd tys f0) (a0_ : Nat) (ma0_ : a0_ ∈ L) (ka0_ : kd a0_ = 7) : Met l yX7_addStatement (.code yX7_addStatement cX7_addStatement 2 (some .int) :: lw_g) ({ frames := 1, cells := 0, slots := 0, locals := 13 }) (va_Pc [.ref a0_] (P3 (dC, dI) L tys f0 sz)) (va_Qi (fun (r : Int32) (f : Nat → va_E) => (bd 0 419 r ∧ ∃ z0_ : Int32, bd 1 420 z0_ ∧ Fs L kd f [(7, 15, a0_, .int z0_)])) (Q3 (dC, dI) L kd tys [(7, 15)] [146] f0 sz) (pA L sz)) 0 0 (pA L sz) := by
  refine Met.ofW (cc := cX7_addStatement) (maxL := 2) (ret := (some .int)) (by decide) rfl ?_
  intro p e s m args below meth c s₁ B hml hv
  obtain ⟨rfl, hsz, hP, hK, hD0⟩ := hv
  have hx := B.exec
  have hb := B.bytes
  have hr := B.returns
  have hts := atoms_spec (ws := (.code yX7_addStatement cX7_addStatement 2 (some .int) :: lw_g)) B.pre
  have hown : s.vm.findClass RX7 = some m.cls := findClass_of_methodNamed B.named
  have hlocks := B.notSynchronized
  subst hsz
  have g : G3 (dC, dI) L kd tys s f0 [(7, 15)] [146] f0 s.heap [] [] := G3.start hP hD0 hWT Fs.nil
  have hl := lv_entry ([.ref a0_]) (n := 2) (Nat.le_of_ble_eq_true rfl)
  rw [lg_entry_eq]
  generalize (lg_sl ([.ref a0_]) ++ List.replicate (2 - (lg_sl ([.ref a0_])).length) Slot.unset).toArray = ls at hl ⊢
  have hl : lv_has ls 2 [(0, .ref a0_)] := hl
  refine W_q (fun Q hQ => ?_)
  refine lv_aload_n hx hb dX7_addStatement_0 rfl (lv_at hl 0 rfl) ?_
  refine g_geti (C := RX7) (T := TX7) (N := 19) hx hb hts (mc_ inX7) hown hK g ma0_ ka0_ (by decide) rfl 15 (by decide) rfl (hts _ (List.mem_cons_of_mem _ t_673)) (fun _ h9 => h9) rfl dX7_addStatement_1 (fun x_1 bx_1 g => ?_)
  refine lv_sipush (v := 419) hx hb dX7_addStatement_4 (by decide) ?_
  have kb_419 : bd 419 419 (419 : Int32) := ⟨by decide, by decide⟩
  refine va_mmin hx hb (hml.trans hl.1.symm) hown (hts _ (List.mem_cons_of_mem _ t_1177)) (hts _ (List.mem_cons_of_mem _ t_998)) (hts _ (List.mem_cons_of_mem _ t_204)) (hts _ (List.mem_cons_of_mem _ t_999)) (Nat.le_of_ble_eq_true rfl) (Nat.le_of_ble_eq_true rfl) (Nat.le_of_ble_eq_true rfl) (Nat.le_of_ble_eq_true rfl) dX7_addStatement_7 ?_
  refine lv_topi (fun y_2 ey_2 => ?_)
  have ty_2 : y_2.toInt = min x_1.toInt (419 : Int32).toInt := by rw [ey_2]; exact mmin_ok _ _
  have b_3 : bd 0 419 y_2 := min_rg ty_2 bx_1 kb_419 (by decide)
  refine lv_istore_n (lv' := [(1, .int y_2), (0, .ref a0_)]) hx hb dX7_addStatement_10 rfl hl (by decide) rfl (fun ls hl => ?_)
  refine lv_aload_n hx hb dX7_addStatement_11 rfl (lv_at hl 1 rfl) ?_
  refine g_getr (K := 146) (C := RX7) (T := TX7) (N := 19) hx hb hts (mc_ inX7) hown hK g ma0_ ka0_ (by decide) rfl 14 (by decide) rfl (hts _ (List.mem_cons_of_mem _ t_671)) (fun _ h9 => h9) rfl dX7_addStatement_12 (fun a_4 ma_4 ka_4 g => ?_)
  refine lv_iload_n hx hb dX7_addStatement_15 rfl (lv_at hl 0 rfl) ?_
  refine lv_iconst (v := 0) hx hb dX7_addStatement_16 (by decide) ?_
  have kb_0 : bd 0 0 (0 : Int32) := ⟨by decide, by decide⟩
  refine g_zast hx hb hK g ma_4 ka_4 (by decide) rfl (in_bd b_3 (by decide)) (bd_sub kb_0 (by decide)) (by decide) dX7_addStatement_17 (fun f H locs hM_5 g => ?_)
  refine lv_aload_n hx hb dX7_addStatement_18 rfl (lv_at hl 1 rfl) ?_
  refine lv_iload_n hx hb dX7_addStatement_19 rfl (lv_at hl 0 rfl) ?_
  refine lv_iconst (v := 1) hx hb dX7_addStatement_20 (by decide) ?_
  have kb_1 : bd 1 1 (1 : Int32) := ⟨by decide, by decide⟩
  refine lv_iadd hx hb dX7_addStatement_21 ?_
  refine lv_topi (fun y_6 ey_6 => ?_)
  have ty_6 := add_bd ey_6 b_3 kb_1 (by decide)
  have b_7 : bd 1 420 y_6 := add_rg ty_6 b_3 kb_1 (by decide)
  refine g_put (C := RX7) (T := TX7) (N := 19) hx hb hts (mc_ inX7) tyX7 tyX7_ok nmX7 hown hK g ma0_ ka0_ (by decide) rfl 15 (by decide) (hts _ (List.mem_cons_of_mem _ t_673)) (fun _ h9 => h9) rfl rfl (okV_i (bd_sub b_7 (by decide))) rfl rfl (by decide) (Or.inr (Or.inl (by decide))) (fx' := [(7, 14, a0_, .ref a_4)]) rfl dX7_addStatement_22 (fun f H locs hM_8 g => ?_)
  refine lv_iload_n hx hb dX7_addStatement_25 rfl (lv_at hl 0 rfl) ?_
  subst hQ
  exact W.iret (v := y_2) hx hb hr (fun t ht hW => ⟨⟨_, _, rfl, ⟨b_3, y_6, b_7, (g.fcts [0] rfl)⟩, q3_of g hK ht hW⟩, g.2.2.1.F ht⟩) g.2.2.1.2.2 dX7_addStatement_26
set_option maxHeartbeats 4000000 in
set_option maxRecDepth 100000 in
theorem r_X2_readLet (l : Launch) (dC : Nat → ClassId) (dI : Nat → Nat → Nat) (L : List Nat) (kd : Nat → Nat) (tys : List (ClassId × FieldType)) (f0 : Nat → va_E) (sz : Nat) (hWT : WT L kd tys f0) (a0_ : Nat) (ma0_ : a0_ ∈ L) (ka0_ : kd a0_ = 2) (q0_ : Nat) (mq0_ : q0_ ∈ L) (kq0_ : kd q0_ = 8) (q1_ : Nat) (mq1_ : q1_ ∈ L) (kq1_ : kd q1_ = 5) (q2_ : Nat) (mq2_ : q2_ ∈ L) (kq2_ : kd q2_ = 0) (q3_ : Nat) (mq3_ : q3_ ∈ L) (kq3_ : kd q3_ = 7) (q7_ : Nat) (mq7_ : q7_ ∈ L) (kq7_ : kd q7_ = 9) (y0_ : Int32) (by0_ : bd 1201 1201 y0_) (y1_ : Int32) (by1_ : bd 1 7 y1_) (T_ : Nat) (hGdq3_ : dOK L kd f0 q3_ T_) (hGeq2_ : eOK f0 q2_) (hfx : Fs L kd f0 [(2, 0, a0_, .ref q0_), (2, 1, a0_, .ref q1_), (2, 2, a0_, .ref q2_), (2, 3, a0_, .ref q3_), (0, 0, q2_, .ref q0_), (0, 1, q2_, .ref q1_), (5, 0, q1_, .ref q3_), (5, 1, q1_, .ref q7_), (8, 6, q0_, .int y0_), (8, 8, q0_, .int y1_)]) : Met l yX2_readLet (.code yX2_readLet cX2_readLet 5 none :: lw_g) ({ frames := 2, cells := 0, slots := 0, locals := 44 }) (va_Pc [.ref a0_] (P3 (dC, dI) L tys f0 sz)) (va_Qv (fun (f : Nat → va_E) => (dOK L kd f q3_ T_ ∧ ∃ z0_ : Int32, bd 1201 1201 z0_ ∧ Fs L kd f [(8, 6, q0_, .int z0_), (0, 13, q2_, .int 0), (0, 12, q2_, .int 1), (0, 11, q2_, .int 0), (0, 10, q2_, .int 0), (0, 8, q2_, .int 0), (0, 2, q2_, .ref q3_)])) (Q3 (dC, dI) L kd tys [(0, 2), (0, 8), (0, 10), (0, 11), (0, 12), (0, 13), (7, 6), (8, 6)] [138, 139] f0 sz) (pA L sz)) 0 0 (pA L sz) := by
  refine Met.ofW (cc := cX2_readLet) (maxL := 5) (ret := none) (by decide) rfl ?_
  intro p e s m args below meth c s₁ B hml hv
  obtain ⟨rfl, hsz, hP, hK, hD0⟩ := hv
  have hx := B.exec
  have hb := B.bytes
  have hr := B.returns
  have hts := atoms_spec (ws := (.code yX2_readLet cX2_readLet 5 none :: lw_g)) B.pre
  have hown : s.vm.findClass RX2 = some m.cls := findClass_of_methodNamed B.named
  have hlocks := B.notSynchronized
  subst hsz
  have g : G3 (dC, dI) L kd tys s f0 [(0, 2), (0, 8), (0, 10), (0, 11), (0, 12), (0, 13), (7, 6), (8, 6)] [138, 139] f0 s.heap [] [(2, 0, a0_, .ref q0_), (2, 1, a0_, .ref q1_), (2, 2, a0_, .ref q2_), (2, 3, a0_, .ref q3_), (0, 0, q2_, .ref q0_), (0, 1, q2_, .ref q1_), (5, 0, q1_, .ref q3_), (5, 1, q1_, .ref q7_), (8, 6, q0_, .int y0_), (8, 8, q0_, .int y1_)] := G3.start hP hD0 hWT hfx
  have hl := lv_entry ([.ref a0_]) (n := 5) (Nat.le_of_ble_eq_true rfl)
  rw [lg_entry_eq]
  generalize (lg_sl ([.ref a0_]) ++ List.replicate (5 - (lg_sl ([.ref a0_])).length) Slot.unset).toArray = ls at hl ⊢
  have hl : lv_has ls 5 [(0, .ref a0_)] := hl
  refine W_q (fun Q hQ => ?_)
  refine lv_aload_n hx hb dX2_readLet_0 rfl (lv_at hl 0 rfl) ?_
  refine g_getk (C := RX2) (T := TX2) (N := 16) hx hb hts (mc_ inX2) hown hK g rfl 0 (by decide) rfl (hts _ (List.mem_cons_of_mem _ t_416)) (fun _ h9 => h9) 0 rfl dX2_readLet_1 ?_
  have go_ := g
  refine g_callv (va_runV (As := []) (rest := []) ⟨hx, hb, hml, hown, hts⟩ (r_X8_next_2 l dC dI L kd tys f0 s.heap.size g.2.2.2.1 q0_ mq0_ kq0_ y0_ by0_ (g.fcts [8] rfl)) (cwV 0 hts (gV_ t_1131 t_1103 t_1104 t_184 t_1105) rfl rfl rfl (by decide +kernel) ⟨(Nat.le_of_ble_eq_true rfl), (Nat.le_of_ble_eq_true rfl)⟩) (pre3V g hK mq0_ kq0_ (by decide) (q := (RX8, TX8, 10)) rfl) rfl rfl hl.1 rfl (lv_room (Nat.le_of_ble_eq_true rfl)) dX2_readLet_4 ⟨(Nat.le_of_ble_eq_true rfl), (Nat.le_of_ble_eq_true rfl)⟩) g hK (by decide) (by decide) (fx' := [(2, 0, a0_, .ref q0_), (2, 1, a0_, .ref q1_), (2, 2, a0_, .ref q2_), (2, 3, a0_, .ref q3_), (0, 0, q2_, .ref q0_), (0, 1, q2_, .ref q1_), (5, 0, q1_, .ref q3_), (5, 1, q1_, .ref q7_), (8, 6, q0_, .int y0_), (8, 8, q0_, .int y1_)]) rfl (fun fr_1 H locs hp hMr_1 g => ?_)
  have hG_2 := dOK.frame hMr_1 go_.2.2.2.1 mq3_ kq3_ (by decide) (by decide) hGdq3_
  have hG_3 := eOK.frame hMr_1 go_.2.2.2.1 mq2_ kq2_ (by decide) (by decide) hGeq2_
  refine lv_aload_n hx hb dX2_readLet_7 rfl (lv_at hl 0 rfl) ?_
  refine g_getk (C := RX2) (T := TX2) (N := 16) hx hb hts (mc_ inX2) hown hK g rfl 0 (by decide) rfl (hts _ (List.mem_cons_of_mem _ t_416)) (fun _ h9 => h9) 0 rfl dX2_readLet_8 ?_
  have go_ := g
  refine g_calli (va_runV (As := []) (rest := []) ⟨hx, hb, hml, hown, hts⟩ (r_X8_place l dC dI L kd tys fr_1 H.size g.2.2.2.1 q0_ mq0_ kq0_) (cwV 0 hts (gV_ t_1110 t_1111 t_1112 t_184 t_1113) rfl rfl rfl (by decide +kernel) ⟨(Nat.le_of_ble_eq_true rfl), (Nat.le_of_ble_eq_true rfl)⟩) (pre3V g hK mq0_ kq0_ (by decide) (q := (RX8, TX8, 10)) rfl) rfl rfl hl.1 rfl (lv_room (Nat.le_of_ble_eq_true rfl)) dX2_readLet_11 ⟨(Nat.le_of_ble_eq_true rfl), (Nat.le_of_ble_eq_true rfl)⟩) g hK (by decide) (by decide) (fx' := [(2, 0, a0_, .ref q0_), (2, 1, a0_, .ref q1_), (2, 2, a0_, .ref q2_), (2, 3, a0_, .ref q3_), (0, 0, q2_, .ref q0_), (0, 1, q2_, .ref q1_), (5, 0, q1_, .ref q3_), (5, 1, q1_, .ref q7_), (8, 6, q0_, .int y0_), (8, 8, q0_, .int y1_)]) rfl (fun r_4 fr_4 H locs hp hMr_4 g => ?_)
  have hG_5 := dOK.frame hMr_4 go_.2.2.2.1 mq3_ kq3_ (by decide) (by decide) hG_2
  have hG_6 := eOK.frame hMr_4 go_.2.2.2.1 mq2_ kq2_ (by decide) (by decide) hG_3
  refine lv_istore_n (lv' := [(1, .int r_4), (0, .ref a0_)]) hx hb dX2_readLet_14 rfl hl (by decide) rfl (fun ls hl => ?_)
  refine lv_aload_n hx hb dX2_readLet_15 rfl (lv_at hl 1 rfl) ?_
  refine g_getk (C := RX2) (T := TX2) (N := 16) hx hb hts (mc_ inX2) hown hK g rfl 0 (by decide) rfl (hts _ (List.mem_cons_of_mem _ t_416)) (fun _ h9 => h9) 0 rfl dX2_readLet_16 ?_
  have go_ := g
  refine g_calll (va_runV (As := []) (rest := []) ⟨hx, hb, hml, hown, hts⟩ (r_X8_value l dC dI L kd tys fr_4 H.size g.2.2.2.1 q0_ mq0_ kq0_) (cwV 0 hts (gV_ t_1114 t_1115 t_1116 t_184 t_1117) rfl rfl rfl (by decide +kernel) ⟨(Nat.le_of_ble_eq_true rfl), (Nat.le_of_ble_eq_true rfl)⟩) (pre3V g hK mq0_ kq0_ (by decide) (q := (RX8, TX8, 10)) rfl) rfl rfl hl.1 rfl (lv_room (Nat.le_of_ble_eq_true rfl)) dX2_readLet_19 ⟨(Nat.le_of_ble_eq_true rfl), (Nat.le_of_ble_eq_true rfl)⟩) g hK (by decide) (by decide) (fx' := [(2, 0, a0_, .ref q0_), (2, 1, a0_, .ref q1_), (2, 2, a0_, .ref q2_), (2, 3, a0_, .ref q3_), (0, 0, q2_, .ref q0_), (0, 1, q2_, .ref q1_), (5, 0, q1_, .ref q3_), (5, 1, q1_, .ref q7_), (8, 6, q0_, .int y0_), (8, 8, q0_, .int y1_)]) rfl (fun r_7 fr_7 H locs hp hMr_7 g => ?_)
  have hG_8 := dOK.frame hMr_7 go_.2.2.2.1 mq3_ kq3_ (by decide) (by decide) hG_5
  have hG_9 := eOK.frame hMr_7 go_.2.2.2.1 mq2_ kq2_ (by decide) (by decide) hG_6
  refine lv_lstore_n (lv' := [(2, .long r_7), (1, .int r_4), (0, .ref a0_)]) hx hb dX2_readLet_22 rfl hl (by decide) rfl (fun ls hl => ?_)
  refine lv_aload_n hx hb dX2_readLet_23 rfl (lv_at hl 2 rfl) ?_
  refine g_getk (C := RX2) (T := TX2) (N := 16) hx hb hts (mc_ inX2) hown hK g rfl 1 (by decide) rfl (hts _ (List.mem_cons_of_mem _ t_417)) (fun _ h9 => h9) 1 rfl dX2_readLet_24 ?_
  refine g_geti (C := RX5) (T := TX5) (N := 9) hx hb hts (mc_ inX5) hown hK g mq1_ kq1_ (by decide) rfl 6 (by decide) rfl (hts _ (List.mem_cons_of_mem _ t_341)) (fun _ h9 => h9) rfl dX2_readLet_27 (fun x_10 bx_10 g => ?_)
  refine lv_istore (lv' := [(4, .int x_10), (2, .long r_7), (1, .int r_4), (0, .ref a0_)]) hx hb dX2_readLet_30 hl (by decide) rfl (fun ls hl => ?_)
  refine lv_aload_n hx hb dX2_readLet_32 rfl (lv_at hl 3 rfl) ?_
  refine g_getk (C := RX2) (T := TX2) (N := 16) hx hb hts (mc_ inX2) hown hK g rfl 0 (by decide) rfl (hts _ (List.mem_cons_of_mem _ t_416)) (fun _ h9 => h9) 1 rfl dX2_readLet_33 ?_
  have go_ := g
  refine g_calli (va_runV (As := []) (rest := []) ⟨hx, hb, hml, hown, hts⟩ (r_X8_kind_2 l dC dI L kd tys fr_7 H.size g.2.2.2.1 q0_ mq0_ kq0_ y0_ by0_ (g.fcts [9] rfl)) (cwV 0 hts (gV_ t_1118 t_1119 t_1120 t_184 t_1121) rfl rfl rfl (by decide +kernel) ⟨(Nat.le_of_ble_eq_true rfl), (Nat.le_of_ble_eq_true rfl)⟩) (pre3V g hK mq0_ kq0_ (by decide) (q := (RX8, TX8, 10)) rfl) rfl rfl hl.1 rfl (lv_room (Nat.le_of_ble_eq_true rfl)) dX2_readLet_36 ⟨(Nat.le_of_ble_eq_true rfl), (Nat.le_of_ble_eq_true rfl)⟩) g hK (by decide) (by decide) (fx' := [(5, 6, q1_, .int x_10), (2, 0, a0_, .ref q0_), (2, 1, a0_, .ref q1_), (2, 2, a0_, .ref q2_), (2, 3, a0_, .ref q3_), (0, 0, q2_, .ref q0_), (0, 1, q2_, .ref q1_), (5, 0, q1_, .ref q3_), (5, 1, q1_, .ref q7_), (8, 6, q0_, .int y0_), (8, 8, q0_, .int y1_)]) rfl (fun r_11 fr_11 H locs hp hMr_11 g => ?_)
  obtain ⟨h_12, -⟩ := hp
  have hG_13 := dOK.frame hMr_11 go_.2.2.2.1 mq3_ kq3_ (by decide) (by decide) hG_8
  have hG_14 := eOK.frame hMr_11 go_.2.2.2.1 mq2_ kq2_ (by decide) (by decide) hG_9
  obtain rfl : r_11 = 0 := h_12
  refine lv_iconst (v := 3) hx hb dX2_readLet_39 (by decide) ?_
  refine lv_icmp_eq (tgt := 55) hx hb dX2_readLet_40 (by decide) (fun c_ => absurd c_ (by decide)) (fun c_ => ?_)
  refine lv_aload_n hx hb dX2_readLet_43 rfl (lv_at hl 3 rfl) ?_
  refine g_getk (C := RX2) (T := TX2) (N := 16) hx hb hts (mc_ inX2) hown hK g rfl 0 (by decide) rfl (hts _ (List.mem_cons_of_mem _ t_416)) (fun _ h9 => h9) 1 rfl dX2_readLet_44 ?_
  refine lv_iconst (v := 1) hx hb dX2_readLet_47 (by decide) ?_
  refine lv_iload_n hx hb dX2_readLet_48 rfl (lv_at hl 2 rfl) ?_
  have kb_1 : bd 1 1 (1 : Int32) := ⟨by decide, by decide⟩
  have go_ := g
  refine g_callv (va_runV (As := [.int 1, .int r_4]) (rest := []) ⟨hx, hb, hml, hown, hts⟩ (r_X8_fail_2 l dC dI L kd tys fr_11 H.size g.2.2.2.1 q0_ mq0_ kq0_ 1 (bd_sub kb_1 (by decide)) r_4 y1_ by1_ (g.fcts [10] rfl)) (cwV 2 hts (gV_ t_1122 t_1107 t_1108 t_184 t_1109) rfl rfl rfl (by decide +kernel) ⟨(Nat.le_of_ble_eq_true rfl), (Nat.le_of_ble_eq_true rfl)⟩) (pre3V g hK mq0_ kq0_ (by decide) (q := (RX8, TX8, 10)) rfl) rfl rfl hl.1 rfl (lv_room (Nat.le_of_ble_eq_true rfl)) dX2_readLet_49 ⟨(Nat.le_of_ble_eq_true rfl), (Nat.le_of_ble_eq_true rfl)⟩) g hK (by decide) (by decide) (fx' := [(5, 6, q1_, .int x_10), (2, 0, a0_, .ref q0_), (2, 1, a0_, .ref q1_), (2, 2, a0_, .ref q2_), (2, 3, a0_, .ref q3_), (0, 0, q2_, .ref q0_), (0, 1, q2_, .ref q1_), (5, 0, q1_, .ref q3_), (5, 1, q1_, .ref q7_), (8, 8, q0_, .int y1_)]) rfl (fun fr_15 H locs hp hMr_15 g => ?_)
  have hF_16 := hp
  have hG_17 := dOK.frame hMr_15 go_.2.2.2.1 mq3_ kq3_ (by decide) (by decide) hG_13
  have hG_18 := eOK.frame hMr_15 go_.2.2.2.1 mq2_ kq2_ (by decide) (by decide) hG_14
  have g := g.more hF_16
  refine lv_goto (tgt := 120) hx hb dX2_readLet_52 (by decide) ?_
  refine lv_aload_n hx hb dX2_readLet_120 rfl (lv_at hl 3 rfl) ?_
  refine g_getk (C := RX2) (T := TX2) (N := 16) hx hb hts (mc_ inX2) hown hK g rfl 0 (by decide) rfl (hts _ (List.mem_cons_of_mem _ t_416)) (fun _ h9 => h9) 2 rfl dX2_readLet_121 ?_
  have kb_1201 : bd 1201 1201 (1201 : Int32) := ⟨by decide, by decide⟩
  have go_ := g
  refine g_callv (va_runV (As := []) (rest := []) ⟨hx, hb, hml, hown, hts⟩ (r_X8_next_2 l dC dI L kd tys fr_15 H.size g.2.2.2.1 q0_ mq0_ kq0_ 1201 kb_1201 (g.fcts [0] rfl)) (cwV 0 hts (gV_ t_1131 t_1103 t_1104 t_184 t_1105) rfl rfl rfl (by decide +kernel) ⟨(Nat.le_of_ble_eq_true rfl), (Nat.le_of_ble_eq_true rfl)⟩) (pre3V g hK mq0_ kq0_ (by decide) (q := (RX8, TX8, 10)) rfl) rfl rfl hl.1 rfl (lv_room (Nat.le_of_ble_eq_true rfl)) dX2_readLet_124 ⟨(Nat.le_of_ble_eq_true rfl), (Nat.le_of_ble_eq_true rfl)⟩) g hK (by decide) (by decide) (fx' := [(8, 6, q0_, .int 1201), (5, 6, q1_, .int x_10), (2, 0, a0_, .ref q0_), (2, 1, a0_, .ref q1_), (2, 2, a0_, .ref q2_), (2, 3, a0_, .ref q3_), (0, 0, q2_, .ref q0_), (0, 1, q2_, .ref q1_), (5, 0, q1_, .ref q3_), (5, 1, q1_, .ref q7_), (8, 8, q0_, .int y1_)]) rfl (fun fr_19 H locs hp hMr_19 g => ?_)
  have hG_20 := dOK.frame hMr_19 go_.2.2.2.1 mq3_ kq3_ (by decide) (by decide) hG_17
  have hG_21 := eOK.frame hMr_19 go_.2.2.2.1 mq2_ kq2_ (by decide) (by decide) hG_18
  refine lv_aload_n hx hb dX2_readLet_127 rfl (lv_at hl 3 rfl) ?_
  refine g_getk (C := RX2) (T := TX2) (N := 16) hx hb hts (mc_ inX2) hown hK g rfl 0 (by decide) rfl (hts _ (List.mem_cons_of_mem _ t_416)) (fun _ h9 => h9) 2 rfl dX2_readLet_128 ?_
  refine lv_bipush (v := 61) hx hb dX2_readLet_131 (by decide) ?_
  have go_ := g
  refine g_callv (va_runV (As := [.int 61]) (rest := []) ⟨hx, hb, hml, hown, hts⟩ (r_X8_take_2 l dC dI L kd tys fr_19 H.size g.2.2.2.1 q0_ mq0_ kq0_ 61 1201 kb_1201 y1_ by1_ (g.fcts [0, 10] rfl)) (cwV 1 hts (gV_ t_1098 t_1099 t_1100 t_184 t_1101) rfl rfl rfl (by decide +kernel) ⟨(Nat.le_of_ble_eq_true rfl), (Nat.le_of_ble_eq_true rfl)⟩) (pre3V g hK mq0_ kq0_ (by decide) (q := (RX8, TX8, 10)) rfl) rfl rfl hl.1 rfl (lv_room (Nat.le_of_ble_eq_true rfl)) dX2_readLet_133 ⟨(Nat.le_of_ble_eq_true rfl), (Nat.le_of_ble_eq_true rfl)⟩) g hK (by decide) (by decide) (fx' := [(5, 6, q1_, .int x_10), (2, 0, a0_, .ref q0_), (2, 1, a0_, .ref q1_), (2, 2, a0_, .ref q2_), (2, 3, a0_, .ref q3_), (0, 0, q2_, .ref q0_), (0, 1, q2_, .ref q1_), (5, 0, q1_, .ref q3_), (5, 1, q1_, .ref q7_), (8, 8, q0_, .int y1_)]) rfl (fun fr_22 H locs hp hMr_22 g => ?_)
  obtain ⟨x_23, h_24, hF_25⟩ := hp
  have hG_26 := dOK.frame hMr_22 go_.2.2.2.1 mq3_ kq3_ (by decide) (by decide) hG_20
  have hG_27 := eOK.frame hMr_22 go_.2.2.2.1 mq2_ kq2_ (by decide) (by decide) hG_21
  have g := g.more hF_25
  refine lv_aload_n hx hb dX2_readLet_136 rfl (lv_at hl 3 rfl) ?_
  refine g_getk (C := RX2) (T := TX2) (N := 16) hx hb hts (mc_ inX2) hown hK g rfl 3 (by decide) rfl (hts _ (List.mem_cons_of_mem _ t_419)) (fun _ h9 => h9) 5 rfl dX2_readLet_137 ?_
  refine lv_bipush (v := 14) hx hb dX2_readLet_140 (by decide) ?_
  refine lv_iconst (v := 3) hx hb dX2_readLet_142 (by decide) ?_
  refine lv_iload hx hb dX2_readLet_143 (lv_at hl 0 rfl) ?_
  have kb_3 : bd 3 3 (3 : Int32) := ⟨by decide, by decide⟩
  refine lv_iadd hx hb dX2_readLet_145 ?_
  refine lv_topi (fun y_28 ey_28 => ?_)
  have ty_28 := add_bd ey_28 kb_3 bx_10 (by decide)
  have b_29 : bd 3 11 y_28 := add_rg ty_28 kb_3 bx_10 (by decide)
  obtain ⟨a_30, ma_30, ka_30, g⟩ := g_factr g mq3_ kq3_ (by decide) 4 rfl
  obtain ⟨a_31, ma_31, ka_31, g⟩ := g_factr g mq3_ kq3_ (by decide) 5 rfl
  obtain ⟨x_32, bx_32, g⟩ := g_facti g mq3_ kq3_ (by decide) 6 rfl
  have go_ := g
  refine g_callv (va_runV (As := [.int 14, .int y_28]) (rest := []) ⟨hx, hb, hml, hown, hts⟩ (r_X7_emitF l dC dI L kd tys fr_22 H.size g.2.2.2.1 q3_ mq3_ kq3_ a_30 ma_30 ka_30 a_31 ma_31 ka_31 x_32 bx_32 T_ hG_26 (14 : Int32) y_28 (g.fcts [2, 1, 0] rfl)) (cwV 2 hts (gV_ t_1301 t_1204 t_1205 t_191 t_1206) rfl rfl rfl (by decide +kernel) ⟨(Nat.le_of_ble_eq_true rfl), (Nat.le_of_ble_eq_true rfl)⟩) (pre3V g hK mq3_ kq3_ (by decide) (q := (RX7, TX7, 19)) rfl) rfl rfl hl.1 rfl (lv_room (Nat.le_of_ble_eq_true rfl)) dX2_readLet_146 ⟨(Nat.le_of_ble_eq_true rfl), (Nat.le_of_ble_eq_true rfl)⟩) g hK (by decide) (by decide) (fx' := [(7, 5, q3_, .ref a_31), (7, 4, q3_, .ref a_30), (8, 6, q0_, .int x_23), (5, 6, q1_, .int x_10), (2, 0, a0_, .ref q0_), (2, 1, a0_, .ref q1_), (2, 2, a0_, .ref q2_), (2, 3, a0_, .ref q3_), (0, 0, q2_, .ref q0_), (0, 1, q2_, .ref q1_), (5, 0, q1_, .ref q3_), (5, 1, q1_, .ref q7_), (8, 8, q0_, .int y1_)]) rfl (fun fr_33 H locs hp hMr_33 g => ?_)
  obtain ⟨hG_34, x_35, h_36, hF_37⟩ := hp
  have hG_38 := eOK.frame hMr_33 go_.2.2.2.1 mq2_ kq2_ (by decide) (by decide) hG_27
  have g := g.more hF_37
  refine lv_aload_n hx hb dX2_readLet_149 rfl (lv_at hl 3 rfl) ?_
  refine g_getk (C := RX2) (T := TX2) (N := 16) hx hb hts (mc_ inX2) hown hK g rfl 2 (by decide) rfl (hts _ (List.mem_cons_of_mem _ t_418)) (fun _ h9 => h9) 7 rfl dX2_readLet_150 ?_
  have go_ := g
  refine g_callv (va_runV (As := []) (rest := []) ⟨hx, hb, hml, hown, hts⟩ (r_X0_read_2 l dC dI L kd tys fr_33 H.size g.2.2.2.1 q2_ mq2_ kq2_ q0_ mq0_ kq0_ q1_ mq1_ kq1_ q3_ mq3_ kq3_ q7_ mq7_ kq7_ x_23 h_24 y1_ by1_ T_ hG_38 hG_34 (g.fcts [9, 10, 11, 12, 3, 13] rfl)) (cwV 0 hts (gV_ t_1182 t_1183 t_1184 t_190 t_1185) rfl rfl rfl (by decide +kernel) ⟨(Nat.le_of_ble_eq_true rfl), (Nat.le_of_ble_eq_true rfl)⟩) (pre3V g hK mq2_ kq2_ (by decide) (q := (RX0, TX0, 14)) rfl) rfl rfl hl.1 rfl (lv_room (Nat.le_of_ble_eq_true rfl)) dX2_readLet_153 ⟨(Nat.le_of_ble_eq_true rfl), (Nat.le_of_ble_eq_true rfl)⟩) g hK (by decide) (by decide) (fx' := [(7, 6, q3_, .int x_35), (7, 5, q3_, .ref a_31), (7, 4, q3_, .ref a_30), (8, 6, q0_, .int x_23), (5, 6, q1_, .int x_10), (2, 0, a0_, .ref q0_), (2, 1, a0_, .ref q1_), (2, 2, a0_, .ref q2_), (2, 3, a0_, .ref q3_), (0, 0, q2_, .ref q0_), (0, 1, q2_, .ref q1_), (5, 0, q1_, .ref q3_), (5, 1, q1_, .ref q7_), (8, 8, q0_, .int y1_)]) rfl (fun fr_39 H locs hp hMr_39 g => ?_)
  have hF_40 := hp
  have hG_41 := dOK.frame hMr_39 go_.2.2.2.1 mq3_ kq3_ (by decide) (by decide) hG_34
  have hG_42 := eOK.frame hMr_39 go_.2.2.2.1 mq2_ kq2_ (by decide) (by decide) hG_38
  have g := g.more hF_40
  refine lv_aload_n hx hb dX2_readLet_156 rfl (lv_at hl 3 rfl) ?_
  refine g_getk (C := RX2) (T := TX2) (N := 16) hx hb hts (mc_ inX2) hown hK g rfl 3 (by decide) rfl (hts _ (List.mem_cons_of_mem _ t_419)) (fun _ h9 => h9) 14 rfl dX2_readLet_157 ?_
  refine lv_bipush (v := 20) hx hb dX2_readLet_160 (by decide) ?_
  refine lv_iconst (v := 3) hx hb dX2_readLet_162 (by decide) ?_
  refine lv_iload hx hb dX2_readLet_163 (lv_at hl 0 rfl) ?_
  refine lv_iadd hx hb dX2_readLet_165 ?_
  refine lv_topi (fun y_43 ey_43 => ?_)
  obtain rfl : y_28 = y_43 := ey_28.trans ey_43.symm
  have go_ := g
  refine g_callv (va_runV (As := [.int 20, .int y_28]) (rest := []) ⟨hx, hb, hml, hown, hts⟩ (r_X7_emitF l dC dI L kd tys fr_39 H.size g.2.2.2.1 q3_ mq3_ kq3_ a_30 ma_30 ka_30 a_31 ma_31 ka_31 x_35 h_36 T_ hG_41 (20 : Int32) y_28 (g.fcts [8, 7, 6] rfl)) (cwV 2 hts (gV_ t_1301 t_1204 t_1205 t_191 t_1206) rfl rfl rfl (by decide +kernel) ⟨(Nat.le_of_ble_eq_true rfl), (Nat.le_of_ble_eq_true rfl)⟩) (pre3V g hK mq3_ kq3_ (by decide) (q := (RX7, TX7, 19)) rfl) rfl rfl hl.1 rfl (lv_room (Nat.le_of_ble_eq_true rfl)) dX2_readLet_166 ⟨(Nat.le_of_ble_eq_true rfl), (Nat.le_of_ble_eq_true rfl)⟩) g hK (by decide) (by decide) (fx' := [(0, 13, q2_, .int 0), (0, 12, q2_, .int 1), (0, 11, q2_, .int 0), (0, 10, q2_, .int 0), (0, 8, q2_, .int 0), (0, 2, q2_, .ref q3_), (7, 5, q3_, .ref a_31), (7, 4, q3_, .ref a_30), (8, 6, q0_, .int x_23), (5, 6, q1_, .int x_10), (2, 0, a0_, .ref q0_), (2, 1, a0_, .ref q1_), (2, 2, a0_, .ref q2_), (2, 3, a0_, .ref q3_), (0, 0, q2_, .ref q0_), (0, 1, q2_, .ref q1_), (5, 0, q1_, .ref q3_), (5, 1, q1_, .ref q7_), (8, 8, q0_, .int y1_)]) rfl (fun fr_44 H locs hp hMr_44 g => ?_)
  obtain ⟨hG_45, x_46, h_47, hF_48⟩ := hp
  have hG_49 := eOK.frame hMr_44 go_.2.2.2.1 mq2_ kq2_ (by decide) (by decide) hG_42
  have g := g.more hF_48
  refine lv_aload_n hx hb dX2_readLet_169 rfl (lv_at hl 3 rfl) ?_
  refine g_getk (C := RX2) (T := TX2) (N := 16) hx hb hts (mc_ inX2) hown hK g rfl 0 (by decide) rfl (hts _ (List.mem_cons_of_mem _ t_416)) (fun _ h9 => h9) 11 rfl dX2_readLet_170 ?_
  refine lv_bipush (v := 59) hx hb dX2_readLet_173 (by decide) ?_
  have go_ := g
  refine g_callv (va_runV (As := [.int 59]) (rest := []) ⟨hx, hb, hml, hown, hts⟩ (r_X8_take_2 l dC dI L kd tys fr_44 H.size g.2.2.2.1 q0_ mq0_ kq0_ 59 x_23 h_24 y1_ by1_ (g.fcts [9, 19] rfl)) (cwV 1 hts (gV_ t_1098 t_1099 t_1100 t_184 t_1101) rfl rfl rfl (by decide +kernel) ⟨(Nat.le_of_ble_eq_true rfl), (Nat.le_of_ble_eq_true rfl)⟩) (pre3V g hK mq0_ kq0_ (by decide) (q := (RX8, TX8, 10)) rfl) rfl rfl hl.1 rfl (lv_room (Nat.le_of_ble_eq_true rfl)) dX2_readLet_175 ⟨(Nat.le_of_ble_eq_true rfl), (Nat.le_of_ble_eq_true rfl)⟩) g hK (by decide) (by decide) (fx' := [(7, 6, q3_, .int x_46), (0, 13, q2_, .int 0), (0, 12, q2_, .int 1), (0, 11, q2_, .int 0), (0, 10, q2_, .int 0), (0, 8, q2_, .int 0), (0, 2, q2_, .ref q3_), (7, 5, q3_, .ref a_31), (7, 4, q3_, .ref a_30), (5, 6, q1_, .int x_10), (2, 0, a0_, .ref q0_), (2, 1, a0_, .ref q1_), (2, 2, a0_, .ref q2_), (2, 3, a0_, .ref q3_), (0, 0, q2_, .ref q0_), (0, 1, q2_, .ref q1_), (5, 0, q1_, .ref q3_), (5, 1, q1_, .ref q7_), (8, 8, q0_, .int y1_)]) rfl (fun fr_50 H locs hp hMr_50 g => ?_)
  obtain ⟨x_51, h_52, hF_53⟩ := hp
  have hG_54 := dOK.frame hMr_50 go_.2.2.2.1 mq3_ kq3_ (by decide) (by decide) hG_45
  have hG_55 := eOK.frame hMr_50 go_.2.2.2.1 mq2_ kq2_ (by decide) (by decide) hG_49
  have g := g.more hF_53
  subst hQ
  exact W.vret hx hb hr (fun t ht hW => ⟨⟨_, rfl, ⟨hG_54, x_51, h_52, (g.fcts [0, 2, 3, 4, 5, 6, 7] rfl)⟩, q3_of g hK ht hW⟩, g.2.2.1.F ht⟩) g.2.2.1.2.2 dX2_readLet_178
set_option maxHeartbeats 4000000 in
set_option maxRecDepth 100000 in
theorem r_X2_openBlock_2 (l : Launch) (dC : Nat → ClassId) (dI : Nat → Nat → Nat) (L : List Nat) (kd : Nat → Nat) (tys : List (ClassId × FieldType)) (f0 : Nat → va_E) (sz : Nat) (hWT : WT L kd tys f0) (a0_ : Nat) (ma0_ : a0_ ∈ L) (ka0_ : kd a0_ = 2) (x1_ : Int32) (x2_ : Int32) (x3_ : Int32) (q0_ : Nat) (mq0_ : q0_ ∈ L) (kq0_ : kd q0_ = 8) (q1_ : Nat) (mq1_ : q1_ ∈ L) (kq1_ : kd q1_ = 7) (y0_ : Int32) (by0_ : bd 1201 1201 y0_) (y1_ : Int32) (by1_ : bd 1 7 y1_) (hfx : Fs L kd f0 [(2, 0, a0_, .ref q0_), (2, 3, a0_, .ref q1_), (8, 6, q0_, .int y0_), (8, 8, q0_, .int y1_)]) : Met l yX2_openBlock (.code yX2_openBlock cX2_openBlock 4 none :: lw_g) ({ frames := 1, cells := 0, slots := 0, locals := 23 }) (va_Pc [.ref a0_, .int x1_, .int x2_, .int x3_] (P3 (dC, dI) L tys f0 sz)) (va_Qv (fun (f : Nat → va_E) => (Fs L kd f [(8, 6, q0_, .int 1201)])) (Q3 (dC, dI) L kd tys [(8, 6)] [] f0 sz) (pA L sz)) 0 0 (pA L sz) := by
  refine Met.ofW (cc := cX2_openBlock) (maxL := 4) (ret := none) (by decide) rfl ?_
  intro p e s m args below meth c s₁ B hml hv
  obtain ⟨rfl, hsz, hP, hK, hD0⟩ := hv
  have hx := B.exec
  have hb := B.bytes
  have hr := B.returns
  have hts := atoms_spec (ws := (.code yX2_openBlock cX2_openBlock 4 none :: lw_g)) B.pre
  have hown : s.vm.findClass RX2 = some m.cls := findClass_of_methodNamed B.named
  have hlocks := B.notSynchronized
  subst hsz
  have g : G3 (dC, dI) L kd tys s f0 [(8, 6)] [] f0 s.heap [] [(2, 0, a0_, .ref q0_), (2, 3, a0_, .ref q1_), (8, 6, q0_, .int y0_), (8, 8, q0_, .int y1_)] := G3.start hP hD0 hWT hfx
  have hl := lv_entry ([.ref a0_, .int x1_, .int x2_, .int x3_]) (n := 4) (Nat.le_of_ble_eq_true rfl)
  rw [lg_entry_eq]
  generalize (lg_sl ([.ref a0_, .int x1_, .int x2_, .int x3_]) ++ List.replicate (4 - (lg_sl ([.ref a0_, .int x1_, .int x2_, .int x3_])).length) Slot.unset).toArray = ls at hl ⊢
  have hl : lv_has ls 4 [(0, .ref a0_), (1, .int x1_), (2, .int x2_), (3, .int x3_)] := hl
  refine W_q (fun Q hQ => ?_)
  refine lv_aload_n hx hb dX2_openBlock_0 rfl (lv_at hl 0 rfl) ?_
  refine g_getk (C := RX2) (T := TX2) (N := 16) hx hb hts (mc_ inX2) hown hK g rfl 0 (by decide) rfl (hts _ (List.mem_cons_of_mem _ t_416)) (fun _ h9 => h9) 0 rfl dX2_openBlock_1 ?_
  refine g_calli (va_runV (As := []) (rest := []) ⟨hx, hb, hml, hown, hts⟩ (r_X8_kind_2 l dC dI L kd tys f0 s.heap.size g.2.2.2.1 q0_ mq0_ kq0_ y0_ by0_ (g.fcts [2] rfl)) (cwV 0 hts (gV_ t_1118 t_1119 t_1120 t_184 t_1121) rfl rfl rfl (by decide +kernel) ⟨(Nat.le_of_ble_eq_true rfl), (Nat.le_of_ble_eq_true rfl)⟩) (pre3V g hK mq0_ kq0_ (by decide) (q := (RX8, TX8, 10)) rfl) rfl rfl hl.1 rfl (lv_room (Nat.le_of_ble_eq_true rfl)) dX2_openBlock_4 ⟨(Nat.le_of_ble_eq_true rfl), (Nat.le_of_ble_eq_true rfl)⟩) g hK (by decide) (by decide) (fx' := [(2, 0, a0_, .ref q0_), (2, 3, a0_, .ref q1_), (8, 6, q0_, .int y0_), (8, 8, q0_, .int y1_)]) rfl (fun r_1 fr_1 H locs hp hMr_1 g => ?_)
  obtain ⟨h_2, -⟩ := hp
  obtain rfl : r_1 = 0 := h_2
  refine lv_bipush (v := 123) hx hb dX2_openBlock_7 (by decide) ?_
  refine lv_icmp_eq (tgt := 30) hx hb dX2_openBlock_9 (by decide) (fun c_ => absurd c_ (by decide)) (fun c_ => ?_)
  refine lv_aload_n hx hb dX2_openBlock_12 rfl (lv_at hl 0 rfl) ?_
  refine g_getk (C := RX2) (T := TX2) (N := 16) hx hb hts (mc_ inX2) hown hK g rfl 0 (by decide) rfl (hts _ (List.mem_cons_of_mem _ t_416)) (fun _ h9 => h9) 0 rfl dX2_openBlock_13 ?_
  refine lv_iconst (v := 1) hx hb dX2_openBlock_16 (by decide) ?_
  refine lv_aload_n hx hb dX2_openBlock_17 rfl (lv_at hl 0 rfl) ?_
  refine g_getk (C := RX2) (T := TX2) (N := 16) hx hb hts (mc_ inX2) hown hK g rfl 0 (by decide) rfl (hts _ (List.mem_cons_of_mem _ t_416)) (fun _ h9 => h9) 0 rfl dX2_openBlock_18 ?_
  refine g_calli (va_runV (As := []) (rest := [.int 1, .ref q0_]) ⟨hx, hb, hml, hown, hts⟩ (r_X8_place l dC dI L kd tys fr_1 H.size g.2.2.2.1 q0_ mq0_ kq0_) (cwV 0 hts (gV_ t_1110 t_1111 t_1112 t_184 t_1113) rfl rfl rfl (by decide +kernel) ⟨(Nat.le_of_ble_eq_true rfl), (Nat.le_of_ble_eq_true rfl)⟩) (pre3V g hK mq0_ kq0_ (by decide) (q := (RX8, TX8, 10)) rfl) rfl rfl hl.1 rfl (lv_room (Nat.le_of_ble_eq_true rfl)) dX2_openBlock_21 ⟨(Nat.le_of_ble_eq_true rfl), (Nat.le_of_ble_eq_true rfl)⟩) g hK (by decide) (by decide) (fx' := [(2, 0, a0_, .ref q0_), (2, 3, a0_, .ref q1_), (8, 6, q0_, .int y0_), (8, 8, q0_, .int y1_)]) rfl (fun r_3 fr_3 H locs hp hMr_3 g => ?_)
  have kb_1 : bd 1 1 (1 : Int32) := ⟨by decide, by decide⟩
  refine g_callv (va_runV (As := [.int 1, .int r_3]) (rest := []) ⟨hx, hb, hml, hown, hts⟩ (r_X8_fail_2 l dC dI L kd tys fr_3 H.size g.2.2.2.1 q0_ mq0_ kq0_ 1 (bd_sub kb_1 (by decide)) r_3 y1_ by1_ (g.fcts [3] rfl)) (cwV 2 hts (gV_ t_1122 t_1107 t_1108 t_184 t_1109) rfl rfl rfl (by decide +kernel) ⟨(Nat.le_of_ble_eq_true rfl), (Nat.le_of_ble_eq_true rfl)⟩) (pre3V g hK mq0_ kq0_ (by decide) (q := (RX8, TX8, 10)) rfl) rfl rfl hl.1 rfl (lv_room (Nat.le_of_ble_eq_true rfl)) dX2_openBlock_24 ⟨(Nat.le_of_ble_eq_true rfl), (Nat.le_of_ble_eq_true rfl)⟩) g hK (by decide) (by decide) (fx' := [(2, 0, a0_, .ref q0_), (2, 3, a0_, .ref q1_), (8, 8, q0_, .int y1_)]) rfl (fun fr_4 H locs hp hMr_4 g => ?_)
  have hF_5 := hp
  have g := g.more hF_5
  refine lv_goto (tgt := 120) hx hb dX2_openBlock_27 (by decide) ?_
  subst hQ
  exact W.vret hx hb hr (fun t ht hW => ⟨⟨_, rfl, (g.fcts [0] rfl), q3_of g hK ht hW⟩, g.2.2.1.F ht⟩) g.2.2.1.2.2 dX2_openBlock_120
set_option maxHeartbeats 4000000 in
set_option maxRecDepth 100000 in
theorem r_X2_readTest (l : Launch) (dC : Nat → ClassId) (dI : Nat → Nat → Nat) (L : List Nat) (kd : Nat → Nat) (tys : List (ClassId × FieldType)) (f0 : Nat → va_E) (sz : Nat) (hWT : WT L kd tys f0) (a0_ : Nat) (ma0_ : a0_ ∈ L) (ka0_ : kd a0_ = 2) (x1_ : Int32) (q0_ : Nat) (mq0_ : q0_ ∈ L) (kq0_ : kd q0_ = 8) (q1_ : Nat) (mq1_ : q1_ ∈ L) (kq1_ : kd q1_ = 5) (q2_ : Nat) (mq2_ : q2_ ∈ L) (kq2_ : kd q2_ = 0) (q3_ : Nat) (mq3_ : q3_ ∈ L) (kq3_ : kd q3_ = 7) (q7_ : Nat) (mq7_ : q7_ ∈ L) (kq7_ : kd q7_ = 9) (y0_ : Int32) (by0_ : bd 1201 1201 y0_) (y1_ : Int32) (by1_ : bd 1 7 y1_) (T_ : Nat) (hGdq3_ : dOK L kd f0 q3_ T_) (hGeq2_ : eOK f0 q2_) (hfx : Fs L kd f0 [(2, 0, a0_, .ref q0_), (2, 1, a0_, .ref q1_), (2, 2, a0_, .ref q2_), (2, 3, a0_, .ref q3_), (0, 0, q2_, .ref q0_), (0, 1, q2_, .ref q1_), (5, 0, q1_, .ref q3_), (5, 1, q1_, .ref q7_), (8, 6, q0_, .int y0_), (8, 8, q0_, .int y1_)]) : Met l yX2_readTest (.code yX2_readTest cX2_readTest 4 none :: lw_g) ({ frames := 2, cells := 0, slots := 0, locals := 46 }) (va_Pc [.ref a0_, .int x1_] (P3 (dC, dI) L tys f0 sz)) (va_Qv (fun (f : Nat → va_E) => (dOK L kd f q3_ T_ ∧ Fs L kd f [(8, 6, q0_, .int 1201), (0, 13, q2_, .int 0), (0, 12, q2_, .int 1), (0, 11, q2_, .int 0), (0, 10, q2_, .int 0), (0, 8, q2_, .int 0), (0, 2, q2_, .ref q3_)])) (Q3 (dC, dI) L kd tys [(0, 2), (0, 8), (0, 10), (0, 11), (0, 12), (0, 13), (7, 6), (8, 6)] [138, 139] f0 sz) (pA L sz)) 0 0 (pA L sz) := by
  refine Met.ofW (cc := cX2_readTest) (maxL := 4) (ret := none) (by decide) rfl ?_
  intro p e s m args below meth c s₁ B hml hv
  obtain ⟨rfl, hsz, hP, hK, hD0⟩ := hv
  have hx := B.exec
  have hb := B.bytes
  have hr := B.returns
  have hts := atoms_spec (ws := (.code yX2_readTest cX2_readTest 4 none :: lw_g)) B.pre
  have hown : s.vm.findClass RX2 = some m.cls := findClass_of_methodNamed B.named
  have hlocks := B.notSynchronized
  subst hsz
  have g : G3 (dC, dI) L kd tys s f0 [(0, 2), (0, 8), (0, 10), (0, 11), (0, 12), (0, 13), (7, 6), (8, 6)] [138, 139] f0 s.heap [] [(2, 0, a0_, .ref q0_), (2, 1, a0_, .ref q1_), (2, 2, a0_, .ref q2_), (2, 3, a0_, .ref q3_), (0, 0, q2_, .ref q0_), (0, 1, q2_, .ref q1_), (5, 0, q1_, .ref q3_), (5, 1, q1_, .ref q7_), (8, 6, q0_, .int y0_), (8, 8, q0_, .int y1_)] := G3.start hP hD0 hWT hfx
  have hl := lv_entry ([.ref a0_, .int x1_]) (n := 4) (Nat.le_of_ble_eq_true rfl)
  rw [lg_entry_eq]
  generalize (lg_sl ([.ref a0_, .int x1_]) ++ List.replicate (4 - (lg_sl ([.ref a0_, .int x1_])).length) Slot.unset).toArray = ls at hl ⊢
  have hl : lv_has ls 4 [(0, .ref a0_), (1, .int x1_)] := hl
  refine W_q (fun Q hQ => ?_)
  refine lv_aload_n hx hb dX2_readTest_0 rfl (lv_at hl 0 rfl) ?_
  refine g_getk (C := RX2) (T := TX2) (N := 16) hx hb hts (mc_ inX2) hown hK g rfl 0 (by decide) rfl (hts _ (List.mem_cons_of_mem _ t_416)) (fun _ h9 => h9) 0 rfl dX2_readTest_1 ?_
  have go_ := g
  refine g_callv (va_runV (As := []) (rest := []) ⟨hx, hb, hml, hown, hts⟩ (r_X8_next_2 l dC dI L kd tys f0 s.heap.size g.2.2.2.1 q0_ mq0_ kq0_ y0_ by0_ (g.fcts [8] rfl)) (cwV 0 hts (gV_ t_1131 t_1103 t_1104 t_184 t_1105) rfl rfl rfl (by decide +kernel) ⟨(Nat.le_of_ble_eq_true rfl), (Nat.le_of_ble_eq_true rfl)⟩) (pre3V g hK mq0_ kq0_ (by decide) (q := (RX8, TX8, 10)) rfl) rfl rfl hl.1 rfl (lv_room (Nat.le_of_ble_eq_true rfl)) dX2_readTest_4 ⟨(Nat.le_of_ble_eq_true rfl), (Nat.le_of_ble_eq_true rfl)⟩) g hK (by decide) (by decide) (fx' := [(2, 0, a0_, .ref q0_), (2, 1, a0_, .ref q1_), (2, 2, a0_, .ref q2_), (2, 3, a0_, .ref q3_), (0, 0, q2_, .ref q0_), (0, 1, q2_, .ref q1_), (5, 0, q1_, .ref q3_), (5, 1, q1_, .ref q7_), (8, 6, q0_, .int y0_), (8, 8, q0_, .int y1_)]) rfl (fun fr_1 H locs hp hMr_1 g => ?_)
  have hG_2 := dOK.frame hMr_1 go_.2.2.2.1 mq3_ kq3_ (by decide) (by decide) hGdq3_
  have hG_3 := eOK.frame hMr_1 go_.2.2.2.1 mq2_ kq2_ (by decide) (by decide) hGeq2_
  refine lv_aload_n hx hb dX2_readTest_7 rfl (lv_at hl 0 rfl) ?_
  refine g_getk (C := RX2) (T := TX2) (N := 16) hx hb hts (mc_ inX2) hown hK g rfl 3 (by decide) rfl (hts _ (List.mem_cons_of_mem _ t_419)) (fun _ h9 => h9) 3 rfl dX2_readTest_8 ?_
  refine g_geti (C := RX7) (T := TX7) (N := 19) hx hb hts (mc_ inX7) hown hK g mq3_ kq3_ (by decide) rfl 6 (by decide) rfl (hts _ (List.mem_cons_of_mem _ t_647)) (fun _ h9 => h9) rfl dX2_readTest_11 (fun x_4 bx_4 g => ?_)
  refine lv_istore_n (lv' := [(2, .int x_4), (0, .ref a0_), (1, .int x1_)]) hx hb dX2_readTest_14 rfl hl (by decide) rfl (fun ls hl => ?_)
  refine lv_iload_n hx hb dX2_readTest_15 rfl (lv_at hl 2 rfl) ?_
  refine lv_bipush (v := 25) hx hb dX2_readTest_16 (by decide) ?_
  have kb_25 : bd 25 25 (25 : Int32) := ⟨by decide, by decide⟩
  refine lv_icmp_ne (tgt := 31) hx hb dX2_readTest_18 (by decide) (fun c_5 => ?_) (fun c_5 => ?_)
  · have fc_5 := neq_f c_5
    refine lv_aload_n hx hb dX2_readTest_31 rfl (lv_at hl 1 rfl) ?_
    refine g_getk (C := RX2) (T := TX2) (N := 16) hx hb hts (mc_ inX2) hown hK g rfl 2 (by decide) rfl (hts _ (List.mem_cons_of_mem _ t_418)) (fun _ h9 => h9) 3 rfl dX2_readTest_32 ?_
    have go_ := g
    refine g_callv (va_runV (As := []) (rest := []) ⟨hx, hb, hml, hown, hts⟩ (r_X0_read_2 l dC dI L kd tys fr_1 H.size g.2.2.2.1 q2_ mq2_ kq2_ q0_ mq0_ kq0_ q1_ mq1_ kq1_ q3_ mq3_ kq3_ q7_ mq7_ kq7_ y0_ by0_ y1_ by1_ T_ hG_3 hG_2 (g.fcts [5, 6, 7, 8, 9, 10] rfl)) (cwV 0 hts (gV_ t_1182 t_1183 t_1184 t_190 t_1185) rfl rfl rfl (by decide +kernel) ⟨(Nat.le_of_ble_eq_true rfl), (Nat.le_of_ble_eq_true rfl)⟩) (pre3V g hK mq2_ kq2_ (by decide) (q := (RX0, TX0, 14)) rfl) rfl rfl hl.1 rfl (lv_room (Nat.le_of_ble_eq_true rfl)) dX2_readTest_35 ⟨(Nat.le_of_ble_eq_true rfl), (Nat.le_of_ble_eq_true rfl)⟩) g hK (by decide) (by decide) (fx' := [(7, 6, q3_, .int x_4), (2, 0, a0_, .ref q0_), (2, 1, a0_, .ref q1_), (2, 2, a0_, .ref q2_), (2, 3, a0_, .ref q3_), (0, 0, q2_, .ref q0_), (0, 1, q2_, .ref q1_), (5, 0, q1_, .ref q3_), (5, 1, q1_, .ref q7_), (8, 6, q0_, .int y0_), (8, 8, q0_, .int y1_)]) rfl (fun fr_6 H locs hp hMr_6 g => ?_)
    have hF_7 := hp
    have hG_8 := dOK.frame hMr_6 go_.2.2.2.1 mq3_ kq3_ (by decide) (by decide) hG_2
    have hG_9 := eOK.frame hMr_6 go_.2.2.2.1 mq2_ kq2_ (by decide) (by decide) hG_3
    have g := g.more hF_7
    refine lv_aload_n hx hb dX2_readTest_38 rfl (lv_at hl 1 rfl) ?_
    refine g_getk (C := RX2) (T := TX2) (N := 16) hx hb hts (mc_ inX2) hown hK g rfl 3 (by decide) rfl (hts _ (List.mem_cons_of_mem _ t_419)) (fun _ h9 => h9) 10 rfl dX2_readTest_39 ?_
    refine g_getk (C := RX7) (T := TX7) (N := 19) hx hb hts (mc_ inX7) hown hK g rfl 6 (by decide) rfl (hts _ (List.mem_cons_of_mem _ t_647)) (fun _ h9 => h9) 6 rfl dX2_readTest_42 ?_
    refine lv_istore_n (lv' := [(3, .int x_4), (2, .int x_4), (0, .ref a0_), (1, .int x1_)]) hx hb dX2_readTest_45 rfl hl (by decide) rfl (fun ls hl => ?_)
    refine lv_aload_n hx hb dX2_readTest_46 rfl (lv_at hl 2 rfl) ?_
    refine g_getk (C := RX2) (T := TX2) (N := 16) hx hb hts (mc_ inX2) hown hK g rfl 3 (by decide) rfl (hts _ (List.mem_cons_of_mem _ t_419)) (fun _ h9 => h9) 10 rfl dX2_readTest_47 ?_
    refine lv_bipush (v := 23) hx hb dX2_readTest_50 (by decide) ?_
    refine lv_iconst (v := 0) hx hb dX2_readTest_52 (by decide) ?_
    obtain ⟨a_10, ma_10, ka_10, g⟩ := g_factr g mq3_ kq3_ (by decide) 4 rfl
    obtain ⟨a_11, ma_11, ka_11, g⟩ := g_factr g mq3_ kq3_ (by decide) 5 rfl
    have go_ := g
    refine g_callv (va_runV (As := [.int 23, .int 0]) (rest := []) ⟨hx, hb, hml, hown, hts⟩ (r_X7_emitF l dC dI L kd tys fr_6 H.size g.2.2.2.1 q3_ mq3_ kq3_ a_10 ma_10 ka_10 a_11 ma_11 ka_11 x_4 bx_4 T_ hG_8 (23 : Int32) (0 : Int32) (g.fcts [1, 0, 8] rfl)) (cwV 2 hts (gV_ t_1301 t_1204 t_1205 t_191 t_1206) rfl rfl rfl (by decide +kernel) ⟨(Nat.le_of_ble_eq_true rfl), (Nat.le_of_ble_eq_true rfl)⟩) (pre3V g hK mq3_ kq3_ (by decide) (q := (RX7, TX7, 19)) rfl) rfl rfl hl.1 rfl (lv_room (Nat.le_of_ble_eq_true rfl)) dX2_readTest_53 ⟨(Nat.le_of_ble_eq_true rfl), (Nat.le_of_ble_eq_true rfl)⟩) g hK (by decide) (by decide) (fx' := [(7, 5, q3_, .ref a_11), (7, 4, q3_, .ref a_10), (0, 13, q2_, .int 0), (0, 12, q2_, .int 1), (0, 11, q2_, .int 0), (0, 10, q2_, .int 0), (0, 8, q2_, .int 0), (0, 2, q2_, .ref q3_), (2, 0, a0_, .ref q0_), (2, 1, a0_, .ref q1_), (2, 2, a0_, .ref q2_), (2, 3, a0_, .ref q3_), (0, 0, q2_, .ref q0_), (0, 1, q2_, .ref q1_), (5, 0, q1_, .ref q3_), (5, 1, q1_, .ref q7_), (8, 6, q0_, .int y0_), (8, 8, q0_, .int y1_)]) rfl (fun fr_12 H locs hp hMr_12 g => ?_)
    obtain ⟨hG_13, x_14, h_15, hF_16⟩ := hp
    have hG_17 := eOK.frame hMr_12 go_.2.2.2.1 mq2_ kq2_ (by decide) (by decide) hG_9
    have g := g.more hF_16
    refine lv_aload_n hx hb dX2_readTest_56 rfl (lv_at hl 2 rfl) ?_
    refine lv_iload_n hx hb dX2_readTest_57 rfl (lv_at hl 3 rfl) ?_
    refine lv_bipush (v := 25) hx hb dX2_readTest_58 (by decide) ?_
    refine lv_icmp_ne (tgt := 67) hx hb dX2_readTest_60 (by decide) (fun c_18 => ?_) (fun c_18 => ?_)
    · have fc_18 := neq_f c_18
      refine lv_iconst (v := 1) hx hb dX2_readTest_67 (by decide) ?_
      refine lv_iload_n hx hb dX2_readTest_68 rfl (lv_at hl 0 rfl) ?_
      refine lv_iload_n hx hb dX2_readTest_69 rfl (lv_at hl 1 rfl) ?_
      have go_ := g
      refine g_callv (va_runV (As := [.int 1, .int x_4, .int x_4]) (rest := []) ⟨hx, hb, hml, hown, hts⟩ (r_X2_openBlock_2 l dC dI L kd tys fr_12 H.size g.2.2.2.1 a0_ ma0_ ka0_ 1 x_4 x_4 q0_ mq0_ kq0_ q3_ mq3_ kq3_ y0_ by0_ y1_ by1_ (g.fcts [9, 12, 17, 18] rfl)) (cwV 3 hts (gV_ t_1338 t_1340 t_40 t_183 t_1341) rfl rfl rfl (by decide +kernel) ⟨(Nat.le_of_ble_eq_true rfl), (Nat.le_of_ble_eq_true rfl)⟩) (pre3V g hK ma0_ ka0_ (by decide) (q := (RX2, TX2, 16)) rfl) rfl rfl hl.1 rfl (lv_room (Nat.le_of_ble_eq_true rfl)) dX2_readTest_70 ⟨(Nat.le_of_ble_eq_true rfl), (Nat.le_of_ble_eq_true rfl)⟩) g hK (by decide) (by decide) (fx' := [(7, 6, q3_, .int x_14), (7, 5, q3_, .ref a_11), (7, 4, q3_, .ref a_10), (0, 13, q2_, .int 0), (0, 12, q2_, .int 1), (0, 11, q2_, .int 0), (0, 10, q2_, .int 0), (0, 8, q2_, .int 0), (0, 2, q2_, .ref q3_), (2, 0, a0_, .ref q0_), (2, 1, a0_, .ref q1_), (2, 2, a0_, .ref q2_), (2, 3, a0_, .ref q3_), (0, 0, q2_, .ref q0_), (0, 1, q2_, .ref q1_), (5, 0, q1_, .ref q3_), (5, 1, q1_, .ref q7_), (8, 8, q0_, .int y1_)]) rfl (fun fr_19 H locs hp hMr_19 g => ?_)
      have hF_20 := hp
      have hG_21 := dOK.frame hMr_19 go_.2.2.2.1 mq3_ kq3_ (by decide) (by decide) hG_13
      have hG_22 := eOK.frame hMr_19 go_.2.2.2.1 mq2_ kq2_ (by decide) (by decide) hG_17
      have g := g.more hF_20
      subst hQ
      exact W.vret hx hb hr (fun t ht hW => ⟨⟨_, rfl, ⟨hG_21, (g.fcts [0, 4, 5, 6, 7, 8, 9] rfl)⟩, q3_of g hK ht hW⟩, g.2.2.1.F ht⟩) g.2.2.1.2.2 dX2_readTest_73
    · have fc_18 := eq_f c_18
      exact absurd fc_18 fc_5
  · have fc_5 := eq_f c_5
    have b_23 : bd 25 25 x1_ := eqX fc_5 (bdT x1_) kb_25 (by decide)
    refine lv_aload_n hx hb dX2_readTest_21 rfl (lv_at hl 1 rfl) ?_
    refine g_getk (C := RX2) (T := TX2) (N := 16) hx hb hts (mc_ inX2) hown hK g rfl 3 (by decide) rfl (hts _ (List.mem_cons_of_mem _ t_419)) (fun _ h9 => h9) 4 rfl dX2_readTest_22 ?_
    refine lv_bipush (v := 13) hx hb dX2_readTest_25 (by decide) ?_
    refine lv_iconst (v := 0) hx hb dX2_readTest_27 (by decide) ?_
    obtain ⟨a_24, ma_24, ka_24, g⟩ := g_factr g mq3_ kq3_ (by decide) 4 rfl
    obtain ⟨a_25, ma_25, ka_25, g⟩ := g_factr g mq3_ kq3_ (by decide) 5 rfl
    have go_ := g
    refine g_callv (va_runV (As := [.int 13, .int 0]) (rest := []) ⟨hx, hb, hml, hown, hts⟩ (r_X7_emitF l dC dI L kd tys fr_1 H.size g.2.2.2.1 q3_ mq3_ kq3_ a_24 ma_24 ka_24 a_25 ma_25 ka_25 x_4 bx_4 T_ hG_2 (13 : Int32) (0 : Int32) (g.fcts [1, 0, 2] rfl)) (cwV 2 hts (gV_ t_1301 t_1204 t_1205 t_191 t_1206) rfl rfl rfl (by decide +kernel) ⟨(Nat.le_of_ble_eq_true rfl), (Nat.le_of_ble_eq_true rfl)⟩) (pre3V g hK mq3_ kq3_ (by decide) (q := (RX7, TX7, 19)) rfl) rfl rfl hl.1 rfl (lv_room (Nat.le_of_ble_eq_true rfl)) dX2_readTest_28 ⟨(Nat.le_of_ble_eq_true rfl), (Nat.le_of_ble_eq_true rfl)⟩) g hK (by decide) (by decide) (fx' := [(7, 5, q3_, .ref a_25), (7, 4, q3_, .ref a_24), (2, 0, a0_, .ref q0_), (2, 1, a0_, .ref q1_), (2, 2, a0_, .ref q2_), (2, 3, a0_, .ref q3_), (0, 0, q2_, .ref q0_), (0, 1, q2_, .ref q1_), (5, 0, q1_, .ref q3_), (5, 1, q1_, .ref q7_), (8, 6, q0_, .int y0_), (8, 8, q0_, .int y1_)]) rfl (fun fr_26 H locs hp hMr_26 g => ?_)
    obtain ⟨hG_27, x_28, h_29, hF_30⟩ := hp
    have hG_31 := eOK.frame hMr_26 go_.2.2.2.1 mq2_ kq2_ (by decide) (by decide) hG_3
    have g := g.more hF_30
    refine lv_aload_n hx hb dX2_readTest_31 rfl (lv_at hl 1 rfl) ?_
    refine g_getk (C := RX2) (T := TX2) (N := 16) hx hb hts (mc_ inX2) hown hK g rfl 2 (by decide) rfl (hts _ (List.mem_cons_of_mem _ t_418)) (fun _ h9 => h9) 5 rfl dX2_readTest_32 ?_
    have go_ := g
    refine g_callv (va_runV (As := []) (rest := []) ⟨hx, hb, hml, hown, hts⟩ (r_X0_read_2 l dC dI L kd tys fr_26 H.size g.2.2.2.1 q2_ mq2_ kq2_ q0_ mq0_ kq0_ q1_ mq1_ kq1_ q3_ mq3_ kq3_ q7_ mq7_ kq7_ y0_ by0_ y1_ by1_ T_ hG_31 hG_27 (g.fcts [7, 8, 9, 10, 11, 12] rfl)) (cwV 0 hts (gV_ t_1182 t_1183 t_1184 t_190 t_1185) rfl rfl rfl (by decide +kernel) ⟨(Nat.le_of_ble_eq_true rfl), (Nat.le_of_ble_eq_true rfl)⟩) (pre3V g hK mq2_ kq2_ (by decide) (q := (RX0, TX0, 14)) rfl) rfl rfl hl.1 rfl (lv_room (Nat.le_of_ble_eq_true rfl)) dX2_readTest_35 ⟨(Nat.le_of_ble_eq_true rfl), (Nat.le_of_ble_eq_true rfl)⟩) g hK (by decide) (by decide) (fx' := [(7, 6, q3_, .int x_28), (7, 5, q3_, .ref a_25), (7, 4, q3_, .ref a_24), (2, 0, a0_, .ref q0_), (2, 1, a0_, .ref q1_), (2, 2, a0_, .ref q2_), (2, 3, a0_, .ref q3_), (0, 0, q2_, .ref q0_), (0, 1, q2_, .ref q1_), (5, 0, q1_, .ref q3_), (5, 1, q1_, .ref q7_), (8, 6, q0_, .int y0_), (8, 8, q0_, .int y1_)]) rfl (fun fr_32 H locs hp hMr_32 g => ?_)
    have hF_33 := hp
    have hG_34 := dOK.frame hMr_32 go_.2.2.2.1 mq3_ kq3_ (by decide) (by decide) hG_27
    have hG_35 := eOK.frame hMr_32 go_.2.2.2.1 mq2_ kq2_ (by decide) (by decide) hG_31
    have g := g.more hF_33
    refine lv_aload_n hx hb dX2_readTest_38 rfl (lv_at hl 1 rfl) ?_
    refine g_getk (C := RX2) (T := TX2) (N := 16) hx hb hts (mc_ inX2) hown hK g rfl 3 (by decide) rfl (hts _ (List.mem_cons_of_mem _ t_419)) (fun _ h9 => h9) 12 rfl dX2_readTest_39 ?_
    refine g_getk (C := RX7) (T := TX7) (N := 19) hx hb hts (mc_ inX7) hown hK g rfl 6 (by decide) rfl (hts _ (List.mem_cons_of_mem _ t_647)) (fun _ h9 => h9) 6 rfl dX2_readTest_42 ?_
    refine lv_istore_n (lv' := [(3, .int x_28), (2, .int x_4), (0, .ref a0_), (1, .int x1_)]) hx hb dX2_readTest_45 rfl hl (by decide) rfl (fun ls hl => ?_)
    refine lv_aload_n hx hb dX2_readTest_46 rfl (lv_at hl 2 rfl) ?_
    refine g_getk (C := RX2) (T := TX2) (N := 16) hx hb hts (mc_ inX2) hown hK g rfl 3 (by decide) rfl (hts _ (List.mem_cons_of_mem _ t_419)) (fun _ h9 => h9) 12 rfl dX2_readTest_47 ?_
    refine lv_bipush (v := 23) hx hb dX2_readTest_50 (by decide) ?_
    refine lv_iconst (v := 0) hx hb dX2_readTest_52 (by decide) ?_
    have go_ := g
    refine g_callv (va_runV (As := [.int 23, .int 0]) (rest := []) ⟨hx, hb, hml, hown, hts⟩ (r_X7_emitF l dC dI L kd tys fr_32 H.size g.2.2.2.1 q3_ mq3_ kq3_ a_24 ma_24 ka_24 a_25 ma_25 ka_25 x_28 h_29 T_ hG_34 (23 : Int32) (0 : Int32) (g.fcts [8, 7, 6] rfl)) (cwV 2 hts (gV_ t_1301 t_1204 t_1205 t_191 t_1206) rfl rfl rfl (by decide +kernel) ⟨(Nat.le_of_ble_eq_true rfl), (Nat.le_of_ble_eq_true rfl)⟩) (pre3V g hK mq3_ kq3_ (by decide) (q := (RX7, TX7, 19)) rfl) rfl rfl hl.1 rfl (lv_room (Nat.le_of_ble_eq_true rfl)) dX2_readTest_53 ⟨(Nat.le_of_ble_eq_true rfl), (Nat.le_of_ble_eq_true rfl)⟩) g hK (by decide) (by decide) (fx' := [(0, 13, q2_, .int 0), (0, 12, q2_, .int 1), (0, 11, q2_, .int 0), (0, 10, q2_, .int 0), (0, 8, q2_, .int 0), (0, 2, q2_, .ref q3_), (7, 5, q3_, .ref a_25), (7, 4, q3_, .ref a_24), (2, 0, a0_, .ref q0_), (2, 1, a0_, .ref q1_), (2, 2, a0_, .ref q2_), (2, 3, a0_, .ref q3_), (0, 0, q2_, .ref q0_), (0, 1, q2_, .ref q1_), (5, 0, q1_, .ref q3_), (5, 1, q1_, .ref q7_), (8, 6, q0_, .int y0_), (8, 8, q0_, .int y1_)]) rfl (fun fr_36 H locs hp hMr_36 g => ?_)
    obtain ⟨hG_37, x_38, h_39, hF_40⟩ := hp
    have hG_41 := eOK.frame hMr_36 go_.2.2.2.1 mq2_ kq2_ (by decide) (by decide) hG_35
    have g := g.more hF_40
    refine lv_aload_n hx hb dX2_readTest_56 rfl (lv_at hl 2 rfl) ?_
    refine lv_iload_n hx hb dX2_readTest_57 rfl (lv_at hl 3 rfl) ?_
    refine lv_bipush (v := 25) hx hb dX2_readTest_58 (by decide) ?_
    refine lv_icmp_ne (tgt := 67) hx hb dX2_readTest_60 (by decide) (fun c_42 => ?_) (fun c_42 => ?_)
    · have fc_42 := neq_f c_42
      have b_43 : bd 26 24 x1_ := neX fc_42 b_23 kb_25 (by decide)
      exact bd_no b_43 (by decide)
    · have fc_42 := eq_f c_42
      refine lv_iconst (v := 3) hx hb dX2_readTest_63 (by decide) ?_
      refine lv_goto (tgt := 68) hx hb dX2_readTest_64 (by decide) ?_
      refine lv_iload_n hx hb dX2_readTest_68 rfl (lv_at hl 0 rfl) ?_
      refine lv_iload_n hx hb dX2_readTest_69 rfl (lv_at hl 1 rfl) ?_
      have go_ := g
      refine g_callv (va_runV (As := [.int 3, .int x_28, .int x_4]) (rest := []) ⟨hx, hb, hml, hown, hts⟩ (r_X2_openBlock_2 l dC dI L kd tys fr_36 H.size g.2.2.2.1 a0_ ma0_ ka0_ 3 x_28 x_4 q0_ mq0_ kq0_ q3_ mq3_ kq3_ y0_ by0_ y1_ by1_ (g.fcts [9, 12, 17, 18] rfl)) (cwV 3 hts (gV_ t_1338 t_1340 t_40 t_183 t_1341) rfl rfl rfl (by decide +kernel) ⟨(Nat.le_of_ble_eq_true rfl), (Nat.le_of_ble_eq_true rfl)⟩) (pre3V g hK ma0_ ka0_ (by decide) (q := (RX2, TX2, 16)) rfl) rfl rfl hl.1 rfl (lv_room (Nat.le_of_ble_eq_true rfl)) dX2_readTest_70 ⟨(Nat.le_of_ble_eq_true rfl), (Nat.le_of_ble_eq_true rfl)⟩) g hK (by decide) (by decide) (fx' := [(7, 6, q3_, .int x_38), (0, 13, q2_, .int 0), (0, 12, q2_, .int 1), (0, 11, q2_, .int 0), (0, 10, q2_, .int 0), (0, 8, q2_, .int 0), (0, 2, q2_, .ref q3_), (7, 5, q3_, .ref a_25), (7, 4, q3_, .ref a_24), (2, 0, a0_, .ref q0_), (2, 1, a0_, .ref q1_), (2, 2, a0_, .ref q2_), (2, 3, a0_, .ref q3_), (0, 0, q2_, .ref q0_), (0, 1, q2_, .ref q1_), (5, 0, q1_, .ref q3_), (5, 1, q1_, .ref q7_), (8, 8, q0_, .int y1_)]) rfl (fun fr_44 H locs hp hMr_44 g => ?_)
      have hF_45 := hp
      have hG_46 := dOK.frame hMr_44 go_.2.2.2.1 mq3_ kq3_ (by decide) (by decide) hG_37
      have hG_47 := eOK.frame hMr_44 go_.2.2.2.1 mq2_ kq2_ (by decide) (by decide) hG_41
      have g := g.more hF_45
      subst hQ
      exact W.vret hx hb hr (fun t ht hW => ⟨⟨_, rfl, ⟨hG_46, (g.fcts [0, 2, 3, 4, 5, 6, 7] rfl)⟩, q3_of g hK ht hW⟩, g.2.2.1.F ht⟩) g.2.2.1.2.2 dX2_readTest_73
set_option maxHeartbeats 4000000 in
set_option maxRecDepth 100000 in
theorem r_X8_atBracket_2 (l : Launch) (dC : Nat → ClassId) (dI : Nat → Nat → Nat) (L : List Nat) (kd : Nat → Nat) (tys : List (ClassId × FieldType)) (f0 : Nat → va_E) (sz : Nat) (hWT : WT L kd tys f0) (a0_ : Nat) (ma0_ : a0_ ∈ L) (ka0_ : kd a0_ = 8) (y0_ : Int32) (by0_ : bd 1201 1201 y0_) (hfx : Fs L kd f0 [(8, 6, a0_, .int y0_)]) : Met l yX8_atBracket (.code yX8_atBracket cX8_atBracket 1 (some .boolean) :: lw_g) ({ frames := 0, cells := 0, slots := 0, locals := 0 }) (va_Pc [.ref a0_] (P3 (dC, dI) L tys f0 sz)) (va_Qi (fun (r : Int32) (f : Nat → va_E) => (bd 0 1 r ∧ True)) (Q3 (dC, dI) L kd tys [] [] f0 sz) (pA L sz)) 0 0 (pA L sz) := by
  refine Met.ofW (cc := cX8_atBracket) (maxL := 1) (ret := (some .boolean)) (by decide) rfl ?_
  intro p e s m args below meth c s₁ B hml hv
  obtain ⟨rfl, hsz, hP, hK, hD0⟩ := hv
  have hx := B.exec
  have hb := B.bytes
  have hr := B.returns
  have hts := atoms_spec (ws := (.code yX8_atBracket cX8_atBracket 1 (some .boolean) :: lw_g)) B.pre
  have hown : s.vm.findClass RX8 = some m.cls := findClass_of_methodNamed B.named
  have hlocks := B.notSynchronized
  subst hsz
  have g : G3 (dC, dI) L kd tys s f0 [] [] f0 s.heap [] [(8, 6, a0_, .int y0_)] := G3.start hP hD0 hWT hfx
  have hl := lv_entry ([.ref a0_]) (n := 1) (Nat.le_of_ble_eq_true rfl)
  rw [lg_entry_eq]
  generalize (lg_sl ([.ref a0_]) ++ List.replicate (1 - (lg_sl ([.ref a0_])).length) Slot.unset).toArray = ls at hl ⊢
  have hl : lv_has ls 1 [(0, .ref a0_)] := hl
  refine W_q (fun Q hQ => ?_)
  refine lv_aload_n hx hb dX8_atBracket_0 rfl (lv_at hl 0 rfl) ?_
  refine g_getk (C := RX8) (T := TX8) (N := 10) hx hb hts (mc_ inX8) hown hK g rfl 6 (by decide) rfl (hts _ (List.mem_cons_of_mem _ t_291)) (fun _ h9 => h9) 0 rfl dX8_atBracket_1 ?_
  refine lv_sipush (v := 1200) hx hb dX8_atBracket_4 (by decide) ?_
  have kb_1200 : bd 1200 1200 (1200 : Int32) := ⟨by decide, by decide⟩
  refine lv_icmp_le (tgt := 17) hx hb dX8_atBracket_7 (by decide) (fun c_1 => ?_) (fun c_1 => ?_)
  · have fc_1 := le_f c_1
    have b_2 : bd 1201 1200 y0_ := leL fc_1 by0_ kb_1200 (by decide)
    exact bd_no b_2 (by decide)
  · have fc_1 := nle_f c_1
    refine lv_aload_n hx hb dX8_atBracket_10 rfl (lv_at hl 0 rfl) ?_
    refine g_geti (C := RX8) (T := TX8) (N := 10) hx hb hts (mc_ inX8) hown hK g ma0_ ka0_ (by decide) rfl 7 (by decide) rfl (hts _ (List.mem_cons_of_mem _ t_292)) (fun _ h9 => h9) rfl dX8_atBracket_11 (fun x_3 bx_3 g => ?_)
    refine lv_goto (tgt := 36) hx hb dX8_atBracket_14 (by decide) ?_
    subst hQ
    exact W.zret (v := x_3) hx hb hr (nar_z bx_3.1 bx_3.2) (fun t ht hW => ⟨⟨_, _, rfl, ⟨bx_3, trivial⟩, q3_of g hK ht hW⟩, g.2.2.1.F ht⟩) g.2.2.1.2.2 dX8_atBracket_36
