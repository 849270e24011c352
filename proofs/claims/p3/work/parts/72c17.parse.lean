set_option maxHeartbeats 4000000 in
set_option maxRecDepth 100000 in
theorem r_X0_closeArgument (l : Launch) (dC : Nat → ClassId) (dI : Nat → Nat → Nat) (L : List Nat) (kd : Nat → Nat) (tys : List (ClassId × FieldType)) (f0 : Nat → va_E) (sz : Nat) (hWT : WT L kd tys f0) (a0_ : Nat) (ma0_ : a0_ ∈ L) (ka0_ : kd a0_ = 0) (x1_ : Int32) (q0_ : Nat) (mq0_ : q0_ ∈ L) (kq0_ : kd q0_ = 8) (q1_ : Nat) (mq1_ : q1_ ∈ L) (kq1_ : kd q1_ = 5) (q2_ : Nat) (mq2_ : q2_ ∈ L) (kq2_ : kd q2_ = 7) (q3_ : Nat) (mq3_ : q3_ ∈ L) (kq3_ : kd q3_ = 110) (q4_ : Nat) (mq4_ : q4_ ∈ L) (kq4_ : kd q4_ = 9) (y0_ : Int32) (by0_ : bd 1 300 y0_) (y1_ : Int32) (by1_ : bd 0 0 y1_) (T_ : Nat) (J_ : Int32 → Prop) (hGea0_ : eOK f0 a0_) (hGia0_ : eJx f0 a0_) (hGcq2_ : cOK f0 q2_) (hGdq2_ : dOK L kd f0 q2_ T_) (hGsq2_ : jS f0 q2_ J_) (hk_ : ∀ z : Int32, z.toInt = y0_.toInt - 1 → bd 2 3 (aI f0 q3_ z.toNatClampNeg)) (hfx : Fs L kd f0 [(0, 0, a0_, .ref q0_), (0, 1, a0_, .ref q1_), (0, 2, a0_, .ref q2_), (0, 3, a0_, .ref q3_), (5, 1, q1_, .ref q4_), (0, 8, a0_, .int y0_), (8, 8, q0_, .int y1_)]) : Met l yX0_closeArgument (.code yX0_closeArgument cX0_closeArgument 7 none :: lw_g) ({ frames := 1, cells := 0, slots := 0, locals := 23 }) (va_Pc [.ref a0_, .int x1_] (P3 (dC, dI) L tys f0 sz)) (va_Qv (fun (f : Nat → va_E) => (eJx f a0_ ∧ cOK f q2_ ∧ dOK L kd f q2_ T_ ∧ jS f q2_ J_ ∧ bd 41 44 x1_ ∧ ∃ z0_ : Int32, bd 1 1201 z0_ ∧ Fs L kd f [(8, 6, q0_, .int z0_), (8, 8, q0_, .int y1_)]) ∨ (dOK L kd f q2_ T_ ∧ ∃ z1_ : Int32, bd 1 7 z1_ ∧ Fs L kd f [(8, 6, q0_, .int 1201), (8, 8, q0_, .int z1_)])) (Q3 (dC, dI) L kd tys [(0, 8), (0, 10), (0, 11), (0, 12), (7, 6), (8, 6), (8, 8), (8, 9)] [113, 114, 115, 138, 139] f0 sz) (pA L sz)) 0 0 (pA L sz) := by
  refine Met.ofW (cc := cX0_closeArgument) (maxL := 7) (ret := none) (by decide) rfl ?_
  intro p e s m args below meth c s₁ B hml hv
  obtain ⟨rfl, hsz, hP, hK, hD0⟩ := hv
  have hx := B.exec
  have hb := B.bytes
  have hr := B.returns
  have hts := atoms_spec (ws := (.code yX0_closeArgument cX0_closeArgument 7 none :: lw_g)) B.pre
  have hown : s.vm.findClass RX0 = some m.cls := findClass_of_methodNamed B.named
  have hlocks := B.notSynchronized
  subst hsz
  have g : G3 (dC, dI) L kd tys s f0 [(0, 8), (0, 10), (0, 11), (0, 12), (7, 6), (8, 6), (8, 8), (8, 9)] [113, 114, 115, 138, 139] f0 s.heap [] [(0, 0, a0_, .ref q0_), (0, 1, a0_, .ref q1_), (0, 2, a0_, .ref q2_), (0, 3, a0_, .ref q3_), (5, 1, q1_, .ref q4_), (0, 8, a0_, .int y0_), (8, 8, q0_, .int y1_)] := G3.start hP hD0 hWT hfx
  have hl := lv_entry ([.ref a0_, .int x1_]) (n := 7) (Nat.le_of_ble_eq_true rfl)
  rw [lg_entry_eq]
  generalize (lg_sl ([.ref a0_, .int x1_]) ++ List.replicate (7 - (lg_sl ([.ref a0_, .int x1_])).length) Slot.unset).toArray = ls at hl ⊢
  have hl : lv_has ls 7 [(0, .ref a0_), (1, .int x1_)] := hl
  refine W_q (fun Q hQ => ?_)
  refine lv_aload_n hx hb dX0_closeArgument_0 rfl (lv_at hl 0 rfl) ?_
  refine g_getk (C := RX0) (T := TX0) (N := 14) hx hb hts (mc_ inX0) hown hK g rfl 8 (by decide) rfl (hts _ (List.mem_cons_of_mem _ t_381)) (fun _ h9 => h9) 5 rfl dX0_closeArgument_1 ?_
  refine lv_iconst (v := 1) hx hb dX0_closeArgument_4 (by decide) ?_
  have kb_1 : bd 1 1 (1 : Int32) := ⟨by decide, by decide⟩
  refine lv_isub hx hb dX0_closeArgument_5 ?_
  refine lv_topi (fun y_1 ey_1 => ?_)
  have ty_1 := sub_bd ey_1 by0_ kb_1 (by decide)
  have b_2 : bd 0 299 y_1 := sub_rg ty_1 by0_ kb_1 (by decide)
  refine lv_istore_n (lv' := [(2, .int y_1), (0, .ref a0_), (1, .int x1_)]) hx hb dX0_closeArgument_6 rfl hl (by decide) rfl (fun ls hl => ?_)
  refine lv_aload_n hx hb dX0_closeArgument_7 rfl (lv_at hl 1 rfl) ?_
  refine g_getr (K := 112) (C := RX0) (T := TX0) (N := 14) hx hb hts (mc_ inX0) hown hK g ma0_ ka0_ (by decide) rfl 5 (by decide) rfl (hts _ (List.mem_cons_of_mem _ t_378)) (fun _ h9 => h9) rfl dX0_closeArgument_8 (fun a_3 ma_3 ka_3 g => ?_)
  refine lv_iload_n hx hb dX0_closeArgument_11 rfl (lv_at hl 0 rfl) ?_
  refine g_iald hx hb hK g ma_3 ka_3 (by decide) rfl (in_bd b_2 (by decide)) dX0_closeArgument_12 (fun x_4 bx_4 cx_4 => ?_)
  refine lv_istore_n (lv' := [(3, .int x_4), (2, .int y_1), (0, .ref a0_), (1, .int x1_)]) hx hb dX0_closeArgument_13 rfl hl (by decide) rfl (fun ls hl => ?_)
  refine lv_aload_n hx hb dX0_closeArgument_14 rfl (lv_at hl 2 rfl) ?_
  refine g_getk (C := RX0) (T := TX0) (N := 14) hx hb hts (mc_ inX0) hown hK g rfl 3 (by decide) rfl (hts _ (List.mem_cons_of_mem _ t_376)) (fun _ h9 => h9) 4 rfl dX0_closeArgument_15 ?_
  refine lv_iload_n hx hb dX0_closeArgument_18 rfl (lv_at hl 1 rfl) ?_
  refine g_iald hx hb hK g mq3_ kq3_ (by decide) rfl (in_bd b_2 (by decide)) dX0_closeArgument_19 (fun x_5 bx_5 cx_5 => ?_)
  have b_6 : bd 2 3 x_5 := (cx_5 ▸ hk_ y_1 (t1_ ty_1) : bd 2 3 x_5)
  have hc_7 : erel x_5 x_4 := hGea0_.at g 4 0 rfl rfl cx_5 cx_4 b_2 (by decide)
  obtain ⟨tg_8, hv_9, hq_10⟩ := eJx.at hGia0_ (fx_at g (i := 3) rfl).2.2.2 (fx_at g (i := 4) rfl).2.2.2 (fx_at g (i := 0) rfl).2.2.2 (fx_at g (i := 6) rfl).2.2.2 (by have h9 := tnZ (i := y_1) (by have h9_0 := b_6; unfold bd at h9_0; have h9_1 := by0_; unfold bd at h9_1; have h9_2 := by1_; unfold bd at h9_2; have h9_3 := b_2; unfold bd at h9_3; have h8_0 := kb_1; unfold bd at h8_0; omega); have h9_0 := b_6; unfold bd at h9_0; have h9_1 := by0_; unfold bd at h9_1; have h9_2 := by1_; unfold bd at h9_2; have h9_3 := b_2; unfold bd at h9_3; have h8_0 := kb_1; unfold bd at h8_0; omega) cx_5
  refine lv_iconst (v := 2) hx hb dX0_closeArgument_20 (by decide) ?_
  have kb_2 : bd 2 2 (2 : Int32) := ⟨by decide, by decide⟩
  refine lv_icmp_ne (tgt := 39) hx hb dX0_closeArgument_21 (by decide) (fun c_11 => ?_) (fun c_11 => ?_)
  · have fc_11 := neq_f c_11
    have b_12 : bd 3 3 x_5 := neX fc_11 b_6 kb_2 (by decide)
    have b_13 : bd 0 95 x_4 := eqX rfl (bdT x_4) (er3 hc_7 b_12 (by decide)) (by decide)
    refine lv_iload_n hx hb dX0_closeArgument_39 rfl (lv_at hl 0 rfl) ?_
    refine lv_istore (lv' := [(4, .int x_4), (3, .int x_4), (2, .int y_1), (0, .ref a0_), (1, .int x1_)]) hx hb dX0_closeArgument_40 hl (by decide) rfl (fun ls hl => ?_)
    refine lv_aload_n hx hb dX0_closeArgument_42 rfl (lv_at hl 3 rfl) ?_
    refine g_getk (C := RX0) (T := TX0) (N := 14) hx hb hts (mc_ inX0) hown hK g rfl 0 (by decide) rfl (hts _ (List.mem_cons_of_mem _ t_373)) (fun _ h9 => h9) 1 rfl dX0_closeArgument_43 ?_
    have go_ := g
    refine g_calli (va_runV (As := []) (rest := []) ⟨hx, hb, hml, hown, hts⟩ (r_X8_place l dC dI L kd tys f0 s.heap.size g.2.2.2.1 q0_ mq0_ kq0_) (cwV 0 hts (gV_ t_1220 t_1111 t_1112 t_184 t_1113) rfl rfl rfl (by decide +kernel) ⟨(Nat.le_of_ble_eq_true rfl), (Nat.le_of_ble_eq_true rfl)⟩) (pre3V g hK mq0_ kq0_ (by decide) (q := (RX8, TX8, 10)) rfl) rfl rfl hl.1 rfl (lv_room (Nat.le_of_ble_eq_true rfl)) dX0_closeArgument_46 ⟨(Nat.le_of_ble_eq_true rfl), (Nat.le_of_ble_eq_true rfl)⟩) g hK (by decide) (by decide) (fx' := [(0, 5, a0_, .ref a_3), (0, 0, a0_, .ref q0_), (0, 1, a0_, .ref q1_), (0, 2, a0_, .ref q2_), (0, 3, a0_, .ref q3_), (5, 1, q1_, .ref q4_), (0, 8, a0_, .int y0_), (8, 8, q0_, .int y1_)]) rfl (fun r_14 fr_14 H locs hp hMr_14 g => ?_)
    have hG_15 := eOK.frame hMr_14 go_.2.2.2.1 ma0_ ka0_ (by decide) (by decide) hGea0_
    have hG_16 := eJx.frame hMr_14 go_.2.2.2.1 ma0_ ka0_ (by decide) (by decide) hGia0_
    have hG_17 := cOK.frame hMr_14 go_.2.2.2.1 mq2_ kq2_ (by decide) (by decide) hGcq2_
    have hG_18 := dOK.frame hMr_14 go_.2.2.2.1 mq2_ kq2_ (by decide) (by decide) hGdq2_
    have hG_19 := jS.frame hMr_14 go_.2.2.2.1 mq2_ kq2_ (by decide) (by decide) hGsq2_
    have hG_20 := vP.frame hMr_14 go_.2.2.2.1 ma_3 ka_3 (by decide) (by decide) hv_9
    have hG_21 := kQj.frame hMr_14 go_.2.2.2.1 mq2_ kq2_ (by decide) (by decide) hq_10
    refine lv_istore (lv' := [(5, .int r_14), (4, .int x_4), (3, .int x_4), (2, .int y_1), (0, .ref a0_), (1, .int x1_)]) hx hb dX0_closeArgument_49 hl (by decide) rfl (fun ls hl => ?_)
    refine lv_iload_n hx hb dX0_closeArgument_51 rfl (lv_at hl 5 rfl) ?_
    refine lv_bipush (v := 44) hx hb dX0_closeArgument_52 (by decide) ?_
    have kb_44 : bd 44 44 (44 : Int32) := ⟨by decide, by decide⟩
    refine lv_icmp_eq (tgt := 74) hx hb dX0_closeArgument_54 (by decide) (fun c_22 => ?_) (fun c_22 => ?_)
    · have fc_22 := eq_f c_22
      have b_23 : bd 44 44 x1_ := eqX fc_22 (bdT x1_) kb_44 (by decide)
      refine lv_aload_n hx hb dX0_closeArgument_74 rfl (lv_at hl 4 rfl) ?_
      refine g_getk (C := RX0) (T := TX0) (N := 14) hx hb hts (mc_ inX0) hown hK g rfl 0 (by decide) rfl (hts _ (List.mem_cons_of_mem _ t_373)) (fun _ h9 => h9) 1 rfl dX0_closeArgument_75 ?_
      have go_ := g
      refine g_callv (va_runV (As := []) (rest := []) ⟨hx, hb, hml, hown, hts⟩ (r_X8_next l dC dI L kd tys fr_14 H.size g.2.2.2.1 q0_ mq0_ kq0_) (cwV 0 hts (gV_ t_1225 t_1103 t_1104 t_184 t_1105) rfl rfl rfl (by decide +kernel) ⟨(Nat.le_of_ble_eq_true rfl), (Nat.le_of_ble_eq_true rfl)⟩) (pre3V g hK mq0_ kq0_ (by decide) (q := (RX8, TX8, 10)) rfl) rfl rfl hl.1 rfl (lv_room (Nat.le_of_ble_eq_true rfl)) dX0_closeArgument_78 ⟨(Nat.le_of_ble_eq_true rfl), (Nat.le_of_ble_eq_true rfl)⟩) g hK (by decide) (by decide) (fx' := [(0, 5, a0_, .ref a_3), (0, 0, a0_, .ref q0_), (0, 1, a0_, .ref q1_), (0, 2, a0_, .ref q2_), (0, 3, a0_, .ref q3_), (5, 1, q1_, .ref q4_), (0, 8, a0_, .int y0_), (8, 8, q0_, .int y1_)]) rfl (fun fr_24 H locs hp hMr_24 g => ?_)
      obtain ⟨x_25, h_26, hF_27⟩ := hp
      have hG_28 := eOK.frame hMr_24 go_.2.2.2.1 ma0_ ka0_ (by decide) (by decide) hG_15
      have hG_29 := eJx.frame hMr_24 go_.2.2.2.1 ma0_ ka0_ (by decide) (by decide) hG_16
      have hG_30 := cOK.frame hMr_24 go_.2.2.2.1 mq2_ kq2_ (by decide) (by decide) hG_17
      have hG_31 := dOK.frame hMr_24 go_.2.2.2.1 mq2_ kq2_ (by decide) (by decide) hG_18
      have hG_32 := jS.frame hMr_24 go_.2.2.2.1 mq2_ kq2_ (by decide) (by decide) hG_19
      have hG_33 := vP.frame hMr_24 go_.2.2.2.1 ma_3 ka_3 (by decide) (by decide) hG_20
      have hG_34 := kQj.frame hMr_24 go_.2.2.2.1 mq2_ kq2_ (by decide) (by decide) hG_21
      have g := g.more hF_27
      refine lv_aload_n hx hb dX0_closeArgument_81 rfl (lv_at hl 4 rfl) ?_
      refine g_getr (K := 113) (C := RX0) (T := TX0) (N := 14) hx hb hts (mc_ inX0) hown hK g ma0_ ka0_ (by decide) rfl 6 (by decide) rfl (hts _ (List.mem_cons_of_mem _ t_379)) (fun _ h9 => h9) rfl dX0_closeArgument_82 (fun a_35 ma_35 ka_35 g => ?_)
      refine lv_iload_n hx hb dX0_closeArgument_85 rfl (lv_at hl 3 rfl) ?_
      refine lv_dup2_11 hx hb dX0_closeArgument_86 rfl rfl ?_
      refine g_iald hx hb hK g ma_35 ka_35 (by decide) rfl (in_bd b_2 (by decide)) dX0_closeArgument_87 (fun x_36 bx_36 cx_36 => ?_)
      refine lv_iconst (v := 1) hx hb dX0_closeArgument_88 (by decide) ?_
      refine lv_iadd hx hb dX0_closeArgument_89 ?_
      refine lv_topi (fun y_37 ey_37 => ?_)
      have go_ := g
      refine g_iast hx hb hK g ma_35 ka_35 (by decide) rfl (in_bd b_2 (by decide)) (bdT y_37) (by decide) dX0_closeArgument_90 (fun f H locs hM_38 g => ?_)
      have hG_39 := eOK.frame hM_38 go_.2.2.2.1 ma0_ ka0_ (by decide) (by decide) hG_28
      have hG_40 := eJx.frame hM_38 go_.2.2.2.1 ma0_ ka0_ (by decide) (by decide) hG_29
      have hG_41 := cOK.frame hM_38 go_.2.2.2.1 mq2_ kq2_ (by decide) (by decide) hG_30
      have hG_42 := dOK.frame hM_38 go_.2.2.2.1 mq2_ kq2_ (by decide) (by decide) hG_31
      have hG_43 := jS.frame hM_38 go_.2.2.2.1 mq2_ kq2_ (by decide) (by decide) hG_32
      have hG_44 := vP.frame hM_38 go_.2.2.2.1 ma_3 ka_3 (by decide) (by decide) hG_33
      have hG_45 := kQj.frame hM_38 go_.2.2.2.1 mq2_ kq2_ (by decide) (by decide) hG_34
      refine lv_aload_n hx hb dX0_closeArgument_91 rfl (lv_at hl 4 rfl) ?_
      refine g_getr (K := 114) (C := RX0) (T := TX0) (N := 14) hx hb hts (mc_ inX0) hown hK g ma0_ ka0_ (by decide) rfl 7 (by decide) rfl (hts _ (List.mem_cons_of_mem _ t_380)) (fun _ h9 => h9) rfl dX0_closeArgument_92 (fun a_46 ma_46 ka_46 g => ?_)
      refine lv_iload_n hx hb dX0_closeArgument_95 rfl (lv_at hl 3 rfl) ?_
      refine lv_aload_n hx hb dX0_closeArgument_96 rfl (lv_at hl 4 rfl) ?_
      refine g_getk (C := RX0) (T := TX0) (N := 14) hx hb hts (mc_ inX0) hown hK g rfl 7 (by decide) rfl (hts _ (List.mem_cons_of_mem _ t_380)) (fun _ h9 => h9) 0 rfl dX0_closeArgument_97 ?_
      refine lv_iload_n hx hb dX0_closeArgument_100 rfl (lv_at hl 3 rfl) ?_
      refine g_iald hx hb hK g ma_46 ka_46 (by decide) rfl (in_bd b_2 (by decide)) dX0_closeArgument_101 (fun x_47 bx_47 cx_47 => ?_)
      refine lv_aload_n hx hb dX0_closeArgument_102 rfl (lv_at hl 4 rfl) ?_
      have go_ := g
      refine g_calli (va_runV (As := []) (rest := [.int x_47, .int y_1, .ref a_46]) ⟨hx, hb, hml, hown, hts⟩ (r_X0_takeHeight l dC dI L kd tys f H.size g.2.2.2.1 a0_ ma0_ ka0_) (cwV 0 hts (gV_ t_1199 t_1201 t_16 t_190 t_1202) rfl rfl rfl (by decide +kernel) ⟨(Nat.le_of_ble_eq_true rfl), (Nat.le_of_ble_eq_true rfl)⟩) (pre3V g hK ma0_ ka0_ (by decide) (q := (RX0, TX0, 14)) rfl) rfl rfl hl.1 rfl (lv_room (Nat.le_of_ble_eq_true rfl)) dX0_closeArgument_103 ⟨(Nat.le_of_ble_eq_true rfl), (Nat.le_of_ble_eq_true rfl)⟩) g hK (by decide) (by decide) (fx' := [(0, 7, a0_, .ref a_46), (0, 6, a0_, .ref a_35), (8, 6, q0_, .int x_25), (0, 5, a0_, .ref a_3), (0, 0, a0_, .ref q0_), (0, 1, a0_, .ref q1_), (0, 2, a0_, .ref q2_), (0, 3, a0_, .ref q3_), (5, 1, q1_, .ref q4_), (0, 8, a0_, .int y0_), (8, 8, q0_, .int y1_)]) rfl (fun r_48 fr_48 H locs hp hMr_48 g => ?_)
      obtain ⟨x_49, h_50, hF_51⟩ := hp
      have hG_52 := eOK.frame hMr_48 go_.2.2.2.1 ma0_ ka0_ (by decide) (by decide) hG_39
      have hG_53 := eJx.frame hMr_48 go_.2.2.2.1 ma0_ ka0_ (by decide) (by decide) hG_40
      have hG_54 := cOK.frame hMr_48 go_.2.2.2.1 mq2_ kq2_ (by decide) (by decide) hG_41
      have hG_55 := dOK.frame hMr_48 go_.2.2.2.1 mq2_ kq2_ (by decide) (by decide) hG_42
      have hG_56 := jS.frame hMr_48 go_.2.2.2.1 mq2_ kq2_ (by decide) (by decide) hG_43
      have hG_57 := vP.frame hMr_48 go_.2.2.2.1 ma_3 ka_3 (by decide) (by decide) hG_44
      have hG_58 := kQj.frame hMr_48 go_.2.2.2.1 mq2_ kq2_ (by decide) (by decide) hG_45
      have g := g.more hF_51
      refine va_mmax hx hb (hml.trans hl.1.symm) hown (hts _ (List.mem_cons_of_mem _ t_1194)) (hts _ (List.mem_cons_of_mem _ t_1041)) (hts _ (List.mem_cons_of_mem _ t_204)) (hts _ (List.mem_cons_of_mem _ t_1042)) (Nat.le_of_ble_eq_true rfl) (Nat.le_of_ble_eq_true rfl) (Nat.le_of_ble_eq_true rfl) (Nat.le_of_ble_eq_true rfl) dX0_closeArgument_106 ?_
      refine lv_topi (fun y_59 ey_59 => ?_)
      have ty_59 : y_59.toInt = max x_47.toInt r_48.toInt := by rw [ey_59]; exact mmax_ok _ _
      have b_60 : bd (-2147483648) 2147483647 y_59 := max_rg ty_59 (bdT x_47) (bdT r_48) (by decide)
      have go_ := g
      refine g_iast hx hb hK g ma_46 ka_46 (by decide) rfl (in_bd b_2 (by decide)) b_60 (by decide) dX0_closeArgument_109 (fun f H locs hM_61 g => ?_)
      have hG_62 := eOK.frame hM_61 go_.2.2.2.1 ma0_ ka0_ (by decide) (by decide) hG_52
      have hG_63 := eJx.frame hM_61 go_.2.2.2.1 ma0_ ka0_ (by decide) (by decide) hG_53
      have hG_64 := cOK.frame hM_61 go_.2.2.2.1 mq2_ kq2_ (by decide) (by decide) hG_54
      have hG_65 := dOK.frame hM_61 go_.2.2.2.1 mq2_ kq2_ (by decide) (by decide) hG_55
      have hG_66 := jS.frame hM_61 go_.2.2.2.1 mq2_ kq2_ (by decide) (by decide) hG_56
      have hG_67 := vP.frame hM_61 go_.2.2.2.1 ma_3 ka_3 (by decide) (by decide) hG_57
      have hG_68 := kQj.frame hM_61 go_.2.2.2.1 mq2_ kq2_ (by decide) (by decide) hG_58
      refine lv_aload_n hx hb dX0_closeArgument_110 rfl (lv_at hl 4 rfl) ?_
      refine g_getk (C := RX0) (T := TX0) (N := 14) hx hb hts (mc_ inX0) hown hK g rfl 2 (by decide) rfl (hts _ (List.mem_cons_of_mem _ t_375)) (fun _ h9 => h9) 7 rfl dX0_closeArgument_111 ?_
      refine g_getr (K := 137) (C := RX7) (T := TX7) (N := 19) hx hb hts (mc_ inX7) hown hK g mq2_ kq2_ (by decide) rfl 2 (by decide) rfl (hts _ (List.mem_cons_of_mem _ t_633)) (fun _ h9 => h9) rfl dX0_closeArgument_114 (fun a_69 ma_69 ka_69 g => ?_)
      refine lv_iload hx hb dX0_closeArgument_117 (lv_at hl 1 rfl) ?_
      refine g_aald hx hb hK g ma_69 ka_69 (by decide) rfl (by decide) (in_bd b_13 (by decide)) dX0_closeArgument_119 (fun a_70 ma_70 ua_70 wa_70 => ?_)
      have ka_70 : kd a_70 = 6 := by omega
      refine g_geti (C := RX6) (T := TX6) (N := 13) hx hb hts (mc_ inX6) hown hK g ma_70 ka_70 (by decide) rfl 3 (by decide) rfl (hts _ (List.mem_cons_of_mem _ t_564)) (fun _ h9 => h9) rfl dX0_closeArgument_120 (fun x_71 bx_71 g => ?_)
      refine lv_istore (lv' := [(6, .int x_71), (5, .int r_14), (4, .int x_4), (3, .int x_4), (2, .int y_1), (0, .ref a0_), (1, .int x1_)]) hx hb dX0_closeArgument_123 hl (by decide) rfl (fun ls hl => ?_)
      refine lv_iload_n hx hb dX0_closeArgument_125 rfl (lv_at hl 6 rfl) ?_
      refine lv_bipush (v := 44) hx hb dX0_closeArgument_126 (by decide) ?_
      refine lv_icmp_ne (tgt := 159) hx hb dX0_closeArgument_128 (by decide) (fun c_72 => ?_) (fun c_72 => ?_)
      · have fc_72 := neq_f c_72
        have b_73 : bd 45 43 x1_ := neX fc_72 b_23 kb_44 (by decide)
        exact bd_no b_73 (by decide)
      · have fc_72 := eq_f c_72
        refine lv_aload_n hx hb dX0_closeArgument_131 rfl (lv_at hl 5 rfl) ?_
        refine lv_iconst (v := 1) hx hb dX0_closeArgument_132 (by decide) ?_
        have go_ := g
        refine g_put (C := RX0) (T := TX0) (N := 14) hx hb hts (mc_ inX0) tyX0 tyX0_ok nmX0 hown hK g ma0_ ka0_ (by decide) rfl 12 (by decide) (hts _ (List.mem_cons_of_mem _ t_385)) (fun _ h9 => h9) rfl rfl (okV_i (bd_sub kb_1 (by decide))) rfl rfl (by decide) (Or.inr (Or.inl (by decide))) (fx' := [(6, 3, a_70, .int x_71), (7, 2, q2_, .ref a_69), (0, 10, a0_, .int x_49), (0, 7, a0_, .ref a_46), (0, 6, a0_, .ref a_35), (8, 6, q0_, .int x_25), (0, 5, a0_, .ref a_3), (0, 0, a0_, .ref q0_), (0, 1, a0_, .ref q1_), (0, 2, a0_, .ref q2_), (0, 3, a0_, .ref q3_), (5, 1, q1_, .ref q4_), (0, 8, a0_, .int y0_), (8, 8, q0_, .int y1_)]) rfl dX0_closeArgument_133 (fun f H locs hM_74 g => ?_)
        have hG_75 := eOK.frame hM_74 go_.2.2.2.1 ma0_ ka0_ (by decide) (by decide) hG_62
        have hG_76 := eJx.frame hM_74 go_.2.2.2.1 ma0_ ka0_ (by decide) (by decide) hG_63
        have hG_77 := cOK.frame hM_74 go_.2.2.2.1 mq2_ kq2_ (by decide) (by decide) hG_64
        have hG_78 := dOK.frame hM_74 go_.2.2.2.1 mq2_ kq2_ (by decide) (by decide) hG_65
        have hG_79 := jS.frame hM_74 go_.2.2.2.1 mq2_ kq2_ (by decide) (by decide) hG_66
        have hG_80 := vP.frame hM_74 go_.2.2.2.1 ma_3 ka_3 (by decide) (by decide) hG_67
        have hG_81 := kQj.frame hM_74 go_.2.2.2.1 mq2_ kq2_ (by decide) (by decide) hG_68
        refine lv_aload_n hx hb dX0_closeArgument_136 rfl (lv_at hl 5 rfl) ?_
        refine g_getk (C := RX0) (T := TX0) (N := 14) hx hb hts (mc_ inX0) hown hK g rfl 6 (by decide) rfl (hts _ (List.mem_cons_of_mem _ t_379)) (fun _ h9 => h9) 5 rfl dX0_closeArgument_137 ?_
        refine lv_iload_n hx hb dX0_closeArgument_140 rfl (lv_at hl 4 rfl) ?_
        refine g_iald hx hb hK g ma_35 ka_35 (by decide) rfl (in_bd b_2 (by decide)) dX0_closeArgument_141 (fun x_82 bx_82 cx_82 => ?_)
        refine lv_iload hx hb dX0_closeArgument_142 (lv_at hl 0 rfl) ?_
        refine lv_icmp_lt (tgt := 158) hx hb dX0_closeArgument_144 (by decide) (fun c_83 => ?_) (fun c_83 => ?_)
        · have fc_83 := lt_f c_83
          have b_84 : bd (-2147483648) 2 x_82 := ltL fc_83 (bdT x_82) bx_71 (by decide)
          subst hQ
          exact W.vret hx hb hr (fun t ht hW => ⟨⟨_, rfl, Or.inl ⟨hG_76, hG_77, hG_78, hG_79, (bd_sub b_23 (by decide)), x_25, h_26, (g.fcts [6, 14] rfl)⟩, q3_of g hK ht hW⟩, g.2.2.1.F ht⟩) g.2.2.1.2.2 dX0_closeArgument_158
        · have fc_83 := nlt_f c_83
          have b_85 : bd 0 2147483647 x_82 := leR fc_83 bx_71 (bdT x_82) (by decide)
          refine lv_aload_n hx hb dX0_closeArgument_147 rfl (lv_at hl 5 rfl) ?_
          refine g_getk (C := RX0) (T := TX0) (N := 14) hx hb hts (mc_ inX0) hown hK g rfl 0 (by decide) rfl (hts _ (List.mem_cons_of_mem _ t_373)) (fun _ h9 => h9) 8 rfl dX0_closeArgument_148 ?_
          refine lv_bipush (v := 6) hx hb dX0_closeArgument_151 (by decide) ?_
          refine lv_iload hx hb dX0_closeArgument_153 (lv_at hl 1 rfl) ?_
          have kb_6 : bd 6 6 (6 : Int32) := ⟨by decide, by decide⟩
          have go_ := g
          refine g_callv (va_runV (As := [.int 6, .int r_14]) (rest := []) ⟨hx, hb, hml, hown, hts⟩ (r_X8_fail l dC dI L kd tys f H.size g.2.2.2.1 q0_ mq0_ kq0_ 6 (bd_sub kb_6 (by decide)) r_14 y1_ by1_ (g.fcts [14] rfl)) (cwV 2 hts (gV_ t_1215 t_1107 t_1108 t_184 t_1109) rfl rfl rfl (by decide +kernel) ⟨(Nat.le_of_ble_eq_true rfl), (Nat.le_of_ble_eq_true rfl)⟩) (pre3V g hK mq0_ kq0_ (by decide) (q := (RX8, TX8, 10)) rfl) rfl rfl hl.1 rfl (lv_room (Nat.le_of_ble_eq_true rfl)) dX0_closeArgument_155 ⟨(Nat.le_of_ble_eq_true rfl), (Nat.le_of_ble_eq_true rfl)⟩) g hK (by decide) (by decide) (fx' := [(0, 12, a0_, .int 1), (6, 3, a_70, .int x_71), (7, 2, q2_, .ref a_69), (0, 10, a0_, .int x_49), (0, 7, a0_, .ref a_46), (0, 6, a0_, .ref a_35), (0, 5, a0_, .ref a_3), (0, 0, a0_, .ref q0_), (0, 1, a0_, .ref q1_), (0, 2, a0_, .ref q2_), (0, 3, a0_, .ref q3_), (5, 1, q1_, .ref q4_), (0, 8, a0_, .int y0_)]) rfl (fun fr_86 H locs hp hMr_86 g => ?_)
          obtain ⟨x_87, h_88, hF_89⟩ := hp
          have hG_90 := eOK.frame hMr_86 go_.2.2.2.1 ma0_ ka0_ (by decide) (by decide) hG_75
          have hG_91 := eJx.frame hMr_86 go_.2.2.2.1 ma0_ ka0_ (by decide) (by decide) hG_76
          have hG_92 := cOK.frame hMr_86 go_.2.2.2.1 mq2_ kq2_ (by decide) (by decide) hG_77
          have hG_93 := dOK.frame hMr_86 go_.2.2.2.1 mq2_ kq2_ (by decide) (by decide) hG_78
          have hG_94 := jS.frame hMr_86 go_.2.2.2.1 mq2_ kq2_ (by decide) (by decide) hG_79
          have hG_95 := vP.frame hMr_86 go_.2.2.2.1 ma_3 ka_3 (by decide) (by decide) hG_80
          have hG_96 := kQj.frame hMr_86 go_.2.2.2.1 mq2_ kq2_ (by decide) (by decide) hG_81
          have g := g.more hF_89
          subst hQ
          exact W.vret hx hb hr (fun t ht hW => ⟨⟨_, rfl, Or.inr (⟨hG_93, x_87, h_88, (g.fcts [0, 1] rfl)⟩), q3_of g hK ht hW⟩, g.2.2.1.F ht⟩) g.2.2.1.2.2 dX0_closeArgument_158
    · have fc_22 := neq_f c_22
      refine lv_iload_n hx hb dX0_closeArgument_57 rfl (lv_at hl 5 rfl) ?_
      refine lv_bipush (v := 41) hx hb dX0_closeArgument_58 (by decide) ?_
      have kb_41 : bd 41 41 (41 : Int32) := ⟨by decide, by decide⟩
      refine lv_icmp_eq (tgt := 74) hx hb dX0_closeArgument_60 (by decide) (fun c_97 => ?_) (fun c_97 => ?_)
      · have fc_97 := eq_f c_97
        have b_98 : bd 41 41 x1_ := eqX fc_97 (bdT x1_) kb_41 (by decide)
        refine lv_aload_n hx hb dX0_closeArgument_74 rfl (lv_at hl 4 rfl) ?_
        refine g_getk (C := RX0) (T := TX0) (N := 14) hx hb hts (mc_ inX0) hown hK g rfl 0 (by decide) rfl (hts _ (List.mem_cons_of_mem _ t_373)) (fun _ h9 => h9) 1 rfl dX0_closeArgument_75 ?_
        have go_ := g
        refine g_callv (va_runV (As := []) (rest := []) ⟨hx, hb, hml, hown, hts⟩ (r_X8_next l dC dI L kd tys fr_14 H.size g.2.2.2.1 q0_ mq0_ kq0_) (cwV 0 hts (gV_ t_1225 t_1103 t_1104 t_184 t_1105) rfl rfl rfl (by decide +kernel) ⟨(Nat.le_of_ble_eq_true rfl), (Nat.le_of_ble_eq_true rfl)⟩) (pre3V g hK mq0_ kq0_ (by decide) (q := (RX8, TX8, 10)) rfl) rfl rfl hl.1 rfl (lv_room (Nat.le_of_ble_eq_true rfl)) dX0_closeArgument_78 ⟨(Nat.le_of_ble_eq_true rfl), (Nat.le_of_ble_eq_true rfl)⟩) g hK (by decide) (by decide) (fx' := [(0, 5, a0_, .ref a_3), (0, 0, a0_, .ref q0_), (0, 1, a0_, .ref q1_), (0, 2, a0_, .ref q2_), (0, 3, a0_, .ref q3_), (5, 1, q1_, .ref q4_), (0, 8, a0_, .int y0_), (8, 8, q0_, .int y1_)]) rfl (fun fr_99 H locs hp hMr_99 g => ?_)
        obtain ⟨x_100, h_101, hF_102⟩ := hp
        have hG_103 := eOK.frame hMr_99 go_.2.2.2.1 ma0_ ka0_ (by decide) (by decide) hG_15
        have hG_104 := eJx.frame hMr_99 go_.2.2.2.1 ma0_ ka0_ (by decide) (by decide) hG_16
        have hG_105 := cOK.frame hMr_99 go_.2.2.2.1 mq2_ kq2_ (by decide) (by decide) hG_17
        have hG_106 := dOK.frame hMr_99 go_.2.2.2.1 mq2_ kq2_ (by decide) (by decide) hG_18
        have hG_107 := jS.frame hMr_99 go_.2.2.2.1 mq2_ kq2_ (by decide) (by decide) hG_19
        have hG_108 := vP.frame hMr_99 go_.2.2.2.1 ma_3 ka_3 (by decide) (by decide) hG_20
        have hG_109 := kQj.frame hMr_99 go_.2.2.2.1 mq2_ kq2_ (by decide) (by decide) hG_21
        have g := g.more hF_102
        refine lv_aload_n hx hb dX0_closeArgument_81 rfl (lv_at hl 4 rfl) ?_
        refine g_getr (K := 113) (C := RX0) (T := TX0) (N := 14) hx hb hts (mc_ inX0) hown hK g ma0_ ka0_ (by decide) rfl 6 (by decide) rfl (hts _ (List.mem_cons_of_mem _ t_379)) (fun _ h9 => h9) rfl dX0_closeArgument_82 (fun a_110 ma_110 ka_110 g => ?_)
        refine lv_iload_n hx hb dX0_closeArgument_85 rfl (lv_at hl 3 rfl) ?_
        refine lv_dup2_11 hx hb dX0_closeArgument_86 rfl rfl ?_
        refine g_iald hx hb hK g ma_110 ka_110 (by decide) rfl (in_bd b_2 (by decide)) dX0_closeArgument_87 (fun x_111 bx_111 cx_111 => ?_)
        refine lv_iconst (v := 1) hx hb dX0_closeArgument_88 (by decide) ?_
        refine lv_iadd hx hb dX0_closeArgument_89 ?_
        refine lv_topi (fun y_112 ey_112 => ?_)
        have go_ := g
        refine g_iast hx hb hK g ma_110 ka_110 (by decide) rfl (in_bd b_2 (by decide)) (bdT y_112) (by decide) dX0_closeArgument_90 (fun f H locs hM_113 g => ?_)
        have hG_114 := eOK.frame hM_113 go_.2.2.2.1 ma0_ ka0_ (by decide) (by decide) hG_103
        have hG_115 := eJx.frame hM_113 go_.2.2.2.1 ma0_ ka0_ (by decide) (by decide) hG_104
        have hG_116 := cOK.frame hM_113 go_.2.2.2.1 mq2_ kq2_ (by decide) (by decide) hG_105
        have hG_117 := dOK.frame hM_113 go_.2.2.2.1 mq2_ kq2_ (by decide) (by decide) hG_106
        have hG_118 := jS.frame hM_113 go_.2.2.2.1 mq2_ kq2_ (by decide) (by decide) hG_107
        have hG_119 := vP.frame hM_113 go_.2.2.2.1 ma_3 ka_3 (by decide) (by decide) hG_108
        have hG_120 := kQj.frame hM_113 go_.2.2.2.1 mq2_ kq2_ (by decide) (by decide) hG_109
        refine lv_aload_n hx hb dX0_closeArgument_91 rfl (lv_at hl 4 rfl) ?_
        refine g_getr (K := 114) (C := RX0) (T := TX0) (N := 14) hx hb hts (mc_ inX0) hown hK g ma0_ ka0_ (by decide) rfl 7 (by decide) rfl (hts _ (List.mem_cons_of_mem _ t_380)) (fun _ h9 => h9) rfl dX0_closeArgument_92 (fun a_121 ma_121 ka_121 g => ?_)
        refine lv_iload_n hx hb dX0_closeArgument_95 rfl (lv_at hl 3 rfl) ?_
        refine lv_aload_n hx hb dX0_closeArgument_96 rfl (lv_at hl 4 rfl) ?_
        refine g_getk (C := RX0) (T := TX0) (N := 14) hx hb hts (mc_ inX0) hown hK g rfl 7 (by decide) rfl (hts _ (List.mem_cons_of_mem _ t_380)) (fun _ h9 => h9) 0 rfl dX0_closeArgument_97 ?_
        refine lv_iload_n hx hb dX0_closeArgument_100 rfl (lv_at hl 3 rfl) ?_
        refine g_iald hx hb hK g ma_121 ka_121 (by decide) rfl (in_bd b_2 (by decide)) dX0_closeArgument_101 (fun x_122 bx_122 cx_122 => ?_)
        refine lv_aload_n hx hb dX0_closeArgument_102 rfl (lv_at hl 4 rfl) ?_
        have go_ := g
        refine g_calli (va_runV (As := []) (rest := [.int x_122, .int y_1, .ref a_121]) ⟨hx, hb, hml, hown, hts⟩ (r_X0_takeHeight l dC dI L kd tys f H.size g.2.2.2.1 a0_ ma0_ ka0_) (cwV 0 hts (gV_ t_1199 t_1201 t_16 t_190 t_1202) rfl rfl rfl (by decide +kernel) ⟨(Nat.le_of_ble_eq_true rfl), (Nat.le_of_ble_eq_true rfl)⟩) (pre3V g hK ma0_ ka0_ (by decide) (q := (RX0, TX0, 14)) rfl) rfl rfl hl.1 rfl (lv_room (Nat.le_of_ble_eq_true rfl)) dX0_closeArgument_103 ⟨(Nat.le_of_ble_eq_true rfl), (Nat.le_of_ble_eq_true rfl)⟩) g hK (by decide) (by decide) (fx' := [(0, 7, a0_, .ref a_121), (0, 6, a0_, .ref a_110), (8, 6, q0_, .int x_100), (0, 5, a0_, .ref a_3), (0, 0, a0_, .ref q0_), (0, 1, a0_, .ref q1_), (0, 2, a0_, .ref q2_), (0, 3, a0_, .ref q3_), (5, 1, q1_, .ref q4_), (0, 8, a0_, .int y0_), (8, 8, q0_, .int y1_)]) rfl (fun r_123 fr_123 H locs hp hMr_123 g => ?_)
        obtain ⟨x_124, h_125, hF_126⟩ := hp
        have hG_127 := eOK.frame hMr_123 go_.2.2.2.1 ma0_ ka0_ (by decide) (by decide) hG_114
        have hG_128 := eJx.frame hMr_123 go_.2.2.2.1 ma0_ ka0_ (by decide) (by decide) hG_115
        have hG_129 := cOK.frame hMr_123 go_.2.2.2.1 mq2_ kq2_ (by decide) (by decide) hG_116
        have hG_130 := dOK.frame hMr_123 go_.2.2.2.1 mq2_ kq2_ (by decide) (by decide) hG_117
        have hG_131 := jS.frame hMr_123 go_.2.2.2.1 mq2_ kq2_ (by decide) (by decide) hG_118
        have hG_132 := vP.frame hMr_123 go_.2.2.2.1 ma_3 ka_3 (by decide) (by decide) hG_119
        have hG_133 := kQj.frame hMr_123 go_.2.2.2.1 mq2_ kq2_ (by decide) (by decide) hG_120
        have g := g.more hF_126
        refine va_mmax hx hb (hml.trans hl.1.symm) hown (hts _ (List.mem_cons_of_mem _ t_1194)) (hts _ (List.mem_cons_of_mem _ t_1041)) (hts _ (List.mem_cons_of_mem _ t_204)) (hts _ (List.mem_cons_of_mem _ t_1042)) (Nat.le_of_ble_eq_true rfl) (Nat.le_of_ble_eq_true rfl) (Nat.le_of_ble_eq_true rfl) (Nat.le_of_ble_eq_true rfl) dX0_closeArgument_106 ?_
        refine lv_topi (fun y_134 ey_134 => ?_)
        have ty_134 : y_134.toInt = max x_122.toInt r_123.toInt := by rw [ey_134]; exact mmax_ok _ _
        have b_135 : bd (-2147483648) 2147483647 y_134 := max_rg ty_134 (bdT x_122) (bdT r_123) (by decide)
        have go_ := g
        refine g_iast hx hb hK g ma_121 ka_121 (by decide) rfl (in_bd b_2 (by decide)) b_135 (by decide) dX0_closeArgument_109 (fun f H locs hM_136 g => ?_)
        have hG_137 := eOK.frame hM_136 go_.2.2.2.1 ma0_ ka0_ (by decide) (by decide) hG_127
        have hG_138 := eJx.frame hM_136 go_.2.2.2.1 ma0_ ka0_ (by decide) (by decide) hG_128
        have hG_139 := cOK.frame hM_136 go_.2.2.2.1 mq2_ kq2_ (by decide) (by decide) hG_129
        have hG_140 := dOK.frame hM_136 go_.2.2.2.1 mq2_ kq2_ (by decide) (by decide) hG_130
        have hG_141 := jS.frame hM_136 go_.2.2.2.1 mq2_ kq2_ (by decide) (by decide) hG_131
        have hG_142 := vP.frame hM_136 go_.2.2.2.1 ma_3 ka_3 (by decide) (by decide) hG_132
        have hG_143 := kQj.frame hM_136 go_.2.2.2.1 mq2_ kq2_ (by decide) (by decide) hG_133
        refine lv_aload_n hx hb dX0_closeArgument_110 rfl (lv_at hl 4 rfl) ?_
        refine g_getk (C := RX0) (T := TX0) (N := 14) hx hb hts (mc_ inX0) hown hK g rfl 2 (by decide) rfl (hts _ (List.mem_cons_of_mem _ t_375)) (fun _ h9 => h9) 7 rfl dX0_closeArgument_111 ?_
        refine g_getr (K := 137) (C := RX7) (T := TX7) (N := 19) hx hb hts (mc_ inX7) hown hK g mq2_ kq2_ (by decide) rfl 2 (by decide) rfl (hts _ (List.mem_cons_of_mem _ t_633)) (fun _ h9 => h9) rfl dX0_closeArgument_114 (fun a_144 ma_144 ka_144 g => ?_)
        refine lv_iload hx hb dX0_closeArgument_117 (lv_at hl 1 rfl) ?_
        refine g_aald hx hb hK g ma_144 ka_144 (by decide) rfl (by decide) (in_bd b_13 (by decide)) dX0_closeArgument_119 (fun a_145 ma_145 ua_145 wa_145 => ?_)
        have ka_145 : kd a_145 = 6 := by omega
        refine g_geti (C := RX6) (T := TX6) (N := 13) hx hb hts (mc_ inX6) hown hK g ma_145 ka_145 (by decide) rfl 3 (by decide) rfl (hts _ (List.mem_cons_of_mem _ t_564)) (fun _ h9 => h9) rfl dX0_closeArgument_120 (fun x_146 bx_146 g => ?_)
        refine lv_istore (lv' := [(6, .int x_146), (5, .int r_14), (4, .int x_4), (3, .int x_4), (2, .int y_1), (0, .ref a0_), (1, .int x1_)]) hx hb dX0_closeArgument_123 hl (by decide) rfl (fun ls hl => ?_)
        refine lv_iload_n hx hb dX0_closeArgument_125 rfl (lv_at hl 6 rfl) ?_
        refine lv_bipush (v := 44) hx hb dX0_closeArgument_126 (by decide) ?_
        refine lv_icmp_ne (tgt := 159) hx hb dX0_closeArgument_128 (by decide) (fun c_147 => ?_) (fun c_147 => ?_)
        · have fc_147 := neq_f c_147
          refine lv_aload_n hx hb dX0_closeArgument_159 rfl (lv_at hl 5 rfl) ?_
          refine g_getk (C := RX0) (T := TX0) (N := 14) hx hb hts (mc_ inX0) hown hK g rfl 6 (by decide) rfl (hts _ (List.mem_cons_of_mem _ t_379)) (fun _ h9 => h9) 4 rfl dX0_closeArgument_160 ?_
          refine lv_iload_n hx hb dX0_closeArgument_163 rfl (lv_at hl 4 rfl) ?_
          refine g_iald hx hb hK g ma_110 ka_110 (by decide) rfl (in_bd b_2 (by decide)) dX0_closeArgument_164 (fun x_148 bx_148 cx_148 => ?_)
          refine lv_iload hx hb dX0_closeArgument_165 (lv_at hl 0 rfl) ?_
          refine lv_icmp_ge (tgt := 181) hx hb dX0_closeArgument_167 (by decide) (fun c_149 => ?_) (fun c_149 => ?_)
          · have fc_149 := le_f c_149
            have b_150 : bd 0 2147483647 x_148 := leR fc_149 bx_146 (bdT x_148) (by decide)
            refine lv_aload_n hx hb dX0_closeArgument_181 rfl (lv_at hl 5 rfl) ?_
            refine lv_dup hx hb dX0_closeArgument_182 rfl ?_
            refine g_getk (C := RX0) (T := TX0) (N := 14) hx hb hts (mc_ inX0) hown hK g rfl 8 (by decide) rfl (hts _ (List.mem_cons_of_mem _ t_381)) (fun _ h9 => h9) 12 rfl dX0_closeArgument_183 ?_
            refine lv_iconst (v := 1) hx hb dX0_closeArgument_186 (by decide) ?_
            refine lv_isub hx hb dX0_closeArgument_187 ?_
            refine lv_topi (fun y_151 ey_151 => ?_)
            obtain rfl : y_1 = y_151 := ey_1.trans ey_151.symm
            have go_ := g
            refine g_putX (C := RX0) (T := TX0) (N := 14) hx hb hts (mc_ inX0) tyX0 tyX0_ok nmX0 hown hK g ma0_ ka0_ (by decide) rfl 8 (by decide) (hts _ (List.mem_cons_of_mem _ t_381)) (fun _ h9 => h9) rfl rfl (okV_i (bd_sub b_2 (by decide))) rfl rfl (by decide) (Or.inr (Or.inl (by decide))) (fx' := [(6, 3, a_145, .int x_146), (7, 2, q2_, .ref a_144), (0, 10, a0_, .int x_124), (0, 7, a0_, .ref a_121), (0, 6, a0_, .ref a_110), (8, 6, q0_, .int x_100), (0, 5, a0_, .ref a_3), (0, 0, a0_, .ref q0_), (0, 1, a0_, .ref q1_), (0, 2, a0_, .ref q2_), (0, 3, a0_, .ref q3_), (5, 1, q1_, .ref q4_), (8, 8, q0_, .int y1_)]) rfl dX0_closeArgument_188 (fun f H locs hM_152 u_160 g => ?_)
            have hG_153 := eOK.frame hM_152 go_.2.2.2.1 ma0_ ka0_ (by decide) (by decide) hG_137
            have hG_154 := cOK.frame hM_152 go_.2.2.2.1 mq2_ kq2_ (by decide) (by decide) hG_139
            have hG_155 := dOK.frame hM_152 go_.2.2.2.1 mq2_ kq2_ (by decide) (by decide) hG_140
            have hG_156 := jS.frame hM_152 go_.2.2.2.1 mq2_ kq2_ (by decide) (by decide) hG_141
            have hG_157 := vP.frame hM_152 go_.2.2.2.1 ma_3 ka_3 (by decide) (by decide) hG_142
            have hG_158 := kQj.frame hM_152 go_.2.2.2.1 mq2_ kq2_ (by decide) (by decide) hG_143
            have hi_159 := eJx.dec hG_138 (fx_at go_ (i := 12) rfl).2.2.2 (fx_at go_ (i := 9) rfl).2.2.2 mq2_ kq2_ u_160 (by have h9_0 := b_98; unfold bd at h9_0; have h9_1 := h_101; unfold bd at h9_1; have h9_2 := h_125; unfold bd at h9_2; have h9_3 := bx_146; unfold bd at h9_3; have h9_4 := b_150; unfold bd at h9_4; have h9_5 := b_13; unfold bd at h9_5; have h9_6 := b_12; unfold bd at h9_6; have h9_7 := by0_; unfold bd at h9_7; have h9_8 := by1_; unfold bd at h9_8; have h9_9 := b_2; unfold bd at h9_9; have h9_10 := b_135; unfold bd at h9_10; have h8_0 := kb_1; unfold bd at h8_0; have h8_1 := kb_2; unfold bd at h8_1; have h8_2 := kb_41; unfold bd at h8_2; have h8_3 := kb_44; unfold bd at h8_3; omega) go_.2.2.2.1 ma0_ ka0_
            refine lv_aload_n hx hb dX0_closeArgument_191 rfl (lv_at hl 5 rfl) ?_
            refine lv_dup hx hb dX0_closeArgument_192 rfl ?_
            refine g_geti (C := RX0) (T := TX0) (N := 14) hx hb hts (mc_ inX0) hown hK g ma0_ ka0_ (by decide) rfl 11 (by decide) rfl (hts _ (List.mem_cons_of_mem _ t_384)) (fun _ h9 => h9) rfl dX0_closeArgument_193 (fun x_161 bx_161 g => ?_)
            refine lv_iconst (v := 1) hx hb dX0_closeArgument_196 (by decide) ?_
            refine lv_isub hx hb dX0_closeArgument_197 ?_
            refine lv_topi (fun y_162 ey_162 => ?_)
            have go_ := g
            refine g_put (C := RX0) (T := TX0) (N := 14) hx hb hts (mc_ inX0) tyX0 tyX0_ok nmX0 hown hK g ma0_ ka0_ (by decide) rfl 11 (by decide) (hts _ (List.mem_cons_of_mem _ t_384)) (fun _ h9 => h9) rfl rfl (okV_i (bdT y_162)) rfl rfl (by decide) (Or.inr (Or.inl (by decide))) (fx' := [(0, 8, a0_, .int y_1), (6, 3, a_145, .int x_146), (7, 2, q2_, .ref a_144), (0, 10, a0_, .int x_124), (0, 7, a0_, .ref a_121), (0, 6, a0_, .ref a_110), (8, 6, q0_, .int x_100), (0, 5, a0_, .ref a_3), (0, 0, a0_, .ref q0_), (0, 1, a0_, .ref q1_), (0, 2, a0_, .ref q2_), (0, 3, a0_, .ref q3_), (5, 1, q1_, .ref q4_), (8, 8, q0_, .int y1_)]) rfl dX0_closeArgument_198 (fun f H locs hM_163 g => ?_)
            have hG_164 := eOK.frame hM_163 go_.2.2.2.1 ma0_ ka0_ (by decide) (by decide) hG_153
            have hG_165 := cOK.frame hM_163 go_.2.2.2.1 mq2_ kq2_ (by decide) (by decide) hG_154
            have hG_166 := dOK.frame hM_163 go_.2.2.2.1 mq2_ kq2_ (by decide) (by decide) hG_155
            have hG_167 := jS.frame hM_163 go_.2.2.2.1 mq2_ kq2_ (by decide) (by decide) hG_156
            have hG_168 := vP.frame hM_163 go_.2.2.2.1 ma_3 ka_3 (by decide) (by decide) hG_157
            have hG_169 := kQj.frame hM_163 go_.2.2.2.1 mq2_ kq2_ (by decide) (by decide) hG_158
            have hG_170 := eJx.frame hM_163 go_.2.2.2.1 ma0_ ka0_ (by decide) (by decide) hi_159
            refine lv_aload_n hx hb dX0_closeArgument_201 rfl (lv_at hl 5 rfl) ?_
            refine g_getk (C := RX0) (T := TX0) (N := 14) hx hb hts (mc_ inX0) hown hK g rfl 7 (by decide) rfl (hts _ (List.mem_cons_of_mem _ t_380)) (fun _ h9 => h9) 5 rfl dX0_closeArgument_202 ?_
            refine lv_iload_n hx hb dX0_closeArgument_205 rfl (lv_at hl 4 rfl) ?_
            refine g_iald hx hb hK g ma_121 ka_121 (by decide) rfl (in_bd b_2 (by decide)) dX0_closeArgument_206 (fun x_171 bx_171 cx_171 => ?_)
            refine lv_iconst (v := 1) hx hb dX0_closeArgument_207 (by decide) ?_
            refine lv_iadd hx hb dX0_closeArgument_208 ?_
            refine lv_topi (fun y_172 ey_172 => ?_)
            refine lv_bipush (v := 12) hx hb dX0_closeArgument_209 (by decide) ?_
            have kb_12 : bd 12 12 (12 : Int32) := ⟨by decide, by decide⟩
            refine lv_icmp_le (tgt := 229) hx hb dX0_closeArgument_211 (by decide) (fun c_173 => ?_) (fun c_173 => ?_)
            · have fc_173 := le_f c_173
              have b_174 : bd (-2147483648) 12 y_172 := leL fc_173 (bdT y_172) kb_12 (by decide)
              refine lv_aload_n hx hb dX0_closeArgument_229 rfl (lv_at hl 5 rfl) ?_
              refine g_getk (C := RX0) (T := TX0) (N := 14) hx hb hts (mc_ inX0) hown hK g rfl 2 (by decide) rfl (hts _ (List.mem_cons_of_mem _ t_375)) (fun _ h9 => h9) 11 rfl dX0_closeArgument_230 ?_
              refine lv_bipush (v := 13) hx hb dX0_closeArgument_233 (by decide) ?_
              refine lv_iconst (v := 0) hx hb dX0_closeArgument_235 (by decide) ?_
              obtain ⟨a_175, ma_175, ka_175, g⟩ := g_factr g mq2_ kq2_ (by decide) 4 rfl
              obtain ⟨a_176, ma_176, ka_176, g⟩ := g_factr g mq2_ kq2_ (by decide) 5 rfl
              obtain ⟨x_177, bx_177, g⟩ := g_facti g mq2_ kq2_ (by decide) 6 rfl
              have kb_13 : bd 13 13 (13 : Int32) := ⟨by decide, by decide⟩
              have kb_0 : bd 0 0 (0 : Int32) := ⟨by decide, by decide⟩
              have go_ := g
              refine g_callv (va_runV (As := [.int 13, .int 0]) (rest := []) ⟨hx, hb, hml, hown, hts⟩ (r_X7_emitN l dC dI L kd tys f H.size g.2.2.2.1 q2_ mq2_ kq2_ a_175 ma_175 ka_175 a_176 ma_176 ka_176 x_177 bx_177 T_ hG_166 (13 : Int32) (0 : Int32) (fun j9 => jOK f q2_ j9) hG_165 (fun _ h9 => h9) ⟨(fun h9 => ⟨(by have h9_0 := b_98; unfold bd at h9_0; have h9_1 := h_101; unfold bd at h9_1; have h9_2 := h_125; unfold bd at h9_2; have h9_3 := bx_146; unfold bd at h9_3; have h9_4 := b_150; unfold bd at h9_4; have h9_5 := bx_177; unfold bd at h9_5; have h9_6 := b_13; unfold bd at h9_6; have h9_7 := b_12; unfold bd at h9_7; have h9_8 := by0_; unfold bd at h9_8; have h9_9 := by1_; unfold bd at h9_9; have h9_10 := b_2; unfold bd at h9_10; have h9_11 := b_135; unfold bd at h9_11; have h9_12 := b_174; unfold bd at h9_12; have h8_0 := kb_0; unfold bd at h8_0; have h8_1 := kb_1; unfold bd at h8_1; have h8_2 := kb_12; unfold bd at h8_2; have h8_3 := kb_13; unfold bd at h8_3; have h8_4 := kb_2; unfold bd at h8_4; have h8_5 := kb_41; unfold bd at h8_5; have h8_6 := kb_44; unfold bd at h8_6; omega), (by have h9_0 := b_98; unfold bd at h9_0; have h9_1 := h_101; unfold bd at h9_1; have h9_2 := h_125; unfold bd at h9_2; have h9_3 := bx_146; unfold bd at h9_3; have h9_4 := b_150; unfold bd at h9_4; have h9_5 := bx_177; unfold bd at h9_5; have h9_6 := b_13; unfold bd at h9_6; have h9_7 := b_12; unfold bd at h9_7; have h9_8 := by0_; unfold bd at h9_8; have h9_9 := by1_; unfold bd at h9_9; have h9_10 := b_2; unfold bd at h9_10; have h9_11 := b_135; unfold bd at h9_11; have h9_12 := b_174; unfold bd at h9_12; have h8_0 := kb_0; unfold bd at h8_0; have h8_1 := kb_1; unfold bd at h8_1; have h8_2 := kb_12; unfold bd at h8_2; have h8_3 := kb_13; unfold bd at h8_3; have h8_4 := kb_2; unfold bd at h8_4; have h8_5 := kb_41; unfold bd at h8_5; have h8_6 := kb_44; unfold bd at h8_6; omega)⟩), (fun h9 => ⟨(by have h9_0 := b_98; unfold bd at h9_0; have h9_1 := h_101; unfold bd at h9_1; have h9_2 := h_125; unfold bd at h9_2; have h9_3 := bx_146; unfold bd at h9_3; have h9_4 := b_150; unfold bd at h9_4; have h9_5 := bx_177; unfold bd at h9_5; have h9_6 := b_13; unfold bd at h9_6; have h9_7 := b_12; unfold bd at h9_7; have h9_8 := by0_; unfold bd at h9_8; have h9_9 := by1_; unfold bd at h9_9; have h9_10 := b_2; unfold bd at h9_10; have h9_11 := b_135; unfold bd at h9_11; have h9_12 := b_174; unfold bd at h9_12; have h8_0 := kb_0; unfold bd at h8_0; have h8_1 := kb_1; unfold bd at h8_1; have h8_2 := kb_12; unfold bd at h8_2; have h8_3 := kb_13; unfold bd at h8_3; have h8_4 := kb_2; unfold bd at h8_4; have h8_5 := kb_41; unfold bd at h8_5; have h8_6 := kb_44; unfold bd at h8_6; omega), (by have h9_0 := b_98; unfold bd at h9_0; have h9_1 := h_101; unfold bd at h9_1; have h9_2 := h_125; unfold bd at h9_2; have h9_3 := bx_146; unfold bd at h9_3; have h9_4 := b_150; unfold bd at h9_4; have h9_5 := bx_177; unfold bd at h9_5; have h9_6 := b_13; unfold bd at h9_6; have h9_7 := b_12; unfold bd at h9_7; have h9_8 := by0_; unfold bd at h9_8; have h9_9 := by1_; unfold bd at h9_9; have h9_10 := b_2; unfold bd at h9_10; have h9_11 := b_135; unfold bd at h9_11; have h9_12 := b_174; unfold bd at h9_12; have h8_0 := kb_0; unfold bd at h8_0; have h8_1 := kb_1; unfold bd at h8_1; have h8_2 := kb_12; unfold bd at h8_2; have h8_3 := kb_13; unfold bd at h8_3; have h8_4 := kb_2; unfold bd at h8_4; have h8_5 := kb_41; unfold bd at h8_5; have h8_6 := kb_44; unfold bd at h8_6; omega)⟩), (fun h9 => ⟨(by have h9_0 := b_98; unfold bd at h9_0; have h9_1 := h_101; unfold bd at h9_1; have h9_2 := h_125; unfold bd at h9_2; have h9_3 := bx_146; unfold bd at h9_3; have h9_4 := b_150; unfold bd at h9_4; have h9_5 := bx_177; unfold bd at h9_5; have h9_6 := b_13; unfold bd at h9_6; have h9_7 := b_12; unfold bd at h9_7; have h9_8 := by0_; unfold bd at h9_8; have h9_9 := by1_; unfold bd at h9_9; have h9_10 := b_2; unfold bd at h9_10; have h9_11 := b_135; unfold bd at h9_11; have h9_12 := b_174; unfold bd at h9_12; have h8_0 := kb_0; unfold bd at h8_0; have h8_1 := kb_1; unfold bd at h8_1; have h8_2 := kb_12; unfold bd at h8_2; have h8_3 := kb_13; unfold bd at h8_3; have h8_4 := kb_2; unfold bd at h8_4; have h8_5 := kb_41; unfold bd at h8_5; have h8_6 := kb_44; unfold bd at h8_6; omega), (by have h9_0 := b_98; unfold bd at h9_0; have h9_1 := h_101; unfold bd at h9_1; have h9_2 := h_125; unfold bd at h9_2; have h9_3 := bx_146; unfold bd at h9_3; have h9_4 := b_150; unfold bd at h9_4; have h9_5 := bx_177; unfold bd at h9_5; have h9_6 := b_13; unfold bd at h9_6; have h9_7 := b_12; unfold bd at h9_7; have h9_8 := by0_; unfold bd at h9_8; have h9_9 := by1_; unfold bd at h9_9; have h9_10 := b_2; unfold bd at h9_10; have h9_11 := b_135; unfold bd at h9_11; have h9_12 := b_174; unfold bd at h9_12; have h8_0 := kb_0; unfold bd at h8_0; have h8_1 := kb_1; unfold bd at h8_1; have h8_2 := kb_12; unfold bd at h8_2; have h8_3 := kb_13; unfold bd at h8_3; have h8_4 := kb_2; unfold bd at h8_4; have h8_5 := kb_41; unfold bd at h8_5; have h8_6 := kb_44; unfold bd at h8_6; omega)⟩)⟩ (g.fcts [2, 1, 0] rfl)) (cwV 2 hts (gV_ t_1203 t_1204 t_1205 t_191 t_1206) rfl rfl rfl (by decide +kernel) ⟨(Nat.le_of_ble_eq_true rfl), (Nat.le_of_ble_eq_true rfl)⟩) (pre3V g hK mq2_ kq2_ (by decide) (q := (RX7, TX7, 19)) rfl) rfl rfl hl.1 rfl (lv_room (Nat.le_of_ble_eq_true rfl)) dX0_closeArgument_236 ⟨(Nat.le_of_ble_eq_true rfl), (Nat.le_of_ble_eq_true rfl)⟩) g hK (by decide) (by decide) (fx' := [(7, 5, q2_, .ref a_176), (7, 4, q2_, .ref a_175), (0, 11, a0_, .int y_162), (0, 8, a0_, .int y_1), (6, 3, a_145, .int x_146), (7, 2, q2_, .ref a_144), (0, 10, a0_, .int x_124), (0, 7, a0_, .ref a_121), (0, 6, a0_, .ref a_110), (8, 6, q0_, .int x_100), (0, 5, a0_, .ref a_3), (0, 0, a0_, .ref q0_), (0, 1, a0_, .ref q1_), (0, 2, a0_, .ref q2_), (0, 3, a0_, .ref q3_), (5, 1, q1_, .ref q4_), (8, 8, q0_, .int y1_)]) rfl (fun fr_178 H locs hp hMr_178 g => ?_)
              obtain ⟨hG_179, hG_180, hG_181, hx_182, x_183, h_184, hF_185⟩ := hp
              have hG_186 := eOK.frame hMr_178 go_.2.2.2.1 ma0_ ka0_ (by decide) (by decide) hG_164
              have hG_187 := vP.frame hMr_178 go_.2.2.2.1 ma_3 ka_3 (by decide) (by decide) hG_168
              have g := g.more hF_185
              have hs_188 := jS.mv hG_167 hG_181
              have hq_189 := kQj.mv hG_169 hG_181
              have hG_190 := eJx.mv hG_170 hMr_178 go_.2.2.2.1 ma0_ ka0_ (by decide) (by decide) (((hMr_178 a0_ ma0_).1 2 (by rw [ka0_]; decide) (by rw [ka0_]; decide)).symm.trans (fx_at g (i := 14) rfl).2.2.2) hG_181
              refine lv_aload_n hx hb dX0_closeArgument_239 rfl (lv_at hl 5 rfl) ?_
              refine g_getk (C := RX0) (T := TX0) (N := 14) hx hb hts (mc_ inX0) hown hK g rfl 2 (by decide) rfl (hts _ (List.mem_cons_of_mem _ t_375)) (fun _ h9 => h9) 14 rfl dX0_closeArgument_240 ?_
              refine lv_aload_n hx hb dX0_closeArgument_243 rfl (lv_at hl 5 rfl) ?_
              refine g_getk (C := RX0) (T := TX0) (N := 14) hx hb hts (mc_ inX0) hown hK g rfl 3 (by decide) rfl (hts _ (List.mem_cons_of_mem _ t_376)) (fun _ h9 => h9) 15 rfl dX0_closeArgument_244 ?_
              refine lv_iload_n hx hb dX0_closeArgument_247 rfl (lv_at hl 4 rfl) ?_
              refine g_iald hx hb hK g mq3_ kq3_ (by decide) rfl (in_bd b_2 (by decide)) dX0_closeArgument_248 (fun x_191 bx_191 cx_191 => ?_)
              obtain rfl : x_5 = x_191 := el_same cx_5 cx_191 ((arr_eq hMr_178 mq3_ kq3_ (by decide) rfl).trans ((arr_eq hM_163 mq3_ kq3_ (by decide) rfl).trans ((arr_eq hM_152 mq3_ kq3_ (by decide) rfl).trans ((arr_eq hM_136 mq3_ kq3_ (by decide) rfl).trans ((arr_eq hMr_123 mq3_ kq3_ (by decide) rfl).trans ((arr_eq hM_113 mq3_ kq3_ (by decide) rfl).trans ((arr_eq hMr_99 mq3_ kq3_ (by decide) rfl).trans (arr_eq hMr_14 mq3_ kq3_ (by decide) rfl))))))))
              refine lv_iconst (v := 2) hx hb dX0_closeArgument_249 (by decide) ?_
              refine lv_icmp_ne (tgt := 258) hx hb dX0_closeArgument_250 (by decide) (fun c_192 => ?_) (fun c_192 => ?_)
              · have fc_192 := neq_f c_192
                refine lv_bipush (v := 18) hx hb dX0_closeArgument_258 (by decide) ?_
                refine lv_iload_n hx hb dX0_closeArgument_260 rfl (lv_at hl 3 rfl) ?_
                have kb_18 : bd 18 18 (18 : Int32) := ⟨by decide, by decide⟩
                have go_ := g
                refine g_callv (va_runV (As := [.int 18, .int x_4]) (rest := []) ⟨hx, hb, hml, hown, hts⟩ (r_X7_emitN l dC dI L kd tys fr_178 H.size g.2.2.2.1 q2_ mq2_ kq2_ a_175 ma_175 ka_175 a_176 ma_176 ka_176 x_183 h_184 T_ hG_179 (18 : Int32) x_4 (fun j9 => jOK fr_178 q2_ j9) hG_180 (fun _ h9 => h9) ⟨(fun h9 => ⟨(by have h9_0 := b_98; unfold bd at h9_0; have h9_1 := h_101; unfold bd at h9_1; have h9_2 := h_125; unfold bd at h9_2; have h9_3 := bx_146; unfold bd at h9_3; have h9_4 := b_150; unfold bd at h9_4; have h9_5 := bx_177; unfold bd at h9_5; have h9_6 := h_184; unfold bd at h9_6; have h9_7 := b_13; unfold bd at h9_7; have h9_8 := b_12; unfold bd at h9_8; have h9_9 := by0_; unfold bd at h9_9; have h9_10 := by1_; unfold bd at h9_10; have h9_11 := b_2; unfold bd at h9_11; have h9_12 := b_135; unfold bd at h9_12; have h9_13 := b_174; unfold bd at h9_13; have h8_0 := kb_0; unfold bd at h8_0; have h8_1 := kb_1; unfold bd at h8_1; have h8_2 := kb_12; unfold bd at h8_2; have h8_3 := kb_13; unfold bd at h8_3; have h8_4 := kb_18; unfold bd at h8_4; have h8_5 := kb_2; unfold bd at h8_5; have h8_6 := kb_41; unfold bd at h8_6; have h8_7 := kb_44; unfold bd at h8_7; omega), (by have h9_0 := b_98; unfold bd at h9_0; have h9_1 := h_101; unfold bd at h9_1; have h9_2 := h_125; unfold bd at h9_2; have h9_3 := bx_146; unfold bd at h9_3; have h9_4 := b_150; unfold bd at h9_4; have h9_5 := bx_177; unfold bd at h9_5; have h9_6 := h_184; unfold bd at h9_6; have h9_7 := b_13; unfold bd at h9_7; have h9_8 := b_12; unfold bd at h9_8; have h9_9 := by0_; unfold bd at h9_9; have h9_10 := by1_; unfold bd at h9_10; have h9_11 := b_2; unfold bd at h9_11; have h9_12 := b_135; unfold bd at h9_12; have h9_13 := b_174; unfold bd at h9_13; have h8_0 := kb_0; unfold bd at h8_0; have h8_1 := kb_1; unfold bd at h8_1; have h8_2 := kb_12; unfold bd at h8_2; have h8_3 := kb_13; unfold bd at h8_3; have h8_4 := kb_18; unfold bd at h8_4; have h8_5 := kb_2; unfold bd at h8_5; have h8_6 := kb_41; unfold bd at h8_6; have h8_7 := kb_44; unfold bd at h8_7; omega)⟩), (fun h9 => ⟨(by have h9_0 := b_98; unfold bd at h9_0; have h9_1 := h_101; unfold bd at h9_1; have h9_2 := h_125; unfold bd at h9_2; have h9_3 := bx_146; unfold bd at h9_3; have h9_4 := b_150; unfold bd at h9_4; have h9_5 := bx_177; unfold bd at h9_5; have h9_6 := h_184; unfold bd at h9_6; have h9_7 := b_13; unfold bd at h9_7; have h9_8 := b_12; unfold bd at h9_8; have h9_9 := by0_; unfold bd at h9_9; have h9_10 := by1_; unfold bd at h9_10; have h9_11 := b_2; unfold bd at h9_11; have h9_12 := b_135; unfold bd at h9_12; have h9_13 := b_174; unfold bd at h9_13; have h8_0 := kb_0; unfold bd at h8_0; have h8_1 := kb_1; unfold bd at h8_1; have h8_2 := kb_12; unfold bd at h8_2; have h8_3 := kb_13; unfold bd at h8_3; have h8_4 := kb_18; unfold bd at h8_4; have h8_5 := kb_2; unfold bd at h8_5; have h8_6 := kb_41; unfold bd at h8_6; have h8_7 := kb_44; unfold bd at h8_7; omega), (by have h9_0 := b_98; unfold bd at h9_0; have h9_1 := h_101; unfold bd at h9_1; have h9_2 := h_125; unfold bd at h9_2; have h9_3 := bx_146; unfold bd at h9_3; have h9_4 := b_150; unfold bd at h9_4; have h9_5 := bx_177; unfold bd at h9_5; have h9_6 := h_184; unfold bd at h9_6; have h9_7 := b_13; unfold bd at h9_7; have h9_8 := b_12; unfold bd at h9_8; have h9_9 := by0_; unfold bd at h9_9; have h9_10 := by1_; unfold bd at h9_10; have h9_11 := b_2; unfold bd at h9_11; have h9_12 := b_135; unfold bd at h9_12; have h9_13 := b_174; unfold bd at h9_13; have h8_0 := kb_0; unfold bd at h8_0; have h8_1 := kb_1; unfold bd at h8_1; have h8_2 := kb_12; unfold bd at h8_2; have h8_3 := kb_13; unfold bd at h8_3; have h8_4 := kb_18; unfold bd at h8_4; have h8_5 := kb_2; unfold bd at h8_5; have h8_6 := kb_41; unfold bd at h8_6; have h8_7 := kb_44; unfold bd at h8_7; omega)⟩), (fun h9 => ⟨(by have h9_0 := b_98; unfold bd at h9_0; have h9_1 := h_101; unfold bd at h9_1; have h9_2 := h_125; unfold bd at h9_2; have h9_3 := bx_146; unfold bd at h9_3; have h9_4 := b_150; unfold bd at h9_4; have h9_5 := bx_177; unfold bd at h9_5; have h9_6 := h_184; unfold bd at h9_6; have h9_7 := b_13; unfold bd at h9_7; have h9_8 := b_12; unfold bd at h9_8; have h9_9 := by0_; unfold bd at h9_9; have h9_10 := by1_; unfold bd at h9_10; have h9_11 := b_2; unfold bd at h9_11; have h9_12 := b_135; unfold bd at h9_12; have h9_13 := b_174; unfold bd at h9_13; have h8_0 := kb_0; unfold bd at h8_0; have h8_1 := kb_1; unfold bd at h8_1; have h8_2 := kb_12; unfold bd at h8_2; have h8_3 := kb_13; unfold bd at h8_3; have h8_4 := kb_18; unfold bd at h8_4; have h8_5 := kb_2; unfold bd at h8_5; have h8_6 := kb_41; unfold bd at h8_6; have h8_7 := kb_44; unfold bd at h8_7; omega), (by have h9_0 := b_98; unfold bd at h9_0; have h9_1 := h_101; unfold bd at h9_1; have h9_2 := h_125; unfold bd at h9_2; have h9_3 := bx_146; unfold bd at h9_3; have h9_4 := b_150; unfold bd at h9_4; have h9_5 := bx_177; unfold bd at h9_5; have h9_6 := h_184; unfold bd at h9_6; have h9_7 := b_13; unfold bd at h9_7; have h9_8 := b_12; unfold bd at h9_8; have h9_9 := by0_; unfold bd at h9_9; have h9_10 := by1_; unfold bd at h9_10; have h9_11 := b_2; unfold bd at h9_11; have h9_12 := b_135; unfold bd at h9_12; have h9_13 := b_174; unfold bd at h9_13; have h8_0 := kb_0; unfold bd at h8_0; have h8_1 := kb_1; unfold bd at h8_1; have h8_2 := kb_12; unfold bd at h8_2; have h8_3 := kb_13; unfold bd at h8_3; have h8_4 := kb_18; unfold bd at h8_4; have h8_5 := kb_2; unfold bd at h8_5; have h8_6 := kb_41; unfold bd at h8_6; have h8_7 := kb_44; unfold bd at h8_7; omega)⟩)⟩ (g.fcts [2, 1, 0] rfl)) (cwV 2 hts (gV_ t_1203 t_1204 t_1205 t_191 t_1206) rfl rfl rfl (by decide +kernel) ⟨(Nat.le_of_ble_eq_true rfl), (Nat.le_of_ble_eq_true rfl)⟩) (pre3V g hK mq2_ kq2_ (by decide) (q := (RX7, TX7, 19)) rfl) rfl rfl hl.1 rfl (lv_room (Nat.le_of_ble_eq_true rfl)) dX0_closeArgument_261 ⟨(Nat.le_of_ble_eq_true rfl), (Nat.le_of_ble_eq_true rfl)⟩) g hK (by decide) (by decide) (fx' := [(7, 5, q2_, .ref a_176), (7, 4, q2_, .ref a_175), (0, 11, a0_, .int y_162), (0, 8, a0_, .int y_1), (6, 3, a_145, .int x_146), (7, 2, q2_, .ref a_144), (0, 10, a0_, .int x_124), (0, 7, a0_, .ref a_121), (0, 6, a0_, .ref a_110), (8, 6, q0_, .int x_100), (0, 5, a0_, .ref a_3), (0, 0, a0_, .ref q0_), (0, 1, a0_, .ref q1_), (0, 2, a0_, .ref q2_), (0, 3, a0_, .ref q3_), (5, 1, q1_, .ref q4_), (8, 8, q0_, .int y1_)]) rfl (fun fr_193 H locs hp hMr_193 g => ?_)
                obtain ⟨hG_194, hG_195, hG_196, hx_197, x_198, h_199, hF_200⟩ := hp
                have hG_201 := eOK.frame hMr_193 go_.2.2.2.1 ma0_ ka0_ (by decide) (by decide) hG_186
                have hG_202 := vP.frame hMr_193 go_.2.2.2.1 ma_3 ka_3 (by decide) (by decide) hG_187
                have g := g.more hF_200
                have hs_203 := jS.mv hs_188 hG_196
                have hq_204 := kQj.mv hq_189 hG_196
                have hG_205 := eJx.mv hG_190 hMr_193 go_.2.2.2.1 ma0_ ka0_ (by decide) (by decide) (((hMr_193 a0_ ma0_).1 2 (by rw [ka0_]; decide) (by rw [ka0_]; decide)).symm.trans (fx_at g (i := 14) rfl).2.2.2) hG_196
                refine lv_aload_n hx hb dX0_closeArgument_264 rfl (lv_at hl 5 rfl) ?_
                refine lv_aload_n hx hb dX0_closeArgument_265 rfl (lv_at hl 5 rfl) ?_
                refine g_getk (C := RX0) (T := TX0) (N := 14) hx hb hts (mc_ inX0) hown hK g rfl 7 (by decide) rfl (hts _ (List.mem_cons_of_mem _ t_380)) (fun _ h9 => h9) 8 rfl dX0_closeArgument_266 ?_
                refine lv_iload_n hx hb dX0_closeArgument_269 rfl (lv_at hl 4 rfl) ?_
                refine g_iald hx hb hK g ma_121 ka_121 (by decide) rfl (in_bd b_2 (by decide)) dX0_closeArgument_270 (fun x_206 bx_206 cx_206 => ?_)
                obtain rfl : x_171 = x_206 := el_same cx_171 cx_206 ((arr_eq hMr_193 ma_121 ka_121 (by decide) rfl).trans (arr_eq hMr_178 ma_121 ka_121 (by decide) rfl))
                refine lv_iconst (v := 1) hx hb dX0_closeArgument_271 (by decide) ?_
                refine lv_iadd hx hb dX0_closeArgument_272 ?_
                refine lv_topi (fun y_207 ey_207 => ?_)
                obtain rfl : y_172 = y_207 := ey_172.trans ey_207.symm
                have go_ := g
                refine g_callv (va_runV (As := [.int y_172]) (rest := []) ⟨hx, hb, hml, hown, hts⟩ (r_X0_addWhole l dC dI L kd tys fr_193 H.size g.2.2.2.1 a0_ ma0_ ka0_ y_172) (cwV 1 hts (gV_ t_1211 t_1213 t_17 t_190 t_1214) rfl rfl rfl (by decide +kernel) ⟨(Nat.le_of_ble_eq_true rfl), (Nat.le_of_ble_eq_true rfl)⟩) (pre3V g hK ma0_ ka0_ (by decide) (q := (RX0, TX0, 14)) rfl) rfl rfl hl.1 rfl (lv_room (Nat.le_of_ble_eq_true rfl)) dX0_closeArgument_273 ⟨(Nat.le_of_ble_eq_true rfl), (Nat.le_of_ble_eq_true rfl)⟩) g hK (by decide) (by decide) (fx' := [(7, 6, q2_, .int x_198), (7, 5, q2_, .ref a_176), (7, 4, q2_, .ref a_175), (0, 11, a0_, .int y_162), (0, 8, a0_, .int y_1), (6, 3, a_145, .int x_146), (7, 2, q2_, .ref a_144), (0, 7, a0_, .ref a_121), (0, 6, a0_, .ref a_110), (8, 6, q0_, .int x_100), (0, 5, a0_, .ref a_3), (0, 0, a0_, .ref q0_), (0, 1, a0_, .ref q1_), (0, 2, a0_, .ref q2_), (0, 3, a0_, .ref q3_), (5, 1, q1_, .ref q4_), (8, 8, q0_, .int y1_)]) rfl (fun fr_208 H locs hp hMr_208 g => ?_)
                obtain ⟨x_209, h_210, hF_211⟩ := hp
                have hG_212 := eOK.frame hMr_208 go_.2.2.2.1 ma0_ ka0_ (by decide) (by decide) hG_201
                have hG_213 := cOK.frame hMr_208 go_.2.2.2.1 mq2_ kq2_ (by decide) (by decide) hG_195
                have hG_214 := dOK.frame hMr_208 go_.2.2.2.1 mq2_ kq2_ (by decide) (by decide) hG_194
                have hG_215 := jS.frame hMr_208 go_.2.2.2.1 mq2_ kq2_ (by decide) (by decide) hs_203
                have hG_216 := vP.frame hMr_208 go_.2.2.2.1 ma_3 ka_3 (by decide) (by decide) hG_202
                have hG_217 := kQj.frame hMr_208 go_.2.2.2.1 mq2_ kq2_ (by decide) (by decide) hq_204
                have hG_218 := eJx.frame hMr_208 go_.2.2.2.1 ma0_ ka0_ (by decide) (by decide) hG_205
                have g := g.more hF_211
                subst hQ
                exact W.vret hx hb hr (fun t ht hW => ⟨⟨_, rfl, Or.inl ⟨hG_218, hG_213, hG_214, hG_215, (bd_sub b_98 (by decide)), x_100, h_101, (g.fcts [11, 18] rfl)⟩, q3_of g hK ht hW⟩, g.2.2.1.F ht⟩) g.2.2.1.2.2 dX0_closeArgument_276
              · have fc_192 := eq_f c_192
                exact absurd fc_192 fc_11
            · have fc_173 := nle_f c_173
              have b_219 : bd 13 2147483647 y_172 := ltR fc_173 kb_12 (bdT y_172) (by decide)
              refine lv_aload_n hx hb dX0_closeArgument_214 rfl (lv_at hl 5 rfl) ?_
              refine g_getk (C := RX0) (T := TX0) (N := 14) hx hb hts (mc_ inX0) hown hK g rfl 0 (by decide) rfl (hts _ (List.mem_cons_of_mem _ t_373)) (fun _ h9 => h9) 9 rfl dX0_closeArgument_215 ?_
              refine lv_bipush (v := 7) hx hb dX0_closeArgument_218 (by decide) ?_
              refine lv_aload_n hx hb dX0_closeArgument_220 rfl (lv_at hl 5 rfl) ?_
              refine g_getr (K := 111) (C := RX0) (T := TX0) (N := 14) hx hb hts (mc_ inX0) hown hK g ma0_ ka0_ (by decide) rfl 4 (by decide) rfl (hts _ (List.mem_cons_of_mem _ t_377)) (fun _ h9 => h9) rfl dX0_closeArgument_221 (fun a_220 ma_220 ka_220 g => ?_)
              refine lv_iload_n hx hb dX0_closeArgument_224 rfl (lv_at hl 4 rfl) ?_
              refine g_iald hx hb hK g ma_220 ka_220 (by decide) rfl (in_bd b_2 (by decide)) dX0_closeArgument_225 (fun x_221 bx_221 cx_221 => ?_)
              have kb_7 : bd 7 7 (7 : Int32) := ⟨by decide, by decide⟩
              have go_ := g
              refine g_callv (va_runV (As := [.int 7, .int x_221]) (rest := []) ⟨hx, hb, hml, hown, hts⟩ (r_X8_fail l dC dI L kd tys f H.size g.2.2.2.1 q0_ mq0_ kq0_ 7 (bd_sub kb_7 (by decide)) x_221 y1_ by1_ (g.fcts [15] rfl)) (cwV 2 hts (gV_ t_1215 t_1107 t_1108 t_184 t_1109) rfl rfl rfl (by decide +kernel) ⟨(Nat.le_of_ble_eq_true rfl), (Nat.le_of_ble_eq_true rfl)⟩) (pre3V g hK mq0_ kq0_ (by decide) (q := (RX8, TX8, 10)) rfl) rfl rfl hl.1 rfl (lv_room (Nat.le_of_ble_eq_true rfl)) dX0_closeArgument_226 ⟨(Nat.le_of_ble_eq_true rfl), (Nat.le_of_ble_eq_true rfl)⟩) g hK (by decide) (by decide) (fx' := [(0, 4, a0_, .ref a_220), (0, 11, a0_, .int y_162), (0, 8, a0_, .int y_1), (6, 3, a_145, .int x_146), (7, 2, q2_, .ref a_144), (0, 10, a0_, .int x_124), (0, 7, a0_, .ref a_121), (0, 6, a0_, .ref a_110), (0, 5, a0_, .ref a_3), (0, 0, a0_, .ref q0_), (0, 1, a0_, .ref q1_), (0, 2, a0_, .ref q2_), (0, 3, a0_, .ref q3_), (5, 1, q1_, .ref q4_)]) rfl (fun fr_222 H locs hp hMr_222 g => ?_)
              obtain ⟨x_223, h_224, hF_225⟩ := hp
              have hG_226 := eOK.frame hMr_222 go_.2.2.2.1 ma0_ ka0_ (by decide) (by decide) hG_164
              have hG_227 := cOK.frame hMr_222 go_.2.2.2.1 mq2_ kq2_ (by decide) (by decide) hG_165
              have hG_228 := dOK.frame hMr_222 go_.2.2.2.1 mq2_ kq2_ (by decide) (by decide) hG_166
              have hG_229 := jS.frame hMr_222 go_.2.2.2.1 mq2_ kq2_ (by decide) (by decide) hG_167
              have hG_230 := vP.frame hMr_222 go_.2.2.2.1 ma_3 ka_3 (by decide) (by decide) hG_168
              have hG_231 := kQj.frame hMr_222 go_.2.2.2.1 mq2_ kq2_ (by decide) (by decide) hG_169
              have hG_232 := eJx.frame hMr_222 go_.2.2.2.1 ma0_ ka0_ (by decide) (by decide) hG_170
              have g := g.more hF_225
              refine lv_aload_n hx hb dX0_closeArgument_229 rfl (lv_at hl 5 rfl) ?_
              refine g_getk (C := RX0) (T := TX0) (N := 14) hx hb hts (mc_ inX0) hown hK g rfl 2 (by decide) rfl (hts _ (List.mem_cons_of_mem _ t_375)) (fun _ h9 => h9) 13 rfl dX0_closeArgument_230 ?_
              refine lv_bipush (v := 13) hx hb dX0_closeArgument_233 (by decide) ?_
              refine lv_iconst (v := 0) hx hb dX0_closeArgument_235 (by decide) ?_
              obtain ⟨a_233, ma_233, ka_233, g⟩ := g_factr g mq2_ kq2_ (by decide) 4 rfl
              obtain ⟨a_234, ma_234, ka_234, g⟩ := g_factr g mq2_ kq2_ (by decide) 5 rfl
              obtain ⟨x_235, bx_235, g⟩ := g_facti g mq2_ kq2_ (by decide) 6 rfl
              have go_ := g
              refine g_callv (va_runV (As := [.int 13, .int 0]) (rest := []) ⟨hx, hb, hml, hown, hts⟩ (r_X7_emitF l dC dI L kd tys fr_222 H.size g.2.2.2.1 q2_ mq2_ kq2_ a_233 ma_233 ka_233 a_234 ma_234 ka_234 x_235 bx_235 T_ hG_228 (13 : Int32) (0 : Int32) (g.fcts [2, 1, 0] rfl)) (cwV 2 hts (gV_ t_1203 t_1204 t_1205 t_191 t_1206) rfl rfl rfl (by decide +kernel) ⟨(Nat.le_of_ble_eq_true rfl), (Nat.le_of_ble_eq_true rfl)⟩) (pre3V g hK mq2_ kq2_ (by decide) (q := (RX7, TX7, 19)) rfl) rfl rfl hl.1 rfl (lv_room (Nat.le_of_ble_eq_true rfl)) dX0_closeArgument_236 ⟨(Nat.le_of_ble_eq_true rfl), (Nat.le_of_ble_eq_true rfl)⟩) g hK (by decide) (by decide) (fx' := [(7, 5, q2_, .ref a_234), (7, 4, q2_, .ref a_233), (8, 6, q0_, .int 1201), (8, 8, q0_, .int x_223), (0, 4, a0_, .ref a_220), (0, 11, a0_, .int y_162), (0, 8, a0_, .int y_1), (6, 3, a_145, .int x_146), (7, 2, q2_, .ref a_144), (0, 10, a0_, .int x_124), (0, 7, a0_, .ref a_121), (0, 6, a0_, .ref a_110), (0, 5, a0_, .ref a_3), (0, 0, a0_, .ref q0_), (0, 1, a0_, .ref q1_), (0, 2, a0_, .ref q2_), (0, 3, a0_, .ref q3_), (5, 1, q1_, .ref q4_)]) rfl (fun fr_236 H locs hp hMr_236 g => ?_)
              obtain ⟨hG_237, x_238, h_239, hF_240⟩ := hp
              have hG_241 := eOK.frame hMr_236 go_.2.2.2.1 ma0_ ka0_ (by decide) (by decide) hG_226
              have hG_242 := vP.frame hMr_236 go_.2.2.2.1 ma_3 ka_3 (by decide) (by decide) hG_230
              have g := g.more hF_240
              refine lv_aload_n hx hb dX0_closeArgument_239 rfl (lv_at hl 5 rfl) ?_
              refine g_getk (C := RX0) (T := TX0) (N := 14) hx hb hts (mc_ inX0) hown hK g rfl 2 (by decide) rfl (hts _ (List.mem_cons_of_mem _ t_375)) (fun _ h9 => h9) 16 rfl dX0_closeArgument_240 ?_
              refine lv_aload_n hx hb dX0_closeArgument_243 rfl (lv_at hl 5 rfl) ?_
              refine g_getk (C := RX0) (T := TX0) (N := 14) hx hb hts (mc_ inX0) hown hK g rfl 3 (by decide) rfl (hts _ (List.mem_cons_of_mem _ t_376)) (fun _ h9 => h9) 17 rfl dX0_closeArgument_244 ?_
              refine lv_iload_n hx hb dX0_closeArgument_247 rfl (lv_at hl 4 rfl) ?_
              refine g_iald hx hb hK g mq3_ kq3_ (by decide) rfl (in_bd b_2 (by decide)) dX0_closeArgument_248 (fun x_243 bx_243 cx_243 => ?_)
              obtain rfl : x_5 = x_243 := el_same cx_5 cx_243 ((arr_eq hMr_236 mq3_ kq3_ (by decide) rfl).trans ((arr_eq hMr_222 mq3_ kq3_ (by decide) rfl).trans ((arr_eq hM_163 mq3_ kq3_ (by decide) rfl).trans ((arr_eq hM_152 mq3_ kq3_ (by decide) rfl).trans ((arr_eq hM_136 mq3_ kq3_ (by decide) rfl).trans ((arr_eq hMr_123 mq3_ kq3_ (by decide) rfl).trans ((arr_eq hM_113 mq3_ kq3_ (by decide) rfl).trans ((arr_eq hMr_99 mq3_ kq3_ (by decide) rfl).trans (arr_eq hMr_14 mq3_ kq3_ (by decide) rfl)))))))))
              refine lv_iconst (v := 2) hx hb dX0_closeArgument_249 (by decide) ?_
              refine lv_icmp_ne (tgt := 258) hx hb dX0_closeArgument_250 (by decide) (fun c_244 => ?_) (fun c_244 => ?_)
              · have fc_244 := neq_f c_244
                refine lv_bipush (v := 18) hx hb dX0_closeArgument_258 (by decide) ?_
                refine lv_iload_n hx hb dX0_closeArgument_260 rfl (lv_at hl 3 rfl) ?_
                have go_ := g
                refine g_callv (va_runV (As := [.int 18, .int x_4]) (rest := []) ⟨hx, hb, hml, hown, hts⟩ (r_X7_emitF l dC dI L kd tys fr_236 H.size g.2.2.2.1 q2_ mq2_ kq2_ a_233 ma_233 ka_233 a_234 ma_234 ka_234 x_238 h_239 T_ hG_237 (18 : Int32) x_4 (g.fcts [2, 1, 0] rfl)) (cwV 2 hts (gV_ t_1203 t_1204 t_1205 t_191 t_1206) rfl rfl rfl (by decide +kernel) ⟨(Nat.le_of_ble_eq_true rfl), (Nat.le_of_ble_eq_true rfl)⟩) (pre3V g hK mq2_ kq2_ (by decide) (q := (RX7, TX7, 19)) rfl) rfl rfl hl.1 rfl (lv_room (Nat.le_of_ble_eq_true rfl)) dX0_closeArgument_261 ⟨(Nat.le_of_ble_eq_true rfl), (Nat.le_of_ble_eq_true rfl)⟩) g hK (by decide) (by decide) (fx' := [(7, 5, q2_, .ref a_234), (7, 4, q2_, .ref a_233), (8, 6, q0_, .int 1201), (8, 8, q0_, .int x_223), (0, 4, a0_, .ref a_220), (0, 11, a0_, .int y_162), (0, 8, a0_, .int y_1), (6, 3, a_145, .int x_146), (7, 2, q2_, .ref a_144), (0, 10, a0_, .int x_124), (0, 7, a0_, .ref a_121), (0, 6, a0_, .ref a_110), (0, 5, a0_, .ref a_3), (0, 0, a0_, .ref q0_), (0, 1, a0_, .ref q1_), (0, 2, a0_, .ref q2_), (0, 3, a0_, .ref q3_), (5, 1, q1_, .ref q4_)]) rfl (fun fr_245 H locs hp hMr_245 g => ?_)
                obtain ⟨hG_246, x_247, h_248, hF_249⟩ := hp
                have hG_250 := eOK.frame hMr_245 go_.2.2.2.1 ma0_ ka0_ (by decide) (by decide) hG_241
                have hG_251 := vP.frame hMr_245 go_.2.2.2.1 ma_3 ka_3 (by decide) (by decide) hG_242
                have g := g.more hF_249
                refine lv_aload_n hx hb dX0_closeArgument_264 rfl (lv_at hl 5 rfl) ?_
                refine lv_aload_n hx hb dX0_closeArgument_265 rfl (lv_at hl 5 rfl) ?_
                refine g_getk (C := RX0) (T := TX0) (N := 14) hx hb hts (mc_ inX0) hown hK g rfl 7 (by decide) rfl (hts _ (List.mem_cons_of_mem _ t_380)) (fun _ h9 => h9) 11 rfl dX0_closeArgument_266 ?_
                refine lv_iload_n hx hb dX0_closeArgument_269 rfl (lv_at hl 4 rfl) ?_
                refine g_iald hx hb hK g ma_121 ka_121 (by decide) rfl (in_bd b_2 (by decide)) dX0_closeArgument_270 (fun x_252 bx_252 cx_252 => ?_)
                obtain rfl : x_171 = x_252 := el_same cx_171 cx_252 ((arr_eq hMr_245 ma_121 ka_121 (by decide) rfl).trans ((arr_eq hMr_236 ma_121 ka_121 (by decide) rfl).trans (arr_eq hMr_222 ma_121 ka_121 (by decide) rfl)))
                refine lv_iconst (v := 1) hx hb dX0_closeArgument_271 (by decide) ?_
                refine lv_iadd hx hb dX0_closeArgument_272 ?_
                refine lv_topi (fun y_253 ey_253 => ?_)
                obtain rfl : y_172 = y_253 := ey_172.trans ey_253.symm
                have go_ := g
                refine g_callv (va_runV (As := [.int y_172]) (rest := []) ⟨hx, hb, hml, hown, hts⟩ (r_X0_addWhole l dC dI L kd tys fr_245 H.size g.2.2.2.1 a0_ ma0_ ka0_ y_172) (cwV 1 hts (gV_ t_1211 t_1213 t_17 t_190 t_1214) rfl rfl rfl (by decide +kernel) ⟨(Nat.le_of_ble_eq_true rfl), (Nat.le_of_ble_eq_true rfl)⟩) (pre3V g hK ma0_ ka0_ (by decide) (q := (RX0, TX0, 14)) rfl) rfl rfl hl.1 rfl (lv_room (Nat.le_of_ble_eq_true rfl)) dX0_closeArgument_273 ⟨(Nat.le_of_ble_eq_true rfl), (Nat.le_of_ble_eq_true rfl)⟩) g hK (by decide) (by decide) (fx' := [(7, 6, q2_, .int x_247), (7, 5, q2_, .ref a_234), (7, 4, q2_, .ref a_233), (8, 6, q0_, .int 1201), (8, 8, q0_, .int x_223), (0, 4, a0_, .ref a_220), (0, 11, a0_, .int y_162), (0, 8, a0_, .int y_1), (6, 3, a_145, .int x_146), (7, 2, q2_, .ref a_144), (0, 7, a0_, .ref a_121), (0, 6, a0_, .ref a_110), (0, 5, a0_, .ref a_3), (0, 0, a0_, .ref q0_), (0, 1, a0_, .ref q1_), (0, 2, a0_, .ref q2_), (0, 3, a0_, .ref q3_), (5, 1, q1_, .ref q4_)]) rfl (fun fr_254 H locs hp hMr_254 g => ?_)
                obtain ⟨x_255, h_256, hF_257⟩ := hp
                have hG_258 := eOK.frame hMr_254 go_.2.2.2.1 ma0_ ka0_ (by decide) (by decide) hG_250
                have hG_259 := dOK.frame hMr_254 go_.2.2.2.1 mq2_ kq2_ (by decide) (by decide) hG_246
                have hG_260 := vP.frame hMr_254 go_.2.2.2.1 ma_3 ka_3 (by decide) (by decide) hG_251
                have g := g.more hF_257
                subst hQ
                exact W.vret hx hb hr (fun t ht hW => ⟨⟨_, rfl, Or.inr (⟨hG_259, x_223, h_224, (g.fcts [5, 6] rfl)⟩), q3_of g hK ht hW⟩, g.2.2.1.F ht⟩) g.2.2.1.2.2 dX0_closeArgument_276
              · have fc_244 := eq_f c_244
                exact absurd fc_244 fc_11
          · have fc_149 := nle_f c_149
            have b_261 : bd (-2147483648) 2 x_148 := ltL fc_149 (bdT x_148) bx_146 (by decide)
            refine lv_aload_n hx hb dX0_closeArgument_170 rfl (lv_at hl 5 rfl) ?_
            refine g_getk (C := RX0) (T := TX0) (N := 14) hx hb hts (mc_ inX0) hown hK g rfl 0 (by decide) rfl (hts _ (List.mem_cons_of_mem _ t_373)) (fun _ h9 => h9) 7 rfl dX0_closeArgument_171 ?_
            refine lv_bipush (v := 6) hx hb dX0_closeArgument_174 (by decide) ?_
            refine lv_iload hx hb dX0_closeArgument_176 (lv_at hl 1 rfl) ?_
            have kb_6 : bd 6 6 (6 : Int32) := ⟨by decide, by decide⟩
            have go_ := g
            refine g_callv (va_runV (As := [.int 6, .int r_14]) (rest := []) ⟨hx, hb, hml, hown, hts⟩ (r_X8_fail l dC dI L kd tys f H.size g.2.2.2.1 q0_ mq0_ kq0_ 6 (bd_sub kb_6 (by decide)) r_14 y1_ by1_ (g.fcts [13] rfl)) (cwV 2 hts (gV_ t_1215 t_1107 t_1108 t_184 t_1109) rfl rfl rfl (by decide +kernel) ⟨(Nat.le_of_ble_eq_true rfl), (Nat.le_of_ble_eq_true rfl)⟩) (pre3V g hK mq0_ kq0_ (by decide) (q := (RX8, TX8, 10)) rfl) rfl rfl hl.1 rfl (lv_room (Nat.le_of_ble_eq_true rfl)) dX0_closeArgument_178 ⟨(Nat.le_of_ble_eq_true rfl), (Nat.le_of_ble_eq_true rfl)⟩) g hK (by decide) (by decide) (fx' := [(6, 3, a_145, .int x_146), (7, 2, q2_, .ref a_144), (0, 10, a0_, .int x_124), (0, 7, a0_, .ref a_121), (0, 6, a0_, .ref a_110), (0, 5, a0_, .ref a_3), (0, 0, a0_, .ref q0_), (0, 1, a0_, .ref q1_), (0, 2, a0_, .ref q2_), (0, 3, a0_, .ref q3_), (5, 1, q1_, .ref q4_), (0, 8, a0_, .int y0_)]) rfl (fun fr_262 H locs hp hMr_262 g => ?_)
            obtain ⟨x_263, h_264, hF_265⟩ := hp
            have hG_266 := eOK.frame hMr_262 go_.2.2.2.1 ma0_ ka0_ (by decide) (by decide) hG_137
            have hG_267 := eJx.frame hMr_262 go_.2.2.2.1 ma0_ ka0_ (by decide) (by decide) hG_138
            have hG_268 := cOK.frame hMr_262 go_.2.2.2.1 mq2_ kq2_ (by decide) (by decide) hG_139
            have hG_269 := dOK.frame hMr_262 go_.2.2.2.1 mq2_ kq2_ (by decide) (by decide) hG_140
            have hG_270 := jS.frame hMr_262 go_.2.2.2.1 mq2_ kq2_ (by decide) (by decide) hG_141
            have hG_271 := vP.frame hMr_262 go_.2.2.2.1 ma_3 ka_3 (by decide) (by decide) hG_142
            have hG_272 := kQj.frame hMr_262 go_.2.2.2.1 mq2_ kq2_ (by decide) (by decide) hG_143
            have g := g.more hF_265
            refine lv_aload_n hx hb dX0_closeArgument_181 rfl (lv_at hl 5 rfl) ?_
            refine lv_dup hx hb dX0_closeArgument_182 rfl ?_
            refine g_getk (C := RX0) (T := TX0) (N := 14) hx hb hts (mc_ inX0) hown hK g rfl 8 (by decide) rfl (hts _ (List.mem_cons_of_mem _ t_381)) (fun _ h9 => h9) 13 rfl dX0_closeArgument_183 ?_
            refine lv_iconst (v := 1) hx hb dX0_closeArgument_186 (by decide) ?_
            refine lv_isub hx hb dX0_closeArgument_187 ?_
            refine lv_topi (fun y_273 ey_273 => ?_)
            obtain rfl : y_1 = y_273 := ey_1.trans ey_273.symm
            have go_ := g
            refine g_put (C := RX0) (T := TX0) (N := 14) hx hb hts (mc_ inX0) tyX0 tyX0_ok nmX0 hown hK g ma0_ ka0_ (by decide) rfl 8 (by decide) (hts _ (List.mem_cons_of_mem _ t_381)) (fun _ h9 => h9) rfl rfl (okV_i (bd_sub b_2 (by decide))) rfl rfl (by decide) (Or.inr (Or.inl (by decide))) (fx' := [(8, 6, q0_, .int 1201), (8, 8, q0_, .int x_263), (6, 3, a_145, .int x_146), (7, 2, q2_, .ref a_144), (0, 10, a0_, .int x_124), (0, 7, a0_, .ref a_121), (0, 6, a0_, .ref a_110), (0, 5, a0_, .ref a_3), (0, 0, a0_, .ref q0_), (0, 1, a0_, .ref q1_), (0, 2, a0_, .ref q2_), (0, 3, a0_, .ref q3_), (5, 1, q1_, .ref q4_)]) rfl dX0_closeArgument_188 (fun f H locs hM_274 g => ?_)
            have hG_275 := eOK.frame hM_274 go_.2.2.2.1 ma0_ ka0_ (by decide) (by decide) hG_266
            have hG_276 := cOK.frame hM_274 go_.2.2.2.1 mq2_ kq2_ (by decide) (by decide) hG_268
            have hG_277 := dOK.frame hM_274 go_.2.2.2.1 mq2_ kq2_ (by decide) (by decide) hG_269
            have hG_278 := jS.frame hM_274 go_.2.2.2.1 mq2_ kq2_ (by decide) (by decide) hG_270
            have hG_279 := vP.frame hM_274 go_.2.2.2.1 ma_3 ka_3 (by decide) (by decide) hG_271
            have hG_280 := kQj.frame hM_274 go_.2.2.2.1 mq2_ kq2_ (by decide) (by decide) hG_272
            refine lv_aload_n hx hb dX0_closeArgument_191 rfl (lv_at hl 5 rfl) ?_
            refine lv_dup hx hb dX0_closeArgument_192 rfl ?_
            refine g_geti (C := RX0) (T := TX0) (N := 14) hx hb hts (mc_ inX0) hown hK g ma0_ ka0_ (by decide) rfl 11 (by decide) rfl (hts _ (List.mem_cons_of_mem _ t_384)) (fun _ h9 => h9) rfl dX0_closeArgument_193 (fun x_281 bx_281 g => ?_)
            refine lv_iconst (v := 1) hx hb dX0_closeArgument_196 (by decide) ?_
            refine lv_isub hx hb dX0_closeArgument_197 ?_
            refine lv_topi (fun y_282 ey_282 => ?_)
            have go_ := g
            refine g_put (C := RX0) (T := TX0) (N := 14) hx hb hts (mc_ inX0) tyX0 tyX0_ok nmX0 hown hK g ma0_ ka0_ (by decide) rfl 11 (by decide) (hts _ (List.mem_cons_of_mem _ t_384)) (fun _ h9 => h9) rfl rfl (okV_i (bdT y_282)) rfl rfl (by decide) (Or.inr (Or.inl (by decide))) (fx' := [(0, 8, a0_, .int y_1), (8, 6, q0_, .int 1201), (8, 8, q0_, .int x_263), (6, 3, a_145, .int x_146), (7, 2, q2_, .ref a_144), (0, 10, a0_, .int x_124), (0, 7, a0_, .ref a_121), (0, 6, a0_, .ref a_110), (0, 5, a0_, .ref a_3), (0, 0, a0_, .ref q0_), (0, 1, a0_, .ref q1_), (0, 2, a0_, .ref q2_), (0, 3, a0_, .ref q3_), (5, 1, q1_, .ref q4_)]) rfl dX0_closeArgument_198 (fun f H locs hM_283 g => ?_)
            have hG_284 := eOK.frame hM_283 go_.2.2.2.1 ma0_ ka0_ (by decide) (by decide) hG_275
            have hG_285 := cOK.frame hM_283 go_.2.2.2.1 mq2_ kq2_ (by decide) (by decide) hG_276
            have hG_286 := dOK.frame hM_283 go_.2.2.2.1 mq2_ kq2_ (by decide) (by decide) hG_277
            have hG_287 := jS.frame hM_283 go_.2.2.2.1 mq2_ kq2_ (by decide) (by decide) hG_278
            have hG_288 := vP.frame hM_283 go_.2.2.2.1 ma_3 ka_3 (by decide) (by decide) hG_279
            have hG_289 := kQj.frame hM_283 go_.2.2.2.1 mq2_ kq2_ (by decide) (by decide) hG_280
            refine lv_aload_n hx hb dX0_closeArgument_201 rfl (lv_at hl 5 rfl) ?_
            refine g_getk (C := RX0) (T := TX0) (N := 14) hx hb hts (mc_ inX0) hown hK g rfl 7 (by decide) rfl (hts _ (List.mem_cons_of_mem _ t_380)) (fun _ h9 => h9) 7 rfl dX0_closeArgument_202 ?_
            refine lv_iload_n hx hb dX0_closeArgument_205 rfl (lv_at hl 4 rfl) ?_
            refine g_iald hx hb hK g ma_121 ka_121 (by decide) rfl (in_bd b_2 (by decide)) dX0_closeArgument_206 (fun x_290 bx_290 cx_290 => ?_)
            refine lv_iconst (v := 1) hx hb dX0_closeArgument_207 (by decide) ?_
            refine lv_iadd hx hb dX0_closeArgument_208 ?_
            refine lv_topi (fun y_291 ey_291 => ?_)
            refine lv_bipush (v := 12) hx hb dX0_closeArgument_209 (by decide) ?_
            have kb_12 : bd 12 12 (12 : Int32) := ⟨by decide, by decide⟩
            refine lv_icmp_le (tgt := 229) hx hb dX0_closeArgument_211 (by decide) (fun c_292 => ?_) (fun c_292 => ?_)
            · have fc_292 := le_f c_292
              have b_293 : bd (-2147483648) 12 y_291 := leL fc_292 (bdT y_291) kb_12 (by decide)
              refine lv_aload_n hx hb dX0_closeArgument_229 rfl (lv_at hl 5 rfl) ?_
              refine g_getk (C := RX0) (T := TX0) (N := 14) hx hb hts (mc_ inX0) hown hK g rfl 2 (by decide) rfl (hts _ (List.mem_cons_of_mem _ t_375)) (fun _ h9 => h9) 12 rfl dX0_closeArgument_230 ?_
              refine lv_bipush (v := 13) hx hb dX0_closeArgument_233 (by decide) ?_
              refine lv_iconst (v := 0) hx hb dX0_closeArgument_235 (by decide) ?_
              obtain ⟨a_294, ma_294, ka_294, g⟩ := g_factr g mq2_ kq2_ (by decide) 4 rfl
              obtain ⟨a_295, ma_295, ka_295, g⟩ := g_factr g mq2_ kq2_ (by decide) 5 rfl
              obtain ⟨x_296, bx_296, g⟩ := g_facti g mq2_ kq2_ (by decide) 6 rfl
              have go_ := g
              refine g_callv (va_runV (As := [.int 13, .int 0]) (rest := []) ⟨hx, hb, hml, hown, hts⟩ (r_X7_emitF l dC dI L kd tys f H.size g.2.2.2.1 q2_ mq2_ kq2_ a_294 ma_294 ka_294 a_295 ma_295 ka_295 x_296 bx_296 T_ hG_286 (13 : Int32) (0 : Int32) (g.fcts [2, 1, 0] rfl)) (cwV 2 hts (gV_ t_1203 t_1204 t_1205 t_191 t_1206) rfl rfl rfl (by decide +kernel) ⟨(Nat.le_of_ble_eq_true rfl), (Nat.le_of_ble_eq_true rfl)⟩) (pre3V g hK mq2_ kq2_ (by decide) (q := (RX7, TX7, 19)) rfl) rfl rfl hl.1 rfl (lv_room (Nat.le_of_ble_eq_true rfl)) dX0_closeArgument_236 ⟨(Nat.le_of_ble_eq_true rfl), (Nat.le_of_ble_eq_true rfl)⟩) g hK (by decide) (by decide) (fx' := [(7, 5, q2_, .ref a_295), (7, 4, q2_, .ref a_294), (0, 11, a0_, .int y_282), (0, 8, a0_, .int y_1), (8, 6, q0_, .int 1201), (8, 8, q0_, .int x_263), (6, 3, a_145, .int x_146), (7, 2, q2_, .ref a_144), (0, 10, a0_, .int x_124), (0, 7, a0_, .ref a_121), (0, 6, a0_, .ref a_110), (0, 5, a0_, .ref a_3), (0, 0, a0_, .ref q0_), (0, 1, a0_, .ref q1_), (0, 2, a0_, .ref q2_), (0, 3, a0_, .ref q3_), (5, 1, q1_, .ref q4_)]) rfl (fun fr_297 H locs hp hMr_297 g => ?_)
              obtain ⟨hG_298, x_299, h_300, hF_301⟩ := hp
              have hG_302 := eOK.frame hMr_297 go_.2.2.2.1 ma0_ ka0_ (by decide) (by decide) hG_284
              have hG_303 := vP.frame hMr_297 go_.2.2.2.1 ma_3 ka_3 (by decide) (by decide) hG_288
              have g := g.more hF_301
              refine lv_aload_n hx hb dX0_closeArgument_239 rfl (lv_at hl 5 rfl) ?_
              refine g_getk (C := RX0) (T := TX0) (N := 14) hx hb hts (mc_ inX0) hown hK g rfl 2 (by decide) rfl (hts _ (List.mem_cons_of_mem _ t_375)) (fun _ h9 => h9) 15 rfl dX0_closeArgument_240 ?_
              refine lv_aload_n hx hb dX0_closeArgument_243 rfl (lv_at hl 5 rfl) ?_
              refine g_getk (C := RX0) (T := TX0) (N := 14) hx hb hts (mc_ inX0) hown hK g rfl 3 (by decide) rfl (hts _ (List.mem_cons_of_mem _ t_376)) (fun _ h9 => h9) 16 rfl dX0_closeArgument_244 ?_
              refine lv_iload_n hx hb dX0_closeArgument_247 rfl (lv_at hl 4 rfl) ?_
              refine g_iald hx hb hK g mq3_ kq3_ (by decide) rfl (in_bd b_2 (by decide)) dX0_closeArgument_248 (fun x_304 bx_304 cx_304 => ?_)
              obtain rfl : x_5 = x_304 := el_same cx_5 cx_304 ((arr_eq hMr_297 mq3_ kq3_ (by decide) rfl).trans ((arr_eq hM_283 mq3_ kq3_ (by decide) rfl).trans ((arr_eq hM_274 mq3_ kq3_ (by decide) rfl).trans ((arr_eq hMr_262 mq3_ kq3_ (by decide) rfl).trans ((arr_eq hM_136 mq3_ kq3_ (by decide) rfl).trans ((arr_eq hMr_123 mq3_ kq3_ (by decide) rfl).trans ((arr_eq hM_113 mq3_ kq3_ (by decide) rfl).trans ((arr_eq hMr_99 mq3_ kq3_ (by decide) rfl).trans (arr_eq hMr_14 mq3_ kq3_ (by decide) rfl)))))))))
              refine lv_iconst (v := 2) hx hb dX0_closeArgument_249 (by decide) ?_
              refine lv_icmp_ne (tgt := 258) hx hb dX0_closeArgument_250 (by decide) (fun c_305 => ?_) (fun c_305 => ?_)
              · have fc_305 := neq_f c_305
                refine lv_bipush (v := 18) hx hb dX0_closeArgument_258 (by decide) ?_
                refine lv_iload_n hx hb dX0_closeArgument_260 rfl (lv_at hl 3 rfl) ?_
                have go_ := g
                refine g_callv (va_runV (As := [.int 18, .int x_4]) (rest := []) ⟨hx, hb, hml, hown, hts⟩ (r_X7_emitF l dC dI L kd tys fr_297 H.size g.2.2.2.1 q2_ mq2_ kq2_ a_294 ma_294 ka_294 a_295 ma_295 ka_295 x_299 h_300 T_ hG_298 (18 : Int32) x_4 (g.fcts [2, 1, 0] rfl)) (cwV 2 hts (gV_ t_1203 t_1204 t_1205 t_191 t_1206) rfl rfl rfl (by decide +kernel) ⟨(Nat.le_of_ble_eq_true rfl), (Nat.le_of_ble_eq_true rfl)⟩) (pre3V g hK mq2_ kq2_ (by decide) (q := (RX7, TX7, 19)) rfl) rfl rfl hl.1 rfl (lv_room (Nat.le_of_ble_eq_true rfl)) dX0_closeArgument_261 ⟨(Nat.le_of_ble_eq_true rfl), (Nat.le_of_ble_eq_true rfl)⟩) g hK (by decide) (by decide) (fx' := [(7, 5, q2_, .ref a_295), (7, 4, q2_, .ref a_294), (0, 11, a0_, .int y_282), (0, 8, a0_, .int y_1), (8, 6, q0_, .int 1201), (8, 8, q0_, .int x_263), (6, 3, a_145, .int x_146), (7, 2, q2_, .ref a_144), (0, 10, a0_, .int x_124), (0, 7, a0_, .ref a_121), (0, 6, a0_, .ref a_110), (0, 5, a0_, .ref a_3), (0, 0, a0_, .ref q0_), (0, 1, a0_, .ref q1_), (0, 2, a0_, .ref q2_), (0, 3, a0_, .ref q3_), (5, 1, q1_, .ref q4_)]) rfl (fun fr_306 H locs hp hMr_306 g => ?_)
                obtain ⟨hG_307, x_308, h_309, hF_310⟩ := hp
                have hG_311 := eOK.frame hMr_306 go_.2.2.2.1 ma0_ ka0_ (by decide) (by decide) hG_302
                have hG_312 := vP.frame hMr_306 go_.2.2.2.1 ma_3 ka_3 (by decide) (by decide) hG_303
                have g := g.more hF_310
                refine lv_aload_n hx hb dX0_closeArgument_264 rfl (lv_at hl 5 rfl) ?_
                refine lv_aload_n hx hb dX0_closeArgument_265 rfl (lv_at hl 5 rfl) ?_
                refine g_getk (C := RX0) (T := TX0) (N := 14) hx hb hts (mc_ inX0) hown hK g rfl 7 (by decide) rfl (hts _ (List.mem_cons_of_mem _ t_380)) (fun _ h9 => h9) 10 rfl dX0_closeArgument_266 ?_
                refine lv_iload_n hx hb dX0_closeArgument_269 rfl (lv_at hl 4 rfl) ?_
                refine g_iald hx hb hK g ma_121 ka_121 (by decide) rfl (in_bd b_2 (by decide)) dX0_closeArgument_270 (fun x_313 bx_313 cx_313 => ?_)
                obtain rfl : x_290 = x_313 := el_same cx_290 cx_313 ((arr_eq hMr_306 ma_121 ka_121 (by decide) rfl).trans (arr_eq hMr_297 ma_121 ka_121 (by decide) rfl))
                refine lv_iconst (v := 1) hx hb dX0_closeArgument_271 (by decide) ?_
                refine lv_iadd hx hb dX0_closeArgument_272 ?_
                refine lv_topi (fun y_314 ey_314 => ?_)
                obtain rfl : y_291 = y_314 := ey_291.trans ey_314.symm
                have go_ := g
                refine g_callv (va_runV (As := [.int y_291]) (rest := []) ⟨hx, hb, hml, hown, hts⟩ (r_X0_addWhole l dC dI L kd tys fr_306 H.size g.2.2.2.1 a0_ ma0_ ka0_ y_291) (cwV 1 hts (gV_ t_1211 t_1213 t_17 t_190 t_1214) rfl rfl rfl (by decide +kernel) ⟨(Nat.le_of_ble_eq_true rfl), (Nat.le_of_ble_eq_true rfl)⟩) (pre3V g hK ma0_ ka0_ (by decide) (q := (RX0, TX0, 14)) rfl) rfl rfl hl.1 rfl (lv_room (Nat.le_of_ble_eq_true rfl)) dX0_closeArgument_273 ⟨(Nat.le_of_ble_eq_true rfl), (Nat.le_of_ble_eq_true rfl)⟩) g hK (by decide) (by decide) (fx' := [(7, 6, q2_, .int x_308), (7, 5, q2_, .ref a_295), (7, 4, q2_, .ref a_294), (0, 11, a0_, .int y_282), (0, 8, a0_, .int y_1), (8, 6, q0_, .int 1201), (8, 8, q0_, .int x_263), (6, 3, a_145, .int x_146), (7, 2, q2_, .ref a_144), (0, 7, a0_, .ref a_121), (0, 6, a0_, .ref a_110), (0, 5, a0_, .ref a_3), (0, 0, a0_, .ref q0_), (0, 1, a0_, .ref q1_), (0, 2, a0_, .ref q2_), (0, 3, a0_, .ref q3_), (5, 1, q1_, .ref q4_)]) rfl (fun fr_315 H locs hp hMr_315 g => ?_)
                obtain ⟨x_316, h_317, hF_318⟩ := hp
                have hG_319 := eOK.frame hMr_315 go_.2.2.2.1 ma0_ ka0_ (by decide) (by decide) hG_311
                have hG_320 := dOK.frame hMr_315 go_.2.2.2.1 mq2_ kq2_ (by decide) (by decide) hG_307
                have hG_321 := vP.frame hMr_315 go_.2.2.2.1 ma_3 ka_3 (by decide) (by decide) hG_312
                have g := g.more hF_318
                subst hQ
                exact W.vret hx hb hr (fun t ht hW => ⟨⟨_, rfl, Or.inr (⟨hG_320, x_263, h_264, (g.fcts [7, 8] rfl)⟩), q3_of g hK ht hW⟩, g.2.2.1.F ht⟩) g.2.2.1.2.2 dX0_closeArgument_276
              · have fc_305 := eq_f c_305
                exact absurd fc_305 fc_11
            · have fc_292 := nle_f c_292
              have b_322 : bd 13 2147483647 y_291 := ltR fc_292 kb_12 (bdT y_291) (by decide)
              refine lv_aload_n hx hb dX0_closeArgument_214 rfl (lv_at hl 5 rfl) ?_
              refine g_getk (C := RX0) (T := TX0) (N := 14) hx hb hts (mc_ inX0) hown hK g rfl 0 (by decide) rfl (hts _ (List.mem_cons_of_mem _ t_373)) (fun _ h9 => h9) 10 rfl dX0_closeArgument_215 ?_
              refine lv_bipush (v := 7) hx hb dX0_closeArgument_218 (by decide) ?_
              refine lv_aload_n hx hb dX0_closeArgument_220 rfl (lv_at hl 5 rfl) ?_
              refine g_getr (K := 111) (C := RX0) (T := TX0) (N := 14) hx hb hts (mc_ inX0) hown hK g ma0_ ka0_ (by decide) rfl 4 (by decide) rfl (hts _ (List.mem_cons_of_mem _ t_377)) (fun _ h9 => h9) rfl dX0_closeArgument_221 (fun a_323 ma_323 ka_323 g => ?_)
              refine lv_iload_n hx hb dX0_closeArgument_224 rfl (lv_at hl 4 rfl) ?_
              refine g_iald hx hb hK g ma_323 ka_323 (by decide) rfl (in_bd b_2 (by decide)) dX0_closeArgument_225 (fun x_324 bx_324 cx_324 => ?_)
              have kb_7 : bd 7 7 (7 : Int32) := ⟨by decide, by decide⟩
              have go_ := g
              refine g_callv (va_runV (As := [.int 7, .int x_324]) (rest := []) ⟨hx, hb, hml, hown, hts⟩ (r_X8_fail_2 l dC dI L kd tys f H.size g.2.2.2.1 q0_ mq0_ kq0_ 7 (bd_sub kb_7 (by decide)) x_324 x_263 h_264 (g.fcts [4] rfl)) (cwV 2 hts (gV_ t_1215 t_1107 t_1108 t_184 t_1109) rfl rfl rfl (by decide +kernel) ⟨(Nat.le_of_ble_eq_true rfl), (Nat.le_of_ble_eq_true rfl)⟩) (pre3V g hK mq0_ kq0_ (by decide) (q := (RX8, TX8, 10)) rfl) rfl rfl hl.1 rfl (lv_room (Nat.le_of_ble_eq_true rfl)) dX0_closeArgument_226 ⟨(Nat.le_of_ble_eq_true rfl), (Nat.le_of_ble_eq_true rfl)⟩) g hK (by decide) (by decide) (fx' := [(0, 4, a0_, .ref a_323), (0, 11, a0_, .int y_282), (0, 8, a0_, .int y_1), (8, 8, q0_, .int x_263), (6, 3, a_145, .int x_146), (7, 2, q2_, .ref a_144), (0, 10, a0_, .int x_124), (0, 7, a0_, .ref a_121), (0, 6, a0_, .ref a_110), (0, 5, a0_, .ref a_3), (0, 0, a0_, .ref q0_), (0, 1, a0_, .ref q1_), (0, 2, a0_, .ref q2_), (0, 3, a0_, .ref q3_), (5, 1, q1_, .ref q4_)]) rfl (fun fr_325 H locs hp hMr_325 g => ?_)
              have hF_326 := hp
              have hG_327 := eOK.frame hMr_325 go_.2.2.2.1 ma0_ ka0_ (by decide) (by decide) hG_284
              have hG_328 := cOK.frame hMr_325 go_.2.2.2.1 mq2_ kq2_ (by decide) (by decide) hG_285
              have hG_329 := dOK.frame hMr_325 go_.2.2.2.1 mq2_ kq2_ (by decide) (by decide) hG_286
              have hG_330 := jS.frame hMr_325 go_.2.2.2.1 mq2_ kq2_ (by decide) (by decide) hG_287
              have hG_331 := vP.frame hMr_325 go_.2.2.2.1 ma_3 ka_3 (by decide) (by decide) hG_288
              have hG_332 := kQj.frame hMr_325 go_.2.2.2.1 mq2_ kq2_ (by decide) (by decide) hG_289
              have g := g.more hF_326
              refine lv_aload_n hx hb dX0_closeArgument_229 rfl (lv_at hl 5 rfl) ?_
              refine g_getk (C := RX0) (T := TX0) (N := 14) hx hb hts (mc_ inX0) hown hK g rfl 2 (by decide) rfl (hts _ (List.mem_cons_of_mem _ t_375)) (fun _ h9 => h9) 13 rfl dX0_closeArgument_230 ?_
              refine lv_bipush (v := 13) hx hb dX0_closeArgument_233 (by decide) ?_
              refine lv_iconst (v := 0) hx hb dX0_closeArgument_235 (by decide) ?_
              obtain ⟨a_333, ma_333, ka_333, g⟩ := g_factr g mq2_ kq2_ (by decide) 4 rfl
              obtain ⟨a_334, ma_334, ka_334, g⟩ := g_factr g mq2_ kq2_ (by decide) 5 rfl
              obtain ⟨x_335, bx_335, g⟩ := g_facti g mq2_ kq2_ (by decide) 6 rfl
              have go_ := g
              refine g_callv (va_runV (As := [.int 13, .int 0]) (rest := []) ⟨hx, hb, hml, hown, hts⟩ (r_X7_emitF l dC dI L kd tys fr_325 H.size g.2.2.2.1 q2_ mq2_ kq2_ a_333 ma_333 ka_333 a_334 ma_334 ka_334 x_335 bx_335 T_ hG_329 (13 : Int32) (0 : Int32) (g.fcts [2, 1, 0] rfl)) (cwV 2 hts (gV_ t_1203 t_1204 t_1205 t_191 t_1206) rfl rfl rfl (by decide +kernel) ⟨(Nat.le_of_ble_eq_true rfl), (Nat.le_of_ble_eq_true rfl)⟩) (pre3V g hK mq2_ kq2_ (by decide) (q := (RX7, TX7, 19)) rfl) rfl rfl hl.1 rfl (lv_room (Nat.le_of_ble_eq_true rfl)) dX0_closeArgument_236 ⟨(Nat.le_of_ble_eq_true rfl), (Nat.le_of_ble_eq_true rfl)⟩) g hK (by decide) (by decide) (fx' := [(7, 5, q2_, .ref a_334), (7, 4, q2_, .ref a_333), (8, 6, q0_, .int 1201), (0, 4, a0_, .ref a_323), (0, 11, a0_, .int y_282), (0, 8, a0_, .int y_1), (8, 8, q0_, .int x_263), (6, 3, a_145, .int x_146), (7, 2, q2_, .ref a_144), (0, 10, a0_, .int x_124), (0, 7, a0_, .ref a_121), (0, 6, a0_, .ref a_110), (0, 5, a0_, .ref a_3), (0, 0, a0_, .ref q0_), (0, 1, a0_, .ref q1_), (0, 2, a0_, .ref q2_), (0, 3, a0_, .ref q3_), (5, 1, q1_, .ref q4_)]) rfl (fun fr_336 H locs hp hMr_336 g => ?_)
              obtain ⟨hG_337, x_338, h_339, hF_340⟩ := hp
              have hG_341 := eOK.frame hMr_336 go_.2.2.2.1 ma0_ ka0_ (by decide) (by decide) hG_327
              have hG_342 := vP.frame hMr_336 go_.2.2.2.1 ma_3 ka_3 (by decide) (by decide) hG_331
              have g := g.more hF_340
              refine lv_aload_n hx hb dX0_closeArgument_239 rfl (lv_at hl 5 rfl) ?_
              refine g_getk (C := RX0) (T := TX0) (N := 14) hx hb hts (mc_ inX0) hown hK g rfl 2 (by decide) rfl (hts _ (List.mem_cons_of_mem _ t_375)) (fun _ h9 => h9) 16 rfl dX0_closeArgument_240 ?_
              refine lv_aload_n hx hb dX0_closeArgument_243 rfl (lv_at hl 5 rfl) ?_
              refine g_getk (C := RX0) (T := TX0) (N := 14) hx hb hts (mc_ inX0) hown hK g rfl 3 (by decide) rfl (hts _ (List.mem_cons_of_mem _ t_376)) (fun _ h9 => h9) 17 rfl dX0_closeArgument_244 ?_
              refine lv_iload_n hx hb dX0_closeArgument_247 rfl (lv_at hl 4 rfl) ?_
              refine g_iald hx hb hK g mq3_ kq3_ (by decide) rfl (in_bd b_2 (by decide)) dX0_closeArgument_248 (fun x_343 bx_343 cx_343 => ?_)
              obtain rfl : x_5 = x_343 := el_same cx_5 cx_343 ((arr_eq hMr_336 mq3_ kq3_ (by decide) rfl).trans ((arr_eq hMr_325 mq3_ kq3_ (by decide) rfl).trans ((arr_eq hM_283 mq3_ kq3_ (by decide) rfl).trans ((arr_eq hM_274 mq3_ kq3_ (by decide) rfl).trans ((arr_eq hMr_262 mq3_ kq3_ (by decide) rfl).trans ((arr_eq hM_136 mq3_ kq3_ (by decide) rfl).trans ((arr_eq hMr_123 mq3_ kq3_ (by decide) rfl).trans ((arr_eq hM_113 mq3_ kq3_ (by decide) rfl).trans ((arr_eq hMr_99 mq3_ kq3_ (by decide) rfl).trans (arr_eq hMr_14 mq3_ kq3_ (by decide) rfl))))))))))
              refine lv_iconst (v := 2) hx hb dX0_closeArgument_249 (by decide) ?_
              refine lv_icmp_ne (tgt := 258) hx hb dX0_closeArgument_250 (by decide) (fun c_344 => ?_) (fun c_344 => ?_)
              · have fc_344 := neq_f c_344
                refine lv_bipush (v := 18) hx hb dX0_closeArgument_258 (by decide) ?_
                refine lv_iload_n hx hb dX0_closeArgument_260 rfl (lv_at hl 3 rfl) ?_
                have go_ := g
                refine g_callv (va_runV (As := [.int 18, .int x_4]) (rest := []) ⟨hx, hb, hml, hown, hts⟩ (r_X7_emitF l dC dI L kd tys fr_336 H.size g.2.2.2.1 q2_ mq2_ kq2_ a_333 ma_333 ka_333 a_334 ma_334 ka_334 x_338 h_339 T_ hG_337 (18 : Int32) x_4 (g.fcts [2, 1, 0] rfl)) (cwV 2 hts (gV_ t_1203 t_1204 t_1205 t_191 t_1206) rfl rfl rfl (by decide +kernel) ⟨(Nat.le_of_ble_eq_true rfl), (Nat.le_of_ble_eq_true rfl)⟩) (pre3V g hK mq2_ kq2_ (by decide) (q := (RX7, TX7, 19)) rfl) rfl rfl hl.1 rfl (lv_room (Nat.le_of_ble_eq_true rfl)) dX0_closeArgument_261 ⟨(Nat.le_of_ble_eq_true rfl), (Nat.le_of_ble_eq_true rfl)⟩) g hK (by decide) (by decide) (fx' := [(7, 5, q2_, .ref a_334), (7, 4, q2_, .ref a_333), (8, 6, q0_, .int 1201), (0, 4, a0_, .ref a_323), (0, 11, a0_, .int y_282), (0, 8, a0_, .int y_1), (8, 8, q0_, .int x_263), (6, 3, a_145, .int x_146), (7, 2, q2_, .ref a_144), (0, 10, a0_, .int x_124), (0, 7, a0_, .ref a_121), (0, 6, a0_, .ref a_110), (0, 5, a0_, .ref a_3), (0, 0, a0_, .ref q0_), (0, 1, a0_, .ref q1_), (0, 2, a0_, .ref q2_), (0, 3, a0_, .ref q3_), (5, 1, q1_, .ref q4_)]) rfl (fun fr_345 H locs hp hMr_345 g => ?_)
                obtain ⟨hG_346, x_347, h_348, hF_349⟩ := hp
                have hG_350 := eOK.frame hMr_345 go_.2.2.2.1 ma0_ ka0_ (by decide) (by decide) hG_341
                have hG_351 := vP.frame hMr_345 go_.2.2.2.1 ma_3 ka_3 (by decide) (by decide) hG_342
                have g := g.more hF_349
                refine lv_aload_n hx hb dX0_closeArgument_264 rfl (lv_at hl 5 rfl) ?_
                refine lv_aload_n hx hb dX0_closeArgument_265 rfl (lv_at hl 5 rfl) ?_
                refine g_getk (C := RX0) (T := TX0) (N := 14) hx hb hts (mc_ inX0) hown hK g rfl 7 (by decide) rfl (hts _ (List.mem_cons_of_mem _ t_380)) (fun _ h9 => h9) 11 rfl dX0_closeArgument_266 ?_
                refine lv_iload_n hx hb dX0_closeArgument_269 rfl (lv_at hl 4 rfl) ?_
                refine g_iald hx hb hK g ma_121 ka_121 (by decide) rfl (in_bd b_2 (by decide)) dX0_closeArgument_270 (fun x_352 bx_352 cx_352 => ?_)
                obtain rfl : x_290 = x_352 := el_same cx_290 cx_352 ((arr_eq hMr_345 ma_121 ka_121 (by decide) rfl).trans ((arr_eq hMr_336 ma_121 ka_121 (by decide) rfl).trans (arr_eq hMr_325 ma_121 ka_121 (by decide) rfl)))
                refine lv_iconst (v := 1) hx hb dX0_closeArgument_271 (by decide) ?_
                refine lv_iadd hx hb dX0_closeArgument_272 ?_
                refine lv_topi (fun y_353 ey_353 => ?_)
                obtain rfl : y_291 = y_353 := ey_291.trans ey_353.symm
                have go_ := g
                refine g_callv (va_runV (As := [.int y_291]) (rest := []) ⟨hx, hb, hml, hown, hts⟩ (r_X0_addWhole l dC dI L kd tys fr_345 H.size g.2.2.2.1 a0_ ma0_ ka0_ y_291) (cwV 1 hts (gV_ t_1211 t_1213 t_17 t_190 t_1214) rfl rfl rfl (by decide +kernel) ⟨(Nat.le_of_ble_eq_true rfl), (Nat.le_of_ble_eq_true rfl)⟩) (pre3V g hK ma0_ ka0_ (by decide) (q := (RX0, TX0, 14)) rfl) rfl rfl hl.1 rfl (lv_room (Nat.le_of_ble_eq_true rfl)) dX0_closeArgument_273 ⟨(Nat.le_of_ble_eq_true rfl), (Nat.le_of_ble_eq_true rfl)⟩) g hK (by decide) (by decide) (fx' := [(7, 6, q2_, .int x_347), (7, 5, q2_, .ref a_334), (7, 4, q2_, .ref a_333), (8, 6, q0_, .int 1201), (0, 4, a0_, .ref a_323), (0, 11, a0_, .int y_282), (0, 8, a0_, .int y_1), (8, 8, q0_, .int x_263), (6, 3, a_145, .int x_146), (7, 2, q2_, .ref a_144), (0, 7, a0_, .ref a_121), (0, 6, a0_, .ref a_110), (0, 5, a0_, .ref a_3), (0, 0, a0_, .ref q0_), (0, 1, a0_, .ref q1_), (0, 2, a0_, .ref q2_), (0, 3, a0_, .ref q3_), (5, 1, q1_, .ref q4_)]) rfl (fun fr_354 H locs hp hMr_354 g => ?_)
                obtain ⟨x_355, h_356, hF_357⟩ := hp
                have hG_358 := eOK.frame hMr_354 go_.2.2.2.1 ma0_ ka0_ (by decide) (by decide) hG_350
                have hG_359 := dOK.frame hMr_354 go_.2.2.2.1 mq2_ kq2_ (by decide) (by decide) hG_346
                have hG_360 := vP.frame hMr_354 go_.2.2.2.1 ma_3 ka_3 (by decide) (by decide) hG_351
                have g := g.more hF_357
                subst hQ
                exact W.vret hx hb hr (fun t ht hW => ⟨⟨_, rfl, Or.inr (⟨hG_359, x_263, h_264, (g.fcts [5, 9] rfl)⟩), q3_of g hK ht hW⟩, g.2.2.1.F ht⟩) g.2.2.1.2.2 dX0_closeArgument_276
              · have fc_344 := eq_f c_344
                exact absurd fc_344 fc_11
        · have fc_147 := eq_f c_147
          exact absurd fc_147 fc_22
      · have fc_97 := neq_f c_97
        refine lv_aload_n hx hb dX0_closeArgument_63 rfl (lv_at hl 4 rfl) ?_
        refine g_getk (C := RX0) (T := TX0) (N := 14) hx hb hts (mc_ inX0) hown hK g rfl 0 (by decide) rfl (hts _ (List.mem_cons_of_mem _ t_373)) (fun _ h9 => h9) 1 rfl dX0_closeArgument_64 ?_
        refine lv_iconst (v := 1) hx hb dX0_closeArgument_67 (by decide) ?_
        refine lv_iload hx hb dX0_closeArgument_68 (lv_at hl 0 rfl) ?_
        have go_ := g
        refine g_callv (va_runV (As := [.int 1, .int r_14]) (rest := []) ⟨hx, hb, hml, hown, hts⟩ (r_X8_fail l dC dI L kd tys fr_14 H.size g.2.2.2.1 q0_ mq0_ kq0_ 1 (bd_sub kb_1 (by decide)) r_14 y1_ by1_ (g.fcts [7] rfl)) (cwV 2 hts (gV_ t_1215 t_1107 t_1108 t_184 t_1109) rfl rfl rfl (by decide +kernel) ⟨(Nat.le_of_ble_eq_true rfl), (Nat.le_of_ble_eq_true rfl)⟩) (pre3V g hK mq0_ kq0_ (by decide) (q := (RX8, TX8, 10)) rfl) rfl rfl hl.1 rfl (lv_room (Nat.le_of_ble_eq_true rfl)) dX0_closeArgument_70 ⟨(Nat.le_of_ble_eq_true rfl), (Nat.le_of_ble_eq_true rfl)⟩) g hK (by decide) (by decide) (fx' := [(0, 5, a0_, .ref a_3), (0, 0, a0_, .ref q0_), (0, 1, a0_, .ref q1_), (0, 2, a0_, .ref q2_), (0, 3, a0_, .ref q3_), (5, 1, q1_, .ref q4_), (0, 8, a0_, .int y0_)]) rfl (fun fr_361 H locs hp hMr_361 g => ?_)
        obtain ⟨x_362, h_363, hF_364⟩ := hp
        have hG_365 := eOK.frame hMr_361 go_.2.2.2.1 ma0_ ka0_ (by decide) (by decide) hG_15
        have hG_366 := eJx.frame hMr_361 go_.2.2.2.1 ma0_ ka0_ (by decide) (by decide) hG_16
        have hG_367 := cOK.frame hMr_361 go_.2.2.2.1 mq2_ kq2_ (by decide) (by decide) hG_17
        have hG_368 := dOK.frame hMr_361 go_.2.2.2.1 mq2_ kq2_ (by decide) (by decide) hG_18
        have hG_369 := jS.frame hMr_361 go_.2.2.2.1 mq2_ kq2_ (by decide) (by decide) hG_19
        have hG_370 := vP.frame hMr_361 go_.2.2.2.1 ma_3 ka_3 (by decide) (by decide) hG_20
        have hG_371 := kQj.frame hMr_361 go_.2.2.2.1 mq2_ kq2_ (by decide) (by decide) hG_21
        have g := g.more hF_364
        subst hQ
        exact W.vret hx hb hr (fun t ht hW => ⟨⟨_, rfl, Or.inr (⟨hG_368, x_362, h_363, (g.fcts [0, 1] rfl)⟩), q3_of g hK ht hW⟩, g.2.2.1.F ht⟩) g.2.2.1.2.2 dX0_closeArgument_73
  · have fc_11 := eq_f c_11
    have b_372 : bd 2 2 x_5 := eqX fc_11 b_6 kb_2 (by decide)
    have b_373 : bd 0 11 x_4 := eqX rfl (bdT x_4) (er2 hc_7 b_372 (by decide)) (by decide)
    refine lv_aload_n hx hb dX0_closeArgument_24 rfl (lv_at hl 2 rfl) ?_
    refine g_getk (C := RX0) (T := TX0) (N := 14) hx hb hts (mc_ inX0) hown hK g rfl 1 (by decide) rfl (hts _ (List.mem_cons_of_mem _ t_374)) (fun _ h9 => h9) 2 rfl dX0_closeArgument_25 ?_
    refine g_getk (C := RX5) (T := TX5) (N := 9) hx hb hts (mc_ inX5) hown hK g rfl 1 (by decide) rfl (hts _ (List.mem_cons_of_mem _ t_332)) (fun _ h9 => h9) 5 rfl dX0_closeArgument_28 ?_
    refine g_getr (K := 156) (C := RX9) (T := TX9) (N := 13) hx hb hts (mc_ inX9) hown hK g mq4_ kq4_ (by decide) rfl 9 (by decide) rfl (hts _ (List.mem_cons_of_mem _ t_508)) (fun _ h9 => h9) rfl dX0_closeArgument_31 (fun a_374 ma_374 ka_374 g => ?_)
    refine lv_iload_n hx hb dX0_closeArgument_34 rfl (lv_at hl 0 rfl) ?_
    refine g_iald hx hb hK g ma_374 ka_374 (by decide) rfl (in_bd b_373 (by decide)) dX0_closeArgument_35 (fun x_375 bx_375 cx_375 => ?_)
    refine lv_goto (tgt := 40) hx hb dX0_closeArgument_36 (by decide) ?_
    refine lv_istore (lv' := [(4, .int x_375), (3, .int x_4), (2, .int y_1), (0, .ref a0_), (1, .int x1_)]) hx hb dX0_closeArgument_40 hl (by decide) rfl (fun ls hl => ?_)
    refine lv_aload_n hx hb dX0_closeArgument_42 rfl (lv_at hl 3 rfl) ?_
    refine g_getk (C := RX0) (T := TX0) (N := 14) hx hb hts (mc_ inX0) hown hK g rfl 0 (by decide) rfl (hts _ (List.mem_cons_of_mem _ t_373)) (fun _ h9 => h9) 2 rfl dX0_closeArgument_43 ?_
    have go_ := g
    refine g_calli (va_runV (As := []) (rest := []) ⟨hx, hb, hml, hown, hts⟩ (r_X8_place l dC dI L kd tys f0 s.heap.size g.2.2.2.1 q0_ mq0_ kq0_) (cwV 0 hts (gV_ t_1220 t_1111 t_1112 t_184 t_1113) rfl rfl rfl (by decide +kernel) ⟨(Nat.le_of_ble_eq_true rfl), (Nat.le_of_ble_eq_true rfl)⟩) (pre3V g hK mq0_ kq0_ (by decide) (q := (RX8, TX8, 10)) rfl) rfl rfl hl.1 rfl (lv_room (Nat.le_of_ble_eq_true rfl)) dX0_closeArgument_46 ⟨(Nat.le_of_ble_eq_true rfl), (Nat.le_of_ble_eq_true rfl)⟩) g hK (by decide) (by decide) (fx' := [(9, 9, q4_, .ref a_374), (0, 5, a0_, .ref a_3), (0, 0, a0_, .ref q0_), (0, 1, a0_, .ref q1_), (0, 2, a0_, .ref q2_), (0, 3, a0_, .ref q3_), (5, 1, q1_, .ref q4_), (0, 8, a0_, .int y0_), (8, 8, q0_, .int y1_)]) rfl (fun r_376 fr_376 H locs hp hMr_376 g => ?_)
    have hG_377 := eOK.frame hMr_376 go_.2.2.2.1 ma0_ ka0_ (by decide) (by decide) hGea0_
    have hG_378 := eJx.frame hMr_376 go_.2.2.2.1 ma0_ ka0_ (by decide) (by decide) hGia0_
    have hG_379 := cOK.frame hMr_376 go_.2.2.2.1 mq2_ kq2_ (by decide) (by decide) hGcq2_
    have hG_380 := dOK.frame hMr_376 go_.2.2.2.1 mq2_ kq2_ (by decide) (by decide) hGdq2_
    have hG_381 := jS.frame hMr_376 go_.2.2.2.1 mq2_ kq2_ (by decide) (by decide) hGsq2_
    have hG_382 := vP.frame hMr_376 go_.2.2.2.1 ma_3 ka_3 (by decide) (by decide) hv_9
    have hG_383 := kQj.frame hMr_376 go_.2.2.2.1 mq2_ kq2_ (by decide) (by decide) hq_10
    refine lv_istore (lv' := [(5, .int r_376), (4, .int x_375), (3, .int x_4), (2, .int y_1), (0, .ref a0_), (1, .int x1_)]) hx hb dX0_closeArgument_49 hl (by decide) rfl (fun ls hl => ?_)
    refine lv_iload_n hx hb dX0_closeArgument_51 rfl (lv_at hl 5 rfl) ?_
    refine lv_bipush (v := 44) hx hb dX0_closeArgument_52 (by decide) ?_
    have kb_44 : bd 44 44 (44 : Int32) := ⟨by decide, by decide⟩
    refine lv_icmp_eq (tgt := 74) hx hb dX0_closeArgument_54 (by decide) (fun c_384 => ?_) (fun c_384 => ?_)
    · have fc_384 := eq_f c_384
      have b_385 : bd 44 44 x1_ := eqX fc_384 (bdT x1_) kb_44 (by decide)
      refine lv_aload_n hx hb dX0_closeArgument_74 rfl (lv_at hl 4 rfl) ?_
      refine g_getk (C := RX0) (T := TX0) (N := 14) hx hb hts (mc_ inX0) hown hK g rfl 0 (by decide) rfl (hts _ (List.mem_cons_of_mem _ t_373)) (fun _ h9 => h9) 2 rfl dX0_closeArgument_75 ?_
      have go_ := g
      refine g_callv (va_runV (As := []) (rest := []) ⟨hx, hb, hml, hown, hts⟩ (r_X8_next l dC dI L kd tys fr_376 H.size g.2.2.2.1 q0_ mq0_ kq0_) (cwV 0 hts (gV_ t_1225 t_1103 t_1104 t_184 t_1105) rfl rfl rfl (by decide +kernel) ⟨(Nat.le_of_ble_eq_true rfl), (Nat.le_of_ble_eq_true rfl)⟩) (pre3V g hK mq0_ kq0_ (by decide) (q := (RX8, TX8, 10)) rfl) rfl rfl hl.1 rfl (lv_room (Nat.le_of_ble_eq_true rfl)) dX0_closeArgument_78 ⟨(Nat.le_of_ble_eq_true rfl), (Nat.le_of_ble_eq_true rfl)⟩) g hK (by decide) (by decide) (fx' := [(9, 9, q4_, .ref a_374), (0, 5, a0_, .ref a_3), (0, 0, a0_, .ref q0_), (0, 1, a0_, .ref q1_), (0, 2, a0_, .ref q2_), (0, 3, a0_, .ref q3_), (5, 1, q1_, .ref q4_), (0, 8, a0_, .int y0_), (8, 8, q0_, .int y1_)]) rfl (fun fr_386 H locs hp hMr_386 g => ?_)
      obtain ⟨x_387, h_388, hF_389⟩ := hp
      have hG_390 := eOK.frame hMr_386 go_.2.2.2.1 ma0_ ka0_ (by decide) (by decide) hG_377
      have hG_391 := eJx.frame hMr_386 go_.2.2.2.1 ma0_ ka0_ (by decide) (by decide) hG_378
      have hG_392 := cOK.frame hMr_386 go_.2.2.2.1 mq2_ kq2_ (by decide) (by decide) hG_379
      have hG_393 := dOK.frame hMr_386 go_.2.2.2.1 mq2_ kq2_ (by decide) (by decide) hG_380
      have hG_394 := jS.frame hMr_386 go_.2.2.2.1 mq2_ kq2_ (by decide) (by decide) hG_381
      have hG_395 := vP.frame hMr_386 go_.2.2.2.1 ma_3 ka_3 (by decide) (by decide) hG_382
      have hG_396 := kQj.frame hMr_386 go_.2.2.2.1 mq2_ kq2_ (by decide) (by decide) hG_383
      have g := g.more hF_389
      refine lv_aload_n hx hb dX0_closeArgument_81 rfl (lv_at hl 4 rfl) ?_
      refine g_getr (K := 113) (C := RX0) (T := TX0) (N := 14) hx hb hts (mc_ inX0) hown hK g ma0_ ka0_ (by decide) rfl 6 (by decide) rfl (hts _ (List.mem_cons_of_mem _ t_379)) (fun _ h9 => h9) rfl dX0_closeArgument_82 (fun a_397 ma_397 ka_397 g => ?_)
      refine lv_iload_n hx hb dX0_closeArgument_85 rfl (lv_at hl 3 rfl) ?_
      refine lv_dup2_11 hx hb dX0_closeArgument_86 rfl rfl ?_
      refine g_iald hx hb hK g ma_397 ka_397 (by decide) rfl (in_bd b_2 (by decide)) dX0_closeArgument_87 (fun x_398 bx_398 cx_398 => ?_)
      refine lv_iconst (v := 1) hx hb dX0_closeArgument_88 (by decide) ?_
      refine lv_iadd hx hb dX0_closeArgument_89 ?_
      refine lv_topi (fun y_399 ey_399 => ?_)
      have go_ := g
      refine g_iast hx hb hK g ma_397 ka_397 (by decide) rfl (in_bd b_2 (by decide)) (bdT y_399) (by decide) dX0_closeArgument_90 (fun f H locs hM_400 g => ?_)
      have hG_401 := eOK.frame hM_400 go_.2.2.2.1 ma0_ ka0_ (by decide) (by decide) hG_390
      have hG_402 := eJx.frame hM_400 go_.2.2.2.1 ma0_ ka0_ (by decide) (by decide) hG_391
      have hG_403 := cOK.frame hM_400 go_.2.2.2.1 mq2_ kq2_ (by decide) (by decide) hG_392
      have hG_404 := dOK.frame hM_400 go_.2.2.2.1 mq2_ kq2_ (by decide) (by decide) hG_393
      have hG_405 := jS.frame hM_400 go_.2.2.2.1 mq2_ kq2_ (by decide) (by decide) hG_394
      have hG_406 := vP.frame hM_400 go_.2.2.2.1 ma_3 ka_3 (by decide) (by decide) hG_395
      have hG_407 := kQj.frame hM_400 go_.2.2.2.1 mq2_ kq2_ (by decide) (by decide) hG_396
      refine lv_aload_n hx hb dX0_closeArgument_91 rfl (lv_at hl 4 rfl) ?_
      refine g_getr (K := 114) (C := RX0) (T := TX0) (N := 14) hx hb hts (mc_ inX0) hown hK g ma0_ ka0_ (by decide) rfl 7 (by decide) rfl (hts _ (List.mem_cons_of_mem _ t_380)) (fun _ h9 => h9) rfl dX0_closeArgument_92 (fun a_408 ma_408 ka_408 g => ?_)
      refine lv_iload_n hx hb dX0_closeArgument_95 rfl (lv_at hl 3 rfl) ?_
      refine lv_aload_n hx hb dX0_closeArgument_96 rfl (lv_at hl 4 rfl) ?_
      refine g_getk (C := RX0) (T := TX0) (N := 14) hx hb hts (mc_ inX0) hown hK g rfl 7 (by decide) rfl (hts _ (List.mem_cons_of_mem _ t_380)) (fun _ h9 => h9) 0 rfl dX0_closeArgument_97 ?_
      refine lv_iload_n hx hb dX0_closeArgument_100 rfl (lv_at hl 3 rfl) ?_
      refine g_iald hx hb hK g ma_408 ka_408 (by decide) rfl (in_bd b_2 (by decide)) dX0_closeArgument_101 (fun x_409 bx_409 cx_409 => ?_)
      refine lv_aload_n hx hb dX0_closeArgument_102 rfl (lv_at hl 4 rfl) ?_
      have go_ := g
      refine g_calli (va_runV (As := []) (rest := [.int x_409, .int y_1, .ref a_408]) ⟨hx, hb, hml, hown, hts⟩ (r_X0_takeHeight l dC dI L kd tys f H.size g.2.2.2.1 a0_ ma0_ ka0_) (cwV 0 hts (gV_ t_1199 t_1201 t_16 t_190 t_1202) rfl rfl rfl (by decide +kernel) ⟨(Nat.le_of_ble_eq_true rfl), (Nat.le_of_ble_eq_true rfl)⟩) (pre3V g hK ma0_ ka0_ (by decide) (q := (RX0, TX0, 14)) rfl) rfl rfl hl.1 rfl (lv_room (Nat.le_of_ble_eq_true rfl)) dX0_closeArgument_103 ⟨(Nat.le_of_ble_eq_true rfl), (Nat.le_of_ble_eq_true rfl)⟩) g hK (by decide) (by decide) (fx' := [(0, 7, a0_, .ref a_408), (0, 6, a0_, .ref a_397), (8, 6, q0_, .int x_387), (9, 9, q4_, .ref a_374), (0, 5, a0_, .ref a_3), (0, 0, a0_, .ref q0_), (0, 1, a0_, .ref q1_), (0, 2, a0_, .ref q2_), (0, 3, a0_, .ref q3_), (5, 1, q1_, .ref q4_), (0, 8, a0_, .int y0_), (8, 8, q0_, .int y1_)]) rfl (fun r_410 fr_410 H locs hp hMr_410 g => ?_)
      obtain ⟨x_411, h_412, hF_413⟩ := hp
      have hG_414 := eOK.frame hMr_410 go_.2.2.2.1 ma0_ ka0_ (by decide) (by decide) hG_401
      have hG_415 := eJx.frame hMr_410 go_.2.2.2.1 ma0_ ka0_ (by decide) (by decide) hG_402
      have hG_416 := cOK.frame hMr_410 go_.2.2.2.1 mq2_ kq2_ (by decide) (by decide) hG_403
      have hG_417 := dOK.frame hMr_410 go_.2.2.2.1 mq2_ kq2_ (by decide) (by decide) hG_404
      have hG_418 := jS.frame hMr_410 go_.2.2.2.1 mq2_ kq2_ (by decide) (by decide) hG_405
      have hG_419 := vP.frame hMr_410 go_.2.2.2.1 ma_3 ka_3 (by decide) (by decide) hG_406
      have hG_420 := kQj.frame hMr_410 go_.2.2.2.1 mq2_ kq2_ (by decide) (by decide) hG_407
      have g := g.more hF_413
      refine va_mmax hx hb (hml.trans hl.1.symm) hown (hts _ (List.mem_cons_of_mem _ t_1194)) (hts _ (List.mem_cons_of_mem _ t_1041)) (hts _ (List.mem_cons_of_mem _ t_204)) (hts _ (List.mem_cons_of_mem _ t_1042)) (Nat.le_of_ble_eq_true rfl) (Nat.le_of_ble_eq_true rfl) (Nat.le_of_ble_eq_true rfl) (Nat.le_of_ble_eq_true rfl) dX0_closeArgument_106 ?_
      refine lv_topi (fun y_421 ey_421 => ?_)
      have ty_421 : y_421.toInt = max x_409.toInt r_410.toInt := by rw [ey_421]; exact mmax_ok _ _
      have b_422 : bd (-2147483648) 2147483647 y_421 := max_rg ty_421 (bdT x_409) (bdT r_410) (by decide)
      have go_ := g
      refine g_iast hx hb hK g ma_408 ka_408 (by decide) rfl (in_bd b_2 (by decide)) b_422 (by decide) dX0_closeArgument_109 (fun f H locs hM_423 g => ?_)
      have hG_424 := eOK.frame hM_423 go_.2.2.2.1 ma0_ ka0_ (by decide) (by decide) hG_414
      have hG_425 := eJx.frame hM_423 go_.2.2.2.1 ma0_ ka0_ (by decide) (by decide) hG_415
      have hG_426 := cOK.frame hM_423 go_.2.2.2.1 mq2_ kq2_ (by decide) (by decide) hG_416
      have hG_427 := dOK.frame hM_423 go_.2.2.2.1 mq2_ kq2_ (by decide) (by decide) hG_417
      have hG_428 := jS.frame hM_423 go_.2.2.2.1 mq2_ kq2_ (by decide) (by decide) hG_418
      have hG_429 := vP.frame hM_423 go_.2.2.2.1 ma_3 ka_3 (by decide) (by decide) hG_419
      have hG_430 := kQj.frame hM_423 go_.2.2.2.1 mq2_ kq2_ (by decide) (by decide) hG_420
      refine lv_aload_n hx hb dX0_closeArgument_110 rfl (lv_at hl 4 rfl) ?_
      refine g_getk (C := RX0) (T := TX0) (N := 14) hx hb hts (mc_ inX0) hown hK g rfl 2 (by decide) rfl (hts _ (List.mem_cons_of_mem _ t_375)) (fun _ h9 => h9) 8 rfl dX0_closeArgument_111 ?_
      refine g_getr (K := 137) (C := RX7) (T := TX7) (N := 19) hx hb hts (mc_ inX7) hown hK g mq2_ kq2_ (by decide) rfl 2 (by decide) rfl (hts _ (List.mem_cons_of_mem _ t_633)) (fun _ h9 => h9) rfl dX0_closeArgument_114 (fun a_431 ma_431 ka_431 g => ?_)
      refine lv_iload hx hb dX0_closeArgument_117 (lv_at hl 1 rfl) ?_
      refine g_aald hx hb hK g ma_431 ka_431 (by decide) rfl (by decide) (in_bd bx_375 (by decide)) dX0_closeArgument_119 (fun a_432 ma_432 ua_432 wa_432 => ?_)
      have ka_432 : kd a_432 = 6 := by omega
      refine g_geti (C := RX6) (T := TX6) (N := 13) hx hb hts (mc_ inX6) hown hK g ma_432 ka_432 (by decide) rfl 3 (by decide) rfl (hts _ (List.mem_cons_of_mem _ t_564)) (fun _ h9 => h9) rfl dX0_closeArgument_120 (fun x_433 bx_433 g => ?_)
      refine lv_istore (lv' := [(6, .int x_433), (5, .int r_376), (4, .int x_375), (3, .int x_4), (2, .int y_1), (0, .ref a0_), (1, .int x1_)]) hx hb dX0_closeArgument_123 hl (by decide) rfl (fun ls hl => ?_)
      refine lv_iload_n hx hb dX0_closeArgument_125 rfl (lv_at hl 6 rfl) ?_
      refine lv_bipush (v := 44) hx hb dX0_closeArgument_126 (by decide) ?_
      refine lv_icmp_ne (tgt := 159) hx hb dX0_closeArgument_128 (by decide) (fun c_434 => ?_) (fun c_434 => ?_)
      · have fc_434 := neq_f c_434
        have b_435 : bd 45 43 x1_ := neX fc_434 b_385 kb_44 (by decide)
        exact bd_no b_435 (by decide)
      · have fc_434 := eq_f c_434
        refine lv_aload_n hx hb dX0_closeArgument_131 rfl (lv_at hl 5 rfl) ?_
        refine lv_iconst (v := 1) hx hb dX0_closeArgument_132 (by decide) ?_
        have go_ := g
        refine g_put (C := RX0) (T := TX0) (N := 14) hx hb hts (mc_ inX0) tyX0 tyX0_ok nmX0 hown hK g ma0_ ka0_ (by decide) rfl 12 (by decide) (hts _ (List.mem_cons_of_mem _ t_385)) (fun _ h9 => h9) rfl rfl (okV_i (bd_sub kb_1 (by decide))) rfl rfl (by decide) (Or.inr (Or.inl (by decide))) (fx' := [(6, 3, a_432, .int x_433), (7, 2, q2_, .ref a_431), (0, 10, a0_, .int x_411), (0, 7, a0_, .ref a_408), (0, 6, a0_, .ref a_397), (8, 6, q0_, .int x_387), (9, 9, q4_, .ref a_374), (0, 5, a0_, .ref a_3), (0, 0, a0_, .ref q0_), (0, 1, a0_, .ref q1_), (0, 2, a0_, .ref q2_), (0, 3, a0_, .ref q3_), (5, 1, q1_, .ref q4_), (0, 8, a0_, .int y0_), (8, 8, q0_, .int y1_)]) rfl dX0_closeArgument_133 (fun f H locs hM_436 g => ?_)
        have hG_437 := eOK.frame hM_436 go_.2.2.2.1 ma0_ ka0_ (by decide) (by decide) hG_424
        have hG_438 := eJx.frame hM_436 go_.2.2.2.1 ma0_ ka0_ (by decide) (by decide) hG_425
        have hG_439 := cOK.frame hM_436 go_.2.2.2.1 mq2_ kq2_ (by decide) (by decide) hG_426
        have hG_440 := dOK.frame hM_436 go_.2.2.2.1 mq2_ kq2_ (by decide) (by decide) hG_427
        have hG_441 := jS.frame hM_436 go_.2.2.2.1 mq2_ kq2_ (by decide) (by decide) hG_428
        have hG_442 := vP.frame hM_436 go_.2.2.2.1 ma_3 ka_3 (by decide) (by decide) hG_429
        have hG_443 := kQj.frame hM_436 go_.2.2.2.1 mq2_ kq2_ (by decide) (by decide) hG_430
        refine lv_aload_n hx hb dX0_closeArgument_136 rfl (lv_at hl 5 rfl) ?_
        refine g_getk (C := RX0) (T := TX0) (N := 14) hx hb hts (mc_ inX0) hown hK g rfl 6 (by decide) rfl (hts _ (List.mem_cons_of_mem _ t_379)) (fun _ h9 => h9) 5 rfl dX0_closeArgument_137 ?_
        refine lv_iload_n hx hb dX0_closeArgument_140 rfl (lv_at hl 4 rfl) ?_
        refine g_iald hx hb hK g ma_397 ka_397 (by decide) rfl (in_bd b_2 (by decide)) dX0_closeArgument_141 (fun x_444 bx_444 cx_444 => ?_)
        refine lv_iload hx hb dX0_closeArgument_142 (lv_at hl 0 rfl) ?_
        refine lv_icmp_lt (tgt := 158) hx hb dX0_closeArgument_144 (by decide) (fun c_445 => ?_) (fun c_445 => ?_)
        · have fc_445 := lt_f c_445
          have b_446 : bd (-2147483648) 2 x_444 := ltL fc_445 (bdT x_444) bx_433 (by decide)
          subst hQ
          exact W.vret hx hb hr (fun t ht hW => ⟨⟨_, rfl, Or.inl ⟨hG_438, hG_439, hG_440, hG_441, (bd_sub b_385 (by decide)), x_387, h_388, (g.fcts [6, 15] rfl)⟩, q3_of g hK ht hW⟩, g.2.2.1.F ht⟩) g.2.2.1.2.2 dX0_closeArgument_158
        · have fc_445 := nlt_f c_445
          have b_447 : bd 0 2147483647 x_444 := leR fc_445 bx_433 (bdT x_444) (by decide)
          refine lv_aload_n hx hb dX0_closeArgument_147 rfl (lv_at hl 5 rfl) ?_
          refine g_getk (C := RX0) (T := TX0) (N := 14) hx hb hts (mc_ inX0) hown hK g rfl 0 (by decide) rfl (hts _ (List.mem_cons_of_mem _ t_373)) (fun _ h9 => h9) 9 rfl dX0_closeArgument_148 ?_
          refine lv_bipush (v := 6) hx hb dX0_closeArgument_151 (by decide) ?_
          refine lv_iload hx hb dX0_closeArgument_153 (lv_at hl 1 rfl) ?_
          have kb_6 : bd 6 6 (6 : Int32) := ⟨by decide, by decide⟩
          have go_ := g
          refine g_callv (va_runV (As := [.int 6, .int r_376]) (rest := []) ⟨hx, hb, hml, hown, hts⟩ (r_X8_fail l dC dI L kd tys f H.size g.2.2.2.1 q0_ mq0_ kq0_ 6 (bd_sub kb_6 (by decide)) r_376 y1_ by1_ (g.fcts [15] rfl)) (cwV 2 hts (gV_ t_1215 t_1107 t_1108 t_184 t_1109) rfl rfl rfl (by decide +kernel) ⟨(Nat.le_of_ble_eq_true rfl), (Nat.le_of_ble_eq_true rfl)⟩) (pre3V g hK mq0_ kq0_ (by decide) (q := (RX8, TX8, 10)) rfl) rfl rfl hl.1 rfl (lv_room (Nat.le_of_ble_eq_true rfl)) dX0_closeArgument_155 ⟨(Nat.le_of_ble_eq_true rfl), (Nat.le_of_ble_eq_true rfl)⟩) g hK (by decide) (by decide) (fx' := [(0, 12, a0_, .int 1), (6, 3, a_432, .int x_433), (7, 2, q2_, .ref a_431), (0, 10, a0_, .int x_411), (0, 7, a0_, .ref a_408), (0, 6, a0_, .ref a_397), (9, 9, q4_, .ref a_374), (0, 5, a0_, .ref a_3), (0, 0, a0_, .ref q0_), (0, 1, a0_, .ref q1_), (0, 2, a0_, .ref q2_), (0, 3, a0_, .ref q3_), (5, 1, q1_, .ref q4_), (0, 8, a0_, .int y0_)]) rfl (fun fr_448 H locs hp hMr_448 g => ?_)
          obtain ⟨x_449, h_450, hF_451⟩ := hp
          have hG_452 := eOK.frame hMr_448 go_.2.2.2.1 ma0_ ka0_ (by decide) (by decide) hG_437
          have hG_453 := eJx.frame hMr_448 go_.2.2.2.1 ma0_ ka0_ (by decide) (by decide) hG_438
          have hG_454 := cOK.frame hMr_448 go_.2.2.2.1 mq2_ kq2_ (by decide) (by decide) hG_439
          have hG_455 := dOK.frame hMr_448 go_.2.2.2.1 mq2_ kq2_ (by decide) (by decide) hG_440
          have hG_456 := jS.frame hMr_448 go_.2.2.2.1 mq2_ kq2_ (by decide) (by decide) hG_441
          have hG_457 := vP.frame hMr_448 go_.2.2.2.1 ma_3 ka_3 (by decide) (by decide) hG_442
          have hG_458 := kQj.frame hMr_448 go_.2.2.2.1 mq2_ kq2_ (by decide) (by decide) hG_443
          have g := g.more hF_451
          subst hQ
          exact W.vret hx hb hr (fun t ht hW => ⟨⟨_, rfl, Or.inr (⟨hG_455, x_449, h_450, (g.fcts [0, 1] rfl)⟩), q3_of g hK ht hW⟩, g.2.2.1.F ht⟩) g.2.2.1.2.2 dX0_closeArgument_158
    · have fc_384 := neq_f c_384
      refine lv_iload_n hx hb dX0_closeArgument_57 rfl (lv_at hl 5 rfl) ?_
      refine lv_bipush (v := 41) hx hb dX0_closeArgument_58 (by decide) ?_
      have kb_41 : bd 41 41 (41 : Int32) := ⟨by decide, by decide⟩
      refine lv_icmp_eq (tgt := 74) hx hb dX0_closeArgument_60 (by decide) (fun c_459 => ?_) (fun c_459 => ?_)
      · have fc_459 := eq_f c_459
        have b_460 : bd 41 41 x1_ := eqX fc_459 (bdT x1_) kb_41 (by decide)
        refine lv_aload_n hx hb dX0_closeArgument_74 rfl (lv_at hl 4 rfl) ?_
        refine g_getk (C := RX0) (T := TX0) (N := 14) hx hb hts (mc_ inX0) hown hK g rfl 0 (by decide) rfl (hts _ (List.mem_cons_of_mem _ t_373)) (fun _ h9 => h9) 2 rfl dX0_closeArgument_75 ?_
        have go_ := g
        refine g_callv (va_runV (As := []) (rest := []) ⟨hx, hb, hml, hown, hts⟩ (r_X8_next l dC dI L kd tys fr_376 H.size g.2.2.2.1 q0_ mq0_ kq0_) (cwV 0 hts (gV_ t_1225 t_1103 t_1104 t_184 t_1105) rfl rfl rfl (by decide +kernel) ⟨(Nat.le_of_ble_eq_true rfl), (Nat.le_of_ble_eq_true rfl)⟩) (pre3V g hK mq0_ kq0_ (by decide) (q := (RX8, TX8, 10)) rfl) rfl rfl hl.1 rfl (lv_room (Nat.le_of_ble_eq_true rfl)) dX0_closeArgument_78 ⟨(Nat.le_of_ble_eq_true rfl), (Nat.le_of_ble_eq_true rfl)⟩) g hK (by decide) (by decide) (fx' := [(9, 9, q4_, .ref a_374), (0, 5, a0_, .ref a_3), (0, 0, a0_, .ref q0_), (0, 1, a0_, .ref q1_), (0, 2, a0_, .ref q2_), (0, 3, a0_, .ref q3_), (5, 1, q1_, .ref q4_), (0, 8, a0_, .int y0_), (8, 8, q0_, .int y1_)]) rfl (fun fr_461 H locs hp hMr_461 g => ?_)
        obtain ⟨x_462, h_463, hF_464⟩ := hp
        have hG_465 := eOK.frame hMr_461 go_.2.2.2.1 ma0_ ka0_ (by decide) (by decide) hG_377
        have hG_466 := eJx.frame hMr_461 go_.2.2.2.1 ma0_ ka0_ (by decide) (by decide) hG_378
        have hG_467 := cOK.frame hMr_461 go_.2.2.2.1 mq2_ kq2_ (by decide) (by decide) hG_379
        have hG_468 := dOK.frame hMr_461 go_.2.2.2.1 mq2_ kq2_ (by decide) (by decide) hG_380
        have hG_469 := jS.frame hMr_461 go_.2.2.2.1 mq2_ kq2_ (by decide) (by decide) hG_381
        have hG_470 := vP.frame hMr_461 go_.2.2.2.1 ma_3 ka_3 (by decide) (by decide) hG_382
        have hG_471 := kQj.frame hMr_461 go_.2.2.2.1 mq2_ kq2_ (by decide) (by decide) hG_383
        have g := g.more hF_464
        refine lv_aload_n hx hb dX0_closeArgument_81 rfl (lv_at hl 4 rfl) ?_
        refine g_getr (K := 113) (C := RX0) (T := TX0) (N := 14) hx hb hts (mc_ inX0) hown hK g ma0_ ka0_ (by decide) rfl 6 (by decide) rfl (hts _ (List.mem_cons_of_mem _ t_379)) (fun _ h9 => h9) rfl dX0_closeArgument_82 (fun a_472 ma_472 ka_472 g => ?_)
        refine lv_iload_n hx hb dX0_closeArgument_85 rfl (lv_at hl 3 rfl) ?_
        refine lv_dup2_11 hx hb dX0_closeArgument_86 rfl rfl ?_
        refine g_iald hx hb hK g ma_472 ka_472 (by decide) rfl (in_bd b_2 (by decide)) dX0_closeArgument_87 (fun x_473 bx_473 cx_473 => ?_)
        refine lv_iconst (v := 1) hx hb dX0_closeArgument_88 (by decide) ?_
        refine lv_iadd hx hb dX0_closeArgument_89 ?_
        refine lv_topi (fun y_474 ey_474 => ?_)
        have go_ := g
        refine g_iast hx hb hK g ma_472 ka_472 (by decide) rfl (in_bd b_2 (by decide)) (bdT y_474) (by decide) dX0_closeArgument_90 (fun f H locs hM_475 g => ?_)
        have hG_476 := eOK.frame hM_475 go_.2.2.2.1 ma0_ ka0_ (by decide) (by decide) hG_465
        have hG_477 := eJx.frame hM_475 go_.2.2.2.1 ma0_ ka0_ (by decide) (by decide) hG_466
        have hG_478 := cOK.frame hM_475 go_.2.2.2.1 mq2_ kq2_ (by decide) (by decide) hG_467
        have hG_479 := dOK.frame hM_475 go_.2.2.2.1 mq2_ kq2_ (by decide) (by decide) hG_468
        have hG_480 := jS.frame hM_475 go_.2.2.2.1 mq2_ kq2_ (by decide) (by decide) hG_469
        have hG_481 := vP.frame hM_475 go_.2.2.2.1 ma_3 ka_3 (by decide) (by decide) hG_470
        have hG_482 := kQj.frame hM_475 go_.2.2.2.1 mq2_ kq2_ (by decide) (by decide) hG_471
        refine lv_aload_n hx hb dX0_closeArgument_91 rfl (lv_at hl 4 rfl) ?_
        refine g_getr (K := 114) (C := RX0) (T := TX0) (N := 14) hx hb hts (mc_ inX0) hown hK g ma0_ ka0_ (by decide) rfl 7 (by decide) rfl (hts _ (List.mem_cons_of_mem _ t_380)) (fun _ h9 => h9) rfl dX0_closeArgument_92 (fun a_483 ma_483 ka_483 g => ?_)
        refine lv_iload_n hx hb dX0_closeArgument_95 rfl (lv_at hl 3 rfl) ?_
        refine lv_aload_n hx hb dX0_closeArgument_96 rfl (lv_at hl 4 rfl) ?_
        refine g_getk (C := RX0) (T := TX0) (N := 14) hx hb hts (mc_ inX0) hown hK g rfl 7 (by decide) rfl (hts _ (List.mem_cons_of_mem _ t_380)) (fun _ h9 => h9) 0 rfl dX0_closeArgument_97 ?_
        refine lv_iload_n hx hb dX0_closeArgument_100 rfl (lv_at hl 3 rfl) ?_
        refine g_iald hx hb hK g ma_483 ka_483 (by decide) rfl (in_bd b_2 (by decide)) dX0_closeArgument_101 (fun x_484 bx_484 cx_484 => ?_)
        refine lv_aload_n hx hb dX0_closeArgument_102 rfl (lv_at hl 4 rfl) ?_
        have go_ := g
        refine g_calli (va_runV (As := []) (rest := [.int x_484, .int y_1, .ref a_483]) ⟨hx, hb, hml, hown, hts⟩ (r_X0_takeHeight l dC dI L kd tys f H.size g.2.2.2.1 a0_ ma0_ ka0_) (cwV 0 hts (gV_ t_1199 t_1201 t_16 t_190 t_1202) rfl rfl rfl (by decide +kernel) ⟨(Nat.le_of_ble_eq_true rfl), (Nat.le_of_ble_eq_true rfl)⟩) (pre3V g hK ma0_ ka0_ (by decide) (q := (RX0, TX0, 14)) rfl) rfl rfl hl.1 rfl (lv_room (Nat.le_of_ble_eq_true rfl)) dX0_closeArgument_103 ⟨(Nat.le_of_ble_eq_true rfl), (Nat.le_of_ble_eq_true rfl)⟩) g hK (by decide) (by decide) (fx' := [(0, 7, a0_, .ref a_483), (0, 6, a0_, .ref a_472), (8, 6, q0_, .int x_462), (9, 9, q4_, .ref a_374), (0, 5, a0_, .ref a_3), (0, 0, a0_, .ref q0_), (0, 1, a0_, .ref q1_), (0, 2, a0_, .ref q2_), (0, 3, a0_, .ref q3_), (5, 1, q1_, .ref q4_), (0, 8, a0_, .int y0_), (8, 8, q0_, .int y1_)]) rfl (fun r_485 fr_485 H locs hp hMr_485 g => ?_)
        obtain ⟨x_486, h_487, hF_488⟩ := hp
        have hG_489 := eOK.frame hMr_485 go_.2.2.2.1 ma0_ ka0_ (by decide) (by decide) hG_476
        have hG_490 := eJx.frame hMr_485 go_.2.2.2.1 ma0_ ka0_ (by decide) (by decide) hG_477
        have hG_491 := cOK.frame hMr_485 go_.2.2.2.1 mq2_ kq2_ (by decide) (by decide) hG_478
        have hG_492 := dOK.frame hMr_485 go_.2.2.2.1 mq2_ kq2_ (by decide) (by decide) hG_479
        have hG_493 := jS.frame hMr_485 go_.2.2.2.1 mq2_ kq2_ (by decide) (by decide) hG_480
        have hG_494 := vP.frame hMr_485 go_.2.2.2.1 ma_3 ka_3 (by decide) (by decide) hG_481
        have hG_495 := kQj.frame hMr_485 go_.2.2.2.1 mq2_ kq2_ (by decide) (by decide) hG_482
        have g := g.more hF_488
        refine va_mmax hx hb (hml.trans hl.1.symm) hown (hts _ (List.mem_cons_of_mem _ t_1194)) (hts _ (List.mem_cons_of_mem _ t_1041)) (hts _ (List.mem_cons_of_mem _ t_204)) (hts _ (List.mem_cons_of_mem _ t_1042)) (Nat.le_of_ble_eq_true rfl) (Nat.le_of_ble_eq_true rfl) (Nat.le_of_ble_eq_true rfl) (Nat.le_of_ble_eq_true rfl) dX0_closeArgument_106 ?_
        refine lv_topi (fun y_496 ey_496 => ?_)
        have ty_496 : y_496.toInt = max x_484.toInt r_485.toInt := by rw [ey_496]; exact mmax_ok _ _
        have b_497 : bd (-2147483648) 2147483647 y_496 := max_rg ty_496 (bdT x_484) (bdT r_485) (by decide)
        have go_ := g
        refine g_iast hx hb hK g ma_483 ka_483 (by decide) rfl (in_bd b_2 (by decide)) b_497 (by decide) dX0_closeArgument_109 (fun f H locs hM_498 g => ?_)
        have hG_499 := eOK.frame hM_498 go_.2.2.2.1 ma0_ ka0_ (by decide) (by decide) hG_489
        have hG_500 := eJx.frame hM_498 go_.2.2.2.1 ma0_ ka0_ (by decide) (by decide) hG_490
        have hG_501 := cOK.frame hM_498 go_.2.2.2.1 mq2_ kq2_ (by decide) (by decide) hG_491
        have hG_502 := dOK.frame hM_498 go_.2.2.2.1 mq2_ kq2_ (by decide) (by decide) hG_492
        have hG_503 := jS.frame hM_498 go_.2.2.2.1 mq2_ kq2_ (by decide) (by decide) hG_493
        have hG_504 := vP.frame hM_498 go_.2.2.2.1 ma_3 ka_3 (by decide) (by decide) hG_494
        have hG_505 := kQj.frame hM_498 go_.2.2.2.1 mq2_ kq2_ (by decide) (by decide) hG_495
        refine lv_aload_n hx hb dX0_closeArgument_110 rfl (lv_at hl 4 rfl) ?_
        refine g_getk (C := RX0) (T := TX0) (N := 14) hx hb hts (mc_ inX0) hown hK g rfl 2 (by decide) rfl (hts _ (List.mem_cons_of_mem _ t_375)) (fun _ h9 => h9) 8 rfl dX0_closeArgument_111 ?_
        refine g_getr (K := 137) (C := RX7) (T := TX7) (N := 19) hx hb hts (mc_ inX7) hown hK g mq2_ kq2_ (by decide) rfl 2 (by decide) rfl (hts _ (List.mem_cons_of_mem _ t_633)) (fun _ h9 => h9) rfl dX0_closeArgument_114 (fun a_506 ma_506 ka_506 g => ?_)
        refine lv_iload hx hb dX0_closeArgument_117 (lv_at hl 1 rfl) ?_
        refine g_aald hx hb hK g ma_506 ka_506 (by decide) rfl (by decide) (in_bd bx_375 (by decide)) dX0_closeArgument_119 (fun a_507 ma_507 ua_507 wa_507 => ?_)
        have ka_507 : kd a_507 = 6 := by omega
        refine g_geti (C := RX6) (T := TX6) (N := 13) hx hb hts (mc_ inX6) hown hK g ma_507 ka_507 (by decide) rfl 3 (by decide) rfl (hts _ (List.mem_cons_of_mem _ t_564)) (fun _ h9 => h9) rfl dX0_closeArgument_120 (fun x_508 bx_508 g => ?_)
        refine lv_istore (lv' := [(6, .int x_508), (5, .int r_376), (4, .int x_375), (3, .int x_4), (2, .int y_1), (0, .ref a0_), (1, .int x1_)]) hx hb dX0_closeArgument_123 hl (by decide) rfl (fun ls hl => ?_)
        refine lv_iload_n hx hb dX0_closeArgument_125 rfl (lv_at hl 6 rfl) ?_
        refine lv_bipush (v := 44) hx hb dX0_closeArgument_126 (by decide) ?_
        refine lv_icmp_ne (tgt := 159) hx hb dX0_closeArgument_128 (by decide) (fun c_509 => ?_) (fun c_509 => ?_)
        · have fc_509 := neq_f c_509
          refine lv_aload_n hx hb dX0_closeArgument_159 rfl (lv_at hl 5 rfl) ?_
          refine g_getk (C := RX0) (T := TX0) (N := 14) hx hb hts (mc_ inX0) hown hK g rfl 6 (by decide) rfl (hts _ (List.mem_cons_of_mem _ t_379)) (fun _ h9 => h9) 4 rfl dX0_closeArgument_160 ?_
          refine lv_iload_n hx hb dX0_closeArgument_163 rfl (lv_at hl 4 rfl) ?_
          refine g_iald hx hb hK g ma_472 ka_472 (by decide) rfl (in_bd b_2 (by decide)) dX0_closeArgument_164 (fun x_510 bx_510 cx_510 => ?_)
          refine lv_iload hx hb dX0_closeArgument_165 (lv_at hl 0 rfl) ?_
          refine lv_icmp_ge (tgt := 181) hx hb dX0_closeArgument_167 (by decide) (fun c_511 => ?_) (fun c_511 => ?_)
          · have fc_511 := le_f c_511
            have b_512 : bd 0 2147483647 x_510 := leR fc_511 bx_508 (bdT x_510) (by decide)
            refine lv_aload_n hx hb dX0_closeArgument_181 rfl (lv_at hl 5 rfl) ?_
            refine lv_dup hx hb dX0_closeArgument_182 rfl ?_
            refine g_getk (C := RX0) (T := TX0) (N := 14) hx hb hts (mc_ inX0) hown hK g rfl 8 (by decide) rfl (hts _ (List.mem_cons_of_mem _ t_381)) (fun _ h9 => h9) 13 rfl dX0_closeArgument_183 ?_
            refine lv_iconst (v := 1) hx hb dX0_closeArgument_186 (by decide) ?_
            refine lv_isub hx hb dX0_closeArgument_187 ?_
            refine lv_topi (fun y_513 ey_513 => ?_)
            obtain rfl : y_1 = y_513 := ey_1.trans ey_513.symm
            have go_ := g
            refine g_putX (C := RX0) (T := TX0) (N := 14) hx hb hts (mc_ inX0) tyX0 tyX0_ok nmX0 hown hK g ma0_ ka0_ (by decide) rfl 8 (by decide) (hts _ (List.mem_cons_of_mem _ t_381)) (fun _ h9 => h9) rfl rfl (okV_i (bd_sub b_2 (by decide))) rfl rfl (by decide) (Or.inr (Or.inl (by decide))) (fx' := [(6, 3, a_507, .int x_508), (7, 2, q2_, .ref a_506), (0, 10, a0_, .int x_486), (0, 7, a0_, .ref a_483), (0, 6, a0_, .ref a_472), (8, 6, q0_, .int x_462), (9, 9, q4_, .ref a_374), (0, 5, a0_, .ref a_3), (0, 0, a0_, .ref q0_), (0, 1, a0_, .ref q1_), (0, 2, a0_, .ref q2_), (0, 3, a0_, .ref q3_), (5, 1, q1_, .ref q4_), (8, 8, q0_, .int y1_)]) rfl dX0_closeArgument_188 (fun f H locs hM_514 u_522 g => ?_)
            have hG_515 := eOK.frame hM_514 go_.2.2.2.1 ma0_ ka0_ (by decide) (by decide) hG_499
            have hG_516 := cOK.frame hM_514 go_.2.2.2.1 mq2_ kq2_ (by decide) (by decide) hG_501
            have hG_517 := dOK.frame hM_514 go_.2.2.2.1 mq2_ kq2_ (by decide) (by decide) hG_502
            have hG_518 := jS.frame hM_514 go_.2.2.2.1 mq2_ kq2_ (by decide) (by decide) hG_503
            have hG_519 := vP.frame hM_514 go_.2.2.2.1 ma_3 ka_3 (by decide) (by decide) hG_504
            have hG_520 := kQj.frame hM_514 go_.2.2.2.1 mq2_ kq2_ (by decide) (by decide) hG_505
            have hi_521 := eJx.dec hG_500 (fx_at go_ (i := 13) rfl).2.2.2 (fx_at go_ (i := 10) rfl).2.2.2 mq2_ kq2_ u_522 (by have h9_0 := b_460; unfold bd at h9_0; have h9_1 := bx_375; unfold bd at h9_1; have h9_2 := b_373; unfold bd at h9_2; have h9_3 := h_463; unfold bd at h9_3; have h9_4 := h_487; unfold bd at h9_4; have h9_5 := b_372; unfold bd at h9_5; have h9_6 := bx_508; unfold bd at h9_6; have h9_7 := b_512; unfold bd at h9_7; have h9_8 := by0_; unfold bd at h9_8; have h9_9 := by1_; unfold bd at h9_9; have h9_10 := b_2; unfold bd at h9_10; have h9_11 := b_497; unfold bd at h9_11; have h8_0 := kb_1; unfold bd at h8_0; have h8_1 := kb_2; unfold bd at h8_1; have h8_2 := kb_41; unfold bd at h8_2; have h8_3 := kb_44; unfold bd at h8_3; omega) go_.2.2.2.1 ma0_ ka0_
            refine lv_aload_n hx hb dX0_closeArgument_191 rfl (lv_at hl 5 rfl) ?_
            refine lv_dup hx hb dX0_closeArgument_192 rfl ?_
            refine g_geti (C := RX0) (T := TX0) (N := 14) hx hb hts (mc_ inX0) hown hK g ma0_ ka0_ (by decide) rfl 11 (by decide) rfl (hts _ (List.mem_cons_of_mem _ t_384)) (fun _ h9 => h9) rfl dX0_closeArgument_193 (fun x_523 bx_523 g => ?_)
            refine lv_iconst (v := 1) hx hb dX0_closeArgument_196 (by decide) ?_
            refine lv_isub hx hb dX0_closeArgument_197 ?_
            refine lv_topi (fun y_524 ey_524 => ?_)
            have go_ := g
            refine g_put (C := RX0) (T := TX0) (N := 14) hx hb hts (mc_ inX0) tyX0 tyX0_ok nmX0 hown hK g ma0_ ka0_ (by decide) rfl 11 (by decide) (hts _ (List.mem_cons_of_mem _ t_384)) (fun _ h9 => h9) rfl rfl (okV_i (bdT y_524)) rfl rfl (by decide) (Or.inr (Or.inl (by decide))) (fx' := [(0, 8, a0_, .int y_1), (6, 3, a_507, .int x_508), (7, 2, q2_, .ref a_506), (0, 10, a0_, .int x_486), (0, 7, a0_, .ref a_483), (0, 6, a0_, .ref a_472), (8, 6, q0_, .int x_462), (9, 9, q4_, .ref a_374), (0, 5, a0_, .ref a_3), (0, 0, a0_, .ref q0_), (0, 1, a0_, .ref q1_), (0, 2, a0_, .ref q2_), (0, 3, a0_, .ref q3_), (5, 1, q1_, .ref q4_), (8, 8, q0_, .int y1_)]) rfl dX0_closeArgument_198 (fun f H locs hM_525 g => ?_)
            have hG_526 := eOK.frame hM_525 go_.2.2.2.1 ma0_ ka0_ (by decide) (by decide) hG_515
            have hG_527 := cOK.frame hM_525 go_.2.2.2.1 mq2_ kq2_ (by decide) (by decide) hG_516
            have hG_528 := dOK.frame hM_525 go_.2.2.2.1 mq2_ kq2_ (by decide) (by decide) hG_517
            have hG_529 := jS.frame hM_525 go_.2.2.2.1 mq2_ kq2_ (by decide) (by decide) hG_518
            have hG_530 := vP.frame hM_525 go_.2.2.2.1 ma_3 ka_3 (by decide) (by decide) hG_519
            have hG_531 := kQj.frame hM_525 go_.2.2.2.1 mq2_ kq2_ (by decide) (by decide) hG_520
            have hG_532 := eJx.frame hM_525 go_.2.2.2.1 ma0_ ka0_ (by decide) (by decide) hi_521
            refine lv_aload_n hx hb dX0_closeArgument_201 rfl (lv_at hl 5 rfl) ?_
            refine g_getk (C := RX0) (T := TX0) (N := 14) hx hb hts (mc_ inX0) hown hK g rfl 7 (by decide) rfl (hts _ (List.mem_cons_of_mem _ t_380)) (fun _ h9 => h9) 5 rfl dX0_closeArgument_202 ?_
            refine lv_iload_n hx hb dX0_closeArgument_205 rfl (lv_at hl 4 rfl) ?_
            refine g_iald hx hb hK g ma_483 ka_483 (by decide) rfl (in_bd b_2 (by decide)) dX0_closeArgument_206 (fun x_533 bx_533 cx_533 => ?_)
            refine lv_iconst (v := 1) hx hb dX0_closeArgument_207 (by decide) ?_
            refine lv_iadd hx hb dX0_closeArgument_208 ?_
            refine lv_topi (fun y_534 ey_534 => ?_)
            refine lv_bipush (v := 12) hx hb dX0_closeArgument_209 (by decide) ?_
            have kb_12 : bd 12 12 (12 : Int32) := ⟨by decide, by decide⟩
            refine lv_icmp_le (tgt := 229) hx hb dX0_closeArgument_211 (by decide) (fun c_535 => ?_) (fun c_535 => ?_)
            · have fc_535 := le_f c_535
              have b_536 : bd (-2147483648) 12 y_534 := leL fc_535 (bdT y_534) kb_12 (by decide)
              refine lv_aload_n hx hb dX0_closeArgument_229 rfl (lv_at hl 5 rfl) ?_
              refine g_getk (C := RX0) (T := TX0) (N := 14) hx hb hts (mc_ inX0) hown hK g rfl 2 (by decide) rfl (hts _ (List.mem_cons_of_mem _ t_375)) (fun _ h9 => h9) 12 rfl dX0_closeArgument_230 ?_
              refine lv_bipush (v := 13) hx hb dX0_closeArgument_233 (by decide) ?_
              refine lv_iconst (v := 0) hx hb dX0_closeArgument_235 (by decide) ?_
              obtain ⟨a_537, ma_537, ka_537, g⟩ := g_factr g mq2_ kq2_ (by decide) 4 rfl
              obtain ⟨a_538, ma_538, ka_538, g⟩ := g_factr g mq2_ kq2_ (by decide) 5 rfl
              obtain ⟨x_539, bx_539, g⟩ := g_facti g mq2_ kq2_ (by decide) 6 rfl
              have kb_13 : bd 13 13 (13 : Int32) := ⟨by decide, by decide⟩
              have kb_0 : bd 0 0 (0 : Int32) := ⟨by decide, by decide⟩
              have go_ := g
              refine g_callv (va_runV (As := [.int 13, .int 0]) (rest := []) ⟨hx, hb, hml, hown, hts⟩ (r_X7_emitN l dC dI L kd tys f H.size g.2.2.2.1 q2_ mq2_ kq2_ a_537 ma_537 ka_537 a_538 ma_538 ka_538 x_539 bx_539 T_ hG_528 (13 : Int32) (0 : Int32) (fun j9 => jOK f q2_ j9) hG_527 (fun _ h9 => h9) ⟨(fun h9 => ⟨(by have h9_0 := b_460; unfold bd at h9_0; have h9_1 := bx_375; unfold bd at h9_1; have h9_2 := b_373; unfold bd at h9_2; have h9_3 := h_463; unfold bd at h9_3; have h9_4 := h_487; unfold bd at h9_4; have h9_5 := b_372; unfold bd at h9_5; have h9_6 := bx_508; unfold bd at h9_6; have h9_7 := b_512; unfold bd at h9_7; have h9_8 := bx_539; unfold bd at h9_8; have h9_9 := by0_; unfold bd at h9_9; have h9_10 := by1_; unfold bd at h9_10; have h9_11 := b_2; unfold bd at h9_11; have h9_12 := b_497; unfold bd at h9_12; have h9_13 := b_536; unfold bd at h9_13; have h8_0 := kb_0; unfold bd at h8_0; have h8_1 := kb_1; unfold bd at h8_1; have h8_2 := kb_12; unfold bd at h8_2; have h8_3 := kb_13; unfold bd at h8_3; have h8_4 := kb_2; unfold bd at h8_4; have h8_5 := kb_41; unfold bd at h8_5; have h8_6 := kb_44; unfold bd at h8_6; omega), (by have h9_0 := b_460; unfold bd at h9_0; have h9_1 := bx_375; unfold bd at h9_1; have h9_2 := b_373; unfold bd at h9_2; have h9_3 := h_463; unfold bd at h9_3; have h9_4 := h_487; unfold bd at h9_4; have h9_5 := b_372; unfold bd at h9_5; have h9_6 := bx_508; unfold bd at h9_6; have h9_7 := b_512; unfold bd at h9_7; have h9_8 := bx_539; unfold bd at h9_8; have h9_9 := by0_; unfold bd at h9_9; have h9_10 := by1_; unfold bd at h9_10; have h9_11 := b_2; unfold bd at h9_11; have h9_12 := b_497; unfold bd at h9_12; have h9_13 := b_536; unfold bd at h9_13; have h8_0 := kb_0; unfold bd at h8_0; have h8_1 := kb_1; unfold bd at h8_1; have h8_2 := kb_12; unfold bd at h8_2; have h8_3 := kb_13; unfold bd at h8_3; have h8_4 := kb_2; unfold bd at h8_4; have h8_5 := kb_41; unfold bd at h8_5; have h8_6 := kb_44; unfold bd at h8_6; omega)⟩), (fun h9 => ⟨(by have h9_0 := b_460; unfold bd at h9_0; have h9_1 := bx_375; unfold bd at h9_1; have h9_2 := b_373; unfold bd at h9_2; have h9_3 := h_463; unfold bd at h9_3; have h9_4 := h_487; unfold bd at h9_4; have h9_5 := b_372; unfold bd at h9_5; have h9_6 := bx_508; unfold bd at h9_6; have h9_7 := b_512; unfold bd at h9_7; have h9_8 := bx_539; unfold bd at h9_8; have h9_9 := by0_; unfold bd at h9_9; have h9_10 := by1_; unfold bd at h9_10; have h9_11 := b_2; unfold bd at h9_11; have h9_12 := b_497; unfold bd at h9_12; have h9_13 := b_536; unfold bd at h9_13; have h8_0 := kb_0; unfold bd at h8_0; have h8_1 := kb_1; unfold bd at h8_1; have h8_2 := kb_12; unfold bd at h8_2; have h8_3 := kb_13; unfold bd at h8_3; have h8_4 := kb_2; unfold bd at h8_4; have h8_5 := kb_41; unfold bd at h8_5; have h8_6 := kb_44; unfold bd at h8_6; omega), (by have h9_0 := b_460; unfold bd at h9_0; have h9_1 := bx_375; unfold bd at h9_1; have h9_2 := b_373; unfold bd at h9_2; have h9_3 := h_463; unfold bd at h9_3; have h9_4 := h_487; unfold bd at h9_4; have h9_5 := b_372; unfold bd at h9_5; have h9_6 := bx_508; unfold bd at h9_6; have h9_7 := b_512; unfold bd at h9_7; have h9_8 := bx_539; unfold bd at h9_8; have h9_9 := by0_; unfold bd at h9_9; have h9_10 := by1_; unfold bd at h9_10; have h9_11 := b_2; unfold bd at h9_11; have h9_12 := b_497; unfold bd at h9_12; have h9_13 := b_536; unfold bd at h9_13; have h8_0 := kb_0; unfold bd at h8_0; have h8_1 := kb_1; unfold bd at h8_1; have h8_2 := kb_12; unfold bd at h8_2; have h8_3 := kb_13; unfold bd at h8_3; have h8_4 := kb_2; unfold bd at h8_4; have h8_5 := kb_41; unfold bd at h8_5; have h8_6 := kb_44; unfold bd at h8_6; omega)⟩), (fun h9 => ⟨(by have h9_0 := b_460; unfold bd at h9_0; have h9_1 := bx_375; unfold bd at h9_1; have h9_2 := b_373; unfold bd at h9_2; have h9_3 := h_463; unfold bd at h9_3; have h9_4 := h_487; unfold bd at h9_4; have h9_5 := b_372; unfold bd at h9_5; have h9_6 := bx_508; unfold bd at h9_6; have h9_7 := b_512; unfold bd at h9_7; have h9_8 := bx_539; unfold bd at h9_8; have h9_9 := by0_; unfold bd at h9_9; have h9_10 := by1_; unfold bd at h9_10; have h9_11 := b_2; unfold bd at h9_11; have h9_12 := b_497; unfold bd at h9_12; have h9_13 := b_536; unfold bd at h9_13; have h8_0 := kb_0; unfold bd at h8_0; have h8_1 := kb_1; unfold bd at h8_1; have h8_2 := kb_12; unfold bd at h8_2; have h8_3 := kb_13; unfold bd at h8_3; have h8_4 := kb_2; unfold bd at h8_4; have h8_5 := kb_41; unfold bd at h8_5; have h8_6 := kb_44; unfold bd at h8_6; omega), (by have h9_0 := b_460; unfold bd at h9_0; have h9_1 := bx_375; unfold bd at h9_1; have h9_2 := b_373; unfold bd at h9_2; have h9_3 := h_463; unfold bd at h9_3; have h9_4 := h_487; unfold bd at h9_4; have h9_5 := b_372; unfold bd at h9_5; have h9_6 := bx_508; unfold bd at h9_6; have h9_7 := b_512; unfold bd at h9_7; have h9_8 := bx_539; unfold bd at h9_8; have h9_9 := by0_; unfold bd at h9_9; have h9_10 := by1_; unfold bd at h9_10; have h9_11 := b_2; unfold bd at h9_11; have h9_12 := b_497; unfold bd at h9_12; have h9_13 := b_536; unfold bd at h9_13; have h8_0 := kb_0; unfold bd at h8_0; have h8_1 := kb_1; unfold bd at h8_1; have h8_2 := kb_12; unfold bd at h8_2; have h8_3 := kb_13; unfold bd at h8_3; have h8_4 := kb_2; unfold bd at h8_4; have h8_5 := kb_41; unfold bd at h8_5; have h8_6 := kb_44; unfold bd at h8_6; omega)⟩)⟩ (g.fcts [2, 1, 0] rfl)) (cwV 2 hts (gV_ t_1203 t_1204 t_1205 t_191 t_1206) rfl rfl rfl (by decide +kernel) ⟨(Nat.le_of_ble_eq_true rfl), (Nat.le_of_ble_eq_true rfl)⟩) (pre3V g hK mq2_ kq2_ (by decide) (q := (RX7, TX7, 19)) rfl) rfl rfl hl.1 rfl (lv_room (Nat.le_of_ble_eq_true rfl)) dX0_closeArgument_236 ⟨(Nat.le_of_ble_eq_true rfl), (Nat.le_of_ble_eq_true rfl)⟩) g hK (by decide) (by decide) (fx' := [(7, 5, q2_, .ref a_538), (7, 4, q2_, .ref a_537), (0, 11, a0_, .int y_524), (0, 8, a0_, .int y_1), (6, 3, a_507, .int x_508), (7, 2, q2_, .ref a_506), (0, 10, a0_, .int x_486), (0, 7, a0_, .ref a_483), (0, 6, a0_, .ref a_472), (8, 6, q0_, .int x_462), (9, 9, q4_, .ref a_374), (0, 5, a0_, .ref a_3), (0, 0, a0_, .ref q0_), (0, 1, a0_, .ref q1_), (0, 2, a0_, .ref q2_), (0, 3, a0_, .ref q3_), (5, 1, q1_, .ref q4_), (8, 8, q0_, .int y1_)]) rfl (fun fr_540 H locs hp hMr_540 g => ?_)
              obtain ⟨hG_541, hG_542, hG_543, hx_544, x_545, h_546, hF_547⟩ := hp
              have hG_548 := eOK.frame hMr_540 go_.2.2.2.1 ma0_ ka0_ (by decide) (by decide) hG_526
              have hG_549 := vP.frame hMr_540 go_.2.2.2.1 ma_3 ka_3 (by decide) (by decide) hG_530
              have g := g.more hF_547
              have hs_550 := jS.mv hG_529 hG_543
              have hq_551 := kQj.mv hG_531 hG_543
              have hG_552 := eJx.mv hG_532 hMr_540 go_.2.2.2.1 ma0_ ka0_ (by decide) (by decide) (((hMr_540 a0_ ma0_).1 2 (by rw [ka0_]; decide) (by rw [ka0_]; decide)).symm.trans (fx_at g (i := 15) rfl).2.2.2) hG_543
              refine lv_aload_n hx hb dX0_closeArgument_239 rfl (lv_at hl 5 rfl) ?_
              refine g_getk (C := RX0) (T := TX0) (N := 14) hx hb hts (mc_ inX0) hown hK g rfl 2 (by decide) rfl (hts _ (List.mem_cons_of_mem _ t_375)) (fun _ h9 => h9) 15 rfl dX0_closeArgument_240 ?_
              refine lv_aload_n hx hb dX0_closeArgument_243 rfl (lv_at hl 5 rfl) ?_
              refine g_getk (C := RX0) (T := TX0) (N := 14) hx hb hts (mc_ inX0) hown hK g rfl 3 (by decide) rfl (hts _ (List.mem_cons_of_mem _ t_376)) (fun _ h9 => h9) 16 rfl dX0_closeArgument_244 ?_
              refine lv_iload_n hx hb dX0_closeArgument_247 rfl (lv_at hl 4 rfl) ?_
              refine g_iald hx hb hK g mq3_ kq3_ (by decide) rfl (in_bd b_2 (by decide)) dX0_closeArgument_248 (fun x_553 bx_553 cx_553 => ?_)
              obtain rfl : x_5 = x_553 := el_same cx_5 cx_553 ((arr_eq hMr_540 mq3_ kq3_ (by decide) rfl).trans ((arr_eq hM_525 mq3_ kq3_ (by decide) rfl).trans ((arr_eq hM_514 mq3_ kq3_ (by decide) rfl).trans ((arr_eq hM_498 mq3_ kq3_ (by decide) rfl).trans ((arr_eq hMr_485 mq3_ kq3_ (by decide) rfl).trans ((arr_eq hM_475 mq3_ kq3_ (by decide) rfl).trans ((arr_eq hMr_461 mq3_ kq3_ (by decide) rfl).trans (arr_eq hMr_376 mq3_ kq3_ (by decide) rfl))))))))
              refine lv_iconst (v := 2) hx hb dX0_closeArgument_249 (by decide) ?_
              refine lv_icmp_ne (tgt := 258) hx hb dX0_closeArgument_250 (by decide) (fun c_554 => ?_) (fun c_554 => ?_)
              · have fc_554 := neq_f c_554
                have b_555 : bd 3 1 x_5 := neX fc_554 b_372 kb_2 (by decide)
                exact bd_no b_555 (by decide)
              · have fc_554 := eq_f c_554
                refine lv_bipush (v := 17) hx hb dX0_closeArgument_253 (by decide) ?_
                refine lv_goto (tgt := 260) hx hb dX0_closeArgument_255 (by decide) ?_
                refine lv_iload_n hx hb dX0_closeArgument_260 rfl (lv_at hl 3 rfl) ?_
                have kb_17 : bd 17 17 (17 : Int32) := ⟨by decide, by decide⟩
                have go_ := g
                refine g_callv (va_runV (As := [.int 17, .int x_4]) (rest := []) ⟨hx, hb, hml, hown, hts⟩ (r_X7_emitN l dC dI L kd tys fr_540 H.size g.2.2.2.1 q2_ mq2_ kq2_ a_537 ma_537 ka_537 a_538 ma_538 ka_538 x_545 h_546 T_ hG_541 (17 : Int32) x_4 (fun j9 => jOK fr_540 q2_ j9) hG_542 (fun _ h9 => h9) ⟨(fun h9 => ⟨(by have h9_0 := b_460; unfold bd at h9_0; have h9_1 := bx_375; unfold bd at h9_1; have h9_2 := b_373; unfold bd at h9_2; have h9_3 := h_463; unfold bd at h9_3; have h9_4 := h_487; unfold bd at h9_4; have h9_5 := b_372; unfold bd at h9_5; have h9_6 := bx_508; unfold bd at h9_6; have h9_7 := b_512; unfold bd at h9_7; have h9_8 := bx_539; unfold bd at h9_8; have h9_9 := h_546; unfold bd at h9_9; have h9_10 := by0_; unfold bd at h9_10; have h9_11 := by1_; unfold bd at h9_11; have h9_12 := b_2; unfold bd at h9_12; have h9_13 := b_497; unfold bd at h9_13; have h9_14 := b_536; unfold bd at h9_14; have h8_0 := kb_0; unfold bd at h8_0; have h8_1 := kb_1; unfold bd at h8_1; have h8_2 := kb_12; unfold bd at h8_2; have h8_3 := kb_13; unfold bd at h8_3; have h8_4 := kb_17; unfold bd at h8_4; have h8_5 := kb_2; unfold bd at h8_5; have h8_6 := kb_41; unfold bd at h8_6; have h8_7 := kb_44; unfold bd at h8_7; omega), (by have h9_0 := b_460; unfold bd at h9_0; have h9_1 := bx_375; unfold bd at h9_1; have h9_2 := b_373; unfold bd at h9_2; have h9_3 := h_463; unfold bd at h9_3; have h9_4 := h_487; unfold bd at h9_4; have h9_5 := b_372; unfold bd at h9_5; have h9_6 := bx_508; unfold bd at h9_6; have h9_7 := b_512; unfold bd at h9_7; have h9_8 := bx_539; unfold bd at h9_8; have h9_9 := h_546; unfold bd at h9_9; have h9_10 := by0_; unfold bd at h9_10; have h9_11 := by1_; unfold bd at h9_11; have h9_12 := b_2; unfold bd at h9_12; have h9_13 := b_497; unfold bd at h9_13; have h9_14 := b_536; unfold bd at h9_14; have h8_0 := kb_0; unfold bd at h8_0; have h8_1 := kb_1; unfold bd at h8_1; have h8_2 := kb_12; unfold bd at h8_2; have h8_3 := kb_13; unfold bd at h8_3; have h8_4 := kb_17; unfold bd at h8_4; have h8_5 := kb_2; unfold bd at h8_5; have h8_6 := kb_41; unfold bd at h8_6; have h8_7 := kb_44; unfold bd at h8_7; omega)⟩), (fun h9 => ⟨(by have h9_0 := b_460; unfold bd at h9_0; have h9_1 := bx_375; unfold bd at h9_1; have h9_2 := b_373; unfold bd at h9_2; have h9_3 := h_463; unfold bd at h9_3; have h9_4 := h_487; unfold bd at h9_4; have h9_5 := b_372; unfold bd at h9_5; have h9_6 := bx_508; unfold bd at h9_6; have h9_7 := b_512; unfold bd at h9_7; have h9_8 := bx_539; unfold bd at h9_8; have h9_9 := h_546; unfold bd at h9_9; have h9_10 := by0_; unfold bd at h9_10; have h9_11 := by1_; unfold bd at h9_11; have h9_12 := b_2; unfold bd at h9_12; have h9_13 := b_497; unfold bd at h9_13; have h9_14 := b_536; unfold bd at h9_14; have h8_0 := kb_0; unfold bd at h8_0; have h8_1 := kb_1; unfold bd at h8_1; have h8_2 := kb_12; unfold bd at h8_2; have h8_3 := kb_13; unfold bd at h8_3; have h8_4 := kb_17; unfold bd at h8_4; have h8_5 := kb_2; unfold bd at h8_5; have h8_6 := kb_41; unfold bd at h8_6; have h8_7 := kb_44; unfold bd at h8_7; omega), (by have h9_0 := b_460; unfold bd at h9_0; have h9_1 := bx_375; unfold bd at h9_1; have h9_2 := b_373; unfold bd at h9_2; have h9_3 := h_463; unfold bd at h9_3; have h9_4 := h_487; unfold bd at h9_4; have h9_5 := b_372; unfold bd at h9_5; have h9_6 := bx_508; unfold bd at h9_6; have h9_7 := b_512; unfold bd at h9_7; have h9_8 := bx_539; unfold bd at h9_8; have h9_9 := h_546; unfold bd at h9_9; have h9_10 := by0_; unfold bd at h9_10; have h9_11 := by1_; unfold bd at h9_11; have h9_12 := b_2; unfold bd at h9_12; have h9_13 := b_497; unfold bd at h9_13; have h9_14 := b_536; unfold bd at h9_14; have h8_0 := kb_0; unfold bd at h8_0; have h8_1 := kb_1; unfold bd at h8_1; have h8_2 := kb_12; unfold bd at h8_2; have h8_3 := kb_13; unfold bd at h8_3; have h8_4 := kb_17; unfold bd at h8_4; have h8_5 := kb_2; unfold bd at h8_5; have h8_6 := kb_41; unfold bd at h8_6; have h8_7 := kb_44; unfold bd at h8_7; omega)⟩), (fun h9 => ⟨(by have h9_0 := b_460; unfold bd at h9_0; have h9_1 := bx_375; unfold bd at h9_1; have h9_2 := b_373; unfold bd at h9_2; have h9_3 := h_463; unfold bd at h9_3; have h9_4 := h_487; unfold bd at h9_4; have h9_5 := b_372; unfold bd at h9_5; have h9_6 := bx_508; unfold bd at h9_6; have h9_7 := b_512; unfold bd at h9_7; have h9_8 := bx_539; unfold bd at h9_8; have h9_9 := h_546; unfold bd at h9_9; have h9_10 := by0_; unfold bd at h9_10; have h9_11 := by1_; unfold bd at h9_11; have h9_12 := b_2; unfold bd at h9_12; have h9_13 := b_497; unfold bd at h9_13; have h9_14 := b_536; unfold bd at h9_14; have h8_0 := kb_0; unfold bd at h8_0; have h8_1 := kb_1; unfold bd at h8_1; have h8_2 := kb_12; unfold bd at h8_2; have h8_3 := kb_13; unfold bd at h8_3; have h8_4 := kb_17; unfold bd at h8_4; have h8_5 := kb_2; unfold bd at h8_5; have h8_6 := kb_41; unfold bd at h8_6; have h8_7 := kb_44; unfold bd at h8_7; omega), (by have h9_0 := b_460; unfold bd at h9_0; have h9_1 := bx_375; unfold bd at h9_1; have h9_2 := b_373; unfold bd at h9_2; have h9_3 := h_463; unfold bd at h9_3; have h9_4 := h_487; unfold bd at h9_4; have h9_5 := b_372; unfold bd at h9_5; have h9_6 := bx_508; unfold bd at h9_6; have h9_7 := b_512; unfold bd at h9_7; have h9_8 := bx_539; unfold bd at h9_8; have h9_9 := h_546; unfold bd at h9_9; have h9_10 := by0_; unfold bd at h9_10; have h9_11 := by1_; unfold bd at h9_11; have h9_12 := b_2; unfold bd at h9_12; have h9_13 := b_497; unfold bd at h9_13; have h9_14 := b_536; unfold bd at h9_14; have h8_0 := kb_0; unfold bd at h8_0; have h8_1 := kb_1; unfold bd at h8_1; have h8_2 := kb_12; unfold bd at h8_2; have h8_3 := kb_13; unfold bd at h8_3; have h8_4 := kb_17; unfold bd at h8_4; have h8_5 := kb_2; unfold bd at h8_5; have h8_6 := kb_41; unfold bd at h8_6; have h8_7 := kb_44; unfold bd at h8_7; omega)⟩)⟩ (g.fcts [2, 1, 0] rfl)) (cwV 2 hts (gV_ t_1203 t_1204 t_1205 t_191 t_1206) rfl rfl rfl (by decide +kernel) ⟨(Nat.le_of_ble_eq_true rfl), (Nat.le_of_ble_eq_true rfl)⟩) (pre3V g hK mq2_ kq2_ (by decide) (q := (RX7, TX7, 19)) rfl) rfl rfl hl.1 rfl (lv_room (Nat.le_of_ble_eq_true rfl)) dX0_closeArgument_261 ⟨(Nat.le_of_ble_eq_true rfl), (Nat.le_of_ble_eq_true rfl)⟩) g hK (by decide) (by decide) (fx' := [(7, 5, q2_, .ref a_538), (7, 4, q2_, .ref a_537), (0, 11, a0_, .int y_524), (0, 8, a0_, .int y_1), (6, 3, a_507, .int x_508), (7, 2, q2_, .ref a_506), (0, 10, a0_, .int x_486), (0, 7, a0_, .ref a_483), (0, 6, a0_, .ref a_472), (8, 6, q0_, .int x_462), (9, 9, q4_, .ref a_374), (0, 5, a0_, .ref a_3), (0, 0, a0_, .ref q0_), (0, 1, a0_, .ref q1_), (0, 2, a0_, .ref q2_), (0, 3, a0_, .ref q3_), (5, 1, q1_, .ref q4_), (8, 8, q0_, .int y1_)]) rfl (fun fr_556 H locs hp hMr_556 g => ?_)
                obtain ⟨hG_557, hG_558, hG_559, hx_560, x_561, h_562, hF_563⟩ := hp
                have hG_564 := eOK.frame hMr_556 go_.2.2.2.1 ma0_ ka0_ (by decide) (by decide) hG_548
                have hG_565 := vP.frame hMr_556 go_.2.2.2.1 ma_3 ka_3 (by decide) (by decide) hG_549
                have g := g.more hF_563
                have hs_566 := jS.mv hs_550 hG_559
                have hq_567 := kQj.mv hq_551 hG_559
                have hG_568 := eJx.mv hG_552 hMr_556 go_.2.2.2.1 ma0_ ka0_ (by decide) (by decide) (((hMr_556 a0_ ma0_).1 2 (by rw [ka0_]; decide) (by rw [ka0_]; decide)).symm.trans (fx_at g (i := 15) rfl).2.2.2) hG_559
                refine lv_aload_n hx hb dX0_closeArgument_264 rfl (lv_at hl 5 rfl) ?_
                refine lv_aload_n hx hb dX0_closeArgument_265 rfl (lv_at hl 5 rfl) ?_
                refine g_getk (C := RX0) (T := TX0) (N := 14) hx hb hts (mc_ inX0) hown hK g rfl 7 (by decide) rfl (hts _ (List.mem_cons_of_mem _ t_380)) (fun _ h9 => h9) 8 rfl dX0_closeArgument_266 ?_
                refine lv_iload_n hx hb dX0_closeArgument_269 rfl (lv_at hl 4 rfl) ?_
                refine g_iald hx hb hK g ma_483 ka_483 (by decide) rfl (in_bd b_2 (by decide)) dX0_closeArgument_270 (fun x_569 bx_569 cx_569 => ?_)
                obtain rfl : x_533 = x_569 := el_same cx_533 cx_569 ((arr_eq hMr_556 ma_483 ka_483 (by decide) rfl).trans (arr_eq hMr_540 ma_483 ka_483 (by decide) rfl))
                refine lv_iconst (v := 1) hx hb dX0_closeArgument_271 (by decide) ?_
                refine lv_iadd hx hb dX0_closeArgument_272 ?_
                refine lv_topi (fun y_570 ey_570 => ?_)
                obtain rfl : y_534 = y_570 := ey_534.trans ey_570.symm
                have go_ := g
                refine g_callv (va_runV (As := [.int y_534]) (rest := []) ⟨hx, hb, hml, hown, hts⟩ (r_X0_addWhole l dC dI L kd tys fr_556 H.size g.2.2.2.1 a0_ ma0_ ka0_ y_534) (cwV 1 hts (gV_ t_1211 t_1213 t_17 t_190 t_1214) rfl rfl rfl (by decide +kernel) ⟨(Nat.le_of_ble_eq_true rfl), (Nat.le_of_ble_eq_true rfl)⟩) (pre3V g hK ma0_ ka0_ (by decide) (q := (RX0, TX0, 14)) rfl) rfl rfl hl.1 rfl (lv_room (Nat.le_of_ble_eq_true rfl)) dX0_closeArgument_273 ⟨(Nat.le_of_ble_eq_true rfl), (Nat.le_of_ble_eq_true rfl)⟩) g hK (by decide) (by decide) (fx' := [(7, 6, q2_, .int x_561), (7, 5, q2_, .ref a_538), (7, 4, q2_, .ref a_537), (0, 11, a0_, .int y_524), (0, 8, a0_, .int y_1), (6, 3, a_507, .int x_508), (7, 2, q2_, .ref a_506), (0, 7, a0_, .ref a_483), (0, 6, a0_, .ref a_472), (8, 6, q0_, .int x_462), (9, 9, q4_, .ref a_374), (0, 5, a0_, .ref a_3), (0, 0, a0_, .ref q0_), (0, 1, a0_, .ref q1_), (0, 2, a0_, .ref q2_), (0, 3, a0_, .ref q3_), (5, 1, q1_, .ref q4_), (8, 8, q0_, .int y1_)]) rfl (fun fr_571 H locs hp hMr_571 g => ?_)
                obtain ⟨x_572, h_573, hF_574⟩ := hp
                have hG_575 := eOK.frame hMr_571 go_.2.2.2.1 ma0_ ka0_ (by decide) (by decide) hG_564
                have hG_576 := cOK.frame hMr_571 go_.2.2.2.1 mq2_ kq2_ (by decide) (by decide) hG_558
                have hG_577 := dOK.frame hMr_571 go_.2.2.2.1 mq2_ kq2_ (by decide) (by decide) hG_557
                have hG_578 := jS.frame hMr_571 go_.2.2.2.1 mq2_ kq2_ (by decide) (by decide) hs_566
                have hG_579 := vP.frame hMr_571 go_.2.2.2.1 ma_3 ka_3 (by decide) (by decide) hG_565
                have hG_580 := kQj.frame hMr_571 go_.2.2.2.1 mq2_ kq2_ (by decide) (by decide) hq_567
                have hG_581 := eJx.frame hMr_571 go_.2.2.2.1 ma0_ ka0_ (by decide) (by decide) hG_568
                have g := g.more hF_574
                subst hQ
                exact W.vret hx hb hr (fun t ht hW => ⟨⟨_, rfl, Or.inl ⟨hG_581, hG_576, hG_577, hG_578, (bd_sub b_460 (by decide)), x_462, h_463, (g.fcts [11, 19] rfl)⟩, q3_of g hK ht hW⟩, g.2.2.1.F ht⟩) g.2.2.1.2.2 dX0_closeArgument_276
            · have fc_535 := nle_f c_535
              have b_582 : bd 13 2147483647 y_534 := ltR fc_535 kb_12 (bdT y_534) (by decide)
              refine lv_aload_n hx hb dX0_closeArgument_214 rfl (lv_at hl 5 rfl) ?_
              refine g_getk (C := RX0) (T := TX0) (N := 14) hx hb hts (mc_ inX0) hown hK g rfl 0 (by decide) rfl (hts _ (List.mem_cons_of_mem _ t_373)) (fun _ h9 => h9) 10 rfl dX0_closeArgument_215 ?_
              refine lv_bipush (v := 7) hx hb dX0_closeArgument_218 (by decide) ?_
              refine lv_aload_n hx hb dX0_closeArgument_220 rfl (lv_at hl 5 rfl) ?_
              refine g_getr (K := 111) (C := RX0) (T := TX0) (N := 14) hx hb hts (mc_ inX0) hown hK g ma0_ ka0_ (by decide) rfl 4 (by decide) rfl (hts _ (List.mem_cons_of_mem _ t_377)) (fun _ h9 => h9) rfl dX0_closeArgument_221 (fun a_583 ma_583 ka_583 g => ?_)
              refine lv_iload_n hx hb dX0_closeArgument_224 rfl (lv_at hl 4 rfl) ?_
              refine g_iald hx hb hK g ma_583 ka_583 (by decide) rfl (in_bd b_2 (by decide)) dX0_closeArgument_225 (fun x_584 bx_584 cx_584 => ?_)
              have kb_7 : bd 7 7 (7 : Int32) := ⟨by decide, by decide⟩
              have go_ := g
              refine g_callv (va_runV (As := [.int 7, .int x_584]) (rest := []) ⟨hx, hb, hml, hown, hts⟩ (r_X8_fail l dC dI L kd tys f H.size g.2.2.2.1 q0_ mq0_ kq0_ 7 (bd_sub kb_7 (by decide)) x_584 y1_ by1_ (g.fcts [16] rfl)) (cwV 2 hts (gV_ t_1215 t_1107 t_1108 t_184 t_1109) rfl rfl rfl (by decide +kernel) ⟨(Nat.le_of_ble_eq_true rfl), (Nat.le_of_ble_eq_true rfl)⟩) (pre3V g hK mq0_ kq0_ (by decide) (q := (RX8, TX8, 10)) rfl) rfl rfl hl.1 rfl (lv_room (Nat.le_of_ble_eq_true rfl)) dX0_closeArgument_226 ⟨(Nat.le_of_ble_eq_true rfl), (Nat.le_of_ble_eq_true rfl)⟩) g hK (by decide) (by decide) (fx' := [(0, 4, a0_, .ref a_583), (0, 11, a0_, .int y_524), (0, 8, a0_, .int y_1), (6, 3, a_507, .int x_508), (7, 2, q2_, .ref a_506), (0, 10, a0_, .int x_486), (0, 7, a0_, .ref a_483), (0, 6, a0_, .ref a_472), (9, 9, q4_, .ref a_374), (0, 5, a0_, .ref a_3), (0, 0, a0_, .ref q0_), (0, 1, a0_, .ref q1_), (0, 2, a0_, .ref q2_), (0, 3, a0_, .ref q3_), (5, 1, q1_, .ref q4_)]) rfl (fun fr_585 H locs hp hMr_585 g => ?_)
              obtain ⟨x_586, h_587, hF_588⟩ := hp
              have hG_589 := eOK.frame hMr_585 go_.2.2.2.1 ma0_ ka0_ (by decide) (by decide) hG_526
              have hG_590 := cOK.frame hMr_585 go_.2.2.2.1 mq2_ kq2_ (by decide) (by decide) hG_527
              have hG_591 := dOK.frame hMr_585 go_.2.2.2.1 mq2_ kq2_ (by decide) (by decide) hG_528
              have hG_592 := jS.frame hMr_585 go_.2.2.2.1 mq2_ kq2_ (by decide) (by decide) hG_529
              have hG_593 := vP.frame hMr_585 go_.2.2.2.1 ma_3 ka_3 (by decide) (by decide) hG_530
              have hG_594 := kQj.frame hMr_585 go_.2.2.2.1 mq2_ kq2_ (by decide) (by decide) hG_531
              have hG_595 := eJx.frame hMr_585 go_.2.2.2.1 ma0_ ka0_ (by decide) (by decide) hG_532
              have g := g.more hF_588
              refine lv_aload_n hx hb dX0_closeArgument_229 rfl (lv_at hl 5 rfl) ?_
              refine g_getk (C := RX0) (T := TX0) (N := 14) hx hb hts (mc_ inX0) hown hK g rfl 2 (by decide) rfl (hts _ (List.mem_cons_of_mem _ t_375)) (fun _ h9 => h9) 14 rfl dX0_closeArgument_230 ?_
              refine lv_bipush (v := 13) hx hb dX0_closeArgument_233 (by decide) ?_
              refine lv_iconst (v := 0) hx hb dX0_closeArgument_235 (by decide) ?_
              obtain ⟨a_596, ma_596, ka_596, g⟩ := g_factr g mq2_ kq2_ (by decide) 4 rfl
              obtain ⟨a_597, ma_597, ka_597, g⟩ := g_factr g mq2_ kq2_ (by decide) 5 rfl
              obtain ⟨x_598, bx_598, g⟩ := g_facti g mq2_ kq2_ (by decide) 6 rfl
              have go_ := g
              refine g_callv (va_runV (As := [.int 13, .int 0]) (rest := []) ⟨hx, hb, hml, hown, hts⟩ (r_X7_emitF l dC dI L kd tys fr_585 H.size g.2.2.2.1 q2_ mq2_ kq2_ a_596 ma_596 ka_596 a_597 ma_597 ka_597 x_598 bx_598 T_ hG_591 (13 : Int32) (0 : Int32) (g.fcts [2, 1, 0] rfl)) (cwV 2 hts (gV_ t_1203 t_1204 t_1205 t_191 t_1206) rfl rfl rfl (by decide +kernel) ⟨(Nat.le_of_ble_eq_true rfl), (Nat.le_of_ble_eq_true rfl)⟩) (pre3V g hK mq2_ kq2_ (by decide) (q := (RX7, TX7, 19)) rfl) rfl rfl hl.1 rfl (lv_room (Nat.le_of_ble_eq_true rfl)) dX0_closeArgument_236 ⟨(Nat.le_of_ble_eq_true rfl), (Nat.le_of_ble_eq_true rfl)⟩) g hK (by decide) (by decide) (fx' := [(7, 5, q2_, .ref a_597), (7, 4, q2_, .ref a_596), (8, 6, q0_, .int 1201), (8, 8, q0_, .int x_586), (0, 4, a0_, .ref a_583), (0, 11, a0_, .int y_524), (0, 8, a0_, .int y_1), (6, 3, a_507, .int x_508), (7, 2, q2_, .ref a_506), (0, 10, a0_, .int x_486), (0, 7, a0_, .ref a_483), (0, 6, a0_, .ref a_472), (9, 9, q4_, .ref a_374), (0, 5, a0_, .ref a_3), (0, 0, a0_, .ref q0_), (0, 1, a0_, .ref q1_), (0, 2, a0_, .ref q2_), (0, 3, a0_, .ref q3_), (5, 1, q1_, .ref q4_)]) rfl (fun fr_599 H locs hp hMr_599 g => ?_)
              obtain ⟨hG_600, x_601, h_602, hF_603⟩ := hp
              have hG_604 := eOK.frame hMr_599 go_.2.2.2.1 ma0_ ka0_ (by decide) (by decide) hG_589
              have hG_605 := vP.frame hMr_599 go_.2.2.2.1 ma_3 ka_3 (by decide) (by decide) hG_593
              have g := g.more hF_603
              refine lv_aload_n hx hb dX0_closeArgument_239 rfl (lv_at hl 5 rfl) ?_
              refine g_getk (C := RX0) (T := TX0) (N := 14) hx hb hts (mc_ inX0) hown hK g rfl 2 (by decide) rfl (hts _ (List.mem_cons_of_mem _ t_375)) (fun _ h9 => h9) 17 rfl dX0_closeArgument_240 ?_
              refine lv_aload_n hx hb dX0_closeArgument_243 rfl (lv_at hl 5 rfl) ?_
              refine g_getk (C := RX0) (T := TX0) (N := 14) hx hb hts (mc_ inX0) hown hK g rfl 3 (by decide) rfl (hts _ (List.mem_cons_of_mem _ t_376)) (fun _ h9 => h9) 18 rfl dX0_closeArgument_244 ?_
              refine lv_iload_n hx hb dX0_closeArgument_247 rfl (lv_at hl 4 rfl) ?_
              refine g_iald hx hb hK g mq3_ kq3_ (by decide) rfl (in_bd b_2 (by decide)) dX0_closeArgument_248 (fun x_606 bx_606 cx_606 => ?_)
              obtain rfl : x_5 = x_606 := el_same cx_5 cx_606 ((arr_eq hMr_599 mq3_ kq3_ (by decide) rfl).trans ((arr_eq hMr_585 mq3_ kq3_ (by decide) rfl).trans ((arr_eq hM_525 mq3_ kq3_ (by decide) rfl).trans ((arr_eq hM_514 mq3_ kq3_ (by decide) rfl).trans ((arr_eq hM_498 mq3_ kq3_ (by decide) rfl).trans ((arr_eq hMr_485 mq3_ kq3_ (by decide) rfl).trans ((arr_eq hM_475 mq3_ kq3_ (by decide) rfl).trans ((arr_eq hMr_461 mq3_ kq3_ (by decide) rfl).trans (arr_eq hMr_376 mq3_ kq3_ (by decide) rfl)))))))))
              refine lv_iconst (v := 2) hx hb dX0_closeArgument_249 (by decide) ?_
              refine lv_icmp_ne (tgt := 258) hx hb dX0_closeArgument_250 (by decide) (fun c_607 => ?_) (fun c_607 => ?_)
              · have fc_607 := neq_f c_607
                have b_608 : bd 3 1 x_5 := neX fc_607 b_372 kb_2 (by decide)
                exact bd_no b_608 (by decide)
              · have fc_607 := eq_f c_607
                refine lv_bipush (v := 17) hx hb dX0_closeArgument_253 (by decide) ?_
                refine lv_goto (tgt := 260) hx hb dX0_closeArgument_255 (by decide) ?_
                refine lv_iload_n hx hb dX0_closeArgument_260 rfl (lv_at hl 3 rfl) ?_
                have go_ := g
                refine g_callv (va_runV (As := [.int 17, .int x_4]) (rest := []) ⟨hx, hb, hml, hown, hts⟩ (r_X7_emitF l dC dI L kd tys fr_599 H.size g.2.2.2.1 q2_ mq2_ kq2_ a_596 ma_596 ka_596 a_597 ma_597 ka_597 x_601 h_602 T_ hG_600 (17 : Int32) x_4 (g.fcts [2, 1, 0] rfl)) (cwV 2 hts (gV_ t_1203 t_1204 t_1205 t_191 t_1206) rfl rfl rfl (by decide +kernel) ⟨(Nat.le_of_ble_eq_true rfl), (Nat.le_of_ble_eq_true rfl)⟩) (pre3V g hK mq2_ kq2_ (by decide) (q := (RX7, TX7, 19)) rfl) rfl rfl hl.1 rfl (lv_room (Nat.le_of_ble_eq_true rfl)) dX0_closeArgument_261 ⟨(Nat.le_of_ble_eq_true rfl), (Nat.le_of_ble_eq_true rfl)⟩) g hK (by decide) (by decide) (fx' := [(7, 5, q2_, .ref a_597), (7, 4, q2_, .ref a_596), (8, 6, q0_, .int 1201), (8, 8, q0_, .int x_586), (0, 4, a0_, .ref a_583), (0, 11, a0_, .int y_524), (0, 8, a0_, .int y_1), (6, 3, a_507, .int x_508), (7, 2, q2_, .ref a_506), (0, 10, a0_, .int x_486), (0, 7, a0_, .ref a_483), (0, 6, a0_, .ref a_472), (9, 9, q4_, .ref a_374), (0, 5, a0_, .ref a_3), (0, 0, a0_, .ref q0_), (0, 1, a0_, .ref q1_), (0, 2, a0_, .ref q2_), (0, 3, a0_, .ref q3_), (5, 1, q1_, .ref q4_)]) rfl (fun fr_609 H locs hp hMr_609 g => ?_)
                obtain ⟨hG_610, x_611, h_612, hF_613⟩ := hp
                have hG_614 := eOK.frame hMr_609 go_.2.2.2.1 ma0_ ka0_ (by decide) (by decide) hG_604
                have hG_615 := vP.frame hMr_609 go_.2.2.2.1 ma_3 ka_3 (by decide) (by decide) hG_605
                have g := g.more hF_613
                refine lv_aload_n hx hb dX0_closeArgument_264 rfl (lv_at hl 5 rfl) ?_
                refine lv_aload_n hx hb dX0_closeArgument_265 rfl (lv_at hl 5 rfl) ?_
                refine g_getk (C := RX0) (T := TX0) (N := 14) hx hb hts (mc_ inX0) hown hK g rfl 7 (by decide) rfl (hts _ (List.mem_cons_of_mem _ t_380)) (fun _ h9 => h9) 11 rfl dX0_closeArgument_266 ?_
                refine lv_iload_n hx hb dX0_closeArgument_269 rfl (lv_at hl 4 rfl) ?_
                refine g_iald hx hb hK g ma_483 ka_483 (by decide) rfl (in_bd b_2 (by decide)) dX0_closeArgument_270 (fun x_616 bx_616 cx_616 => ?_)
                obtain rfl : x_533 = x_616 := el_same cx_533 cx_616 ((arr_eq hMr_609 ma_483 ka_483 (by decide) rfl).trans ((arr_eq hMr_599 ma_483 ka_483 (by decide) rfl).trans (arr_eq hMr_585 ma_483 ka_483 (by decide) rfl)))
                refine lv_iconst (v := 1) hx hb dX0_closeArgument_271 (by decide) ?_
                refine lv_iadd hx hb dX0_closeArgument_272 ?_
                refine lv_topi (fun y_617 ey_617 => ?_)
                obtain rfl : y_534 = y_617 := ey_534.trans ey_617.symm
                have go_ := g
                refine g_callv (va_runV (As := [.int y_534]) (rest := []) ⟨hx, hb, hml, hown, hts⟩ (r_X0_addWhole l dC dI L kd tys fr_609 H.size g.2.2.2.1 a0_ ma0_ ka0_ y_534) (cwV 1 hts (gV_ t_1211 t_1213 t_17 t_190 t_1214) rfl rfl rfl (by decide +kernel) ⟨(Nat.le_of_ble_eq_true rfl), (Nat.le_of_ble_eq_true rfl)⟩) (pre3V g hK ma0_ ka0_ (by decide) (q := (RX0, TX0, 14)) rfl) rfl rfl hl.1 rfl (lv_room (Nat.le_of_ble_eq_true rfl)) dX0_closeArgument_273 ⟨(Nat.le_of_ble_eq_true rfl), (Nat.le_of_ble_eq_true rfl)⟩) g hK (by decide) (by decide) (fx' := [(7, 6, q2_, .int x_611), (7, 5, q2_, .ref a_597), (7, 4, q2_, .ref a_596), (8, 6, q0_, .int 1201), (8, 8, q0_, .int x_586), (0, 4, a0_, .ref a_583), (0, 11, a0_, .int y_524), (0, 8, a0_, .int y_1), (6, 3, a_507, .int x_508), (7, 2, q2_, .ref a_506), (0, 7, a0_, .ref a_483), (0, 6, a0_, .ref a_472), (9, 9, q4_, .ref a_374), (0, 5, a0_, .ref a_3), (0, 0, a0_, .ref q0_), (0, 1, a0_, .ref q1_), (0, 2, a0_, .ref q2_), (0, 3, a0_, .ref q3_), (5, 1, q1_, .ref q4_)]) rfl (fun fr_618 H locs hp hMr_618 g => ?_)
                obtain ⟨x_619, h_620, hF_621⟩ := hp
                have hG_622 := eOK.frame hMr_618 go_.2.2.2.1 ma0_ ka0_ (by decide) (by decide) hG_614
                have hG_623 := dOK.frame hMr_618 go_.2.2.2.1 mq2_ kq2_ (by decide) (by decide) hG_610
                have hG_624 := vP.frame hMr_618 go_.2.2.2.1 ma_3 ka_3 (by decide) (by decide) hG_615
                have g := g.more hF_621
                subst hQ
                exact W.vret hx hb hr (fun t ht hW => ⟨⟨_, rfl, Or.inr (⟨hG_623, x_586, h_587, (g.fcts [5, 6] rfl)⟩), q3_of g hK ht hW⟩, g.2.2.1.F ht⟩) g.2.2.1.2.2 dX0_closeArgument_276
          · have fc_511 := nle_f c_511
            have b_625 : bd (-2147483648) 2 x_510 := ltL fc_511 (bdT x_510) bx_508 (by decide)
            refine lv_aload_n hx hb dX0_closeArgument_170 rfl (lv_at hl 5 rfl) ?_
            refine g_getk (C := RX0) (T := TX0) (N := 14) hx hb hts (mc_ inX0) hown hK g rfl 0 (by decide) rfl (hts _ (List.mem_cons_of_mem _ t_373)) (fun _ h9 => h9) 8 rfl dX0_closeArgument_171 ?_
            refine lv_bipush (v := 6) hx hb dX0_closeArgument_174 (by decide) ?_
            refine lv_iload hx hb dX0_closeArgument_176 (lv_at hl 1 rfl) ?_
            have kb_6 : bd 6 6 (6 : Int32) := ⟨by decide, by decide⟩
            have go_ := g
            refine g_callv (va_runV (As := [.int 6, .int r_376]) (rest := []) ⟨hx, hb, hml, hown, hts⟩ (r_X8_fail l dC dI L kd tys f H.size g.2.2.2.1 q0_ mq0_ kq0_ 6 (bd_sub kb_6 (by decide)) r_376 y1_ by1_ (g.fcts [14] rfl)) (cwV 2 hts (gV_ t_1215 t_1107 t_1108 t_184 t_1109) rfl rfl rfl (by decide +kernel) ⟨(Nat.le_of_ble_eq_true rfl), (Nat.le_of_ble_eq_true rfl)⟩) (pre3V g hK mq0_ kq0_ (by decide) (q := (RX8, TX8, 10)) rfl) rfl rfl hl.1 rfl (lv_room (Nat.le_of_ble_eq_true rfl)) dX0_closeArgument_178 ⟨(Nat.le_of_ble_eq_true rfl), (Nat.le_of_ble_eq_true rfl)⟩) g hK (by decide) (by decide) (fx' := [(6, 3, a_507, .int x_508), (7, 2, q2_, .ref a_506), (0, 10, a0_, .int x_486), (0, 7, a0_, .ref a_483), (0, 6, a0_, .ref a_472), (9, 9, q4_, .ref a_374), (0, 5, a0_, .ref a_3), (0, 0, a0_, .ref q0_), (0, 1, a0_, .ref q1_), (0, 2, a0_, .ref q2_), (0, 3, a0_, .ref q3_), (5, 1, q1_, .ref q4_), (0, 8, a0_, .int y0_)]) rfl (fun fr_626 H locs hp hMr_626 g => ?_)
            obtain ⟨x_627, h_628, hF_629⟩ := hp
            have hG_630 := eOK.frame hMr_626 go_.2.2.2.1 ma0_ ka0_ (by decide) (by decide) hG_499
            have hG_631 := eJx.frame hMr_626 go_.2.2.2.1 ma0_ ka0_ (by decide) (by decide) hG_500
            have hG_632 := cOK.frame hMr_626 go_.2.2.2.1 mq2_ kq2_ (by decide) (by decide) hG_501
            have hG_633 := dOK.frame hMr_626 go_.2.2.2.1 mq2_ kq2_ (by decide) (by decide) hG_502
            have hG_634 := jS.frame hMr_626 go_.2.2.2.1 mq2_ kq2_ (by decide) (by decide) hG_503
            have hG_635 := vP.frame hMr_626 go_.2.2.2.1 ma_3 ka_3 (by decide) (by decide) hG_504
            have hG_636 := kQj.frame hMr_626 go_.2.2.2.1 mq2_ kq2_ (by decide) (by decide) hG_505
            have g := g.more hF_629
            refine lv_aload_n hx hb dX0_closeArgument_181 rfl (lv_at hl 5 rfl) ?_
            refine lv_dup hx hb dX0_closeArgument_182 rfl ?_
            refine g_getk (C := RX0) (T := TX0) (N := 14) hx hb hts (mc_ inX0) hown hK g rfl 8 (by decide) rfl (hts _ (List.mem_cons_of_mem _ t_381)) (fun _ h9 => h9) 14 rfl dX0_closeArgument_183 ?_
            refine lv_iconst (v := 1) hx hb dX0_closeArgument_186 (by decide) ?_
            refine lv_isub hx hb dX0_closeArgument_187 ?_
            refine lv_topi (fun y_637 ey_637 => ?_)
            obtain rfl : y_1 = y_637 := ey_1.trans ey_637.symm
            have go_ := g
            refine g_put (C := RX0) (T := TX0) (N := 14) hx hb hts (mc_ inX0) tyX0 tyX0_ok nmX0 hown hK g ma0_ ka0_ (by decide) rfl 8 (by decide) (hts _ (List.mem_cons_of_mem _ t_381)) (fun _ h9 => h9) rfl rfl (okV_i (bd_sub b_2 (by decide))) rfl rfl (by decide) (Or.inr (Or.inl (by decide))) (fx' := [(8, 6, q0_, .int 1201), (8, 8, q0_, .int x_627), (6, 3, a_507, .int x_508), (7, 2, q2_, .ref a_506), (0, 10, a0_, .int x_486), (0, 7, a0_, .ref a_483), (0, 6, a0_, .ref a_472), (9, 9, q4_, .ref a_374), (0, 5, a0_, .ref a_3), (0, 0, a0_, .ref q0_), (0, 1, a0_, .ref q1_), (0, 2, a0_, .ref q2_), (0, 3, a0_, .ref q3_), (5, 1, q1_, .ref q4_)]) rfl dX0_closeArgument_188 (fun f H locs hM_638 g => ?_)
            have hG_639 := eOK.frame hM_638 go_.2.2.2.1 ma0_ ka0_ (by decide) (by decide) hG_630
            have hG_640 := cOK.frame hM_638 go_.2.2.2.1 mq2_ kq2_ (by decide) (by decide) hG_632
            have hG_641 := dOK.frame hM_638 go_.2.2.2.1 mq2_ kq2_ (by decide) (by decide) hG_633
            have hG_642 := jS.frame hM_638 go_.2.2.2.1 mq2_ kq2_ (by decide) (by decide) hG_634
            have hG_643 := vP.frame hM_638 go_.2.2.2.1 ma_3 ka_3 (by decide) (by decide) hG_635
            have hG_644 := kQj.frame hM_638 go_.2.2.2.1 mq2_ kq2_ (by decide) (by decide) hG_636
            refine lv_aload_n hx hb dX0_closeArgument_191 rfl (lv_at hl 5 rfl) ?_
            refine lv_dup hx hb dX0_closeArgument_192 rfl ?_
            refine g_geti (C := RX0) (T := TX0) (N := 14) hx hb hts (mc_ inX0) hown hK g ma0_ ka0_ (by decide) rfl 11 (by decide) rfl (hts _ (List.mem_cons_of_mem _ t_384)) (fun _ h9 => h9) rfl dX0_closeArgument_193 (fun x_645 bx_645 g => ?_)
            refine lv_iconst (v := 1) hx hb dX0_closeArgument_196 (by decide) ?_
            refine lv_isub hx hb dX0_closeArgument_197 ?_
            refine lv_topi (fun y_646 ey_646 => ?_)
            have go_ := g
            refine g_put (C := RX0) (T := TX0) (N := 14) hx hb hts (mc_ inX0) tyX0 tyX0_ok nmX0 hown hK g ma0_ ka0_ (by decide) rfl 11 (by decide) (hts _ (List.mem_cons_of_mem _ t_384)) (fun _ h9 => h9) rfl rfl (okV_i (bdT y_646)) rfl rfl (by decide) (Or.inr (Or.inl (by decide))) (fx' := [(0, 8, a0_, .int y_1), (8, 6, q0_, .int 1201), (8, 8, q0_, .int x_627), (6, 3, a_507, .int x_508), (7, 2, q2_, .ref a_506), (0, 10, a0_, .int x_486), (0, 7, a0_, .ref a_483), (0, 6, a0_, .ref a_472), (9, 9, q4_, .ref a_374), (0, 5, a0_, .ref a_3), (0, 0, a0_, .ref q0_), (0, 1, a0_, .ref q1_), (0, 2, a0_, .ref q2_), (0, 3, a0_, .ref q3_), (5, 1, q1_, .ref q4_)]) rfl dX0_closeArgument_198 (fun f H locs hM_647 g => ?_)
            have hG_648 := eOK.frame hM_647 go_.2.2.2.1 ma0_ ka0_ (by decide) (by decide) hG_639
            have hG_649 := cOK.frame hM_647 go_.2.2.2.1 mq2_ kq2_ (by decide) (by decide) hG_640
            have hG_650 := dOK.frame hM_647 go_.2.2.2.1 mq2_ kq2_ (by decide) (by decide) hG_641
            have hG_651 := jS.frame hM_647 go_.2.2.2.1 mq2_ kq2_ (by decide) (by decide) hG_642
            have hG_652 := vP.frame hM_647 go_.2.2.2.1 ma_3 ka_3 (by decide) (by decide) hG_643
            have hG_653 := kQj.frame hM_647 go_.2.2.2.1 mq2_ kq2_ (by decide) (by decide) hG_644
            refine lv_aload_n hx hb dX0_closeArgument_201 rfl (lv_at hl 5 rfl) ?_
            refine g_getk (C := RX0) (T := TX0) (N := 14) hx hb hts (mc_ inX0) hown hK g rfl 7 (by decide) rfl (hts _ (List.mem_cons_of_mem _ t_380)) (fun _ h9 => h9) 7 rfl dX0_closeArgument_202 ?_
            refine lv_iload_n hx hb dX0_closeArgument_205 rfl (lv_at hl 4 rfl) ?_
            refine g_iald hx hb hK g ma_483 ka_483 (by decide) rfl (in_bd b_2 (by decide)) dX0_closeArgument_206 (fun x_654 bx_654 cx_654 => ?_)
            refine lv_iconst (v := 1) hx hb dX0_closeArgument_207 (by decide) ?_
            refine lv_iadd hx hb dX0_closeArgument_208 ?_
            refine lv_topi (fun y_655 ey_655 => ?_)
            refine lv_bipush (v := 12) hx hb dX0_closeArgument_209 (by decide) ?_
            have kb_12 : bd 12 12 (12 : Int32) := ⟨by decide, by decide⟩
            refine lv_icmp_le (tgt := 229) hx hb dX0_closeArgument_211 (by decide) (fun c_656 => ?_) (fun c_656 => ?_)
            · have fc_656 := le_f c_656
              have b_657 : bd (-2147483648) 12 y_655 := leL fc_656 (bdT y_655) kb_12 (by decide)
              refine lv_aload_n hx hb dX0_closeArgument_229 rfl (lv_at hl 5 rfl) ?_
              refine g_getk (C := RX0) (T := TX0) (N := 14) hx hb hts (mc_ inX0) hown hK g rfl 2 (by decide) rfl (hts _ (List.mem_cons_of_mem _ t_375)) (fun _ h9 => h9) 13 rfl dX0_closeArgument_230 ?_
              refine lv_bipush (v := 13) hx hb dX0_closeArgument_233 (by decide) ?_
              refine lv_iconst (v := 0) hx hb dX0_closeArgument_235 (by decide) ?_
              obtain ⟨a_658, ma_658, ka_658, g⟩ := g_factr g mq2_ kq2_ (by decide) 4 rfl
              obtain ⟨a_659, ma_659, ka_659, g⟩ := g_factr g mq2_ kq2_ (by decide) 5 rfl
              obtain ⟨x_660, bx_660, g⟩ := g_facti g mq2_ kq2_ (by decide) 6 rfl
              have go_ := g
              refine g_callv (va_runV (As := [.int 13, .int 0]) (rest := []) ⟨hx, hb, hml, hown, hts⟩ (r_X7_emitF l dC dI L kd tys f H.size g.2.2.2.1 q2_ mq2_ kq2_ a_658 ma_658 ka_658 a_659 ma_659 ka_659 x_660 bx_660 T_ hG_650 (13 : Int32) (0 : Int32) (g.fcts [2, 1, 0] rfl)) (cwV 2 hts (gV_ t_1203 t_1204 t_1205 t_191 t_1206) rfl rfl rfl (by decide +kernel) ⟨(Nat.le_of_ble_eq_true rfl), (Nat.le_of_ble_eq_true rfl)⟩) (pre3V g hK mq2_ kq2_ (by decide) (q := (RX7, TX7, 19)) rfl) rfl rfl hl.1 rfl (lv_room (Nat.le_of_ble_eq_true rfl)) dX0_closeArgument_236 ⟨(Nat.le_of_ble_eq_true rfl), (Nat.le_of_ble_eq_true rfl)⟩) g hK (by decide) (by decide) (fx' := [(7, 5, q2_, .ref a_659), (7, 4, q2_, .ref a_658), (0, 11, a0_, .int y_646), (0, 8, a0_, .int y_1), (8, 6, q0_, .int 1201), (8, 8, q0_, .int x_627), (6, 3, a_507, .int x_508), (7, 2, q2_, .ref a_506), (0, 10, a0_, .int x_486), (0, 7, a0_, .ref a_483), (0, 6, a0_, .ref a_472), (9, 9, q4_, .ref a_374), (0, 5, a0_, .ref a_3), (0, 0, a0_, .ref q0_), (0, 1, a0_, .ref q1_), (0, 2, a0_, .ref q2_), (0, 3, a0_, .ref q3_), (5, 1, q1_, .ref q4_)]) rfl (fun fr_661 H locs hp hMr_661 g => ?_)
              obtain ⟨hG_662, x_663, h_664, hF_665⟩ := hp
              have hG_666 := eOK.frame hMr_661 go_.2.2.2.1 ma0_ ka0_ (by decide) (by decide) hG_648
              have hG_667 := vP.frame hMr_661 go_.2.2.2.1 ma_3 ka_3 (by decide) (by decide) hG_652
              have g := g.more hF_665
              refine lv_aload_n hx hb dX0_closeArgument_239 rfl (lv_at hl 5 rfl) ?_
              refine g_getk (C := RX0) (T := TX0) (N := 14) hx hb hts (mc_ inX0) hown hK g rfl 2 (by decide) rfl (hts _ (List.mem_cons_of_mem _ t_375)) (fun _ h9 => h9) 16 rfl dX0_closeArgument_240 ?_
              refine lv_aload_n hx hb dX0_closeArgument_243 rfl (lv_at hl 5 rfl) ?_
              refine g_getk (C := RX0) (T := TX0) (N := 14) hx hb hts (mc_ inX0) hown hK g rfl 3 (by decide) rfl (hts _ (List.mem_cons_of_mem _ t_376)) (fun _ h9 => h9) 17 rfl dX0_closeArgument_244 ?_
              refine lv_iload_n hx hb dX0_closeArgument_247 rfl (lv_at hl 4 rfl) ?_
              refine g_iald hx hb hK g mq3_ kq3_ (by decide) rfl (in_bd b_2 (by decide)) dX0_closeArgument_248 (fun x_668 bx_668 cx_668 => ?_)
              obtain rfl : x_5 = x_668 := el_same cx_5 cx_668 ((arr_eq hMr_661 mq3_ kq3_ (by decide) rfl).trans ((arr_eq hM_647 mq3_ kq3_ (by decide) rfl).trans ((arr_eq hM_638 mq3_ kq3_ (by decide) rfl).trans ((arr_eq hMr_626 mq3_ kq3_ (by decide) rfl).trans ((arr_eq hM_498 mq3_ kq3_ (by decide) rfl).trans ((arr_eq hMr_485 mq3_ kq3_ (by decide) rfl).trans ((arr_eq hM_475 mq3_ kq3_ (by decide) rfl).trans ((arr_eq hMr_461 mq3_ kq3_ (by decide) rfl).trans (arr_eq hMr_376 mq3_ kq3_ (by decide) rfl)))))))))
              refine lv_iconst (v := 2) hx hb dX0_closeArgument_249 (by decide) ?_
              refine lv_icmp_ne (tgt := 258) hx hb dX0_closeArgument_250 (by decide) (fun c_669 => ?_) (fun c_669 => ?_)
              · have fc_669 := neq_f c_669
                have b_670 : bd 3 1 x_5 := neX fc_669 b_372 kb_2 (by decide)
                exact bd_no b_670 (by decide)
              · have fc_669 := eq_f c_669
                refine lv_bipush (v := 17) hx hb dX0_closeArgument_253 (by decide) ?_
                refine lv_goto (tgt := 260) hx hb dX0_closeArgument_255 (by decide) ?_
                refine lv_iload_n hx hb dX0_closeArgument_260 rfl (lv_at hl 3 rfl) ?_
                have go_ := g
                refine g_callv (va_runV (As := [.int 17, .int x_4]) (rest := []) ⟨hx, hb, hml, hown, hts⟩ (r_X7_emitF l dC dI L kd tys fr_661 H.size g.2.2.2.1 q2_ mq2_ kq2_ a_658 ma_658 ka_658 a_659 ma_659 ka_659 x_663 h_664 T_ hG_662 (17 : Int32) x_4 (g.fcts [2, 1, 0] rfl)) (cwV 2 hts (gV_ t_1203 t_1204 t_1205 t_191 t_1206) rfl rfl rfl (by decide +kernel) ⟨(Nat.le_of_ble_eq_true rfl), (Nat.le_of_ble_eq_true rfl)⟩) (pre3V g hK mq2_ kq2_ (by decide) (q := (RX7, TX7, 19)) rfl) rfl rfl hl.1 rfl (lv_room (Nat.le_of_ble_eq_true rfl)) dX0_closeArgument_261 ⟨(Nat.le_of_ble_eq_true rfl), (Nat.le_of_ble_eq_true rfl)⟩) g hK (by decide) (by decide) (fx' := [(7, 5, q2_, .ref a_659), (7, 4, q2_, .ref a_658), (0, 11, a0_, .int y_646), (0, 8, a0_, .int y_1), (8, 6, q0_, .int 1201), (8, 8, q0_, .int x_627), (6, 3, a_507, .int x_508), (7, 2, q2_, .ref a_506), (0, 10, a0_, .int x_486), (0, 7, a0_, .ref a_483), (0, 6, a0_, .ref a_472), (9, 9, q4_, .ref a_374), (0, 5, a0_, .ref a_3), (0, 0, a0_, .ref q0_), (0, 1, a0_, .ref q1_), (0, 2, a0_, .ref q2_), (0, 3, a0_, .ref q3_), (5, 1, q1_, .ref q4_)]) rfl (fun fr_671 H locs hp hMr_671 g => ?_)
                obtain ⟨hG_672, x_673, h_674, hF_675⟩ := hp
                have hG_676 := eOK.frame hMr_671 go_.2.2.2.1 ma0_ ka0_ (by decide) (by decide) hG_666
                have hG_677 := vP.frame hMr_671 go_.2.2.2.1 ma_3 ka_3 (by decide) (by decide) hG_667
                have g := g.more hF_675
                refine lv_aload_n hx hb dX0_closeArgument_264 rfl (lv_at hl 5 rfl) ?_
                refine lv_aload_n hx hb dX0_closeArgument_265 rfl (lv_at hl 5 rfl) ?_
                refine g_getk (C := RX0) (T := TX0) (N := 14) hx hb hts (mc_ inX0) hown hK g rfl 7 (by decide) rfl (hts _ (List.mem_cons_of_mem _ t_380)) (fun _ h9 => h9) 10 rfl dX0_closeArgument_266 ?_
                refine lv_iload_n hx hb dX0_closeArgument_269 rfl (lv_at hl 4 rfl) ?_
                refine g_iald hx hb hK g ma_483 ka_483 (by decide) rfl (in_bd b_2 (by decide)) dX0_closeArgument_270 (fun x_678 bx_678 cx_678 => ?_)
                obtain rfl : x_654 = x_678 := el_same cx_654 cx_678 ((arr_eq hMr_671 ma_483 ka_483 (by decide) rfl).trans (arr_eq hMr_661 ma_483 ka_483 (by decide) rfl))
                refine lv_iconst (v := 1) hx hb dX0_closeArgument_271 (by decide) ?_
                refine lv_iadd hx hb dX0_closeArgument_272 ?_
                refine lv_topi (fun y_679 ey_679 => ?_)
                obtain rfl : y_655 = y_679 := ey_655.trans ey_679.symm
                have go_ := g
                refine g_callv (va_runV (As := [.int y_655]) (rest := []) ⟨hx, hb, hml, hown, hts⟩ (r_X0_addWhole l dC dI L kd tys fr_671 H.size g.2.2.2.1 a0_ ma0_ ka0_ y_655) (cwV 1 hts (gV_ t_1211 t_1213 t_17 t_190 t_1214) rfl rfl rfl (by decide +kernel) ⟨(Nat.le_of_ble_eq_true rfl), (Nat.le_of_ble_eq_true rfl)⟩) (pre3V g hK ma0_ ka0_ (by decide) (q := (RX0, TX0, 14)) rfl) rfl rfl hl.1 rfl (lv_room (Nat.le_of_ble_eq_true rfl)) dX0_closeArgument_273 ⟨(Nat.le_of_ble_eq_true rfl), (Nat.le_of_ble_eq_true rfl)⟩) g hK (by decide) (by decide) (fx' := [(7, 6, q2_, .int x_673), (7, 5, q2_, .ref a_659), (7, 4, q2_, .ref a_658), (0, 11, a0_, .int y_646), (0, 8, a0_, .int y_1), (8, 6, q0_, .int 1201), (8, 8, q0_, .int x_627), (6, 3, a_507, .int x_508), (7, 2, q2_, .ref a_506), (0, 7, a0_, .ref a_483), (0, 6, a0_, .ref a_472), (9, 9, q4_, .ref a_374), (0, 5, a0_, .ref a_3), (0, 0, a0_, .ref q0_), (0, 1, a0_, .ref q1_), (0, 2, a0_, .ref q2_), (0, 3, a0_, .ref q3_), (5, 1, q1_, .ref q4_)]) rfl (fun fr_680 H locs hp hMr_680 g => ?_)
                obtain ⟨x_681, h_682, hF_683⟩ := hp
                have hG_684 := eOK.frame hMr_680 go_.2.2.2.1 ma0_ ka0_ (by decide) (by decide) hG_676
                have hG_685 := dOK.frame hMr_680 go_.2.2.2.1 mq2_ kq2_ (by decide) (by decide) hG_672
                have hG_686 := vP.frame hMr_680 go_.2.2.2.1 ma_3 ka_3 (by decide) (by decide) hG_677
                have g := g.more hF_683
                subst hQ
                exact W.vret hx hb hr (fun t ht hW => ⟨⟨_, rfl, Or.inr (⟨hG_685, x_627, h_628, (g.fcts [7, 8] rfl)⟩), q3_of g hK ht hW⟩, g.2.2.1.F ht⟩) g.2.2.1.2.2 dX0_closeArgument_276
            · have fc_656 := nle_f c_656
              have b_687 : bd 13 2147483647 y_655 := ltR fc_656 kb_12 (bdT y_655) (by decide)
              refine lv_aload_n hx hb dX0_closeArgument_214 rfl (lv_at hl 5 rfl) ?_
              refine g_getk (C := RX0) (T := TX0) (N := 14) hx hb hts (mc_ inX0) hown hK g rfl 0 (by decide) rfl (hts _ (List.mem_cons_of_mem _ t_373)) (fun _ h9 => h9) 11 rfl dX0_closeArgument_215 ?_
              refine lv_bipush (v := 7) hx hb dX0_closeArgument_218 (by decide) ?_
              refine lv_aload_n hx hb dX0_closeArgument_220 rfl (lv_at hl 5 rfl) ?_
              refine g_getr (K := 111) (C := RX0) (T := TX0) (N := 14) hx hb hts (mc_ inX0) hown hK g ma0_ ka0_ (by decide) rfl 4 (by decide) rfl (hts _ (List.mem_cons_of_mem _ t_377)) (fun _ h9 => h9) rfl dX0_closeArgument_221 (fun a_688 ma_688 ka_688 g => ?_)
              refine lv_iload_n hx hb dX0_closeArgument_224 rfl (lv_at hl 4 rfl) ?_
              refine g_iald hx hb hK g ma_688 ka_688 (by decide) rfl (in_bd b_2 (by decide)) dX0_closeArgument_225 (fun x_689 bx_689 cx_689 => ?_)
              have kb_7 : bd 7 7 (7 : Int32) := ⟨by decide, by decide⟩
              have go_ := g
              refine g_callv (va_runV (As := [.int 7, .int x_689]) (rest := []) ⟨hx, hb, hml, hown, hts⟩ (r_X8_fail_2 l dC dI L kd tys f H.size g.2.2.2.1 q0_ mq0_ kq0_ 7 (bd_sub kb_7 (by decide)) x_689 x_627 h_628 (g.fcts [4] rfl)) (cwV 2 hts (gV_ t_1215 t_1107 t_1108 t_184 t_1109) rfl rfl rfl (by decide +kernel) ⟨(Nat.le_of_ble_eq_true rfl), (Nat.le_of_ble_eq_true rfl)⟩) (pre3V g hK mq0_ kq0_ (by decide) (q := (RX8, TX8, 10)) rfl) rfl rfl hl.1 rfl (lv_room (Nat.le_of_ble_eq_true rfl)) dX0_closeArgument_226 ⟨(Nat.le_of_ble_eq_true rfl), (Nat.le_of_ble_eq_true rfl)⟩) g hK (by decide) (by decide) (fx' := [(0, 4, a0_, .ref a_688), (0, 11, a0_, .int y_646), (0, 8, a0_, .int y_1), (8, 8, q0_, .int x_627), (6, 3, a_507, .int x_508), (7, 2, q2_, .ref a_506), (0, 10, a0_, .int x_486), (0, 7, a0_, .ref a_483), (0, 6, a0_, .ref a_472), (9, 9, q4_, .ref a_374), (0, 5, a0_, .ref a_3), (0, 0, a0_, .ref q0_), (0, 1, a0_, .ref q1_), (0, 2, a0_, .ref q2_), (0, 3, a0_, .ref q3_), (5, 1, q1_, .ref q4_)]) rfl (fun fr_690 H locs hp hMr_690 g => ?_)
              have hF_691 := hp
              have hG_692 := eOK.frame hMr_690 go_.2.2.2.1 ma0_ ka0_ (by decide) (by decide) hG_648
              have hG_693 := cOK.frame hMr_690 go_.2.2.2.1 mq2_ kq2_ (by decide) (by decide) hG_649
              have hG_694 := dOK.frame hMr_690 go_.2.2.2.1 mq2_ kq2_ (by decide) (by decide) hG_650
              have hG_695 := jS.frame hMr_690 go_.2.2.2.1 mq2_ kq2_ (by decide) (by decide) hG_651
              have hG_696 := vP.frame hMr_690 go_.2.2.2.1 ma_3 ka_3 (by decide) (by decide) hG_652
              have hG_697 := kQj.frame hMr_690 go_.2.2.2.1 mq2_ kq2_ (by decide) (by decide) hG_653
              have g := g.more hF_691
              refine lv_aload_n hx hb dX0_closeArgument_229 rfl (lv_at hl 5 rfl) ?_
              refine g_getk (C := RX0) (T := TX0) (N := 14) hx hb hts (mc_ inX0) hown hK g rfl 2 (by decide) rfl (hts _ (List.mem_cons_of_mem _ t_375)) (fun _ h9 => h9) 14 rfl dX0_closeArgument_230 ?_
              refine lv_bipush (v := 13) hx hb dX0_closeArgument_233 (by decide) ?_
              refine lv_iconst (v := 0) hx hb dX0_closeArgument_235 (by decide) ?_
              obtain ⟨a_698, ma_698, ka_698, g⟩ := g_factr g mq2_ kq2_ (by decide) 4 rfl
              obtain ⟨a_699, ma_699, ka_699, g⟩ := g_factr g mq2_ kq2_ (by decide) 5 rfl
              obtain ⟨x_700, bx_700, g⟩ := g_facti g mq2_ kq2_ (by decide) 6 rfl
              have go_ := g
              refine g_callv (va_runV (As := [.int 13, .int 0]) (rest := []) ⟨hx, hb, hml, hown, hts⟩ (r_X7_emitF l dC dI L kd tys fr_690 H.size g.2.2.2.1 q2_ mq2_ kq2_ a_698 ma_698 ka_698 a_699 ma_699 ka_699 x_700 bx_700 T_ hG_694 (13 : Int32) (0 : Int32) (g.fcts [2, 1, 0] rfl)) (cwV 2 hts (gV_ t_1203 t_1204 t_1205 t_191 t_1206) rfl rfl rfl (by decide +kernel) ⟨(Nat.le_of_ble_eq_true rfl), (Nat.le_of_ble_eq_true rfl)⟩) (pre3V g hK mq2_ kq2_ (by decide) (q := (RX7, TX7, 19)) rfl) rfl rfl hl.1 rfl (lv_room (Nat.le_of_ble_eq_true rfl)) dX0_closeArgument_236 ⟨(Nat.le_of_ble_eq_true rfl), (Nat.le_of_ble_eq_true rfl)⟩) g hK (by decide) (by decide) (fx' := [(7, 5, q2_, .ref a_699), (7, 4, q2_, .ref a_698), (8, 6, q0_, .int 1201), (0, 4, a0_, .ref a_688), (0, 11, a0_, .int y_646), (0, 8, a0_, .int y_1), (8, 8, q0_, .int x_627), (6, 3, a_507, .int x_508), (7, 2, q2_, .ref a_506), (0, 10, a0_, .int x_486), (0, 7, a0_, .ref a_483), (0, 6, a0_, .ref a_472), (9, 9, q4_, .ref a_374), (0, 5, a0_, .ref a_3), (0, 0, a0_, .ref q0_), (0, 1, a0_, .ref q1_), (0, 2, a0_, .ref q2_), (0, 3, a0_, .ref q3_), (5, 1, q1_, .ref q4_)]) rfl (fun fr_701 H locs hp hMr_701 g => ?_)
              obtain ⟨hG_702, x_703, h_704, hF_705⟩ := hp
              have hG_706 := eOK.frame hMr_701 go_.2.2.2.1 ma0_ ka0_ (by decide) (by decide) hG_692
              have hG_707 := vP.frame hMr_701 go_.2.2.2.1 ma_3 ka_3 (by decide) (by decide) hG_696
              have g := g.more hF_705
              refine lv_aload_n hx hb dX0_closeArgument_239 rfl (lv_at hl 5 rfl) ?_
              refine g_getk (C := RX0) (T := TX0) (N := 14) hx hb hts (mc_ inX0) hown hK g rfl 2 (by decide) rfl (hts _ (List.mem_cons_of_mem _ t_375)) (fun _ h9 => h9) 17 rfl dX0_closeArgument_240 ?_
              refine lv_aload_n hx hb dX0_closeArgument_243 rfl (lv_at hl 5 rfl) ?_
              refine g_getk (C := RX0) (T := TX0) (N := 14) hx hb hts (mc_ inX0) hown hK g rfl 3 (by decide) rfl (hts _ (List.mem_cons_of_mem _ t_376)) (fun _ h9 => h9) 18 rfl dX0_closeArgument_244 ?_
              refine lv_iload_n hx hb dX0_closeArgument_247 rfl (lv_at hl 4 rfl) ?_
              refine g_iald hx hb hK g mq3_ kq3_ (by decide) rfl (in_bd b_2 (by decide)) dX0_closeArgument_248 (fun x_708 bx_708 cx_708 => ?_)
              obtain rfl : x_5 = x_708 := el_same cx_5 cx_708 ((arr_eq hMr_701 mq3_ kq3_ (by decide) rfl).trans ((arr_eq hMr_690 mq3_ kq3_ (by decide) rfl).trans ((arr_eq hM_647 mq3_ kq3_ (by decide) rfl).trans ((arr_eq hM_638 mq3_ kq3_ (by decide) rfl).trans ((arr_eq hMr_626 mq3_ kq3_ (by decide) rfl).trans ((arr_eq hM_498 mq3_ kq3_ (by decide) rfl).trans ((arr_eq hMr_485 mq3_ kq3_ (by decide) rfl).trans ((arr_eq hM_475 mq3_ kq3_ (by decide) rfl).trans ((arr_eq hMr_461 mq3_ kq3_ (by decide) rfl).trans (arr_eq hMr_376 mq3_ kq3_ (by decide) rfl))))))))))
              refine lv_iconst (v := 2) hx hb dX0_closeArgument_249 (by decide) ?_
              refine lv_icmp_ne (tgt := 258) hx hb dX0_closeArgument_250 (by decide) (fun c_709 => ?_) (fun c_709 => ?_)
              · have fc_709 := neq_f c_709
                have b_710 : bd 3 1 x_5 := neX fc_709 b_372 kb_2 (by decide)
                exact bd_no b_710 (by decide)
              · have fc_709 := eq_f c_709
                refine lv_bipush (v := 17) hx hb dX0_closeArgument_253 (by decide) ?_
                refine lv_goto (tgt := 260) hx hb dX0_closeArgument_255 (by decide) ?_
                refine lv_iload_n hx hb dX0_closeArgument_260 rfl (lv_at hl 3 rfl) ?_
                have go_ := g
                refine g_callv (va_runV (As := [.int 17, .int x_4]) (rest := []) ⟨hx, hb, hml, hown, hts⟩ (r_X7_emitF l dC dI L kd tys fr_701 H.size g.2.2.2.1 q2_ mq2_ kq2_ a_698 ma_698 ka_698 a_699 ma_699 ka_699 x_703 h_704 T_ hG_702 (17 : Int32) x_4 (g.fcts [2, 1, 0] rfl)) (cwV 2 hts (gV_ t_1203 t_1204 t_1205 t_191 t_1206) rfl rfl rfl (by decide +kernel) ⟨(Nat.le_of_ble_eq_true rfl), (Nat.le_of_ble_eq_true rfl)⟩) (pre3V g hK mq2_ kq2_ (by decide) (q := (RX7, TX7, 19)) rfl) rfl rfl hl.1 rfl (lv_room (Nat.le_of_ble_eq_true rfl)) dX0_closeArgument_261 ⟨(Nat.le_of_ble_eq_true rfl), (Nat.le_of_ble_eq_true rfl)⟩) g hK (by decide) (by decide) (fx' := [(7, 5, q2_, .ref a_699), (7, 4, q2_, .ref a_698), (8, 6, q0_, .int 1201), (0, 4, a0_, .ref a_688), (0, 11, a0_, .int y_646), (0, 8, a0_, .int y_1), (8, 8, q0_, .int x_627), (6, 3, a_507, .int x_508), (7, 2, q2_, .ref a_506), (0, 10, a0_, .int x_486), (0, 7, a0_, .ref a_483), (0, 6, a0_, .ref a_472), (9, 9, q4_, .ref a_374), (0, 5, a0_, .ref a_3), (0, 0, a0_, .ref q0_), (0, 1, a0_, .ref q1_), (0, 2, a0_, .ref q2_), (0, 3, a0_, .ref q3_), (5, 1, q1_, .ref q4_)]) rfl (fun fr_711 H locs hp hMr_711 g => ?_)
                obtain ⟨hG_712, x_713, h_714, hF_715⟩ := hp
                have hG_716 := eOK.frame hMr_711 go_.2.2.2.1 ma0_ ka0_ (by decide) (by decide) hG_706
                have hG_717 := vP.frame hMr_711 go_.2.2.2.1 ma_3 ka_3 (by decide) (by decide) hG_707
                have g := g.more hF_715
                refine lv_aload_n hx hb dX0_closeArgument_264 rfl (lv_at hl 5 rfl) ?_
                refine lv_aload_n hx hb dX0_closeArgument_265 rfl (lv_at hl 5 rfl) ?_
                refine g_getk (C := RX0) (T := TX0) (N := 14) hx hb hts (mc_ inX0) hown hK g rfl 7 (by decide) rfl (hts _ (List.mem_cons_of_mem _ t_380)) (fun _ h9 => h9) 11 rfl dX0_closeArgument_266 ?_
                refine lv_iload_n hx hb dX0_closeArgument_269 rfl (lv_at hl 4 rfl) ?_
                refine g_iald hx hb hK g ma_483 ka_483 (by decide) rfl (in_bd b_2 (by decide)) dX0_closeArgument_270 (fun x_718 bx_718 cx_718 => ?_)
                obtain rfl : x_654 = x_718 := el_same cx_654 cx_718 ((arr_eq hMr_711 ma_483 ka_483 (by decide) rfl).trans ((arr_eq hMr_701 ma_483 ka_483 (by decide) rfl).trans (arr_eq hMr_690 ma_483 ka_483 (by decide) rfl)))
                refine lv_iconst (v := 1) hx hb dX0_closeArgument_271 (by decide) ?_
                refine lv_iadd hx hb dX0_closeArgument_272 ?_
                refine lv_topi (fun y_719 ey_719 => ?_)
                obtain rfl : y_655 = y_719 := ey_655.trans ey_719.symm
                have go_ := g
                refine g_callv (va_runV (As := [.int y_655]) (rest := []) ⟨hx, hb, hml, hown, hts⟩ (r_X0_addWhole l dC dI L kd tys fr_711 H.size g.2.2.2.1 a0_ ma0_ ka0_ y_655) (cwV 1 hts (gV_ t_1211 t_1213 t_17 t_190 t_1214) rfl rfl rfl (by decide +kernel) ⟨(Nat.le_of_ble_eq_true rfl), (Nat.le_of_ble_eq_true rfl)⟩) (pre3V g hK ma0_ ka0_ (by decide) (q := (RX0, TX0, 14)) rfl) rfl rfl hl.1 rfl (lv_room (Nat.le_of_ble_eq_true rfl)) dX0_closeArgument_273 ⟨(Nat.le_of_ble_eq_true rfl), (Nat.le_of_ble_eq_true rfl)⟩) g hK (by decide) (by decide) (fx' := [(7, 6, q2_, .int x_713), (7, 5, q2_, .ref a_699), (7, 4, q2_, .ref a_698), (8, 6, q0_, .int 1201), (0, 4, a0_, .ref a_688), (0, 11, a0_, .int y_646), (0, 8, a0_, .int y_1), (8, 8, q0_, .int x_627), (6, 3, a_507, .int x_508), (7, 2, q2_, .ref a_506), (0, 7, a0_, .ref a_483), (0, 6, a0_, .ref a_472), (9, 9, q4_, .ref a_374), (0, 5, a0_, .ref a_3), (0, 0, a0_, .ref q0_), (0, 1, a0_, .ref q1_), (0, 2, a0_, .ref q2_), (0, 3, a0_, .ref q3_), (5, 1, q1_, .ref q4_)]) rfl (fun fr_720 H locs hp hMr_720 g => ?_)
                obtain ⟨x_721, h_722, hF_723⟩ := hp
                have hG_724 := eOK.frame hMr_720 go_.2.2.2.1 ma0_ ka0_ (by decide) (by decide) hG_716
                have hG_725 := dOK.frame hMr_720 go_.2.2.2.1 mq2_ kq2_ (by decide) (by decide) hG_712
                have hG_726 := vP.frame hMr_720 go_.2.2.2.1 ma_3 ka_3 (by decide) (by decide) hG_717
                have g := g.more hF_723
                subst hQ
                exact W.vret hx hb hr (fun t ht hW => ⟨⟨_, rfl, Or.inr (⟨hG_725, x_627, h_628, (g.fcts [5, 9] rfl)⟩), q3_of g hK ht hW⟩, g.2.2.1.F ht⟩) g.2.2.1.2.2 dX0_closeArgument_276
        · have fc_509 := eq_f c_509
          exact absurd fc_509 fc_384
      · have fc_459 := neq_f c_459
        refine lv_aload_n hx hb dX0_closeArgument_63 rfl (lv_at hl 4 rfl) ?_
        refine g_getk (C := RX0) (T := TX0) (N := 14) hx hb hts (mc_ inX0) hown hK g rfl 0 (by decide) rfl (hts _ (List.mem_cons_of_mem _ t_373)) (fun _ h9 => h9) 2 rfl dX0_closeArgument_64 ?_
        refine lv_iconst (v := 1) hx hb dX0_closeArgument_67 (by decide) ?_
        refine lv_iload hx hb dX0_closeArgument_68 (lv_at hl 0 rfl) ?_
        have go_ := g
        refine g_callv (va_runV (As := [.int 1, .int r_376]) (rest := []) ⟨hx, hb, hml, hown, hts⟩ (r_X8_fail l dC dI L kd tys fr_376 H.size g.2.2.2.1 q0_ mq0_ kq0_ 1 (bd_sub kb_1 (by decide)) r_376 y1_ by1_ (g.fcts [8] rfl)) (cwV 2 hts (gV_ t_1215 t_1107 t_1108 t_184 t_1109) rfl rfl rfl (by decide +kernel) ⟨(Nat.le_of_ble_eq_true rfl), (Nat.le_of_ble_eq_true rfl)⟩) (pre3V g hK mq0_ kq0_ (by decide) (q := (RX8, TX8, 10)) rfl) rfl rfl hl.1 rfl (lv_room (Nat.le_of_ble_eq_true rfl)) dX0_closeArgument_70 ⟨(Nat.le_of_ble_eq_true rfl), (Nat.le_of_ble_eq_true rfl)⟩) g hK (by decide) (by decide) (fx' := [(9, 9, q4_, .ref a_374), (0, 5, a0_, .ref a_3), (0, 0, a0_, .ref q0_), (0, 1, a0_, .ref q1_), (0, 2, a0_, .ref q2_), (0, 3, a0_, .ref q3_), (5, 1, q1_, .ref q4_), (0, 8, a0_, .int y0_)]) rfl (fun fr_727 H locs hp hMr_727 g => ?_)
        obtain ⟨x_728, h_729, hF_730⟩ := hp
        have hG_731 := eOK.frame hMr_727 go_.2.2.2.1 ma0_ ka0_ (by decide) (by decide) hG_377
        have hG_732 := eJx.frame hMr_727 go_.2.2.2.1 ma0_ ka0_ (by decide) (by decide) hG_378
        have hG_733 := cOK.frame hMr_727 go_.2.2.2.1 mq2_ kq2_ (by decide) (by decide) hG_379
        have hG_734 := dOK.frame hMr_727 go_.2.2.2.1 mq2_ kq2_ (by decide) (by decide) hG_380
        have hG_735 := jS.frame hMr_727 go_.2.2.2.1 mq2_ kq2_ (by decide) (by decide) hG_381
        have hG_736 := vP.frame hMr_727 go_.2.2.2.1 ma_3 ka_3 (by decide) (by decide) hG_382
        have hG_737 := kQj.frame hMr_727 go_.2.2.2.1 mq2_ kq2_ (by decide) (by decide) hG_383
        have g := g.more hF_730
        subst hQ
        exact W.vret hx hb hr (fun t ht hW => ⟨⟨_, rfl, Or.inr (⟨hG_734, x_728, h_729, (g.fcts [0, 1] rfl)⟩), q3_of g hK ht hW⟩, g.2.2.1.F ht⟩) g.2.2.1.2.2 dX0_closeArgument_73
