set_option maxHeartbeats 4000000 in
set_option maxRecDepth 100000 in
theorem r_X0_closeArgument (l : Launch) (dC : Nat → ClassId) (dI : Nat → Nat → Nat) (L : List Nat) (kd : Nat → Nat) (tys : List (ClassId × FieldType)) (f0 : Nat → va_E) (sz : Nat) (hWT : WT L kd tys f0) (a0_ : Nat) (ma0_ : a0_ ∈ L) (ka0_ : kd a0_ = 0) (x1_ : Int32) (q0_ : Nat) (mq0_ : q0_ ∈ L) (kq0_ : kd q0_ = 8) (q1_ : Nat) (mq1_ : q1_ ∈ L) (kq1_ : kd q1_ = 5) (q2_ : Nat) (mq2_ : q2_ ∈ L) (kq2_ : kd q2_ = 7) (q3_ : Nat) (mq3_ : q3_ ∈ L) (kq3_ : kd q3_ = 110) (q4_ : Nat) (mq4_ : q4_ ∈ L) (kq4_ : kd q4_ = 9) (y0_ : Int32) (by0_ : bd 1 300 y0_) (y1_ : Int32) (by1_ : bd 0 0 y1_) (hGea0_ : eOK f0 a0_) (hk_ : ∀ z : Int32, z.toInt = y0_.toInt - 1 → bd 2 3 (aI f0 q3_ z.toNatClampNeg)) (hfx : Fs L kd f0 [(0, 0, a0_, .ref q0_), (0, 1, a0_, .ref q1_), (0, 2, a0_, .ref q2_), (0, 3, a0_, .ref q3_), (5, 1, q1_, .ref q4_), (0, 8, a0_, .int y0_), (8, 8, q0_, .int y1_)]) : Met l yX0_closeArgument (.code yX0_closeArgument cX0_closeArgument 7 none :: lw_g) ({ frames := 1, cells := 0, slots := 0, locals := 23 }) (va_Pc [.ref a0_, .int x1_] (P3 (dC, dI) L tys f0 sz)) (va_Qv (fun (f : Nat → va_E) => (bd 41 44 x1_ ∧ ∃ z0_ : Int32, bd 1 1201 z0_ ∧ Fs L kd f [(8, 6, q0_, .int z0_), (8, 8, q0_, .int y1_)]) ∨ (∃ z1_ : Int32, bd 1 7 z1_ ∧ Fs L kd f [(8, 6, q0_, .int 1201), (8, 8, q0_, .int z1_)])) (Q3 (dC, dI) L kd tys [(0, 8), (0, 10), (0, 11), (0, 12), (7, 6), (8, 6), (8, 8), (8, 9)] [113, 114, 115, 138, 139] f0 sz) (pA L sz)) 0 0 (pA L sz) := by
  refine Met.ofW (cc := cX0_closeArgument) (maxL := 7) (ret := none) (by decide) rfl ?_
  intro p e s m args below meth c s₁ B hml hv
  obtain ⟨rfl, hsz, hP, hK, hD0⟩ := hv
  have hx := B.exec
  have hb := B.bytes
  have hr := B.returns
  have hts := atoms_spec (ws := (.code yX0_closeArgument cX0_closeArgument 7 none :: lw_g)) B.pre
  have hown : s.vm.findClass RX0 = some m.cls := findClass_of_methodNamed B.named
  have hlocks := B.notSynchronized
  subst hsz
  have g : G3 (dC, dI) L kd tys s f0 [(0, 8), (0, 10), (0, 11), (0, 12), (7, 6), (8, 6), (8, 8), (8, 9)] [113, 114, 115, 138, 139] f0 s.heap [] [(0, 0, a0_, .ref q0_), (0, 1, a0_, .ref q1_), (0, 2, a0_, .ref q2_), (0, 3, a0_, .ref q3_), (5, 1, q1_, .ref q4_), (0, 8, a0_, .int y0_), (8, 8, q0_, .int y1_)] := G3.start hP hD0 hWT hfx
  have hl := lv_entry ([.ref a0_, .int x1_]) (n := 7) (Nat.le_of_ble_eq_true rfl)
  rw [lg_entry_eq]
  generalize (lg_sl ([.ref a0_, .int x1_]) ++ List.replicate (7 - (lg_sl ([.ref a0_, .int x1_])).length) Slot.unset).toArray = ls at hl ⊢
  have hl : lv_has ls 7 [(0, .ref a0_), (1, .int x1_)] := hl
  refine W_q (fun Q hQ => ?_)
  refine lv_aload_n hx hb dX0_closeArgument_0 rfl (lv_at hl 0 rfl) ?_
  refine g_getk (C := RX0) (T := TX0) (N := 14) hx hb hts (mc_ inX0) hown hK g rfl 8 (by decide) rfl (hts _ (List.mem_cons_of_mem _ t_381)) (fun _ h9 => h9) 5 rfl dX0_closeArgument_1 ?_
  refine lv_iconst (v := 1) hx hb dX0_closeArgument_4 (by decide) ?_
  have kb_1 : bd 1 1 (1 : Int32) := ⟨by decide, by decide⟩
  refine lv_isub hx hb dX0_closeArgument_5 ?_
  refine lv_topi (fun y_1 ey_1 => ?_)
  have ty_1 := sub_bd ey_1 by0_ kb_1 (by decide)
  have b_2 : bd 0 299 y_1 := sub_rg ty_1 by0_ kb_1 (by decide)
  refine lv_istore_n (lv' := [(2, .int y_1), (0, .ref a0_), (1, .int x1_)]) hx hb dX0_closeArgument_6 rfl hl (by decide) rfl (fun ls hl => ?_)
  refine lv_aload_n hx hb dX0_closeArgument_7 rfl (lv_at hl 1 rfl) ?_
  refine g_getr (K := 112) (C := RX0) (T := TX0) (N := 14) hx hb hts (mc_ inX0) hown hK g ma0_ ka0_ (by decide) rfl 5 (by decide) rfl (hts _ (List.mem_cons_of_mem _ t_378)) (fun _ h9 => h9) rfl dX0_closeArgument_8 (fun a_3 ma_3 ka_3 g => ?_)
  refine lv_iload_n hx hb dX0_closeArgument_11 rfl (lv_at hl 0 rfl) ?_
  refine g_iald hx hb hK g ma_3 ka_3 (by decide) rfl (in_bd b_2 (by decide)) dX0_closeArgument_12 (fun x_4 bx_4 cx_4 => ?_)
  refine lv_istore_n (lv' := [(3, .int x_4), (2, .int y_1), (0, .ref a0_), (1, .int x1_)]) hx hb dX0_closeArgument_13 rfl hl (by decide) rfl (fun ls hl => ?_)
  refine lv_aload_n hx hb dX0_closeArgument_14 rfl (lv_at hl 2 rfl) ?_
  refine g_getk (C := RX0) (T := TX0) (N := 14) hx hb hts (mc_ inX0) hown hK g rfl 3 (by decide) rfl (hts _ (List.mem_cons_of_mem _ t_376)) (fun _ h9 => h9) 4 rfl dX0_closeArgument_15 ?_
  refine lv_iload_n hx hb dX0_closeArgument_18 rfl (lv_at hl 1 rfl) ?_
  refine g_iald hx hb hK g mq3_ kq3_ (by decide) rfl (in_bd b_2 (by decide)) dX0_closeArgument_19 (fun x_5 bx_5 cx_5 => ?_)
  have b_6 : bd 2 3 x_5 := (cx_5 ▸ hk_ y_1 (t1_ ty_1) : bd 2 3 x_5)
  have hc_7 : erel x_5 x_4 := hGea0_.at g 4 0 rfl rfl cx_5 cx_4 b_2 (by decide)
  refine lv_iconst (v := 2) hx hb dX0_closeArgument_20 (by decide) ?_
  have kb_2 : bd 2 2 (2 : Int32) := ⟨by decide, by decide⟩
  refine lv_icmp_ne (tgt := 39) hx hb dX0_closeArgument_21 (by decide) (fun c_8 => ?_) (fun c_8 => ?_)
  · have fc_8 := neq_f c_8
    have b_9 : bd 3 3 x_5 := neX fc_8 b_6 kb_2 (by decide)
    have b_10 : bd 0 95 x_4 := eqX rfl (bdT x_4) (er3 hc_7 b_9 (by decide)) (by decide)
    refine lv_iload_n hx hb dX0_closeArgument_39 rfl (lv_at hl 0 rfl) ?_
    refine lv_istore (lv' := [(4, .int x_4), (3, .int x_4), (2, .int y_1), (0, .ref a0_), (1, .int x1_)]) hx hb dX0_closeArgument_40 hl (by decide) rfl (fun ls hl => ?_)
    refine lv_aload_n hx hb dX0_closeArgument_42 rfl (lv_at hl 3 rfl) ?_
    refine g_getk (C := RX0) (T := TX0) (N := 14) hx hb hts (mc_ inX0) hown hK g rfl 0 (by decide) rfl (hts _ (List.mem_cons_of_mem _ t_373)) (fun _ h9 => h9) 1 rfl dX0_closeArgument_43 ?_
    have go_ := g
    refine g_calli (va_runV (As := []) (rest := []) ⟨hx, hb, hml, hown, hts⟩ (r_X8_place l dC dI L kd tys f0 s.heap.size g.2.2.2.1 q0_ mq0_ kq0_) (cwV 0 hts (gV_ t_1220 t_1111 t_1112 t_184 t_1113) rfl rfl rfl (by decide +kernel) ⟨(Nat.le_of_ble_eq_true rfl), (Nat.le_of_ble_eq_true rfl)⟩) (pre3V g hK mq0_ kq0_ (by decide) (q := (RX8, TX8, 10)) rfl) rfl rfl hl.1 rfl (lv_room (Nat.le_of_ble_eq_true rfl)) dX0_closeArgument_46 ⟨(Nat.le_of_ble_eq_true rfl), (Nat.le_of_ble_eq_true rfl)⟩) g hK (by decide) (by decide) (fx' := [(0, 5, a0_, .ref a_3), (0, 0, a0_, .ref q0_), (0, 1, a0_, .ref q1_), (0, 2, a0_, .ref q2_), (0, 3, a0_, .ref q3_), (5, 1, q1_, .ref q4_), (0, 8, a0_, .int y0_), (8, 8, q0_, .int y1_)]) rfl (fun r_11 fr_11 H locs hp hMr_11 g => ?_)
    have hG_12 := eOK.frame hMr_11 go_.2.2.2.1 ma0_ ka0_ (by decide) (by decide) hGea0_
    refine lv_istore (lv' := [(5, .int r_11), (4, .int x_4), (3, .int x_4), (2, .int y_1), (0, .ref a0_), (1, .int x1_)]) hx hb dX0_closeArgument_49 hl (by decide) rfl (fun ls hl => ?_)
    refine lv_iload_n hx hb dX0_closeArgument_51 rfl (lv_at hl 5 rfl) ?_
    refine lv_bipush (v := 44) hx hb dX0_closeArgument_52 (by decide) ?_
    have kb_44 : bd 44 44 (44 : Int32) := ⟨by decide, by decide⟩
    refine lv_icmp_eq (tgt := 74) hx hb dX0_closeArgument_54 (by decide) (fun c_13 => ?_) (fun c_13 => ?_)
    · have fc_13 := eq_f c_13
      have b_14 : bd 44 44 x1_ := eqX fc_13 (bdT x1_) kb_44 (by decide)
      refine lv_aload_n hx hb dX0_closeArgument_74 rfl (lv_at hl 4 rfl) ?_
      refine g_getk (C := RX0) (T := TX0) (N := 14) hx hb hts (mc_ inX0) hown hK g rfl 0 (by decide) rfl (hts _ (List.mem_cons_of_mem _ t_373)) (fun _ h9 => h9) 1 rfl dX0_closeArgument_75 ?_
      have go_ := g
      refine g_callv (va_runV (As := []) (rest := []) ⟨hx, hb, hml, hown, hts⟩ (r_X8_next l dC dI L kd tys fr_11 H.size g.2.2.2.1 q0_ mq0_ kq0_) (cwV 0 hts (gV_ t_1225 t_1103 t_1104 t_184 t_1105) rfl rfl rfl (by decide +kernel) ⟨(Nat.le_of_ble_eq_true rfl), (Nat.le_of_ble_eq_true rfl)⟩) (pre3V g hK mq0_ kq0_ (by decide) (q := (RX8, TX8, 10)) rfl) rfl rfl hl.1 rfl (lv_room (Nat.le_of_ble_eq_true rfl)) dX0_closeArgument_78 ⟨(Nat.le_of_ble_eq_true rfl), (Nat.le_of_ble_eq_true rfl)⟩) g hK (by decide) (by decide) (fx' := [(0, 5, a0_, .ref a_3), (0, 0, a0_, .ref q0_), (0, 1, a0_, .ref q1_), (0, 2, a0_, .ref q2_), (0, 3, a0_, .ref q3_), (5, 1, q1_, .ref q4_), (0, 8, a0_, .int y0_), (8, 8, q0_, .int y1_)]) rfl (fun fr_15 H locs hp hMr_15 g => ?_)
      obtain ⟨x_16, h_17, hF_18⟩ := hp
      have hG_19 := eOK.frame hMr_15 go_.2.2.2.1 ma0_ ka0_ (by decide) (by decide) hG_12
      have g := g.more hF_18
      refine lv_aload_n hx hb dX0_closeArgument_81 rfl (lv_at hl 4 rfl) ?_
      refine g_getr (K := 113) (C := RX0) (T := TX0) (N := 14) hx hb hts (mc_ inX0) hown hK g ma0_ ka0_ (by decide) rfl 6 (by decide) rfl (hts _ (List.mem_cons_of_mem _ t_379)) (fun _ h9 => h9) rfl dX0_closeArgument_82 (fun a_20 ma_20 ka_20 g => ?_)
      refine lv_iload_n hx hb dX0_closeArgument_85 rfl (lv_at hl 3 rfl) ?_
      refine lv_dup2_11 hx hb dX0_closeArgument_86 rfl rfl ?_
      refine g_iald hx hb hK g ma_20 ka_20 (by decide) rfl (in_bd b_2 (by decide)) dX0_closeArgument_87 (fun x_21 bx_21 cx_21 => ?_)
      refine lv_iconst (v := 1) hx hb dX0_closeArgument_88 (by decide) ?_
      refine lv_iadd hx hb dX0_closeArgument_89 ?_
      refine lv_topi (fun y_22 ey_22 => ?_)
      have go_ := g
      refine g_iast hx hb hK g ma_20 ka_20 (by decide) rfl (in_bd b_2 (by decide)) (bdT y_22) (by decide) dX0_closeArgument_90 (fun f H locs hM_23 g => ?_)
      have hG_24 := eOK.frame hM_23 go_.2.2.2.1 ma0_ ka0_ (by decide) (by decide) hG_19
      refine lv_aload_n hx hb dX0_closeArgument_91 rfl (lv_at hl 4 rfl) ?_
      refine g_getr (K := 114) (C := RX0) (T := TX0) (N := 14) hx hb hts (mc_ inX0) hown hK g ma0_ ka0_ (by decide) rfl 7 (by decide) rfl (hts _ (List.mem_cons_of_mem _ t_380)) (fun _ h9 => h9) rfl dX0_closeArgument_92 (fun a_25 ma_25 ka_25 g => ?_)
      refine lv_iload_n hx hb dX0_closeArgument_95 rfl (lv_at hl 3 rfl) ?_
      refine lv_aload_n hx hb dX0_closeArgument_96 rfl (lv_at hl 4 rfl) ?_
      refine g_getk (C := RX0) (T := TX0) (N := 14) hx hb hts (mc_ inX0) hown hK g rfl 7 (by decide) rfl (hts _ (List.mem_cons_of_mem _ t_380)) (fun _ h9 => h9) 0 rfl dX0_closeArgument_97 ?_
      refine lv_iload_n hx hb dX0_closeArgument_100 rfl (lv_at hl 3 rfl) ?_
      refine g_iald hx hb hK g ma_25 ka_25 (by decide) rfl (in_bd b_2 (by decide)) dX0_closeArgument_101 (fun x_26 bx_26 cx_26 => ?_)
      refine lv_aload_n hx hb dX0_closeArgument_102 rfl (lv_at hl 4 rfl) ?_
      have go_ := g
      refine g_calli (va_runV (As := []) (rest := [.int x_26, .int y_1, .ref a_25]) ⟨hx, hb, hml, hown, hts⟩ (r_X0_takeHeight l dC dI L kd tys f H.size g.2.2.2.1 a0_ ma0_ ka0_) (cwV 0 hts (gV_ t_1199 t_1201 t_16 t_190 t_1202) rfl rfl rfl (by decide +kernel) ⟨(Nat.le_of_ble_eq_true rfl), (Nat.le_of_ble_eq_true rfl)⟩) (pre3V g hK ma0_ ka0_ (by decide) (q := (RX0, TX0, 14)) rfl) rfl rfl hl.1 rfl (lv_room (Nat.le_of_ble_eq_true rfl)) dX0_closeArgument_103 ⟨(Nat.le_of_ble_eq_true rfl), (Nat.le_of_ble_eq_true rfl)⟩) g hK (by decide) (by decide) (fx' := [(0, 7, a0_, .ref a_25), (0, 6, a0_, .ref a_20), (8, 6, q0_, .int x_16), (0, 5, a0_, .ref a_3), (0, 0, a0_, .ref q0_), (0, 1, a0_, .ref q1_), (0, 2, a0_, .ref q2_), (0, 3, a0_, .ref q3_), (5, 1, q1_, .ref q4_), (0, 8, a0_, .int y0_), (8, 8, q0_, .int y1_)]) rfl (fun r_27 fr_27 H locs hp hMr_27 g => ?_)
      obtain ⟨x_28, h_29, hF_30⟩ := hp
      have hG_31 := eOK.frame hMr_27 go_.2.2.2.1 ma0_ ka0_ (by decide) (by decide) hG_24
      have g := g.more hF_30
      refine va_mmax hx hb (hml.trans hl.1.symm) hown (hts _ (List.mem_cons_of_mem _ t_1194)) (hts _ (List.mem_cons_of_mem _ t_1041)) (hts _ (List.mem_cons_of_mem _ t_204)) (hts _ (List.mem_cons_of_mem _ t_1042)) (Nat.le_of_ble_eq_true rfl) (Nat.le_of_ble_eq_true rfl) (Nat.le_of_ble_eq_true rfl) (Nat.le_of_ble_eq_true rfl) dX0_closeArgument_106 ?_
      refine lv_topi (fun y_32 ey_32 => ?_)
      have ty_32 : y_32.toInt = max x_26.toInt r_27.toInt := by rw [ey_32]; exact mmax_ok _ _
      have b_33 : bd (-2147483648) 2147483647 y_32 := max_rg ty_32 (bdT x_26) (bdT r_27) (by decide)
      have go_ := g
      refine g_iast hx hb hK g ma_25 ka_25 (by decide) rfl (in_bd b_2 (by decide)) b_33 (by decide) dX0_closeArgument_109 (fun f H locs hM_34 g => ?_)
      have hG_35 := eOK.frame hM_34 go_.2.2.2.1 ma0_ ka0_ (by decide) (by decide) hG_31
      refine lv_aload_n hx hb dX0_closeArgument_110 rfl (lv_at hl 4 rfl) ?_
      refine g_getk (C := RX0) (T := TX0) (N := 14) hx hb hts (mc_ inX0) hown hK g rfl 2 (by decide) rfl (hts _ (List.mem_cons_of_mem _ t_375)) (fun _ h9 => h9) 7 rfl dX0_closeArgument_111 ?_
      refine g_getr (K := 137) (C := RX7) (T := TX7) (N := 19) hx hb hts (mc_ inX7) hown hK g mq2_ kq2_ (by decide) rfl 2 (by decide) rfl (hts _ (List.mem_cons_of_mem _ t_633)) (fun _ h9 => h9) rfl dX0_closeArgument_114 (fun a_36 ma_36 ka_36 g => ?_)
      refine lv_iload hx hb dX0_closeArgument_117 (lv_at hl 1 rfl) ?_
      refine g_aald hx hb hK g ma_36 ka_36 (by decide) rfl (by decide) (in_bd b_10 (by decide)) dX0_closeArgument_119 (fun a_37 ma_37 ua_37 wa_37 => ?_)
      have ka_37 : kd a_37 = 6 := by omega
      refine g_geti (C := RX6) (T := TX6) (N := 13) hx hb hts (mc_ inX6) hown hK g ma_37 ka_37 (by decide) rfl 3 (by decide) rfl (hts _ (List.mem_cons_of_mem _ t_564)) (fun _ h9 => h9) rfl dX0_closeArgument_120 (fun x_38 bx_38 g => ?_)
      refine lv_istore (lv' := [(6, .int x_38), (5, .int r_11), (4, .int x_4), (3, .int x_4), (2, .int y_1), (0, .ref a0_), (1, .int x1_)]) hx hb dX0_closeArgument_123 hl (by decide) rfl (fun ls hl => ?_)
      refine lv_iload_n hx hb dX0_closeArgument_125 rfl (lv_at hl 6 rfl) ?_
      refine lv_bipush (v := 44) hx hb dX0_closeArgument_126 (by decide) ?_
      refine lv_icmp_ne (tgt := 159) hx hb dX0_closeArgument_128 (by decide) (fun c_39 => ?_) (fun c_39 => ?_)
      · have fc_39 := neq_f c_39
        have b_40 : bd 45 43 x1_ := neX fc_39 b_14 kb_44 (by decide)
        exact bd_no b_40 (by decide)
      · have fc_39 := eq_f c_39
        refine lv_aload_n hx hb dX0_closeArgument_131 rfl (lv_at hl 5 rfl) ?_
        refine lv_iconst (v := 1) hx hb dX0_closeArgument_132 (by decide) ?_
        have go_ := g
        refine g_put (C := RX0) (T := TX0) (N := 14) hx hb hts (mc_ inX0) tyX0 tyX0_ok nmX0 hown hK g ma0_ ka0_ (by decide) rfl 12 (by decide) (hts _ (List.mem_cons_of_mem _ t_385)) (fun _ h9 => h9) rfl rfl (okV_i (bd_sub kb_1 (by decide))) rfl rfl (by decide) (Or.inr (Or.inl (by decide))) (fx' := [(6, 3, a_37, .int x_38), (7, 2, q2_, .ref a_36), (0, 10, a0_, .int x_28), (0, 7, a0_, .ref a_25), (0, 6, a0_, .ref a_20), (8, 6, q0_, .int x_16), (0, 5, a0_, .ref a_3), (0, 0, a0_, .ref q0_), (0, 1, a0_, .ref q1_), (0, 2, a0_, .ref q2_), (0, 3, a0_, .ref q3_), (5, 1, q1_, .ref q4_), (0, 8, a0_, .int y0_), (8, 8, q0_, .int y1_)]) rfl dX0_closeArgument_133 (fun f H locs hM_41 g => ?_)
        have hG_42 := eOK.frame hM_41 go_.2.2.2.1 ma0_ ka0_ (by decide) (by decide) hG_35
        refine lv_aload_n hx hb dX0_closeArgument_136 rfl (lv_at hl 5 rfl) ?_
        refine g_getk (C := RX0) (T := TX0) (N := 14) hx hb hts (mc_ inX0) hown hK g rfl 6 (by decide) rfl (hts _ (List.mem_cons_of_mem _ t_379)) (fun _ h9 => h9) 5 rfl dX0_closeArgument_137 ?_
        refine lv_iload_n hx hb dX0_closeArgument_140 rfl (lv_at hl 4 rfl) ?_
        refine g_iald hx hb hK g ma_20 ka_20 (by decide) rfl (in_bd b_2 (by decide)) dX0_closeArgument_141 (fun x_43 bx_43 cx_43 => ?_)
        refine lv_iload hx hb dX0_closeArgument_142 (lv_at hl 0 rfl) ?_
        refine lv_icmp_lt (tgt := 158) hx hb dX0_closeArgument_144 (by decide) (fun c_44 => ?_) (fun c_44 => ?_)
        · have fc_44 := lt_f c_44
          have b_45 : bd (-2147483648) 2 x_43 := ltL fc_44 (bdT x_43) bx_38 (by decide)
          subst hQ
          exact W.vret hx hb hr (fun t ht hW => ⟨⟨_, rfl, Or.inl ⟨(bd_sub b_14 (by decide)), x_16, h_17, (g.fcts [6, 14] rfl)⟩, q3_of g hK ht hW⟩, g.2.2.1.F ht⟩) g.2.2.1.2.2 dX0_closeArgument_158
        · have fc_44 := nlt_f c_44
          have b_46 : bd 0 2147483647 x_43 := leR fc_44 bx_38 (bdT x_43) (by decide)
          refine lv_aload_n hx hb dX0_closeArgument_147 rfl (lv_at hl 5 rfl) ?_
          refine g_getk (C := RX0) (T := TX0) (N := 14) hx hb hts (mc_ inX0) hown hK g rfl 0 (by decide) rfl (hts _ (List.mem_cons_of_mem _ t_373)) (fun _ h9 => h9) 8 rfl dX0_closeArgument_148 ?_
          refine lv_bipush (v := 6) hx hb dX0_closeArgument_151 (by decide) ?_
          refine lv_iload hx hb dX0_closeArgument_153 (lv_at hl 1 rfl) ?_
          have kb_6 : bd 6 6 (6 : Int32) := ⟨by decide, by decide⟩
          have go_ := g
          refine g_callv (va_runV (As := [.int 6, .int r_11]) (rest := []) ⟨hx, hb, hml, hown, hts⟩ (r_X8_fail l dC dI L kd tys f H.size g.2.2.2.1 q0_ mq0_ kq0_ 6 (bd_sub kb_6 (by decide)) r_11 y1_ by1_ (g.fcts [14] rfl)) (cwV 2 hts (gV_ t_1215 t_1107 t_1108 t_184 t_1109) rfl rfl rfl (by decide +kernel) ⟨(Nat.le_of_ble_eq_true rfl), (Nat.le_of_ble_eq_true rfl)⟩) (pre3V g hK mq0_ kq0_ (by decide) (q := (RX8, TX8, 10)) rfl) rfl rfl hl.1 rfl (lv_room (Nat.le_of_ble_eq_true rfl)) dX0_closeArgument_155 ⟨(Nat.le_of_ble_eq_true rfl), (Nat.le_of_ble_eq_true rfl)⟩) g hK (by decide) (by decide) (fx' := [(0, 12, a0_, .int 1), (6, 3, a_37, .int x_38), (7, 2, q2_, .ref a_36), (0, 10, a0_, .int x_28), (0, 7, a0_, .ref a_25), (0, 6, a0_, .ref a_20), (0, 5, a0_, .ref a_3), (0, 0, a0_, .ref q0_), (0, 1, a0_, .ref q1_), (0, 2, a0_, .ref q2_), (0, 3, a0_, .ref q3_), (5, 1, q1_, .ref q4_), (0, 8, a0_, .int y0_)]) rfl (fun fr_47 H locs hp hMr_47 g => ?_)
          obtain ⟨x_48, h_49, hF_50⟩ := hp
          have hG_51 := eOK.frame hMr_47 go_.2.2.2.1 ma0_ ka0_ (by decide) (by decide) hG_42
          have g := g.more hF_50
          subst hQ
          exact W.vret hx hb hr (fun t ht hW => ⟨⟨_, rfl, Or.inr (⟨x_48, h_49, (g.fcts [0, 1] rfl)⟩), q3_of g hK ht hW⟩, g.2.2.1.F ht⟩) g.2.2.1.2.2 dX0_closeArgument_158
    · have fc_13 := neq_f c_13
      refine lv_iload_n hx hb dX0_closeArgument_57 rfl (lv_at hl 5 rfl) ?_
      refine lv_bipush (v := 41) hx hb dX0_closeArgument_58 (by decide) ?_
      have kb_41 : bd 41 41 (41 : Int32) := ⟨by decide, by decide⟩
      refine lv_icmp_eq (tgt := 74) hx hb dX0_closeArgument_60 (by decide) (fun c_52 => ?_) (fun c_52 => ?_)
      · have fc_52 := eq_f c_52
        have b_53 : bd 41 41 x1_ := eqX fc_52 (bdT x1_) kb_41 (by decide)
        refine lv_aload_n hx hb dX0_closeArgument_74 rfl (lv_at hl 4 rfl) ?_
        refine g_getk (C := RX0) (T := TX0) (N := 14) hx hb hts (mc_ inX0) hown hK g rfl 0 (by decide) rfl (hts _ (List.mem_cons_of_mem _ t_373)) (fun _ h9 => h9) 1 rfl dX0_closeArgument_75 ?_
        have go_ := g
        refine g_callv (va_runV (As := []) (rest := []) ⟨hx, hb, hml, hown, hts⟩ (r_X8_next l dC dI L kd tys fr_11 H.size g.2.2.2.1 q0_ mq0_ kq0_) (cwV 0 hts (gV_ t_1225 t_1103 t_1104 t_184 t_1105) rfl rfl rfl (by decide +kernel) ⟨(Nat.le_of_ble_eq_true rfl), (Nat.le_of_ble_eq_true rfl)⟩) (pre3V g hK mq0_ kq0_ (by decide) (q := (RX8, TX8, 10)) rfl) rfl rfl hl.1 rfl (lv_room (Nat.le_of_ble_eq_true rfl)) dX0_closeArgument_78 ⟨(Nat.le_of_ble_eq_true rfl), (Nat.le_of_ble_eq_true rfl)⟩) g hK (by decide) (by decide) (fx' := [(0, 5, a0_, .ref a_3), (0, 0, a0_, .ref q0_), (0, 1, a0_, .ref q1_), (0, 2, a0_, .ref q2_), (0, 3, a0_, .ref q3_), (5, 1, q1_, .ref q4_), (0, 8, a0_, .int y0_), (8, 8, q0_, .int y1_)]) rfl (fun fr_54 H locs hp hMr_54 g => ?_)
        obtain ⟨x_55, h_56, hF_57⟩ := hp
        have hG_58 := eOK.frame hMr_54 go_.2.2.2.1 ma0_ ka0_ (by decide) (by decide) hG_12
        have g := g.more hF_57
        refine lv_aload_n hx hb dX0_closeArgument_81 rfl (lv_at hl 4 rfl) ?_
        refine g_getr (K := 113) (C := RX0) (T := TX0) (N := 14) hx hb hts (mc_ inX0) hown hK g ma0_ ka0_ (by decide) rfl 6 (by decide) rfl (hts _ (List.mem_cons_of_mem _ t_379)) (fun _ h9 => h9) rfl dX0_closeArgument_82 (fun a_59 ma_59 ka_59 g => ?_)
        refine lv_iload_n hx hb dX0_closeArgument_85 rfl (lv_at hl 3 rfl) ?_
        refine lv_dup2_11 hx hb dX0_closeArgument_86 rfl rfl ?_
        refine g_iald hx hb hK g ma_59 ka_59 (by decide) rfl (in_bd b_2 (by decide)) dX0_closeArgument_87 (fun x_60 bx_60 cx_60 => ?_)
        refine lv_iconst (v := 1) hx hb dX0_closeArgument_88 (by decide) ?_
        refine lv_iadd hx hb dX0_closeArgument_89 ?_
        refine lv_topi (fun y_61 ey_61 => ?_)
        have go_ := g
        refine g_iast hx hb hK g ma_59 ka_59 (by decide) rfl (in_bd b_2 (by decide)) (bdT y_61) (by decide) dX0_closeArgument_90 (fun f H locs hM_62 g => ?_)
        have hG_63 := eOK.frame hM_62 go_.2.2.2.1 ma0_ ka0_ (by decide) (by decide) hG_58
        refine lv_aload_n hx hb dX0_closeArgument_91 rfl (lv_at hl 4 rfl) ?_
        refine g_getr (K := 114) (C := RX0) (T := TX0) (N := 14) hx hb hts (mc_ inX0) hown hK g ma0_ ka0_ (by decide) rfl 7 (by decide) rfl (hts _ (List.mem_cons_of_mem _ t_380)) (fun _ h9 => h9) rfl dX0_closeArgument_92 (fun a_64 ma_64 ka_64 g => ?_)
        refine lv_iload_n hx hb dX0_closeArgument_95 rfl (lv_at hl 3 rfl) ?_
        refine lv_aload_n hx hb dX0_closeArgument_96 rfl (lv_at hl 4 rfl) ?_
        refine g_getk (C := RX0) (T := TX0) (N := 14) hx hb hts (mc_ inX0) hown hK g rfl 7 (by decide) rfl (hts _ (List.mem_cons_of_mem _ t_380)) (fun _ h9 => h9) 0 rfl dX0_closeArgument_97 ?_
        refine lv_iload_n hx hb dX0_closeArgument_100 rfl (lv_at hl 3 rfl) ?_
        refine g_iald hx hb hK g ma_64 ka_64 (by decide) rfl (in_bd b_2 (by decide)) dX0_closeArgument_101 (fun x_65 bx_65 cx_65 => ?_)
        refine lv_aload_n hx hb dX0_closeArgument_102 rfl (lv_at hl 4 rfl) ?_
        have go_ := g
        refine g_calli (va_runV (As := []) (rest := [.int x_65, .int y_1, .ref a_64]) ⟨hx, hb, hml, hown, hts⟩ (r_X0_takeHeight l dC dI L kd tys f H.size g.2.2.2.1 a0_ ma0_ ka0_) (cwV 0 hts (gV_ t_1199 t_1201 t_16 t_190 t_1202) rfl rfl rfl (by decide +kernel) ⟨(Nat.le_of_ble_eq_true rfl), (Nat.le_of_ble_eq_true rfl)⟩) (pre3V g hK ma0_ ka0_ (by decide) (q := (RX0, TX0, 14)) rfl) rfl rfl hl.1 rfl (lv_room (Nat.le_of_ble_eq_true rfl)) dX0_closeArgument_103 ⟨(Nat.le_of_ble_eq_true rfl), (Nat.le_of_ble_eq_true rfl)⟩) g hK (by decide) (by decide) (fx' := [(0, 7, a0_, .ref a_64), (0, 6, a0_, .ref a_59), (8, 6, q0_, .int x_55), (0, 5, a0_, .ref a_3), (0, 0, a0_, .ref q0_), (0, 1, a0_, .ref q1_), (0, 2, a0_, .ref q2_), (0, 3, a0_, .ref q3_), (5, 1, q1_, .ref q4_), (0, 8, a0_, .int y0_), (8, 8, q0_, .int y1_)]) rfl (fun r_66 fr_66 H locs hp hMr_66 g => ?_)
        obtain ⟨x_67, h_68, hF_69⟩ := hp
        have hG_70 := eOK.frame hMr_66 go_.2.2.2.1 ma0_ ka0_ (by decide) (by decide) hG_63
        have g := g.more hF_69
        refine va_mmax hx hb (hml.trans hl.1.symm) hown (hts _ (List.mem_cons_of_mem _ t_1194)) (hts _ (List.mem_cons_of_mem _ t_1041)) (hts _ (List.mem_cons_of_mem _ t_204)) (hts _ (List.mem_cons_of_mem _ t_1042)) (Nat.le_of_ble_eq_true rfl) (Nat.le_of_ble_eq_true rfl) (Nat.le_of_ble_eq_true rfl) (Nat.le_of_ble_eq_true rfl) dX0_closeArgument_106 ?_
        refine lv_topi (fun y_71 ey_71 => ?_)
        have ty_71 : y_71.toInt = max x_65.toInt r_66.toInt := by rw [ey_71]; exact mmax_ok _ _
        have b_72 : bd (-2147483648) 2147483647 y_71 := max_rg ty_71 (bdT x_65) (bdT r_66) (by decide)
        have go_ := g
        refine g_iast hx hb hK g ma_64 ka_64 (by decide) rfl (in_bd b_2 (by decide)) b_72 (by decide) dX0_closeArgument_109 (fun f H locs hM_73 g => ?_)
        have hG_74 := eOK.frame hM_73 go_.2.2.2.1 ma0_ ka0_ (by decide) (by decide) hG_70
        refine lv_aload_n hx hb dX0_closeArgument_110 rfl (lv_at hl 4 rfl) ?_
        refine g_getk (C := RX0) (T := TX0) (N := 14) hx hb hts (mc_ inX0) hown hK g rfl 2 (by decide) rfl (hts _ (List.mem_cons_of_mem _ t_375)) (fun _ h9 => h9) 7 rfl dX0_closeArgument_111 ?_
        refine g_getr (K := 137) (C := RX7) (T := TX7) (N := 19) hx hb hts (mc_ inX7) hown hK g mq2_ kq2_ (by decide) rfl 2 (by decide) rfl (hts _ (List.mem_cons_of_mem _ t_633)) (fun _ h9 => h9) rfl dX0_closeArgument_114 (fun a_75 ma_75 ka_75 g => ?_)
        refine lv_iload hx hb dX0_closeArgument_117 (lv_at hl 1 rfl) ?_
        refine g_aald hx hb hK g ma_75 ka_75 (by decide) rfl (by decide) (in_bd b_10 (by decide)) dX0_closeArgument_119 (fun a_76 ma_76 ua_76 wa_76 => ?_)
        have ka_76 : kd a_76 = 6 := by omega
        refine g_geti (C := RX6) (T := TX6) (N := 13) hx hb hts (mc_ inX6) hown hK g ma_76 ka_76 (by decide) rfl 3 (by decide) rfl (hts _ (List.mem_cons_of_mem _ t_564)) (fun _ h9 => h9) rfl dX0_closeArgument_120 (fun x_77 bx_77 g => ?_)
        refine lv_istore (lv' := [(6, .int x_77), (5, .int r_11), (4, .int x_4), (3, .int x_4), (2, .int y_1), (0, .ref a0_), (1, .int x1_)]) hx hb dX0_closeArgument_123 hl (by decide) rfl (fun ls hl => ?_)
        refine lv_iload_n hx hb dX0_closeArgument_125 rfl (lv_at hl 6 rfl) ?_
        refine lv_bipush (v := 44) hx hb dX0_closeArgument_126 (by decide) ?_
        refine lv_icmp_ne (tgt := 159) hx hb dX0_closeArgument_128 (by decide) (fun c_78 => ?_) (fun c_78 => ?_)
        · have fc_78 := neq_f c_78
          refine lv_aload_n hx hb dX0_closeArgument_159 rfl (lv_at hl 5 rfl) ?_
          refine g_getk (C := RX0) (T := TX0) (N := 14) hx hb hts (mc_ inX0) hown hK g rfl 6 (by decide) rfl (hts _ (List.mem_cons_of_mem _ t_379)) (fun _ h9 => h9) 4 rfl dX0_closeArgument_160 ?_
          refine lv_iload_n hx hb dX0_closeArgument_163 rfl (lv_at hl 4 rfl) ?_
          refine g_iald hx hb hK g ma_59 ka_59 (by decide) rfl (in_bd b_2 (by decide)) dX0_closeArgument_164 (fun x_79 bx_79 cx_79 => ?_)
          refine lv_iload hx hb dX0_closeArgument_165 (lv_at hl 0 rfl) ?_
          refine lv_icmp_ge (tgt := 181) hx hb dX0_closeArgument_167 (by decide) (fun c_80 => ?_) (fun c_80 => ?_)
          · have fc_80 := le_f c_80
            have b_81 : bd 0 2147483647 x_79 := leR fc_80 bx_77 (bdT x_79) (by decide)
            refine lv_aload_n hx hb dX0_closeArgument_181 rfl (lv_at hl 5 rfl) ?_
            refine lv_dup hx hb dX0_closeArgument_182 rfl ?_
            refine g_getk (C := RX0) (T := TX0) (N := 14) hx hb hts (mc_ inX0) hown hK g rfl 8 (by decide) rfl (hts _ (List.mem_cons_of_mem _ t_381)) (fun _ h9 => h9) 12 rfl dX0_closeArgument_183 ?_
            refine lv_iconst (v := 1) hx hb dX0_closeArgument_186 (by decide) ?_
            refine lv_isub hx hb dX0_closeArgument_187 ?_
            refine lv_topi (fun y_82 ey_82 => ?_)
            obtain rfl : y_1 = y_82 := ey_1.trans ey_82.symm
            have go_ := g
            refine g_put (C := RX0) (T := TX0) (N := 14) hx hb hts (mc_ inX0) tyX0 tyX0_ok nmX0 hown hK g ma0_ ka0_ (by decide) rfl 8 (by decide) (hts _ (List.mem_cons_of_mem _ t_381)) (fun _ h9 => h9) rfl rfl (okV_i (bd_sub b_2 (by decide))) rfl rfl (by decide) (Or.inr (Or.inl (by decide))) (fx' := [(6, 3, a_76, .int x_77), (7, 2, q2_, .ref a_75), (0, 10, a0_, .int x_67), (0, 7, a0_, .ref a_64), (0, 6, a0_, .ref a_59), (8, 6, q0_, .int x_55), (0, 5, a0_, .ref a_3), (0, 0, a0_, .ref q0_), (0, 1, a0_, .ref q1_), (0, 2, a0_, .ref q2_), (0, 3, a0_, .ref q3_), (5, 1, q1_, .ref q4_), (8, 8, q0_, .int y1_)]) rfl dX0_closeArgument_188 (fun f H locs hM_83 g => ?_)
            have hG_84 := eOK.frame hM_83 go_.2.2.2.1 ma0_ ka0_ (by decide) (by decide) hG_74
            refine lv_aload_n hx hb dX0_closeArgument_191 rfl (lv_at hl 5 rfl) ?_
            refine lv_dup hx hb dX0_closeArgument_192 rfl ?_
            refine g_geti (C := RX0) (T := TX0) (N := 14) hx hb hts (mc_ inX0) hown hK g ma0_ ka0_ (by decide) rfl 11 (by decide) rfl (hts _ (List.mem_cons_of_mem _ t_384)) (fun _ h9 => h9) rfl dX0_closeArgument_193 (fun x_85 bx_85 g => ?_)
            refine lv_iconst (v := 1) hx hb dX0_closeArgument_196 (by decide) ?_
            refine lv_isub hx hb dX0_closeArgument_197 ?_
            refine lv_topi (fun y_86 ey_86 => ?_)
            have go_ := g
            refine g_put (C := RX0) (T := TX0) (N := 14) hx hb hts (mc_ inX0) tyX0 tyX0_ok nmX0 hown hK g ma0_ ka0_ (by decide) rfl 11 (by decide) (hts _ (List.mem_cons_of_mem _ t_384)) (fun _ h9 => h9) rfl rfl (okV_i (bdT y_86)) rfl rfl (by decide) (Or.inr (Or.inl (by decide))) (fx' := [(0, 8, a0_, .int y_1), (6, 3, a_76, .int x_77), (7, 2, q2_, .ref a_75), (0, 10, a0_, .int x_67), (0, 7, a0_, .ref a_64), (0, 6, a0_, .ref a_59), (8, 6, q0_, .int x_55), (0, 5, a0_, .ref a_3), (0, 0, a0_, .ref q0_), (0, 1, a0_, .ref q1_), (0, 2, a0_, .ref q2_), (0, 3, a0_, .ref q3_), (5, 1, q1_, .ref q4_), (8, 8, q0_, .int y1_)]) rfl dX0_closeArgument_198 (fun f H locs hM_87 g => ?_)
            have hG_88 := eOK.frame hM_87 go_.2.2.2.1 ma0_ ka0_ (by decide) (by decide) hG_84
            refine lv_aload_n hx hb dX0_closeArgument_201 rfl (lv_at hl 5 rfl) ?_
            refine g_getk (C := RX0) (T := TX0) (N := 14) hx hb hts (mc_ inX0) hown hK g rfl 7 (by decide) rfl (hts _ (List.mem_cons_of_mem _ t_380)) (fun _ h9 => h9) 5 rfl dX0_closeArgument_202 ?_
            refine lv_iload_n hx hb dX0_closeArgument_205 rfl (lv_at hl 4 rfl) ?_
            refine g_iald hx hb hK g ma_64 ka_64 (by decide) rfl (in_bd b_2 (by decide)) dX0_closeArgument_206 (fun x_89 bx_89 cx_89 => ?_)
            refine lv_iconst (v := 1) hx hb dX0_closeArgument_207 (by decide) ?_
            refine lv_iadd hx hb dX0_closeArgument_208 ?_
            refine lv_topi (fun y_90 ey_90 => ?_)
            refine lv_bipush (v := 12) hx hb dX0_closeArgument_209 (by decide) ?_
            have kb_12 : bd 12 12 (12 : Int32) := ⟨by decide, by decide⟩
            refine lv_icmp_le (tgt := 229) hx hb dX0_closeArgument_211 (by decide) (fun c_91 => ?_) (fun c_91 => ?_)
            · have fc_91 := le_f c_91
              have b_92 : bd (-2147483648) 12 y_90 := leL fc_91 (bdT y_90) kb_12 (by decide)
              refine lv_aload_n hx hb dX0_closeArgument_229 rfl (lv_at hl 5 rfl) ?_
              refine g_getk (C := RX0) (T := TX0) (N := 14) hx hb hts (mc_ inX0) hown hK g rfl 2 (by decide) rfl (hts _ (List.mem_cons_of_mem _ t_375)) (fun _ h9 => h9) 11 rfl dX0_closeArgument_230 ?_
              refine lv_bipush (v := 13) hx hb dX0_closeArgument_233 (by decide) ?_
              refine lv_iconst (v := 0) hx hb dX0_closeArgument_235 (by decide) ?_
              have go_ := g
              refine g_callv (va_runV (As := [.int 13, .int 0]) (rest := []) ⟨hx, hb, hml, hown, hts⟩ (r_X7_emit l dC dI L kd tys f H.size g.2.2.2.1 q2_ mq2_ kq2_ 13 0) (cwV 2 hts (gV_ t_1203 t_1204 t_1205 t_191 t_1206) rfl rfl rfl (by decide +kernel) ⟨(Nat.le_of_ble_eq_true rfl), (Nat.le_of_ble_eq_true rfl)⟩) (pre3V g hK mq2_ kq2_ (by decide) (q := (RX7, TX7, 19)) rfl) rfl rfl hl.1 rfl (lv_room (Nat.le_of_ble_eq_true rfl)) dX0_closeArgument_236 ⟨(Nat.le_of_ble_eq_true rfl), (Nat.le_of_ble_eq_true rfl)⟩) g hK (by decide) (by decide) (fx' := [(0, 11, a0_, .int y_86), (0, 8, a0_, .int y_1), (6, 3, a_76, .int x_77), (7, 2, q2_, .ref a_75), (0, 10, a0_, .int x_67), (0, 7, a0_, .ref a_64), (0, 6, a0_, .ref a_59), (8, 6, q0_, .int x_55), (0, 5, a0_, .ref a_3), (0, 0, a0_, .ref q0_), (0, 1, a0_, .ref q1_), (0, 2, a0_, .ref q2_), (0, 3, a0_, .ref q3_), (5, 1, q1_, .ref q4_), (8, 8, q0_, .int y1_)]) rfl (fun fr_93 H locs hp hMr_93 g => ?_)
              obtain ⟨x_94, h_95, hF_96⟩ := hp
              have hG_97 := eOK.frame hMr_93 go_.2.2.2.1 ma0_ ka0_ (by decide) (by decide) hG_88
              have g := g.more hF_96
              refine lv_aload_n hx hb dX0_closeArgument_239 rfl (lv_at hl 5 rfl) ?_
              refine g_getk (C := RX0) (T := TX0) (N := 14) hx hb hts (mc_ inX0) hown hK g rfl 2 (by decide) rfl (hts _ (List.mem_cons_of_mem _ t_375)) (fun _ h9 => h9) 12 rfl dX0_closeArgument_240 ?_
              refine lv_aload_n hx hb dX0_closeArgument_243 rfl (lv_at hl 5 rfl) ?_
              refine g_getk (C := RX0) (T := TX0) (N := 14) hx hb hts (mc_ inX0) hown hK g rfl 3 (by decide) rfl (hts _ (List.mem_cons_of_mem _ t_376)) (fun _ h9 => h9) 13 rfl dX0_closeArgument_244 ?_
              refine lv_iload_n hx hb dX0_closeArgument_247 rfl (lv_at hl 4 rfl) ?_
              refine g_iald hx hb hK g mq3_ kq3_ (by decide) rfl (in_bd b_2 (by decide)) dX0_closeArgument_248 (fun x_98 bx_98 cx_98 => ?_)
              obtain rfl : x_5 = x_98 := el_same cx_5 cx_98 ((arr_eq hMr_93 mq3_ kq3_ (by decide) rfl).trans ((arr_eq hM_87 mq3_ kq3_ (by decide) rfl).trans ((arr_eq hM_83 mq3_ kq3_ (by decide) rfl).trans ((arr_eq hM_73 mq3_ kq3_ (by decide) rfl).trans ((arr_eq hMr_66 mq3_ kq3_ (by decide) rfl).trans ((arr_eq hM_62 mq3_ kq3_ (by decide) rfl).trans ((arr_eq hMr_54 mq3_ kq3_ (by decide) rfl).trans (arr_eq hMr_11 mq3_ kq3_ (by decide) rfl))))))))
              refine lv_iconst (v := 2) hx hb dX0_closeArgument_249 (by decide) ?_
              refine lv_icmp_ne (tgt := 258) hx hb dX0_closeArgument_250 (by decide) (fun c_99 => ?_) (fun c_99 => ?_)
              · have fc_99 := neq_f c_99
                refine lv_bipush (v := 18) hx hb dX0_closeArgument_258 (by decide) ?_
                refine lv_iload_n hx hb dX0_closeArgument_260 rfl (lv_at hl 3 rfl) ?_
                have go_ := g
                refine g_callv (va_runV (As := [.int 18, .int x_4]) (rest := []) ⟨hx, hb, hml, hown, hts⟩ (r_X7_emit l dC dI L kd tys fr_93 H.size g.2.2.2.1 q2_ mq2_ kq2_ 18 x_4) (cwV 2 hts (gV_ t_1203 t_1204 t_1205 t_191 t_1206) rfl rfl rfl (by decide +kernel) ⟨(Nat.le_of_ble_eq_true rfl), (Nat.le_of_ble_eq_true rfl)⟩) (pre3V g hK mq2_ kq2_ (by decide) (q := (RX7, TX7, 19)) rfl) rfl rfl hl.1 rfl (lv_room (Nat.le_of_ble_eq_true rfl)) dX0_closeArgument_261 ⟨(Nat.le_of_ble_eq_true rfl), (Nat.le_of_ble_eq_true rfl)⟩) g hK (by decide) (by decide) (fx' := [(0, 11, a0_, .int y_86), (0, 8, a0_, .int y_1), (6, 3, a_76, .int x_77), (7, 2, q2_, .ref a_75), (0, 10, a0_, .int x_67), (0, 7, a0_, .ref a_64), (0, 6, a0_, .ref a_59), (8, 6, q0_, .int x_55), (0, 5, a0_, .ref a_3), (0, 0, a0_, .ref q0_), (0, 1, a0_, .ref q1_), (0, 2, a0_, .ref q2_), (0, 3, a0_, .ref q3_), (5, 1, q1_, .ref q4_), (8, 8, q0_, .int y1_)]) rfl (fun fr_100 H locs hp hMr_100 g => ?_)
                obtain ⟨x_101, h_102, hF_103⟩ := hp
                have hG_104 := eOK.frame hMr_100 go_.2.2.2.1 ma0_ ka0_ (by decide) (by decide) hG_97
                have g := g.more hF_103
                refine lv_aload_n hx hb dX0_closeArgument_264 rfl (lv_at hl 5 rfl) ?_
                refine lv_aload_n hx hb dX0_closeArgument_265 rfl (lv_at hl 5 rfl) ?_
                refine g_getk (C := RX0) (T := TX0) (N := 14) hx hb hts (mc_ inX0) hown hK g rfl 7 (by decide) rfl (hts _ (List.mem_cons_of_mem _ t_380)) (fun _ h9 => h9) 6 rfl dX0_closeArgument_266 ?_
                refine lv_iload_n hx hb dX0_closeArgument_269 rfl (lv_at hl 4 rfl) ?_
                refine g_iald hx hb hK g ma_64 ka_64 (by decide) rfl (in_bd b_2 (by decide)) dX0_closeArgument_270 (fun x_105 bx_105 cx_105 => ?_)
                obtain rfl : x_89 = x_105 := el_same cx_89 cx_105 ((arr_eq hMr_100 ma_64 ka_64 (by decide) rfl).trans (arr_eq hMr_93 ma_64 ka_64 (by decide) rfl))
                refine lv_iconst (v := 1) hx hb dX0_closeArgument_271 (by decide) ?_
                refine lv_iadd hx hb dX0_closeArgument_272 ?_
                refine lv_topi (fun y_106 ey_106 => ?_)
                obtain rfl : y_90 = y_106 := ey_90.trans ey_106.symm
                have go_ := g
                refine g_callv (va_runV (As := [.int y_90]) (rest := []) ⟨hx, hb, hml, hown, hts⟩ (r_X0_addWhole l dC dI L kd tys fr_100 H.size g.2.2.2.1 a0_ ma0_ ka0_ y_90) (cwV 1 hts (gV_ t_1211 t_1213 t_17 t_190 t_1214) rfl rfl rfl (by decide +kernel) ⟨(Nat.le_of_ble_eq_true rfl), (Nat.le_of_ble_eq_true rfl)⟩) (pre3V g hK ma0_ ka0_ (by decide) (q := (RX0, TX0, 14)) rfl) rfl rfl hl.1 rfl (lv_room (Nat.le_of_ble_eq_true rfl)) dX0_closeArgument_273 ⟨(Nat.le_of_ble_eq_true rfl), (Nat.le_of_ble_eq_true rfl)⟩) g hK (by decide) (by decide) (fx' := [(7, 6, q2_, .int x_101), (0, 11, a0_, .int y_86), (0, 8, a0_, .int y_1), (6, 3, a_76, .int x_77), (7, 2, q2_, .ref a_75), (0, 7, a0_, .ref a_64), (0, 6, a0_, .ref a_59), (8, 6, q0_, .int x_55), (0, 5, a0_, .ref a_3), (0, 0, a0_, .ref q0_), (0, 1, a0_, .ref q1_), (0, 2, a0_, .ref q2_), (0, 3, a0_, .ref q3_), (5, 1, q1_, .ref q4_), (8, 8, q0_, .int y1_)]) rfl (fun fr_107 H locs hp hMr_107 g => ?_)
                obtain ⟨x_108, h_109, hF_110⟩ := hp
                have hG_111 := eOK.frame hMr_107 go_.2.2.2.1 ma0_ ka0_ (by decide) (by decide) hG_104
                have g := g.more hF_110
                subst hQ
                exact W.vret hx hb hr (fun t ht hW => ⟨⟨_, rfl, Or.inl ⟨(bd_sub b_53 (by decide)), x_55, h_56, (g.fcts [9, 16] rfl)⟩, q3_of g hK ht hW⟩, g.2.2.1.F ht⟩) g.2.2.1.2.2 dX0_closeArgument_276
              · have fc_99 := eq_f c_99
                have b_112 : bd 3 2 x_5 := eqX fc_99 b_9 kb_2 (by decide)
                exact bd_no b_112 (by decide)
            · have fc_91 := nle_f c_91
              have b_113 : bd 13 2147483647 y_90 := ltR fc_91 kb_12 (bdT y_90) (by decide)
              refine lv_aload_n hx hb dX0_closeArgument_214 rfl (lv_at hl 5 rfl) ?_
              refine g_getk (C := RX0) (T := TX0) (N := 14) hx hb hts (mc_ inX0) hown hK g rfl 0 (by decide) rfl (hts _ (List.mem_cons_of_mem _ t_373)) (fun _ h9 => h9) 9 rfl dX0_closeArgument_215 ?_
              refine lv_bipush (v := 7) hx hb dX0_closeArgument_218 (by decide) ?_
              refine lv_aload_n hx hb dX0_closeArgument_220 rfl (lv_at hl 5 rfl) ?_
              refine g_getr (K := 111) (C := RX0) (T := TX0) (N := 14) hx hb hts (mc_ inX0) hown hK g ma0_ ka0_ (by decide) rfl 4 (by decide) rfl (hts _ (List.mem_cons_of_mem _ t_377)) (fun _ h9 => h9) rfl dX0_closeArgument_221 (fun a_114 ma_114 ka_114 g => ?_)
              refine lv_iload_n hx hb dX0_closeArgument_224 rfl (lv_at hl 4 rfl) ?_
              refine g_iald hx hb hK g ma_114 ka_114 (by decide) rfl (in_bd b_2 (by decide)) dX0_closeArgument_225 (fun x_115 bx_115 cx_115 => ?_)
              have kb_7 : bd 7 7 (7 : Int32) := ⟨by decide, by decide⟩
              have go_ := g
              refine g_callv (va_runV (As := [.int 7, .int x_115]) (rest := []) ⟨hx, hb, hml, hown, hts⟩ (r_X8_fail l dC dI L kd tys f H.size g.2.2.2.1 q0_ mq0_ kq0_ 7 (bd_sub kb_7 (by decide)) x_115 y1_ by1_ (g.fcts [15] rfl)) (cwV 2 hts (gV_ t_1215 t_1107 t_1108 t_184 t_1109) rfl rfl rfl (by decide +kernel) ⟨(Nat.le_of_ble_eq_true rfl), (Nat.le_of_ble_eq_true rfl)⟩) (pre3V g hK mq0_ kq0_ (by decide) (q := (RX8, TX8, 10)) rfl) rfl rfl hl.1 rfl (lv_room (Nat.le_of_ble_eq_true rfl)) dX0_closeArgument_226 ⟨(Nat.le_of_ble_eq_true rfl), (Nat.le_of_ble_eq_true rfl)⟩) g hK (by decide) (by decide) (fx' := [(0, 4, a0_, .ref a_114), (0, 11, a0_, .int y_86), (0, 8, a0_, .int y_1), (6, 3, a_76, .int x_77), (7, 2, q2_, .ref a_75), (0, 10, a0_, .int x_67), (0, 7, a0_, .ref a_64), (0, 6, a0_, .ref a_59), (0, 5, a0_, .ref a_3), (0, 0, a0_, .ref q0_), (0, 1, a0_, .ref q1_), (0, 2, a0_, .ref q2_), (0, 3, a0_, .ref q3_), (5, 1, q1_, .ref q4_)]) rfl (fun fr_116 H locs hp hMr_116 g => ?_)
              obtain ⟨x_117, h_118, hF_119⟩ := hp
              have hG_120 := eOK.frame hMr_116 go_.2.2.2.1 ma0_ ka0_ (by decide) (by decide) hG_88
              have g := g.more hF_119
              refine lv_aload_n hx hb dX0_closeArgument_229 rfl (lv_at hl 5 rfl) ?_
              refine g_getk (C := RX0) (T := TX0) (N := 14) hx hb hts (mc_ inX0) hown hK g rfl 2 (by decide) rfl (hts _ (List.mem_cons_of_mem _ t_375)) (fun _ h9 => h9) 13 rfl dX0_closeArgument_230 ?_
              refine lv_bipush (v := 13) hx hb dX0_closeArgument_233 (by decide) ?_
              refine lv_iconst (v := 0) hx hb dX0_closeArgument_235 (by decide) ?_
              have go_ := g
              refine g_callv (va_runV (As := [.int 13, .int 0]) (rest := []) ⟨hx, hb, hml, hown, hts⟩ (r_X7_emit l dC dI L kd tys fr_116 H.size g.2.2.2.1 q2_ mq2_ kq2_ 13 0) (cwV 2 hts (gV_ t_1203 t_1204 t_1205 t_191 t_1206) rfl rfl rfl (by decide +kernel) ⟨(Nat.le_of_ble_eq_true rfl), (Nat.le_of_ble_eq_true rfl)⟩) (pre3V g hK mq2_ kq2_ (by decide) (q := (RX7, TX7, 19)) rfl) rfl rfl hl.1 rfl (lv_room (Nat.le_of_ble_eq_true rfl)) dX0_closeArgument_236 ⟨(Nat.le_of_ble_eq_true rfl), (Nat.le_of_ble_eq_true rfl)⟩) g hK (by decide) (by decide) (fx' := [(8, 6, q0_, .int 1201), (8, 8, q0_, .int x_117), (0, 4, a0_, .ref a_114), (0, 11, a0_, .int y_86), (0, 8, a0_, .int y_1), (6, 3, a_76, .int x_77), (7, 2, q2_, .ref a_75), (0, 10, a0_, .int x_67), (0, 7, a0_, .ref a_64), (0, 6, a0_, .ref a_59), (0, 5, a0_, .ref a_3), (0, 0, a0_, .ref q0_), (0, 1, a0_, .ref q1_), (0, 2, a0_, .ref q2_), (0, 3, a0_, .ref q3_), (5, 1, q1_, .ref q4_)]) rfl (fun fr_121 H locs hp hMr_121 g => ?_)
              obtain ⟨x_122, h_123, hF_124⟩ := hp
              have hG_125 := eOK.frame hMr_121 go_.2.2.2.1 ma0_ ka0_ (by decide) (by decide) hG_120
              have g := g.more hF_124
              refine lv_aload_n hx hb dX0_closeArgument_239 rfl (lv_at hl 5 rfl) ?_
              refine g_getk (C := RX0) (T := TX0) (N := 14) hx hb hts (mc_ inX0) hown hK g rfl 2 (by decide) rfl (hts _ (List.mem_cons_of_mem _ t_375)) (fun _ h9 => h9) 14 rfl dX0_closeArgument_240 ?_
              refine lv_aload_n hx hb dX0_closeArgument_243 rfl (lv_at hl 5 rfl) ?_
              refine g_getk (C := RX0) (T := TX0) (N := 14) hx hb hts (mc_ inX0) hown hK g rfl 3 (by decide) rfl (hts _ (List.mem_cons_of_mem _ t_376)) (fun _ h9 => h9) 15 rfl dX0_closeArgument_244 ?_
              refine lv_iload_n hx hb dX0_closeArgument_247 rfl (lv_at hl 4 rfl) ?_
              refine g_iald hx hb hK g mq3_ kq3_ (by decide) rfl (in_bd b_2 (by decide)) dX0_closeArgument_248 (fun x_126 bx_126 cx_126 => ?_)
              obtain rfl : x_5 = x_126 := el_same cx_5 cx_126 ((arr_eq hMr_121 mq3_ kq3_ (by decide) rfl).trans ((arr_eq hMr_116 mq3_ kq3_ (by decide) rfl).trans ((arr_eq hM_87 mq3_ kq3_ (by decide) rfl).trans ((arr_eq hM_83 mq3_ kq3_ (by decide) rfl).trans ((arr_eq hM_73 mq3_ kq3_ (by decide) rfl).trans ((arr_eq hMr_66 mq3_ kq3_ (by decide) rfl).trans ((arr_eq hM_62 mq3_ kq3_ (by decide) rfl).trans ((arr_eq hMr_54 mq3_ kq3_ (by decide) rfl).trans (arr_eq hMr_11 mq3_ kq3_ (by decide) rfl)))))))))
              refine lv_iconst (v := 2) hx hb dX0_closeArgument_249 (by decide) ?_
              refine lv_icmp_ne (tgt := 258) hx hb dX0_closeArgument_250 (by decide) (fun c_127 => ?_) (fun c_127 => ?_)
              · have fc_127 := neq_f c_127
                refine lv_bipush (v := 18) hx hb dX0_closeArgument_258 (by decide) ?_
                refine lv_iload_n hx hb dX0_closeArgument_260 rfl (lv_at hl 3 rfl) ?_
                have go_ := g
                refine g_callv (va_runV (As := [.int 18, .int x_4]) (rest := []) ⟨hx, hb, hml, hown, hts⟩ (r_X7_emit l dC dI L kd tys fr_121 H.size g.2.2.2.1 q2_ mq2_ kq2_ 18 x_4) (cwV 2 hts (gV_ t_1203 t_1204 t_1205 t_191 t_1206) rfl rfl rfl (by decide +kernel) ⟨(Nat.le_of_ble_eq_true rfl), (Nat.le_of_ble_eq_true rfl)⟩) (pre3V g hK mq2_ kq2_ (by decide) (q := (RX7, TX7, 19)) rfl) rfl rfl hl.1 rfl (lv_room (Nat.le_of_ble_eq_true rfl)) dX0_closeArgument_261 ⟨(Nat.le_of_ble_eq_true rfl), (Nat.le_of_ble_eq_true rfl)⟩) g hK (by decide) (by decide) (fx' := [(8, 6, q0_, .int 1201), (8, 8, q0_, .int x_117), (0, 4, a0_, .ref a_114), (0, 11, a0_, .int y_86), (0, 8, a0_, .int y_1), (6, 3, a_76, .int x_77), (7, 2, q2_, .ref a_75), (0, 10, a0_, .int x_67), (0, 7, a0_, .ref a_64), (0, 6, a0_, .ref a_59), (0, 5, a0_, .ref a_3), (0, 0, a0_, .ref q0_), (0, 1, a0_, .ref q1_), (0, 2, a0_, .ref q2_), (0, 3, a0_, .ref q3_), (5, 1, q1_, .ref q4_)]) rfl (fun fr_128 H locs hp hMr_128 g => ?_)
                obtain ⟨x_129, h_130, hF_131⟩ := hp
                have hG_132 := eOK.frame hMr_128 go_.2.2.2.1 ma0_ ka0_ (by decide) (by decide) hG_125
                have g := g.more hF_131
                refine lv_aload_n hx hb dX0_closeArgument_264 rfl (lv_at hl 5 rfl) ?_
                refine lv_aload_n hx hb dX0_closeArgument_265 rfl (lv_at hl 5 rfl) ?_
                refine g_getk (C := RX0) (T := TX0) (N := 14) hx hb hts (mc_ inX0) hown hK g rfl 7 (by decide) rfl (hts _ (List.mem_cons_of_mem _ t_380)) (fun _ h9 => h9) 9 rfl dX0_closeArgument_266 ?_
                refine lv_iload_n hx hb dX0_closeArgument_269 rfl (lv_at hl 4 rfl) ?_
                refine g_iald hx hb hK g ma_64 ka_64 (by decide) rfl (in_bd b_2 (by decide)) dX0_closeArgument_270 (fun x_133 bx_133 cx_133 => ?_)
                obtain rfl : x_89 = x_133 := el_same cx_89 cx_133 ((arr_eq hMr_128 ma_64 ka_64 (by decide) rfl).trans ((arr_eq hMr_121 ma_64 ka_64 (by decide) rfl).trans (arr_eq hMr_116 ma_64 ka_64 (by decide) rfl)))
                refine lv_iconst (v := 1) hx hb dX0_closeArgument_271 (by decide) ?_
                refine lv_iadd hx hb dX0_closeArgument_272 ?_
                refine lv_topi (fun y_134 ey_134 => ?_)
                obtain rfl : y_90 = y_134 := ey_90.trans ey_134.symm
                have go_ := g
                refine g_callv (va_runV (As := [.int y_90]) (rest := []) ⟨hx, hb, hml, hown, hts⟩ (r_X0_addWhole l dC dI L kd tys fr_128 H.size g.2.2.2.1 a0_ ma0_ ka0_ y_90) (cwV 1 hts (gV_ t_1211 t_1213 t_17 t_190 t_1214) rfl rfl rfl (by decide +kernel) ⟨(Nat.le_of_ble_eq_true rfl), (Nat.le_of_ble_eq_true rfl)⟩) (pre3V g hK ma0_ ka0_ (by decide) (q := (RX0, TX0, 14)) rfl) rfl rfl hl.1 rfl (lv_room (Nat.le_of_ble_eq_true rfl)) dX0_closeArgument_273 ⟨(Nat.le_of_ble_eq_true rfl), (Nat.le_of_ble_eq_true rfl)⟩) g hK (by decide) (by decide) (fx' := [(7, 6, q2_, .int x_129), (8, 6, q0_, .int 1201), (8, 8, q0_, .int x_117), (0, 4, a0_, .ref a_114), (0, 11, a0_, .int y_86), (0, 8, a0_, .int y_1), (6, 3, a_76, .int x_77), (7, 2, q2_, .ref a_75), (0, 7, a0_, .ref a_64), (0, 6, a0_, .ref a_59), (0, 5, a0_, .ref a_3), (0, 0, a0_, .ref q0_), (0, 1, a0_, .ref q1_), (0, 2, a0_, .ref q2_), (0, 3, a0_, .ref q3_), (5, 1, q1_, .ref q4_)]) rfl (fun fr_135 H locs hp hMr_135 g => ?_)
                obtain ⟨x_136, h_137, hF_138⟩ := hp
                have hG_139 := eOK.frame hMr_135 go_.2.2.2.1 ma0_ ka0_ (by decide) (by decide) hG_132
                have g := g.more hF_138
                subst hQ
                exact W.vret hx hb hr (fun t ht hW => ⟨⟨_, rfl, Or.inr (⟨x_117, h_118, (g.fcts [3, 4] rfl)⟩), q3_of g hK ht hW⟩, g.2.2.1.F ht⟩) g.2.2.1.2.2 dX0_closeArgument_276
              · have fc_127 := eq_f c_127
                have b_140 : bd 3 2 x_5 := eqX fc_127 b_9 kb_2 (by decide)
                exact bd_no b_140 (by decide)
          · have fc_80 := nle_f c_80
            have b_141 : bd (-2147483648) 2 x_79 := ltL fc_80 (bdT x_79) bx_77 (by decide)
            refine lv_aload_n hx hb dX0_closeArgument_170 rfl (lv_at hl 5 rfl) ?_
            refine g_getk (C := RX0) (T := TX0) (N := 14) hx hb hts (mc_ inX0) hown hK g rfl 0 (by decide) rfl (hts _ (List.mem_cons_of_mem _ t_373)) (fun _ h9 => h9) 7 rfl dX0_closeArgument_171 ?_
            refine lv_bipush (v := 6) hx hb dX0_closeArgument_174 (by decide) ?_
            refine lv_iload hx hb dX0_closeArgument_176 (lv_at hl 1 rfl) ?_
            have kb_6 : bd 6 6 (6 : Int32) := ⟨by decide, by decide⟩
            have go_ := g
            refine g_callv (va_runV (As := [.int 6, .int r_11]) (rest := []) ⟨hx, hb, hml, hown, hts⟩ (r_X8_fail l dC dI L kd tys f H.size g.2.2.2.1 q0_ mq0_ kq0_ 6 (bd_sub kb_6 (by decide)) r_11 y1_ by1_ (g.fcts [13] rfl)) (cwV 2 hts (gV_ t_1215 t_1107 t_1108 t_184 t_1109) rfl rfl rfl (by decide +kernel) ⟨(Nat.le_of_ble_eq_true rfl), (Nat.le_of_ble_eq_true rfl)⟩) (pre3V g hK mq0_ kq0_ (by decide) (q := (RX8, TX8, 10)) rfl) rfl rfl hl.1 rfl (lv_room (Nat.le_of_ble_eq_true rfl)) dX0_closeArgument_178 ⟨(Nat.le_of_ble_eq_true rfl), (Nat.le_of_ble_eq_true rfl)⟩) g hK (by decide) (by decide) (fx' := [(6, 3, a_76, .int x_77), (7, 2, q2_, .ref a_75), (0, 10, a0_, .int x_67), (0, 7, a0_, .ref a_64), (0, 6, a0_, .ref a_59), (0, 5, a0_, .ref a_3), (0, 0, a0_, .ref q0_), (0, 1, a0_, .ref q1_), (0, 2, a0_, .ref q2_), (0, 3, a0_, .ref q3_), (5, 1, q1_, .ref q4_), (0, 8, a0_, .int y0_)]) rfl (fun fr_142 H locs hp hMr_142 g => ?_)
            obtain ⟨x_143, h_144, hF_145⟩ := hp
            have hG_146 := eOK.frame hMr_142 go_.2.2.2.1 ma0_ ka0_ (by decide) (by decide) hG_74
            have g := g.more hF_145
            refine lv_aload_n hx hb dX0_closeArgument_181 rfl (lv_at hl 5 rfl) ?_
            refine lv_dup hx hb dX0_closeArgument_182 rfl ?_
            refine g_getk (C := RX0) (T := TX0) (N := 14) hx hb hts (mc_ inX0) hown hK g rfl 8 (by decide) rfl (hts _ (List.mem_cons_of_mem _ t_381)) (fun _ h9 => h9) 13 rfl dX0_closeArgument_183 ?_
            refine lv_iconst (v := 1) hx hb dX0_closeArgument_186 (by decide) ?_
            refine lv_isub hx hb dX0_closeArgument_187 ?_
            refine lv_topi (fun y_147 ey_147 => ?_)
            obtain rfl : y_1 = y_147 := ey_1.trans ey_147.symm
            have go_ := g
            refine g_put (C := RX0) (T := TX0) (N := 14) hx hb hts (mc_ inX0) tyX0 tyX0_ok nmX0 hown hK g ma0_ ka0_ (by decide) rfl 8 (by decide) (hts _ (List.mem_cons_of_mem _ t_381)) (fun _ h9 => h9) rfl rfl (okV_i (bd_sub b_2 (by decide))) rfl rfl (by decide) (Or.inr (Or.inl (by decide))) (fx' := [(8, 6, q0_, .int 1201), (8, 8, q0_, .int x_143), (6, 3, a_76, .int x_77), (7, 2, q2_, .ref a_75), (0, 10, a0_, .int x_67), (0, 7, a0_, .ref a_64), (0, 6, a0_, .ref a_59), (0, 5, a0_, .ref a_3), (0, 0, a0_, .ref q0_), (0, 1, a0_, .ref q1_), (0, 2, a0_, .ref q2_), (0, 3, a0_, .ref q3_), (5, 1, q1_, .ref q4_)]) rfl dX0_closeArgument_188 (fun f H locs hM_148 g => ?_)
            have hG_149 := eOK.frame hM_148 go_.2.2.2.1 ma0_ ka0_ (by decide) (by decide) hG_146
            refine lv_aload_n hx hb dX0_closeArgument_191 rfl (lv_at hl 5 rfl) ?_
            refine lv_dup hx hb dX0_closeArgument_192 rfl ?_
            refine g_geti (C := RX0) (T := TX0) (N := 14) hx hb hts (mc_ inX0) hown hK g ma0_ ka0_ (by decide) rfl 11 (by decide) rfl (hts _ (List.mem_cons_of_mem _ t_384)) (fun _ h9 => h9) rfl dX0_closeArgument_193 (fun x_150 bx_150 g => ?_)
            refine lv_iconst (v := 1) hx hb dX0_closeArgument_196 (by decide) ?_
            refine lv_isub hx hb dX0_closeArgument_197 ?_
            refine lv_topi (fun y_151 ey_151 => ?_)
            have go_ := g
            refine g_put (C := RX0) (T := TX0) (N := 14) hx hb hts (mc_ inX0) tyX0 tyX0_ok nmX0 hown hK g ma0_ ka0_ (by decide) rfl 11 (by decide) (hts _ (List.mem_cons_of_mem _ t_384)) (fun _ h9 => h9) rfl rfl (okV_i (bdT y_151)) rfl rfl (by decide) (Or.inr (Or.inl (by decide))) (fx' := [(0, 8, a0_, .int y_1), (8, 6, q0_, .int 1201), (8, 8, q0_, .int x_143), (6, 3, a_76, .int x_77), (7, 2, q2_, .ref a_75), (0, 10, a0_, .int x_67), (0, 7, a0_, .ref a_64), (0, 6, a0_, .ref a_59), (0, 5, a0_, .ref a_3), (0, 0, a0_, .ref q0_), (0, 1, a0_, .ref q1_), (0, 2, a0_, .ref q2_), (0, 3, a0_, .ref q3_), (5, 1, q1_, .ref q4_)]) rfl dX0_closeArgument_198 (fun f H locs hM_152 g => ?_)
            have hG_153 := eOK.frame hM_152 go_.2.2.2.1 ma0_ ka0_ (by decide) (by decide) hG_149
            refine lv_aload_n hx hb dX0_closeArgument_201 rfl (lv_at hl 5 rfl) ?_
            refine g_getk (C := RX0) (T := TX0) (N := 14) hx hb hts (mc_ inX0) hown hK g rfl 7 (by decide) rfl (hts _ (List.mem_cons_of_mem _ t_380)) (fun _ h9 => h9) 7 rfl dX0_closeArgument_202 ?_
            refine lv_iload_n hx hb dX0_closeArgument_205 rfl (lv_at hl 4 rfl) ?_
            refine g_iald hx hb hK g ma_64 ka_64 (by decide) rfl (in_bd b_2 (by decide)) dX0_closeArgument_206 (fun x_154 bx_154 cx_154 => ?_)
            refine lv_iconst (v := 1) hx hb dX0_closeArgument_207 (by decide) ?_
            refine lv_iadd hx hb dX0_closeArgument_208 ?_
            refine lv_topi (fun y_155 ey_155 => ?_)
            refine lv_bipush (v := 12) hx hb dX0_closeArgument_209 (by decide) ?_
            have kb_12 : bd 12 12 (12 : Int32) := ⟨by decide, by decide⟩
            refine lv_icmp_le (tgt := 229) hx hb dX0_closeArgument_211 (by decide) (fun c_156 => ?_) (fun c_156 => ?_)
            · have fc_156 := le_f c_156
              have b_157 : bd (-2147483648) 12 y_155 := leL fc_156 (bdT y_155) kb_12 (by decide)
              refine lv_aload_n hx hb dX0_closeArgument_229 rfl (lv_at hl 5 rfl) ?_
              refine g_getk (C := RX0) (T := TX0) (N := 14) hx hb hts (mc_ inX0) hown hK g rfl 2 (by decide) rfl (hts _ (List.mem_cons_of_mem _ t_375)) (fun _ h9 => h9) 12 rfl dX0_closeArgument_230 ?_
              refine lv_bipush (v := 13) hx hb dX0_closeArgument_233 (by decide) ?_
              refine lv_iconst (v := 0) hx hb dX0_closeArgument_235 (by decide) ?_
              have go_ := g
              refine g_callv (va_runV (As := [.int 13, .int 0]) (rest := []) ⟨hx, hb, hml, hown, hts⟩ (r_X7_emit l dC dI L kd tys f H.size g.2.2.2.1 q2_ mq2_ kq2_ 13 0) (cwV 2 hts (gV_ t_1203 t_1204 t_1205 t_191 t_1206) rfl rfl rfl (by decide +kernel) ⟨(Nat.le_of_ble_eq_true rfl), (Nat.le_of_ble_eq_true rfl)⟩) (pre3V g hK mq2_ kq2_ (by decide) (q := (RX7, TX7, 19)) rfl) rfl rfl hl.1 rfl (lv_room (Nat.le_of_ble_eq_true rfl)) dX0_closeArgument_236 ⟨(Nat.le_of_ble_eq_true rfl), (Nat.le_of_ble_eq_true rfl)⟩) g hK (by decide) (by decide) (fx' := [(0, 11, a0_, .int y_151), (0, 8, a0_, .int y_1), (8, 6, q0_, .int 1201), (8, 8, q0_, .int x_143), (6, 3, a_76, .int x_77), (7, 2, q2_, .ref a_75), (0, 10, a0_, .int x_67), (0, 7, a0_, .ref a_64), (0, 6, a0_, .ref a_59), (0, 5, a0_, .ref a_3), (0, 0, a0_, .ref q0_), (0, 1, a0_, .ref q1_), (0, 2, a0_, .ref q2_), (0, 3, a0_, .ref q3_), (5, 1, q1_, .ref q4_)]) rfl (fun fr_158 H locs hp hMr_158 g => ?_)
              obtain ⟨x_159, h_160, hF_161⟩ := hp
              have hG_162 := eOK.frame hMr_158 go_.2.2.2.1 ma0_ ka0_ (by decide) (by decide) hG_153
              have g := g.more hF_161
              refine lv_aload_n hx hb dX0_closeArgument_239 rfl (lv_at hl 5 rfl) ?_
              refine g_getk (C := RX0) (T := TX0) (N := 14) hx hb hts (mc_ inX0) hown hK g rfl 2 (by decide) rfl (hts _ (List.mem_cons_of_mem _ t_375)) (fun _ h9 => h9) 13 rfl dX0_closeArgument_240 ?_
              refine lv_aload_n hx hb dX0_closeArgument_243 rfl (lv_at hl 5 rfl) ?_
              refine g_getk (C := RX0) (T := TX0) (N := 14) hx hb hts (mc_ inX0) hown hK g rfl 3 (by decide) rfl (hts _ (List.mem_cons_of_mem _ t_376)) (fun _ h9 => h9) 14 rfl dX0_closeArgument_244 ?_
              refine lv_iload_n hx hb dX0_closeArgument_247 rfl (lv_at hl 4 rfl) ?_
              refine g_iald hx hb hK g mq3_ kq3_ (by decide) rfl (in_bd b_2 (by decide)) dX0_closeArgument_248 (fun x_163 bx_163 cx_163 => ?_)
              obtain rfl : x_5 = x_163 := el_same cx_5 cx_163 ((arr_eq hMr_158 mq3_ kq3_ (by decide) rfl).trans ((arr_eq hM_152 mq3_ kq3_ (by decide) rfl).trans ((arr_eq hM_148 mq3_ kq3_ (by decide) rfl).trans ((arr_eq hMr_142 mq3_ kq3_ (by decide) rfl).trans ((arr_eq hM_73 mq3_ kq3_ (by decide) rfl).trans ((arr_eq hMr_66 mq3_ kq3_ (by decide) rfl).trans ((arr_eq hM_62 mq3_ kq3_ (by decide) rfl).trans ((arr_eq hMr_54 mq3_ kq3_ (by decide) rfl).trans (arr_eq hMr_11 mq3_ kq3_ (by decide) rfl)))))))))
              refine lv_iconst (v := 2) hx hb dX0_closeArgument_249 (by decide) ?_
              refine lv_icmp_ne (tgt := 258) hx hb dX0_closeArgument_250 (by decide) (fun c_164 => ?_) (fun c_164 => ?_)
              · have fc_164 := neq_f c_164
                refine lv_bipush (v := 18) hx hb dX0_closeArgument_258 (by decide) ?_
                refine lv_iload_n hx hb dX0_closeArgument_260 rfl (lv_at hl 3 rfl) ?_
                have go_ := g
                refine g_callv (va_runV (As := [.int 18, .int x_4]) (rest := []) ⟨hx, hb, hml, hown, hts⟩ (r_X7_emit l dC dI L kd tys fr_158 H.size g.2.2.2.1 q2_ mq2_ kq2_ 18 x_4) (cwV 2 hts (gV_ t_1203 t_1204 t_1205 t_191 t_1206) rfl rfl rfl (by decide +kernel) ⟨(Nat.le_of_ble_eq_true rfl), (Nat.le_of_ble_eq_true rfl)⟩) (pre3V g hK mq2_ kq2_ (by decide) (q := (RX7, TX7, 19)) rfl) rfl rfl hl.1 rfl (lv_room (Nat.le_of_ble_eq_true rfl)) dX0_closeArgument_261 ⟨(Nat.le_of_ble_eq_true rfl), (Nat.le_of_ble_eq_true rfl)⟩) g hK (by decide) (by decide) (fx' := [(0, 11, a0_, .int y_151), (0, 8, a0_, .int y_1), (8, 6, q0_, .int 1201), (8, 8, q0_, .int x_143), (6, 3, a_76, .int x_77), (7, 2, q2_, .ref a_75), (0, 10, a0_, .int x_67), (0, 7, a0_, .ref a_64), (0, 6, a0_, .ref a_59), (0, 5, a0_, .ref a_3), (0, 0, a0_, .ref q0_), (0, 1, a0_, .ref q1_), (0, 2, a0_, .ref q2_), (0, 3, a0_, .ref q3_), (5, 1, q1_, .ref q4_)]) rfl (fun fr_165 H locs hp hMr_165 g => ?_)
                obtain ⟨x_166, h_167, hF_168⟩ := hp
                have hG_169 := eOK.frame hMr_165 go_.2.2.2.1 ma0_ ka0_ (by decide) (by decide) hG_162
                have g := g.more hF_168
                refine lv_aload_n hx hb dX0_closeArgument_264 rfl (lv_at hl 5 rfl) ?_
                refine lv_aload_n hx hb dX0_closeArgument_265 rfl (lv_at hl 5 rfl) ?_
                refine g_getk (C := RX0) (T := TX0) (N := 14) hx hb hts (mc_ inX0) hown hK g rfl 7 (by decide) rfl (hts _ (List.mem_cons_of_mem _ t_380)) (fun _ h9 => h9) 8 rfl dX0_closeArgument_266 ?_
                refine lv_iload_n hx hb dX0_closeArgument_269 rfl (lv_at hl 4 rfl) ?_
                refine g_iald hx hb hK g ma_64 ka_64 (by decide) rfl (in_bd b_2 (by decide)) dX0_closeArgument_270 (fun x_170 bx_170 cx_170 => ?_)
                obtain rfl : x_154 = x_170 := el_same cx_154 cx_170 ((arr_eq hMr_165 ma_64 ka_64 (by decide) rfl).trans (arr_eq hMr_158 ma_64 ka_64 (by decide) rfl))
                refine lv_iconst (v := 1) hx hb dX0_closeArgument_271 (by decide) ?_
                refine lv_iadd hx hb dX0_closeArgument_272 ?_
                refine lv_topi (fun y_171 ey_171 => ?_)
                obtain rfl : y_155 = y_171 := ey_155.trans ey_171.symm
                have go_ := g
                refine g_callv (va_runV (As := [.int y_155]) (rest := []) ⟨hx, hb, hml, hown, hts⟩ (r_X0_addWhole l dC dI L kd tys fr_165 H.size g.2.2.2.1 a0_ ma0_ ka0_ y_155) (cwV 1 hts (gV_ t_1211 t_1213 t_17 t_190 t_1214) rfl rfl rfl (by decide +kernel) ⟨(Nat.le_of_ble_eq_true rfl), (Nat.le_of_ble_eq_true rfl)⟩) (pre3V g hK ma0_ ka0_ (by decide) (q := (RX0, TX0, 14)) rfl) rfl rfl hl.1 rfl (lv_room (Nat.le_of_ble_eq_true rfl)) dX0_closeArgument_273 ⟨(Nat.le_of_ble_eq_true rfl), (Nat.le_of_ble_eq_true rfl)⟩) g hK (by decide) (by decide) (fx' := [(7, 6, q2_, .int x_166), (0, 11, a0_, .int y_151), (0, 8, a0_, .int y_1), (8, 6, q0_, .int 1201), (8, 8, q0_, .int x_143), (6, 3, a_76, .int x_77), (7, 2, q2_, .ref a_75), (0, 7, a0_, .ref a_64), (0, 6, a0_, .ref a_59), (0, 5, a0_, .ref a_3), (0, 0, a0_, .ref q0_), (0, 1, a0_, .ref q1_), (0, 2, a0_, .ref q2_), (0, 3, a0_, .ref q3_), (5, 1, q1_, .ref q4_)]) rfl (fun fr_172 H locs hp hMr_172 g => ?_)
                obtain ⟨x_173, h_174, hF_175⟩ := hp
                have hG_176 := eOK.frame hMr_172 go_.2.2.2.1 ma0_ ka0_ (by decide) (by decide) hG_169
                have g := g.more hF_175
                subst hQ
                exact W.vret hx hb hr (fun t ht hW => ⟨⟨_, rfl, Or.inr (⟨x_143, h_144, (g.fcts [5, 6] rfl)⟩), q3_of g hK ht hW⟩, g.2.2.1.F ht⟩) g.2.2.1.2.2 dX0_closeArgument_276
              · have fc_164 := eq_f c_164
                have b_177 : bd 3 2 x_5 := eqX fc_164 b_9 kb_2 (by decide)
                exact bd_no b_177 (by decide)
            · have fc_156 := nle_f c_156
              have b_178 : bd 13 2147483647 y_155 := ltR fc_156 kb_12 (bdT y_155) (by decide)
              refine lv_aload_n hx hb dX0_closeArgument_214 rfl (lv_at hl 5 rfl) ?_
              refine g_getk (C := RX0) (T := TX0) (N := 14) hx hb hts (mc_ inX0) hown hK g rfl 0 (by decide) rfl (hts _ (List.mem_cons_of_mem _ t_373)) (fun _ h9 => h9) 10 rfl dX0_closeArgument_215 ?_
              refine lv_bipush (v := 7) hx hb dX0_closeArgument_218 (by decide) ?_
              refine lv_aload_n hx hb dX0_closeArgument_220 rfl (lv_at hl 5 rfl) ?_
              refine g_getr (K := 111) (C := RX0) (T := TX0) (N := 14) hx hb hts (mc_ inX0) hown hK g ma0_ ka0_ (by decide) rfl 4 (by decide) rfl (hts _ (List.mem_cons_of_mem _ t_377)) (fun _ h9 => h9) rfl dX0_closeArgument_221 (fun a_179 ma_179 ka_179 g => ?_)
              refine lv_iload_n hx hb dX0_closeArgument_224 rfl (lv_at hl 4 rfl) ?_
              refine g_iald hx hb hK g ma_179 ka_179 (by decide) rfl (in_bd b_2 (by decide)) dX0_closeArgument_225 (fun x_180 bx_180 cx_180 => ?_)
              have kb_7 : bd 7 7 (7 : Int32) := ⟨by decide, by decide⟩
              have go_ := g
              refine g_callv (va_runV (As := [.int 7, .int x_180]) (rest := []) ⟨hx, hb, hml, hown, hts⟩ (r_X8_fail_2 l dC dI L kd tys f H.size g.2.2.2.1 q0_ mq0_ kq0_ 7 (bd_sub kb_7 (by decide)) x_180 x_143 h_144 (g.fcts [4] rfl)) (cwV 2 hts (gV_ t_1215 t_1107 t_1108 t_184 t_1109) rfl rfl rfl (by decide +kernel) ⟨(Nat.le_of_ble_eq_true rfl), (Nat.le_of_ble_eq_true rfl)⟩) (pre3V g hK mq0_ kq0_ (by decide) (q := (RX8, TX8, 10)) rfl) rfl rfl hl.1 rfl (lv_room (Nat.le_of_ble_eq_true rfl)) dX0_closeArgument_226 ⟨(Nat.le_of_ble_eq_true rfl), (Nat.le_of_ble_eq_true rfl)⟩) g hK (by decide) (by decide) (fx' := [(0, 4, a0_, .ref a_179), (0, 11, a0_, .int y_151), (0, 8, a0_, .int y_1), (8, 8, q0_, .int x_143), (6, 3, a_76, .int x_77), (7, 2, q2_, .ref a_75), (0, 10, a0_, .int x_67), (0, 7, a0_, .ref a_64), (0, 6, a0_, .ref a_59), (0, 5, a0_, .ref a_3), (0, 0, a0_, .ref q0_), (0, 1, a0_, .ref q1_), (0, 2, a0_, .ref q2_), (0, 3, a0_, .ref q3_), (5, 1, q1_, .ref q4_)]) rfl (fun fr_181 H locs hp hMr_181 g => ?_)
              have hF_182 := hp
              have hG_183 := eOK.frame hMr_181 go_.2.2.2.1 ma0_ ka0_ (by decide) (by decide) hG_153
              have g := g.more hF_182
              refine lv_aload_n hx hb dX0_closeArgument_229 rfl (lv_at hl 5 rfl) ?_
              refine g_getk (C := RX0) (T := TX0) (N := 14) hx hb hts (mc_ inX0) hown hK g rfl 2 (by decide) rfl (hts _ (List.mem_cons_of_mem _ t_375)) (fun _ h9 => h9) 13 rfl dX0_closeArgument_230 ?_
              refine lv_bipush (v := 13) hx hb dX0_closeArgument_233 (by decide) ?_
              refine lv_iconst (v := 0) hx hb dX0_closeArgument_235 (by decide) ?_
              have go_ := g
              refine g_callv (va_runV (As := [.int 13, .int 0]) (rest := []) ⟨hx, hb, hml, hown, hts⟩ (r_X7_emit l dC dI L kd tys fr_181 H.size g.2.2.2.1 q2_ mq2_ kq2_ 13 0) (cwV 2 hts (gV_ t_1203 t_1204 t_1205 t_191 t_1206) rfl rfl rfl (by decide +kernel) ⟨(Nat.le_of_ble_eq_true rfl), (Nat.le_of_ble_eq_true rfl)⟩) (pre3V g hK mq2_ kq2_ (by decide) (q := (RX7, TX7, 19)) rfl) rfl rfl hl.1 rfl (lv_room (Nat.le_of_ble_eq_true rfl)) dX0_closeArgument_236 ⟨(Nat.le_of_ble_eq_true rfl), (Nat.le_of_ble_eq_true rfl)⟩) g hK (by decide) (by decide) (fx' := [(8, 6, q0_, .int 1201), (0, 4, a0_, .ref a_179), (0, 11, a0_, .int y_151), (0, 8, a0_, .int y_1), (8, 8, q0_, .int x_143), (6, 3, a_76, .int x_77), (7, 2, q2_, .ref a_75), (0, 10, a0_, .int x_67), (0, 7, a0_, .ref a_64), (0, 6, a0_, .ref a_59), (0, 5, a0_, .ref a_3), (0, 0, a0_, .ref q0_), (0, 1, a0_, .ref q1_), (0, 2, a0_, .ref q2_), (0, 3, a0_, .ref q3_), (5, 1, q1_, .ref q4_)]) rfl (fun fr_184 H locs hp hMr_184 g => ?_)
              obtain ⟨x_185, h_186, hF_187⟩ := hp
              have hG_188 := eOK.frame hMr_184 go_.2.2.2.1 ma0_ ka0_ (by decide) (by decide) hG_183
              have g := g.more hF_187
              refine lv_aload_n hx hb dX0_closeArgument_239 rfl (lv_at hl 5 rfl) ?_
              refine g_getk (C := RX0) (T := TX0) (N := 14) hx hb hts (mc_ inX0) hown hK g rfl 2 (by decide) rfl (hts _ (List.mem_cons_of_mem _ t_375)) (fun _ h9 => h9) 14 rfl dX0_closeArgument_240 ?_
              refine lv_aload_n hx hb dX0_closeArgument_243 rfl (lv_at hl 5 rfl) ?_
              refine g_getk (C := RX0) (T := TX0) (N := 14) hx hb hts (mc_ inX0) hown hK g rfl 3 (by decide) rfl (hts _ (List.mem_cons_of_mem _ t_376)) (fun _ h9 => h9) 15 rfl dX0_closeArgument_244 ?_
              refine lv_iload_n hx hb dX0_closeArgument_247 rfl (lv_at hl 4 rfl) ?_
              refine g_iald hx hb hK g mq3_ kq3_ (by decide) rfl (in_bd b_2 (by decide)) dX0_closeArgument_248 (fun x_189 bx_189 cx_189 => ?_)
              obtain rfl : x_5 = x_189 := el_same cx_5 cx_189 ((arr_eq hMr_184 mq3_ kq3_ (by decide) rfl).trans ((arr_eq hMr_181 mq3_ kq3_ (by decide) rfl).trans ((arr_eq hM_152 mq3_ kq3_ (by decide) rfl).trans ((arr_eq hM_148 mq3_ kq3_ (by decide) rfl).trans ((arr_eq hMr_142 mq3_ kq3_ (by decide) rfl).trans ((arr_eq hM_73 mq3_ kq3_ (by decide) rfl).trans ((arr_eq hMr_66 mq3_ kq3_ (by decide) rfl).trans ((arr_eq hM_62 mq3_ kq3_ (by decide) rfl).trans ((arr_eq hMr_54 mq3_ kq3_ (by decide) rfl).trans (arr_eq hMr_11 mq3_ kq3_ (by decide) rfl))))))))))
              refine lv_iconst (v := 2) hx hb dX0_closeArgument_249 (by decide) ?_
              refine lv_icmp_ne (tgt := 258) hx hb dX0_closeArgument_250 (by decide) (fun c_190 => ?_) (fun c_190 => ?_)
              · have fc_190 := neq_f c_190
                refine lv_bipush (v := 18) hx hb dX0_closeArgument_258 (by decide) ?_
                refine lv_iload_n hx hb dX0_closeArgument_260 rfl (lv_at hl 3 rfl) ?_
                have go_ := g
                refine g_callv (va_runV (As := [.int 18, .int x_4]) (rest := []) ⟨hx, hb, hml, hown, hts⟩ (r_X7_emit l dC dI L kd tys fr_184 H.size g.2.2.2.1 q2_ mq2_ kq2_ 18 x_4) (cwV 2 hts (gV_ t_1203 t_1204 t_1205 t_191 t_1206) rfl rfl rfl (by decide +kernel) ⟨(Nat.le_of_ble_eq_true rfl), (Nat.le_of_ble_eq_true rfl)⟩) (pre3V g hK mq2_ kq2_ (by decide) (q := (RX7, TX7, 19)) rfl) rfl rfl hl.1 rfl (lv_room (Nat.le_of_ble_eq_true rfl)) dX0_closeArgument_261 ⟨(Nat.le_of_ble_eq_true rfl), (Nat.le_of_ble_eq_true rfl)⟩) g hK (by decide) (by decide) (fx' := [(8, 6, q0_, .int 1201), (0, 4, a0_, .ref a_179), (0, 11, a0_, .int y_151), (0, 8, a0_, .int y_1), (8, 8, q0_, .int x_143), (6, 3, a_76, .int x_77), (7, 2, q2_, .ref a_75), (0, 10, a0_, .int x_67), (0, 7, a0_, .ref a_64), (0, 6, a0_, .ref a_59), (0, 5, a0_, .ref a_3), (0, 0, a0_, .ref q0_), (0, 1, a0_, .ref q1_), (0, 2, a0_, .ref q2_), (0, 3, a0_, .ref q3_), (5, 1, q1_, .ref q4_)]) rfl (fun fr_191 H locs hp hMr_191 g => ?_)
                obtain ⟨x_192, h_193, hF_194⟩ := hp
                have hG_195 := eOK.frame hMr_191 go_.2.2.2.1 ma0_ ka0_ (by decide) (by decide) hG_188
                have g := g.more hF_194
                refine lv_aload_n hx hb dX0_closeArgument_264 rfl (lv_at hl 5 rfl) ?_
                refine lv_aload_n hx hb dX0_closeArgument_265 rfl (lv_at hl 5 rfl) ?_
                refine g_getk (C := RX0) (T := TX0) (N := 14) hx hb hts (mc_ inX0) hown hK g rfl 7 (by decide) rfl (hts _ (List.mem_cons_of_mem _ t_380)) (fun _ h9 => h9) 9 rfl dX0_closeArgument_266 ?_
                refine lv_iload_n hx hb dX0_closeArgument_269 rfl (lv_at hl 4 rfl) ?_
                refine g_iald hx hb hK g ma_64 ka_64 (by decide) rfl (in_bd b_2 (by decide)) dX0_closeArgument_270 (fun x_196 bx_196 cx_196 => ?_)
                obtain rfl : x_154 = x_196 := el_same cx_154 cx_196 ((arr_eq hMr_191 ma_64 ka_64 (by decide) rfl).trans ((arr_eq hMr_184 ma_64 ka_64 (by decide) rfl).trans (arr_eq hMr_181 ma_64 ka_64 (by decide) rfl)))
                refine lv_iconst (v := 1) hx hb dX0_closeArgument_271 (by decide) ?_
                refine lv_iadd hx hb dX0_closeArgument_272 ?_
                refine lv_topi (fun y_197 ey_197 => ?_)
                obtain rfl : y_155 = y_197 := ey_155.trans ey_197.symm
                have go_ := g
                refine g_callv (va_runV (As := [.int y_155]) (rest := []) ⟨hx, hb, hml, hown, hts⟩ (r_X0_addWhole l dC dI L kd tys fr_191 H.size g.2.2.2.1 a0_ ma0_ ka0_ y_155) (cwV 1 hts (gV_ t_1211 t_1213 t_17 t_190 t_1214) rfl rfl rfl (by decide +kernel) ⟨(Nat.le_of_ble_eq_true rfl), (Nat.le_of_ble_eq_true rfl)⟩) (pre3V g hK ma0_ ka0_ (by decide) (q := (RX0, TX0, 14)) rfl) rfl rfl hl.1 rfl (lv_room (Nat.le_of_ble_eq_true rfl)) dX0_closeArgument_273 ⟨(Nat.le_of_ble_eq_true rfl), (Nat.le_of_ble_eq_true rfl)⟩) g hK (by decide) (by decide) (fx' := [(7, 6, q2_, .int x_192), (8, 6, q0_, .int 1201), (0, 4, a0_, .ref a_179), (0, 11, a0_, .int y_151), (0, 8, a0_, .int y_1), (8, 8, q0_, .int x_143), (6, 3, a_76, .int x_77), (7, 2, q2_, .ref a_75), (0, 7, a0_, .ref a_64), (0, 6, a0_, .ref a_59), (0, 5, a0_, .ref a_3), (0, 0, a0_, .ref q0_), (0, 1, a0_, .ref q1_), (0, 2, a0_, .ref q2_), (0, 3, a0_, .ref q3_), (5, 1, q1_, .ref q4_)]) rfl (fun fr_198 H locs hp hMr_198 g => ?_)
                obtain ⟨x_199, h_200, hF_201⟩ := hp
                have hG_202 := eOK.frame hMr_198 go_.2.2.2.1 ma0_ ka0_ (by decide) (by decide) hG_195
                have g := g.more hF_201
                subst hQ
                exact W.vret hx hb hr (fun t ht hW => ⟨⟨_, rfl, Or.inr (⟨x_143, h_144, (g.fcts [3, 7] rfl)⟩), q3_of g hK ht hW⟩, g.2.2.1.F ht⟩) g.2.2.1.2.2 dX0_closeArgument_276
              · have fc_190 := eq_f c_190
                have b_203 : bd 3 2 x_5 := eqX fc_190 b_9 kb_2 (by decide)
                exact bd_no b_203 (by decide)
        · have fc_78 := eq_f c_78
          have b_204 : bd 44 41 x1_ := eqX fc_78 b_53 kb_44 (by decide)
          exact bd_no b_204 (by decide)
      · have fc_52 := neq_f c_52
        refine lv_aload_n hx hb dX0_closeArgument_63 rfl (lv_at hl 4 rfl) ?_
        refine g_getk (C := RX0) (T := TX0) (N := 14) hx hb hts (mc_ inX0) hown hK g rfl 0 (by decide) rfl (hts _ (List.mem_cons_of_mem _ t_373)) (fun _ h9 => h9) 1 rfl dX0_closeArgument_64 ?_
        refine lv_iconst (v := 1) hx hb dX0_closeArgument_67 (by decide) ?_
        refine lv_iload hx hb dX0_closeArgument_68 (lv_at hl 0 rfl) ?_
        have go_ := g
        refine g_callv (va_runV (As := [.int 1, .int r_11]) (rest := []) ⟨hx, hb, hml, hown, hts⟩ (r_X8_fail l dC dI L kd tys fr_11 H.size g.2.2.2.1 q0_ mq0_ kq0_ 1 (bd_sub kb_1 (by decide)) r_11 y1_ by1_ (g.fcts [7] rfl)) (cwV 2 hts (gV_ t_1215 t_1107 t_1108 t_184 t_1109) rfl rfl rfl (by decide +kernel) ⟨(Nat.le_of_ble_eq_true rfl), (Nat.le_of_ble_eq_true rfl)⟩) (pre3V g hK mq0_ kq0_ (by decide) (q := (RX8, TX8, 10)) rfl) rfl rfl hl.1 rfl (lv_room (Nat.le_of_ble_eq_true rfl)) dX0_closeArgument_70 ⟨(Nat.le_of_ble_eq_true rfl), (Nat.le_of_ble_eq_true rfl)⟩) g hK (by decide) (by decide) (fx' := [(0, 5, a0_, .ref a_3), (0, 0, a0_, .ref q0_), (0, 1, a0_, .ref q1_), (0, 2, a0_, .ref q2_), (0, 3, a0_, .ref q3_), (5, 1, q1_, .ref q4_), (0, 8, a0_, .int y0_)]) rfl (fun fr_205 H locs hp hMr_205 g => ?_)
        obtain ⟨x_206, h_207, hF_208⟩ := hp
        have hG_209 := eOK.frame hMr_205 go_.2.2.2.1 ma0_ ka0_ (by decide) (by decide) hG_12
        have g := g.more hF_208
        subst hQ
        exact W.vret hx hb hr (fun t ht hW => ⟨⟨_, rfl, Or.inr (⟨x_206, h_207, (g.fcts [0, 1] rfl)⟩), q3_of g hK ht hW⟩, g.2.2.1.F ht⟩) g.2.2.1.2.2 dX0_closeArgument_73
  · have fc_8 := eq_f c_8
    have b_210 : bd 2 2 x_5 := eqX fc_8 b_6 kb_2 (by decide)
    have b_211 : bd 0 11 x_4 := eqX rfl (bdT x_4) (er2 hc_7 b_210 (by decide)) (by decide)
    refine lv_aload_n hx hb dX0_closeArgument_24 rfl (lv_at hl 2 rfl) ?_
    refine g_getk (C := RX0) (T := TX0) (N := 14) hx hb hts (mc_ inX0) hown hK g rfl 1 (by decide) rfl (hts _ (List.mem_cons_of_mem _ t_374)) (fun _ h9 => h9) 2 rfl dX0_closeArgument_25 ?_
    refine g_getk (C := RX5) (T := TX5) (N := 9) hx hb hts (mc_ inX5) hown hK g rfl 1 (by decide) rfl (hts _ (List.mem_cons_of_mem _ t_332)) (fun _ h9 => h9) 5 rfl dX0_closeArgument_28 ?_
    refine g_getr (K := 156) (C := RX9) (T := TX9) (N := 13) hx hb hts (mc_ inX9) hown hK g mq4_ kq4_ (by decide) rfl 9 (by decide) rfl (hts _ (List.mem_cons_of_mem _ t_508)) (fun _ h9 => h9) rfl dX0_closeArgument_31 (fun a_212 ma_212 ka_212 g => ?_)
    refine lv_iload_n hx hb dX0_closeArgument_34 rfl (lv_at hl 0 rfl) ?_
    refine g_iald hx hb hK g ma_212 ka_212 (by decide) rfl (in_bd b_211 (by decide)) dX0_closeArgument_35 (fun x_213 bx_213 cx_213 => ?_)
    refine lv_goto (tgt := 40) hx hb dX0_closeArgument_36 (by decide) ?_
    refine lv_istore (lv' := [(4, .int x_213), (3, .int x_4), (2, .int y_1), (0, .ref a0_), (1, .int x1_)]) hx hb dX0_closeArgument_40 hl (by decide) rfl (fun ls hl => ?_)
    refine lv_aload_n hx hb dX0_closeArgument_42 rfl (lv_at hl 3 rfl) ?_
    refine g_getk (C := RX0) (T := TX0) (N := 14) hx hb hts (mc_ inX0) hown hK g rfl 0 (by decide) rfl (hts _ (List.mem_cons_of_mem _ t_373)) (fun _ h9 => h9) 2 rfl dX0_closeArgument_43 ?_
    have go_ := g
    refine g_calli (va_runV (As := []) (rest := []) ⟨hx, hb, hml, hown, hts⟩ (r_X8_place l dC dI L kd tys f0 s.heap.size g.2.2.2.1 q0_ mq0_ kq0_) (cwV 0 hts (gV_ t_1220 t_1111 t_1112 t_184 t_1113) rfl rfl rfl (by decide +kernel) ⟨(Nat.le_of_ble_eq_true rfl), (Nat.le_of_ble_eq_true rfl)⟩) (pre3V g hK mq0_ kq0_ (by decide) (q := (RX8, TX8, 10)) rfl) rfl rfl hl.1 rfl (lv_room (Nat.le_of_ble_eq_true rfl)) dX0_closeArgument_46 ⟨(Nat.le_of_ble_eq_true rfl), (Nat.le_of_ble_eq_true rfl)⟩) g hK (by decide) (by decide) (fx' := [(9, 9, q4_, .ref a_212), (0, 5, a0_, .ref a_3), (0, 0, a0_, .ref q0_), (0, 1, a0_, .ref q1_), (0, 2, a0_, .ref q2_), (0, 3, a0_, .ref q3_), (5, 1, q1_, .ref q4_), (0, 8, a0_, .int y0_), (8, 8, q0_, .int y1_)]) rfl (fun r_214 fr_214 H locs hp hMr_214 g => ?_)
    have hG_215 := eOK.frame hMr_214 go_.2.2.2.1 ma0_ ka0_ (by decide) (by decide) hGea0_
    refine lv_istore (lv' := [(5, .int r_214), (4, .int x_213), (3, .int x_4), (2, .int y_1), (0, .ref a0_), (1, .int x1_)]) hx hb dX0_closeArgument_49 hl (by decide) rfl (fun ls hl => ?_)
    refine lv_iload_n hx hb dX0_closeArgument_51 rfl (lv_at hl 5 rfl) ?_
    refine lv_bipush (v := 44) hx hb dX0_closeArgument_52 (by decide) ?_
    have kb_44 : bd 44 44 (44 : Int32) := ⟨by decide, by decide⟩
    refine lv_icmp_eq (tgt := 74) hx hb dX0_closeArgument_54 (by decide) (fun c_216 => ?_) (fun c_216 => ?_)
    · have fc_216 := eq_f c_216
      have b_217 : bd 44 44 x1_ := eqX fc_216 (bdT x1_) kb_44 (by decide)
      refine lv_aload_n hx hb dX0_closeArgument_74 rfl (lv_at hl 4 rfl) ?_
      refine g_getk (C := RX0) (T := TX0) (N := 14) hx hb hts (mc_ inX0) hown hK g rfl 0 (by decide) rfl (hts _ (List.mem_cons_of_mem _ t_373)) (fun _ h9 => h9) 2 rfl dX0_closeArgument_75 ?_
      have go_ := g
      refine g_callv (va_runV (As := []) (rest := []) ⟨hx, hb, hml, hown, hts⟩ (r_X8_next l dC dI L kd tys fr_214 H.size g.2.2.2.1 q0_ mq0_ kq0_) (cwV 0 hts (gV_ t_1225 t_1103 t_1104 t_184 t_1105) rfl rfl rfl (by decide +kernel) ⟨(Nat.le_of_ble_eq_true rfl), (Nat.le_of_ble_eq_true rfl)⟩) (pre3V g hK mq0_ kq0_ (by decide) (q := (RX8, TX8, 10)) rfl) rfl rfl hl.1 rfl (lv_room (Nat.le_of_ble_eq_true rfl)) dX0_closeArgument_78 ⟨(Nat.le_of_ble_eq_true rfl), (Nat.le_of_ble_eq_true rfl)⟩) g hK (by decide) (by decide) (fx' := [(9, 9, q4_, .ref a_212), (0, 5, a0_, .ref a_3), (0, 0, a0_, .ref q0_), (0, 1, a0_, .ref q1_), (0, 2, a0_, .ref q2_), (0, 3, a0_, .ref q3_), (5, 1, q1_, .ref q4_), (0, 8, a0_, .int y0_), (8, 8, q0_, .int y1_)]) rfl (fun fr_218 H locs hp hMr_218 g => ?_)
      obtain ⟨x_219, h_220, hF_221⟩ := hp
      have hG_222 := eOK.frame hMr_218 go_.2.2.2.1 ma0_ ka0_ (by decide) (by decide) hG_215
      have g := g.more hF_221
      refine lv_aload_n hx hb dX0_closeArgument_81 rfl (lv_at hl 4 rfl) ?_
      refine g_getr (K := 113) (C := RX0) (T := TX0) (N := 14) hx hb hts (mc_ inX0) hown hK g ma0_ ka0_ (by decide) rfl 6 (by decide) rfl (hts _ (List.mem_cons_of_mem _ t_379)) (fun _ h9 => h9) rfl dX0_closeArgument_82 (fun a_223 ma_223 ka_223 g => ?_)
      refine lv_iload_n hx hb dX0_closeArgument_85 rfl (lv_at hl 3 rfl) ?_
      refine lv_dup2_11 hx hb dX0_closeArgument_86 rfl rfl ?_
      refine g_iald hx hb hK g ma_223 ka_223 (by decide) rfl (in_bd b_2 (by decide)) dX0_closeArgument_87 (fun x_224 bx_224 cx_224 => ?_)
      refine lv_iconst (v := 1) hx hb dX0_closeArgument_88 (by decide) ?_
      refine lv_iadd hx hb dX0_closeArgument_89 ?_
      refine lv_topi (fun y_225 ey_225 => ?_)
      have go_ := g
      refine g_iast hx hb hK g ma_223 ka_223 (by decide) rfl (in_bd b_2 (by decide)) (bdT y_225) (by decide) dX0_closeArgument_90 (fun f H locs hM_226 g => ?_)
      have hG_227 := eOK.frame hM_226 go_.2.2.2.1 ma0_ ka0_ (by decide) (by decide) hG_222
      refine lv_aload_n hx hb dX0_closeArgument_91 rfl (lv_at hl 4 rfl) ?_
      refine g_getr (K := 114) (C := RX0) (T := TX0) (N := 14) hx hb hts (mc_ inX0) hown hK g ma0_ ka0_ (by decide) rfl 7 (by decide) rfl (hts _ (List.mem_cons_of_mem _ t_380)) (fun _ h9 => h9) rfl dX0_closeArgument_92 (fun a_228 ma_228 ka_228 g => ?_)
      refine lv_iload_n hx hb dX0_closeArgument_95 rfl (lv_at hl 3 rfl) ?_
      refine lv_aload_n hx hb dX0_closeArgument_96 rfl (lv_at hl 4 rfl) ?_
      refine g_getk (C := RX0) (T := TX0) (N := 14) hx hb hts (mc_ inX0) hown hK g rfl 7 (by decide) rfl (hts _ (List.mem_cons_of_mem _ t_380)) (fun _ h9 => h9) 0 rfl dX0_closeArgument_97 ?_
      refine lv_iload_n hx hb dX0_closeArgument_100 rfl (lv_at hl 3 rfl) ?_
      refine g_iald hx hb hK g ma_228 ka_228 (by decide) rfl (in_bd b_2 (by decide)) dX0_closeArgument_101 (fun x_229 bx_229 cx_229 => ?_)
      refine lv_aload_n hx hb dX0_closeArgument_102 rfl (lv_at hl 4 rfl) ?_
      have go_ := g
      refine g_calli (va_runV (As := []) (rest := [.int x_229, .int y_1, .ref a_228]) ⟨hx, hb, hml, hown, hts⟩ (r_X0_takeHeight l dC dI L kd tys f H.size g.2.2.2.1 a0_ ma0_ ka0_) (cwV 0 hts (gV_ t_1199 t_1201 t_16 t_190 t_1202) rfl rfl rfl (by decide +kernel) ⟨(Nat.le_of_ble_eq_true rfl), (Nat.le_of_ble_eq_true rfl)⟩) (pre3V g hK ma0_ ka0_ (by decide) (q := (RX0, TX0, 14)) rfl) rfl rfl hl.1 rfl (lv_room (Nat.le_of_ble_eq_true rfl)) dX0_closeArgument_103 ⟨(Nat.le_of_ble_eq_true rfl), (Nat.le_of_ble_eq_true rfl)⟩) g hK (by decide) (by decide) (fx' := [(0, 7, a0_, .ref a_228), (0, 6, a0_, .ref a_223), (8, 6, q0_, .int x_219), (9, 9, q4_, .ref a_212), (0, 5, a0_, .ref a_3), (0, 0, a0_, .ref q0_), (0, 1, a0_, .ref q1_), (0, 2, a0_, .ref q2_), (0, 3, a0_, .ref q3_), (5, 1, q1_, .ref q4_), (0, 8, a0_, .int y0_), (8, 8, q0_, .int y1_)]) rfl (fun r_230 fr_230 H locs hp hMr_230 g => ?_)
      obtain ⟨x_231, h_232, hF_233⟩ := hp
      have hG_234 := eOK.frame hMr_230 go_.2.2.2.1 ma0_ ka0_ (by decide) (by decide) hG_227
      have g := g.more hF_233
      refine va_mmax hx hb (hml.trans hl.1.symm) hown (hts _ (List.mem_cons_of_mem _ t_1194)) (hts _ (List.mem_cons_of_mem _ t_1041)) (hts _ (List.mem_cons_of_mem _ t_204)) (hts _ (List.mem_cons_of_mem _ t_1042)) (Nat.le_of_ble_eq_true rfl) (Nat.le_of_ble_eq_true rfl) (Nat.le_of_ble_eq_true rfl) (Nat.le_of_ble_eq_true rfl) dX0_closeArgument_106 ?_
      refine lv_topi (fun y_235 ey_235 => ?_)
      have ty_235 : y_235.toInt = max x_229.toInt r_230.toInt := by rw [ey_235]; exact mmax_ok _ _
      have b_236 : bd (-2147483648) 2147483647 y_235 := max_rg ty_235 (bdT x_229) (bdT r_230) (by decide)
      have go_ := g
      refine g_iast hx hb hK g ma_228 ka_228 (by decide) rfl (in_bd b_2 (by decide)) b_236 (by decide) dX0_closeArgument_109 (fun f H locs hM_237 g => ?_)
      have hG_238 := eOK.frame hM_237 go_.2.2.2.1 ma0_ ka0_ (by decide) (by decide) hG_234
      refine lv_aload_n hx hb dX0_closeArgument_110 rfl (lv_at hl 4 rfl) ?_
      refine g_getk (C := RX0) (T := TX0) (N := 14) hx hb hts (mc_ inX0) hown hK g rfl 2 (by decide) rfl (hts _ (List.mem_cons_of_mem _ t_375)) (fun _ h9 => h9) 8 rfl dX0_closeArgument_111 ?_
      refine g_getr (K := 137) (C := RX7) (T := TX7) (N := 19) hx hb hts (mc_ inX7) hown hK g mq2_ kq2_ (by decide) rfl 2 (by decide) rfl (hts _ (List.mem_cons_of_mem _ t_633)) (fun _ h9 => h9) rfl dX0_closeArgument_114 (fun a_239 ma_239 ka_239 g => ?_)
      refine lv_iload hx hb dX0_closeArgument_117 (lv_at hl 1 rfl) ?_
      refine g_aald hx hb hK g ma_239 ka_239 (by decide) rfl (by decide) (in_bd bx_213 (by decide)) dX0_closeArgument_119 (fun a_240 ma_240 ua_240 wa_240 => ?_)
      have ka_240 : kd a_240 = 6 := by omega
      refine g_geti (C := RX6) (T := TX6) (N := 13) hx hb hts (mc_ inX6) hown hK g ma_240 ka_240 (by decide) rfl 3 (by decide) rfl (hts _ (List.mem_cons_of_mem _ t_564)) (fun _ h9 => h9) rfl dX0_closeArgument_120 (fun x_241 bx_241 g => ?_)
      refine lv_istore (lv' := [(6, .int x_241), (5, .int r_214), (4, .int x_213), (3, .int x_4), (2, .int y_1), (0, .ref a0_), (1, .int x1_)]) hx hb dX0_closeArgument_123 hl (by decide) rfl (fun ls hl => ?_)
      refine lv_iload_n hx hb dX0_closeArgument_125 rfl (lv_at hl 6 rfl) ?_
      refine lv_bipush (v := 44) hx hb dX0_closeArgument_126 (by decide) ?_
      refine lv_icmp_ne (tgt := 159) hx hb dX0_closeArgument_128 (by decide) (fun c_242 => ?_) (fun c_242 => ?_)
      · have fc_242 := neq_f c_242
        have b_243 : bd 45 43 x1_ := neX fc_242 b_217 kb_44 (by decide)
        exact bd_no b_243 (by decide)
      · have fc_242 := eq_f c_242
        refine lv_aload_n hx hb dX0_closeArgument_131 rfl (lv_at hl 5 rfl) ?_
        refine lv_iconst (v := 1) hx hb dX0_closeArgument_132 (by decide) ?_
        have go_ := g
        refine g_put (C := RX0) (T := TX0) (N := 14) hx hb hts (mc_ inX0) tyX0 tyX0_ok nmX0 hown hK g ma0_ ka0_ (by decide) rfl 12 (by decide) (hts _ (List.mem_cons_of_mem _ t_385)) (fun _ h9 => h9) rfl rfl (okV_i (bd_sub kb_1 (by decide))) rfl rfl (by decide) (Or.inr (Or.inl (by decide))) (fx' := [(6, 3, a_240, .int x_241), (7, 2, q2_, .ref a_239), (0, 10, a0_, .int x_231), (0, 7, a0_, .ref a_228), (0, 6, a0_, .ref a_223), (8, 6, q0_, .int x_219), (9, 9, q4_, .ref a_212), (0, 5, a0_, .ref a_3), (0, 0, a0_, .ref q0_), (0, 1, a0_, .ref q1_), (0, 2, a0_, .ref q2_), (0, 3, a0_, .ref q3_), (5, 1, q1_, .ref q4_), (0, 8, a0_, .int y0_), (8, 8, q0_, .int y1_)]) rfl dX0_closeArgument_133 (fun f H locs hM_244 g => ?_)
        have hG_245 := eOK.frame hM_244 go_.2.2.2.1 ma0_ ka0_ (by decide) (by decide) hG_238
        refine lv_aload_n hx hb dX0_closeArgument_136 rfl (lv_at hl 5 rfl) ?_
        refine g_getk (C := RX0) (T := TX0) (N := 14) hx hb hts (mc_ inX0) hown hK g rfl 6 (by decide) rfl (hts _ (List.mem_cons_of_mem _ t_379)) (fun _ h9 => h9) 5 rfl dX0_closeArgument_137 ?_
        refine lv_iload_n hx hb dX0_closeArgument_140 rfl (lv_at hl 4 rfl) ?_
        refine g_iald hx hb hK g ma_223 ka_223 (by decide) rfl (in_bd b_2 (by decide)) dX0_closeArgument_141 (fun x_246 bx_246 cx_246 => ?_)
        refine lv_iload hx hb dX0_closeArgument_142 (lv_at hl 0 rfl) ?_
        refine lv_icmp_lt (tgt := 158) hx hb dX0_closeArgument_144 (by decide) (fun c_247 => ?_) (fun c_247 => ?_)
        · have fc_247 := lt_f c_247
          have b_248 : bd (-2147483648) 2 x_246 := ltL fc_247 (bdT x_246) bx_241 (by decide)
          subst hQ
          exact W.vret hx hb hr (fun t ht hW => ⟨⟨_, rfl, Or.inl ⟨(bd_sub b_217 (by decide)), x_219, h_220, (g.fcts [6, 15] rfl)⟩, q3_of g hK ht hW⟩, g.2.2.1.F ht⟩) g.2.2.1.2.2 dX0_closeArgument_158
        · have fc_247 := nlt_f c_247
          have b_249 : bd 0 2147483647 x_246 := leR fc_247 bx_241 (bdT x_246) (by decide)
          refine lv_aload_n hx hb dX0_closeArgument_147 rfl (lv_at hl 5 rfl) ?_
          refine g_getk (C := RX0) (T := TX0) (N := 14) hx hb hts (mc_ inX0) hown hK g rfl 0 (by decide) rfl (hts _ (List.mem_cons_of_mem _ t_373)) (fun _ h9 => h9) 9 rfl dX0_closeArgument_148 ?_
          refine lv_bipush (v := 6) hx hb dX0_closeArgument_151 (by decide) ?_
          refine lv_iload hx hb dX0_closeArgument_153 (lv_at hl 1 rfl) ?_
          have kb_6 : bd 6 6 (6 : Int32) := ⟨by decide, by decide⟩
          have go_ := g
          refine g_callv (va_runV (As := [.int 6, .int r_214]) (rest := []) ⟨hx, hb, hml, hown, hts⟩ (r_X8_fail l dC dI L kd tys f H.size g.2.2.2.1 q0_ mq0_ kq0_ 6 (bd_sub kb_6 (by decide)) r_214 y1_ by1_ (g.fcts [15] rfl)) (cwV 2 hts (gV_ t_1215 t_1107 t_1108 t_184 t_1109) rfl rfl rfl (by decide +kernel) ⟨(Nat.le_of_ble_eq_true rfl), (Nat.le_of_ble_eq_true rfl)⟩) (pre3V g hK mq0_ kq0_ (by decide) (q := (RX8, TX8, 10)) rfl) rfl rfl hl.1 rfl (lv_room (Nat.le_of_ble_eq_true rfl)) dX0_closeArgument_155 ⟨(Nat.le_of_ble_eq_true rfl), (Nat.le_of_ble_eq_true rfl)⟩) g hK (by decide) (by decide) (fx' := [(0, 12, a0_, .int 1), (6, 3, a_240, .int x_241), (7, 2, q2_, .ref a_239), (0, 10, a0_, .int x_231), (0, 7, a0_, .ref a_228), (0, 6, a0_, .ref a_223), (9, 9, q4_, .ref a_212), (0, 5, a0_, .ref a_3), (0, 0, a0_, .ref q0_), (0, 1, a0_, .ref q1_), (0, 2, a0_, .ref q2_), (0, 3, a0_, .ref q3_), (5, 1, q1_, .ref q4_), (0, 8, a0_, .int y0_)]) rfl (fun fr_250 H locs hp hMr_250 g => ?_)
          obtain ⟨x_251, h_252, hF_253⟩ := hp
          have hG_254 := eOK.frame hMr_250 go_.2.2.2.1 ma0_ ka0_ (by decide) (by decide) hG_245
          have g := g.more hF_253
          subst hQ
          exact W.vret hx hb hr (fun t ht hW => ⟨⟨_, rfl, Or.inr (⟨x_251, h_252, (g.fcts [0, 1] rfl)⟩), q3_of g hK ht hW⟩, g.2.2.1.F ht⟩) g.2.2.1.2.2 dX0_closeArgument_158
    · have fc_216 := neq_f c_216
      refine lv_iload_n hx hb dX0_closeArgument_57 rfl (lv_at hl 5 rfl) ?_
      refine lv_bipush (v := 41) hx hb dX0_closeArgument_58 (by decide) ?_
      have kb_41 : bd 41 41 (41 : Int32) := ⟨by decide, by decide⟩
      refine lv_icmp_eq (tgt := 74) hx hb dX0_closeArgument_60 (by decide) (fun c_255 => ?_) (fun c_255 => ?_)
      · have fc_255 := eq_f c_255
        have b_256 : bd 41 41 x1_ := eqX fc_255 (bdT x1_) kb_41 (by decide)
        refine lv_aload_n hx hb dX0_closeArgument_74 rfl (lv_at hl 4 rfl) ?_
        refine g_getk (C := RX0) (T := TX0) (N := 14) hx hb hts (mc_ inX0) hown hK g rfl 0 (by decide) rfl (hts _ (List.mem_cons_of_mem _ t_373)) (fun _ h9 => h9) 2 rfl dX0_closeArgument_75 ?_
        have go_ := g
        refine g_callv (va_runV (As := []) (rest := []) ⟨hx, hb, hml, hown, hts⟩ (r_X8_next l dC dI L kd tys fr_214 H.size g.2.2.2.1 q0_ mq0_ kq0_) (cwV 0 hts (gV_ t_1225 t_1103 t_1104 t_184 t_1105) rfl rfl rfl (by decide +kernel) ⟨(Nat.le_of_ble_eq_true rfl), (Nat.le_of_ble_eq_true rfl)⟩) (pre3V g hK mq0_ kq0_ (by decide) (q := (RX8, TX8, 10)) rfl) rfl rfl hl.1 rfl (lv_room (Nat.le_of_ble_eq_true rfl)) dX0_closeArgument_78 ⟨(Nat.le_of_ble_eq_true rfl), (Nat.le_of_ble_eq_true rfl)⟩) g hK (by decide) (by decide) (fx' := [(9, 9, q4_, .ref a_212), (0, 5, a0_, .ref a_3), (0, 0, a0_, .ref q0_), (0, 1, a0_, .ref q1_), (0, 2, a0_, .ref q2_), (0, 3, a0_, .ref q3_), (5, 1, q1_, .ref q4_), (0, 8, a0_, .int y0_), (8, 8, q0_, .int y1_)]) rfl (fun fr_257 H locs hp hMr_257 g => ?_)
        obtain ⟨x_258, h_259, hF_260⟩ := hp
        have hG_261 := eOK.frame hMr_257 go_.2.2.2.1 ma0_ ka0_ (by decide) (by decide) hG_215
        have g := g.more hF_260
        refine lv_aload_n hx hb dX0_closeArgument_81 rfl (lv_at hl 4 rfl) ?_
        refine g_getr (K := 113) (C := RX0) (T := TX0) (N := 14) hx hb hts (mc_ inX0) hown hK g ma0_ ka0_ (by decide) rfl 6 (by decide) rfl (hts _ (List.mem_cons_of_mem _ t_379)) (fun _ h9 => h9) rfl dX0_closeArgument_82 (fun a_262 ma_262 ka_262 g => ?_)
        refine lv_iload_n hx hb dX0_closeArgument_85 rfl (lv_at hl 3 rfl) ?_
        refine lv_dup2_11 hx hb dX0_closeArgument_86 rfl rfl ?_
        refine g_iald hx hb hK g ma_262 ka_262 (by decide) rfl (in_bd b_2 (by decide)) dX0_closeArgument_87 (fun x_263 bx_263 cx_263 => ?_)
        refine lv_iconst (v := 1) hx hb dX0_closeArgument_88 (by decide) ?_
        refine lv_iadd hx hb dX0_closeArgument_89 ?_
        refine lv_topi (fun y_264 ey_264 => ?_)
        have go_ := g
        refine g_iast hx hb hK g ma_262 ka_262 (by decide) rfl (in_bd b_2 (by decide)) (bdT y_264) (by decide) dX0_closeArgument_90 (fun f H locs hM_265 g => ?_)
        have hG_266 := eOK.frame hM_265 go_.2.2.2.1 ma0_ ka0_ (by decide) (by decide) hG_261
        refine lv_aload_n hx hb dX0_closeArgument_91 rfl (lv_at hl 4 rfl) ?_
        refine g_getr (K := 114) (C := RX0) (T := TX0) (N := 14) hx hb hts (mc_ inX0) hown hK g ma0_ ka0_ (by decide) rfl 7 (by decide) rfl (hts _ (List.mem_cons_of_mem _ t_380)) (fun _ h9 => h9) rfl dX0_closeArgument_92 (fun a_267 ma_267 ka_267 g => ?_)
        refine lv_iload_n hx hb dX0_closeArgument_95 rfl (lv_at hl 3 rfl) ?_
        refine lv_aload_n hx hb dX0_closeArgument_96 rfl (lv_at hl 4 rfl) ?_
        refine g_getk (C := RX0) (T := TX0) (N := 14) hx hb hts (mc_ inX0) hown hK g rfl 7 (by decide) rfl (hts _ (List.mem_cons_of_mem _ t_380)) (fun _ h9 => h9) 0 rfl dX0_closeArgument_97 ?_
        refine lv_iload_n hx hb dX0_closeArgument_100 rfl (lv_at hl 3 rfl) ?_
        refine g_iald hx hb hK g ma_267 ka_267 (by decide) rfl (in_bd b_2 (by decide)) dX0_closeArgument_101 (fun x_268 bx_268 cx_268 => ?_)
        refine lv_aload_n hx hb dX0_closeArgument_102 rfl (lv_at hl 4 rfl) ?_
        have go_ := g
        refine g_calli (va_runV (As := []) (rest := [.int x_268, .int y_1, .ref a_267]) ⟨hx, hb, hml, hown, hts⟩ (r_X0_takeHeight l dC dI L kd tys f H.size g.2.2.2.1 a0_ ma0_ ka0_) (cwV 0 hts (gV_ t_1199 t_1201 t_16 t_190 t_1202) rfl rfl rfl (by decide +kernel) ⟨(Nat.le_of_ble_eq_true rfl), (Nat.le_of_ble_eq_true rfl)⟩) (pre3V g hK ma0_ ka0_ (by decide) (q := (RX0, TX0, 14)) rfl) rfl rfl hl.1 rfl (lv_room (Nat.le_of_ble_eq_true rfl)) dX0_closeArgument_103 ⟨(Nat.le_of_ble_eq_true rfl), (Nat.le_of_ble_eq_true rfl)⟩) g hK (by decide) (by decide) (fx' := [(0, 7, a0_, .ref a_267), (0, 6, a0_, .ref a_262), (8, 6, q0_, .int x_258), (9, 9, q4_, .ref a_212), (0, 5, a0_, .ref a_3), (0, 0, a0_, .ref q0_), (0, 1, a0_, .ref q1_), (0, 2, a0_, .ref q2_), (0, 3, a0_, .ref q3_), (5, 1, q1_, .ref q4_), (0, 8, a0_, .int y0_), (8, 8, q0_, .int y1_)]) rfl (fun r_269 fr_269 H locs hp hMr_269 g => ?_)
        obtain ⟨x_270, h_271, hF_272⟩ := hp
        have hG_273 := eOK.frame hMr_269 go_.2.2.2.1 ma0_ ka0_ (by decide) (by decide) hG_266
        have g := g.more hF_272
        refine va_mmax hx hb (hml.trans hl.1.symm) hown (hts _ (List.mem_cons_of_mem _ t_1194)) (hts _ (List.mem_cons_of_mem _ t_1041)) (hts _ (List.mem_cons_of_mem _ t_204)) (hts _ (List.mem_cons_of_mem _ t_1042)) (Nat.le_of_ble_eq_true rfl) (Nat.le_of_ble_eq_true rfl) (Nat.le_of_ble_eq_true rfl) (Nat.le_of_ble_eq_true rfl) dX0_closeArgument_106 ?_
        refine lv_topi (fun y_274 ey_274 => ?_)
        have ty_274 : y_274.toInt = max x_268.toInt r_269.toInt := by rw [ey_274]; exact mmax_ok _ _
        have b_275 : bd (-2147483648) 2147483647 y_274 := max_rg ty_274 (bdT x_268) (bdT r_269) (by decide)
        have go_ := g
        refine g_iast hx hb hK g ma_267 ka_267 (by decide) rfl (in_bd b_2 (by decide)) b_275 (by decide) dX0_closeArgument_109 (fun f H locs hM_276 g => ?_)
        have hG_277 := eOK.frame hM_276 go_.2.2.2.1 ma0_ ka0_ (by decide) (by decide) hG_273
        refine lv_aload_n hx hb dX0_closeArgument_110 rfl (lv_at hl 4 rfl) ?_
        refine g_getk (C := RX0) (T := TX0) (N := 14) hx hb hts (mc_ inX0) hown hK g rfl 2 (by decide) rfl (hts _ (List.mem_cons_of_mem _ t_375)) (fun _ h9 => h9) 8 rfl dX0_closeArgument_111 ?_
        refine g_getr (K := 137) (C := RX7) (T := TX7) (N := 19) hx hb hts (mc_ inX7) hown hK g mq2_ kq2_ (by decide) rfl 2 (by decide) rfl (hts _ (List.mem_cons_of_mem _ t_633)) (fun _ h9 => h9) rfl dX0_closeArgument_114 (fun a_278 ma_278 ka_278 g => ?_)
        refine lv_iload hx hb dX0_closeArgument_117 (lv_at hl 1 rfl) ?_
        refine g_aald hx hb hK g ma_278 ka_278 (by decide) rfl (by decide) (in_bd bx_213 (by decide)) dX0_closeArgument_119 (fun a_279 ma_279 ua_279 wa_279 => ?_)
        have ka_279 : kd a_279 = 6 := by omega
        refine g_geti (C := RX6) (T := TX6) (N := 13) hx hb hts (mc_ inX6) hown hK g ma_279 ka_279 (by decide) rfl 3 (by decide) rfl (hts _ (List.mem_cons_of_mem _ t_564)) (fun _ h9 => h9) rfl dX0_closeArgument_120 (fun x_280 bx_280 g => ?_)
        refine lv_istore (lv' := [(6, .int x_280), (5, .int r_214), (4, .int x_213), (3, .int x_4), (2, .int y_1), (0, .ref a0_), (1, .int x1_)]) hx hb dX0_closeArgument_123 hl (by decide) rfl (fun ls hl => ?_)
        refine lv_iload_n hx hb dX0_closeArgument_125 rfl (lv_at hl 6 rfl) ?_
        refine lv_bipush (v := 44) hx hb dX0_closeArgument_126 (by decide) ?_
        refine lv_icmp_ne (tgt := 159) hx hb dX0_closeArgument_128 (by decide) (fun c_281 => ?_) (fun c_281 => ?_)
        · have fc_281 := neq_f c_281
          refine lv_aload_n hx hb dX0_closeArgument_159 rfl (lv_at hl 5 rfl) ?_
          refine g_getk (C := RX0) (T := TX0) (N := 14) hx hb hts (mc_ inX0) hown hK g rfl 6 (by decide) rfl (hts _ (List.mem_cons_of_mem _ t_379)) (fun _ h9 => h9) 4 rfl dX0_closeArgument_160 ?_
          refine lv_iload_n hx hb dX0_closeArgument_163 rfl (lv_at hl 4 rfl) ?_
          refine g_iald hx hb hK g ma_262 ka_262 (by decide) rfl (in_bd b_2 (by decide)) dX0_closeArgument_164 (fun x_282 bx_282 cx_282 => ?_)
          refine lv_iload hx hb dX0_closeArgument_165 (lv_at hl 0 rfl) ?_
          refine lv_icmp_ge (tgt := 181) hx hb dX0_closeArgument_167 (by decide) (fun c_283 => ?_) (fun c_283 => ?_)
          · have fc_283 := le_f c_283
            have b_284 : bd 0 2147483647 x_282 := leR fc_283 bx_280 (bdT x_282) (by decide)
            refine lv_aload_n hx hb dX0_closeArgument_181 rfl (lv_at hl 5 rfl) ?_
            refine lv_dup hx hb dX0_closeArgument_182 rfl ?_
            refine g_getk (C := RX0) (T := TX0) (N := 14) hx hb hts (mc_ inX0) hown hK g rfl 8 (by decide) rfl (hts _ (List.mem_cons_of_mem _ t_381)) (fun _ h9 => h9) 13 rfl dX0_closeArgument_183 ?_
            refine lv_iconst (v := 1) hx hb dX0_closeArgument_186 (by decide) ?_
            refine lv_isub hx hb dX0_closeArgument_187 ?_
            refine lv_topi (fun y_285 ey_285 => ?_)
            obtain rfl : y_1 = y_285 := ey_1.trans ey_285.symm
            have go_ := g
            refine g_put (C := RX0) (T := TX0) (N := 14) hx hb hts (mc_ inX0) tyX0 tyX0_ok nmX0 hown hK g ma0_ ka0_ (by decide) rfl 8 (by decide) (hts _ (List.mem_cons_of_mem _ t_381)) (fun _ h9 => h9) rfl rfl (okV_i (bd_sub b_2 (by decide))) rfl rfl (by decide) (Or.inr (Or.inl (by decide))) (fx' := [(6, 3, a_279, .int x_280), (7, 2, q2_, .ref a_278), (0, 10, a0_, .int x_270), (0, 7, a0_, .ref a_267), (0, 6, a0_, .ref a_262), (8, 6, q0_, .int x_258), (9, 9, q4_, .ref a_212), (0, 5, a0_, .ref a_3), (0, 0, a0_, .ref q0_), (0, 1, a0_, .ref q1_), (0, 2, a0_, .ref q2_), (0, 3, a0_, .ref q3_), (5, 1, q1_, .ref q4_), (8, 8, q0_, .int y1_)]) rfl dX0_closeArgument_188 (fun f H locs hM_286 g => ?_)
            have hG_287 := eOK.frame hM_286 go_.2.2.2.1 ma0_ ka0_ (by decide) (by decide) hG_277
            refine lv_aload_n hx hb dX0_closeArgument_191 rfl (lv_at hl 5 rfl) ?_
            refine lv_dup hx hb dX0_closeArgument_192 rfl ?_
            refine g_geti (C := RX0) (T := TX0) (N := 14) hx hb hts (mc_ inX0) hown hK g ma0_ ka0_ (by decide) rfl 11 (by decide) rfl (hts _ (List.mem_cons_of_mem _ t_384)) (fun _ h9 => h9) rfl dX0_closeArgument_193 (fun x_288 bx_288 g => ?_)
            refine lv_iconst (v := 1) hx hb dX0_closeArgument_196 (by decide) ?_
            refine lv_isub hx hb dX0_closeArgument_197 ?_
            refine lv_topi (fun y_289 ey_289 => ?_)
            have go_ := g
            refine g_put (C := RX0) (T := TX0) (N := 14) hx hb hts (mc_ inX0) tyX0 tyX0_ok nmX0 hown hK g ma0_ ka0_ (by decide) rfl 11 (by decide) (hts _ (List.mem_cons_of_mem _ t_384)) (fun _ h9 => h9) rfl rfl (okV_i (bdT y_289)) rfl rfl (by decide) (Or.inr (Or.inl (by decide))) (fx' := [(0, 8, a0_, .int y_1), (6, 3, a_279, .int x_280), (7, 2, q2_, .ref a_278), (0, 10, a0_, .int x_270), (0, 7, a0_, .ref a_267), (0, 6, a0_, .ref a_262), (8, 6, q0_, .int x_258), (9, 9, q4_, .ref a_212), (0, 5, a0_, .ref a_3), (0, 0, a0_, .ref q0_), (0, 1, a0_, .ref q1_), (0, 2, a0_, .ref q2_), (0, 3, a0_, .ref q3_), (5, 1, q1_, .ref q4_), (8, 8, q0_, .int y1_)]) rfl dX0_closeArgument_198 (fun f H locs hM_290 g => ?_)
            have hG_291 := eOK.frame hM_290 go_.2.2.2.1 ma0_ ka0_ (by decide) (by decide) hG_287
            refine lv_aload_n hx hb dX0_closeArgument_201 rfl (lv_at hl 5 rfl) ?_
            refine g_getk (C := RX0) (T := TX0) (N := 14) hx hb hts (mc_ inX0) hown hK g rfl 7 (by decide) rfl (hts _ (List.mem_cons_of_mem _ t_380)) (fun _ h9 => h9) 5 rfl dX0_closeArgument_202 ?_
            refine lv_iload_n hx hb dX0_closeArgument_205 rfl (lv_at hl 4 rfl) ?_
            refine g_iald hx hb hK g ma_267 ka_267 (by decide) rfl (in_bd b_2 (by decide)) dX0_closeArgument_206 (fun x_292 bx_292 cx_292 => ?_)
            refine lv_iconst (v := 1) hx hb dX0_closeArgument_207 (by decide) ?_
            refine lv_iadd hx hb dX0_closeArgument_208 ?_
            refine lv_topi (fun y_293 ey_293 => ?_)
            refine lv_bipush (v := 12) hx hb dX0_closeArgument_209 (by decide) ?_
            have kb_12 : bd 12 12 (12 : Int32) := ⟨by decide, by decide⟩
            refine lv_icmp_le (tgt := 229) hx hb dX0_closeArgument_211 (by decide) (fun c_294 => ?_) (fun c_294 => ?_)
            · have fc_294 := le_f c_294
              have b_295 : bd (-2147483648) 12 y_293 := leL fc_294 (bdT y_293) kb_12 (by decide)
              refine lv_aload_n hx hb dX0_closeArgument_229 rfl (lv_at hl 5 rfl) ?_
              refine g_getk (C := RX0) (T := TX0) (N := 14) hx hb hts (mc_ inX0) hown hK g rfl 2 (by decide) rfl (hts _ (List.mem_cons_of_mem _ t_375)) (fun _ h9 => h9) 12 rfl dX0_closeArgument_230 ?_
              refine lv_bipush (v := 13) hx hb dX0_closeArgument_233 (by decide) ?_
              refine lv_iconst (v := 0) hx hb dX0_closeArgument_235 (by decide) ?_
              have go_ := g
              refine g_callv (va_runV (As := [.int 13, .int 0]) (rest := []) ⟨hx, hb, hml, hown, hts⟩ (r_X7_emit l dC dI L kd tys f H.size g.2.2.2.1 q2_ mq2_ kq2_ 13 0) (cwV 2 hts (gV_ t_1203 t_1204 t_1205 t_191 t_1206) rfl rfl rfl (by decide +kernel) ⟨(Nat.le_of_ble_eq_true rfl), (Nat.le_of_ble_eq_true rfl)⟩) (pre3V g hK mq2_ kq2_ (by decide) (q := (RX7, TX7, 19)) rfl) rfl rfl hl.1 rfl (lv_room (Nat.le_of_ble_eq_true rfl)) dX0_closeArgument_236 ⟨(Nat.le_of_ble_eq_true rfl), (Nat.le_of_ble_eq_true rfl)⟩) g hK (by decide) (by decide) (fx' := [(0, 11, a0_, .int y_289), (0, 8, a0_, .int y_1), (6, 3, a_279, .int x_280), (7, 2, q2_, .ref a_278), (0, 10, a0_, .int x_270), (0, 7, a0_, .ref a_267), (0, 6, a0_, .ref a_262), (8, 6, q0_, .int x_258), (9, 9, q4_, .ref a_212), (0, 5, a0_, .ref a_3), (0, 0, a0_, .ref q0_), (0, 1, a0_, .ref q1_), (0, 2, a0_, .ref q2_), (0, 3, a0_, .ref q3_), (5, 1, q1_, .ref q4_), (8, 8, q0_, .int y1_)]) rfl (fun fr_296 H locs hp hMr_296 g => ?_)
              obtain ⟨x_297, h_298, hF_299⟩ := hp
              have hG_300 := eOK.frame hMr_296 go_.2.2.2.1 ma0_ ka0_ (by decide) (by decide) hG_291
              have g := g.more hF_299
              refine lv_aload_n hx hb dX0_closeArgument_239 rfl (lv_at hl 5 rfl) ?_
              refine g_getk (C := RX0) (T := TX0) (N := 14) hx hb hts (mc_ inX0) hown hK g rfl 2 (by decide) rfl (hts _ (List.mem_cons_of_mem _ t_375)) (fun _ h9 => h9) 13 rfl dX0_closeArgument_240 ?_
              refine lv_aload_n hx hb dX0_closeArgument_243 rfl (lv_at hl 5 rfl) ?_
              refine g_getk (C := RX0) (T := TX0) (N := 14) hx hb hts (mc_ inX0) hown hK g rfl 3 (by decide) rfl (hts _ (List.mem_cons_of_mem _ t_376)) (fun _ h9 => h9) 14 rfl dX0_closeArgument_244 ?_
              refine lv_iload_n hx hb dX0_closeArgument_247 rfl (lv_at hl 4 rfl) ?_
              refine g_iald hx hb hK g mq3_ kq3_ (by decide) rfl (in_bd b_2 (by decide)) dX0_closeArgument_248 (fun x_301 bx_301 cx_301 => ?_)
              obtain rfl : x_5 = x_301 := el_same cx_5 cx_301 ((arr_eq hMr_296 mq3_ kq3_ (by decide) rfl).trans ((arr_eq hM_290 mq3_ kq3_ (by decide) rfl).trans ((arr_eq hM_286 mq3_ kq3_ (by decide) rfl).trans ((arr_eq hM_276 mq3_ kq3_ (by decide) rfl).trans ((arr_eq hMr_269 mq3_ kq3_ (by decide) rfl).trans ((arr_eq hM_265 mq3_ kq3_ (by decide) rfl).trans ((arr_eq hMr_257 mq3_ kq3_ (by decide) rfl).trans (arr_eq hMr_214 mq3_ kq3_ (by decide) rfl))))))))
              refine lv_iconst (v := 2) hx hb dX0_closeArgument_249 (by decide) ?_
              refine lv_icmp_ne (tgt := 258) hx hb dX0_closeArgument_250 (by decide) (fun c_302 => ?_) (fun c_302 => ?_)
              · have fc_302 := neq_f c_302
                have b_303 : bd 3 1 x_5 := neX fc_302 b_210 kb_2 (by decide)
                exact bd_no b_303 (by decide)
              · have fc_302 := eq_f c_302
                refine lv_bipush (v := 17) hx hb dX0_closeArgument_253 (by decide) ?_
                refine lv_goto (tgt := 260) hx hb dX0_closeArgument_255 (by decide) ?_
                refine lv_iload_n hx hb dX0_closeArgument_260 rfl (lv_at hl 3 rfl) ?_
                have go_ := g
                refine g_callv (va_runV (As := [.int 17, .int x_4]) (rest := []) ⟨hx, hb, hml, hown, hts⟩ (r_X7_emit l dC dI L kd tys fr_296 H.size g.2.2.2.1 q2_ mq2_ kq2_ 17 x_4) (cwV 2 hts (gV_ t_1203 t_1204 t_1205 t_191 t_1206) rfl rfl rfl (by decide +kernel) ⟨(Nat.le_of_ble_eq_true rfl), (Nat.le_of_ble_eq_true rfl)⟩) (pre3V g hK mq2_ kq2_ (by decide) (q := (RX7, TX7, 19)) rfl) rfl rfl hl.1 rfl (lv_room (Nat.le_of_ble_eq_true rfl)) dX0_closeArgument_261 ⟨(Nat.le_of_ble_eq_true rfl), (Nat.le_of_ble_eq_true rfl)⟩) g hK (by decide) (by decide) (fx' := [(0, 11, a0_, .int y_289), (0, 8, a0_, .int y_1), (6, 3, a_279, .int x_280), (7, 2, q2_, .ref a_278), (0, 10, a0_, .int x_270), (0, 7, a0_, .ref a_267), (0, 6, a0_, .ref a_262), (8, 6, q0_, .int x_258), (9, 9, q4_, .ref a_212), (0, 5, a0_, .ref a_3), (0, 0, a0_, .ref q0_), (0, 1, a0_, .ref q1_), (0, 2, a0_, .ref q2_), (0, 3, a0_, .ref q3_), (5, 1, q1_, .ref q4_), (8, 8, q0_, .int y1_)]) rfl (fun fr_304 H locs hp hMr_304 g => ?_)
                obtain ⟨x_305, h_306, hF_307⟩ := hp
                have hG_308 := eOK.frame hMr_304 go_.2.2.2.1 ma0_ ka0_ (by decide) (by decide) hG_300
                have g := g.more hF_307
                refine lv_aload_n hx hb dX0_closeArgument_264 rfl (lv_at hl 5 rfl) ?_
                refine lv_aload_n hx hb dX0_closeArgument_265 rfl (lv_at hl 5 rfl) ?_
                refine g_getk (C := RX0) (T := TX0) (N := 14) hx hb hts (mc_ inX0) hown hK g rfl 7 (by decide) rfl (hts _ (List.mem_cons_of_mem _ t_380)) (fun _ h9 => h9) 6 rfl dX0_closeArgument_266 ?_
                refine lv_iload_n hx hb dX0_closeArgument_269 rfl (lv_at hl 4 rfl) ?_
                refine g_iald hx hb hK g ma_267 ka_267 (by decide) rfl (in_bd b_2 (by decide)) dX0_closeArgument_270 (fun x_309 bx_309 cx_309 => ?_)
                obtain rfl : x_292 = x_309 := el_same cx_292 cx_309 ((arr_eq hMr_304 ma_267 ka_267 (by decide) rfl).trans (arr_eq hMr_296 ma_267 ka_267 (by decide) rfl))
                refine lv_iconst (v := 1) hx hb dX0_closeArgument_271 (by decide) ?_
                refine lv_iadd hx hb dX0_closeArgument_272 ?_
                refine lv_topi (fun y_310 ey_310 => ?_)
                obtain rfl : y_293 = y_310 := ey_293.trans ey_310.symm
                have go_ := g
                refine g_callv (va_runV (As := [.int y_293]) (rest := []) ⟨hx, hb, hml, hown, hts⟩ (r_X0_addWhole l dC dI L kd tys fr_304 H.size g.2.2.2.1 a0_ ma0_ ka0_ y_293) (cwV 1 hts (gV_ t_1211 t_1213 t_17 t_190 t_1214) rfl rfl rfl (by decide +kernel) ⟨(Nat.le_of_ble_eq_true rfl), (Nat.le_of_ble_eq_true rfl)⟩) (pre3V g hK ma0_ ka0_ (by decide) (q := (RX0, TX0, 14)) rfl) rfl rfl hl.1 rfl (lv_room (Nat.le_of_ble_eq_true rfl)) dX0_closeArgument_273 ⟨(Nat.le_of_ble_eq_true rfl), (Nat.le_of_ble_eq_true rfl)⟩) g hK (by decide) (by decide) (fx' := [(7, 6, q2_, .int x_305), (0, 11, a0_, .int y_289), (0, 8, a0_, .int y_1), (6, 3, a_279, .int x_280), (7, 2, q2_, .ref a_278), (0, 7, a0_, .ref a_267), (0, 6, a0_, .ref a_262), (8, 6, q0_, .int x_258), (9, 9, q4_, .ref a_212), (0, 5, a0_, .ref a_3), (0, 0, a0_, .ref q0_), (0, 1, a0_, .ref q1_), (0, 2, a0_, .ref q2_), (0, 3, a0_, .ref q3_), (5, 1, q1_, .ref q4_), (8, 8, q0_, .int y1_)]) rfl (fun fr_311 H locs hp hMr_311 g => ?_)
                obtain ⟨x_312, h_313, hF_314⟩ := hp
                have hG_315 := eOK.frame hMr_311 go_.2.2.2.1 ma0_ ka0_ (by decide) (by decide) hG_308
                have g := g.more hF_314
                subst hQ
                exact W.vret hx hb hr (fun t ht hW => ⟨⟨_, rfl, Or.inl ⟨(bd_sub b_256 (by decide)), x_258, h_259, (g.fcts [9, 17] rfl)⟩, q3_of g hK ht hW⟩, g.2.2.1.F ht⟩) g.2.2.1.2.2 dX0_closeArgument_276
            · have fc_294 := nle_f c_294
              have b_316 : bd 13 2147483647 y_293 := ltR fc_294 kb_12 (bdT y_293) (by decide)
              refine lv_aload_n hx hb dX0_closeArgument_214 rfl (lv_at hl 5 rfl) ?_
              refine g_getk (C := RX0) (T := TX0) (N := 14) hx hb hts (mc_ inX0) hown hK g rfl 0 (by decide) rfl (hts _ (List.mem_cons_of_mem _ t_373)) (fun _ h9 => h9) 10 rfl dX0_closeArgument_215 ?_
              refine lv_bipush (v := 7) hx hb dX0_closeArgument_218 (by decide) ?_
              refine lv_aload_n hx hb dX0_closeArgument_220 rfl (lv_at hl 5 rfl) ?_
              refine g_getr (K := 111) (C := RX0) (T := TX0) (N := 14) hx hb hts (mc_ inX0) hown hK g ma0_ ka0_ (by decide) rfl 4 (by decide) rfl (hts _ (List.mem_cons_of_mem _ t_377)) (fun _ h9 => h9) rfl dX0_closeArgument_221 (fun a_317 ma_317 ka_317 g => ?_)
              refine lv_iload_n hx hb dX0_closeArgument_224 rfl (lv_at hl 4 rfl) ?_
              refine g_iald hx hb hK g ma_317 ka_317 (by decide) rfl (in_bd b_2 (by decide)) dX0_closeArgument_225 (fun x_318 bx_318 cx_318 => ?_)
              have kb_7 : bd 7 7 (7 : Int32) := ⟨by decide, by decide⟩
              have go_ := g
              refine g_callv (va_runV (As := [.int 7, .int x_318]) (rest := []) ⟨hx, hb, hml, hown, hts⟩ (r_X8_fail l dC dI L kd tys f H.size g.2.2.2.1 q0_ mq0_ kq0_ 7 (bd_sub kb_7 (by decide)) x_318 y1_ by1_ (g.fcts [16] rfl)) (cwV 2 hts (gV_ t_1215 t_1107 t_1108 t_184 t_1109) rfl rfl rfl (by decide +kernel) ⟨(Nat.le_of_ble_eq_true rfl), (Nat.le_of_ble_eq_true rfl)⟩) (pre3V g hK mq0_ kq0_ (by decide) (q := (RX8, TX8, 10)) rfl) rfl rfl hl.1 rfl (lv_room (Nat.le_of_ble_eq_true rfl)) dX0_closeArgument_226 ⟨(Nat.le_of_ble_eq_true rfl), (Nat.le_of_ble_eq_true rfl)⟩) g hK (by decide) (by decide) (fx' := [(0, 4, a0_, .ref a_317), (0, 11, a0_, .int y_289), (0, 8, a0_, .int y_1), (6, 3, a_279, .int x_280), (7, 2, q2_, .ref a_278), (0, 10, a0_, .int x_270), (0, 7, a0_, .ref a_267), (0, 6, a0_, .ref a_262), (9, 9, q4_, .ref a_212), (0, 5, a0_, .ref a_3), (0, 0, a0_, .ref q0_), (0, 1, a0_, .ref q1_), (0, 2, a0_, .ref q2_), (0, 3, a0_, .ref q3_), (5, 1, q1_, .ref q4_)]) rfl (fun fr_319 H locs hp hMr_319 g => ?_)
              obtain ⟨x_320, h_321, hF_322⟩ := hp
              have hG_323 := eOK.frame hMr_319 go_.2.2.2.1 ma0_ ka0_ (by decide) (by decide) hG_291
              have g := g.more hF_322
              refine lv_aload_n hx hb dX0_closeArgument_229 rfl (lv_at hl 5 rfl) ?_
              refine g_getk (C := RX0) (T := TX0) (N := 14) hx hb hts (mc_ inX0) hown hK g rfl 2 (by decide) rfl (hts _ (List.mem_cons_of_mem _ t_375)) (fun _ h9 => h9) 14 rfl dX0_closeArgument_230 ?_
              refine lv_bipush (v := 13) hx hb dX0_closeArgument_233 (by decide) ?_
              refine lv_iconst (v := 0) hx hb dX0_closeArgument_235 (by decide) ?_
              have go_ := g
              refine g_callv (va_runV (As := [.int 13, .int 0]) (rest := []) ⟨hx, hb, hml, hown, hts⟩ (r_X7_emit l dC dI L kd tys fr_319 H.size g.2.2.2.1 q2_ mq2_ kq2_ 13 0) (cwV 2 hts (gV_ t_1203 t_1204 t_1205 t_191 t_1206) rfl rfl rfl (by decide +kernel) ⟨(Nat.le_of_ble_eq_true rfl), (Nat.le_of_ble_eq_true rfl)⟩) (pre3V g hK mq2_ kq2_ (by decide) (q := (RX7, TX7, 19)) rfl) rfl rfl hl.1 rfl (lv_room (Nat.le_of_ble_eq_true rfl)) dX0_closeArgument_236 ⟨(Nat.le_of_ble_eq_true rfl), (Nat.le_of_ble_eq_true rfl)⟩) g hK (by decide) (by decide) (fx' := [(8, 6, q0_, .int 1201), (8, 8, q0_, .int x_320), (0, 4, a0_, .ref a_317), (0, 11, a0_, .int y_289), (0, 8, a0_, .int y_1), (6, 3, a_279, .int x_280), (7, 2, q2_, .ref a_278), (0, 10, a0_, .int x_270), (0, 7, a0_, .ref a_267), (0, 6, a0_, .ref a_262), (9, 9, q4_, .ref a_212), (0, 5, a0_, .ref a_3), (0, 0, a0_, .ref q0_), (0, 1, a0_, .ref q1_), (0, 2, a0_, .ref q2_), (0, 3, a0_, .ref q3_), (5, 1, q1_, .ref q4_)]) rfl (fun fr_324 H locs hp hMr_324 g => ?_)
              obtain ⟨x_325, h_326, hF_327⟩ := hp
              have hG_328 := eOK.frame hMr_324 go_.2.2.2.1 ma0_ ka0_ (by decide) (by decide) hG_323
              have g := g.more hF_327
              refine lv_aload_n hx hb dX0_closeArgument_239 rfl (lv_at hl 5 rfl) ?_
              refine g_getk (C := RX0) (T := TX0) (N := 14) hx hb hts (mc_ inX0) hown hK g rfl 2 (by decide) rfl (hts _ (List.mem_cons_of_mem _ t_375)) (fun _ h9 => h9) 15 rfl dX0_closeArgument_240 ?_
              refine lv_aload_n hx hb dX0_closeArgument_243 rfl (lv_at hl 5 rfl) ?_
              refine g_getk (C := RX0) (T := TX0) (N := 14) hx hb hts (mc_ inX0) hown hK g rfl 3 (by decide) rfl (hts _ (List.mem_cons_of_mem _ t_376)) (fun _ h9 => h9) 16 rfl dX0_closeArgument_244 ?_
              refine lv_iload_n hx hb dX0_closeArgument_247 rfl (lv_at hl 4 rfl) ?_
              refine g_iald hx hb hK g mq3_ kq3_ (by decide) rfl (in_bd b_2 (by decide)) dX0_closeArgument_248 (fun x_329 bx_329 cx_329 => ?_)
              obtain rfl : x_5 = x_329 := el_same cx_5 cx_329 ((arr_eq hMr_324 mq3_ kq3_ (by decide) rfl).trans ((arr_eq hMr_319 mq3_ kq3_ (by decide) rfl).trans ((arr_eq hM_290 mq3_ kq3_ (by decide) rfl).trans ((arr_eq hM_286 mq3_ kq3_ (by decide) rfl).trans ((arr_eq hM_276 mq3_ kq3_ (by decide) rfl).trans ((arr_eq hMr_269 mq3_ kq3_ (by decide) rfl).trans ((arr_eq hM_265 mq3_ kq3_ (by decide) rfl).trans ((arr_eq hMr_257 mq3_ kq3_ (by decide) rfl).trans (arr_eq hMr_214 mq3_ kq3_ (by decide) rfl)))))))))
              refine lv_iconst (v := 2) hx hb dX0_closeArgument_249 (by decide) ?_
              refine lv_icmp_ne (tgt := 258) hx hb dX0_closeArgument_250 (by decide) (fun c_330 => ?_) (fun c_330 => ?_)
              · have fc_330 := neq_f c_330
                have b_331 : bd 3 1 x_5 := neX fc_330 b_210 kb_2 (by decide)
                exact bd_no b_331 (by decide)
              · have fc_330 := eq_f c_330
                refine lv_bipush (v := 17) hx hb dX0_closeArgument_253 (by decide) ?_
                refine lv_goto (tgt := 260) hx hb dX0_closeArgument_255 (by decide) ?_
                refine lv_iload_n hx hb dX0_closeArgument_260 rfl (lv_at hl 3 rfl) ?_
                have go_ := g
                refine g_callv (va_runV (As := [.int 17, .int x_4]) (rest := []) ⟨hx, hb, hml, hown, hts⟩ (r_X7_emit l dC dI L kd tys fr_324 H.size g.2.2.2.1 q2_ mq2_ kq2_ 17 x_4) (cwV 2 hts (gV_ t_1203 t_1204 t_1205 t_191 t_1206) rfl rfl rfl (by decide +kernel) ⟨(Nat.le_of_ble_eq_true rfl), (Nat.le_of_ble_eq_true rfl)⟩) (pre3V g hK mq2_ kq2_ (by decide) (q := (RX7, TX7, 19)) rfl) rfl rfl hl.1 rfl (lv_room (Nat.le_of_ble_eq_true rfl)) dX0_closeArgument_261 ⟨(Nat.le_of_ble_eq_true rfl), (Nat.le_of_ble_eq_true rfl)⟩) g hK (by decide) (by decide) (fx' := [(8, 6, q0_, .int 1201), (8, 8, q0_, .int x_320), (0, 4, a0_, .ref a_317), (0, 11, a0_, .int y_289), (0, 8, a0_, .int y_1), (6, 3, a_279, .int x_280), (7, 2, q2_, .ref a_278), (0, 10, a0_, .int x_270), (0, 7, a0_, .ref a_267), (0, 6, a0_, .ref a_262), (9, 9, q4_, .ref a_212), (0, 5, a0_, .ref a_3), (0, 0, a0_, .ref q0_), (0, 1, a0_, .ref q1_), (0, 2, a0_, .ref q2_), (0, 3, a0_, .ref q3_), (5, 1, q1_, .ref q4_)]) rfl (fun fr_332 H locs hp hMr_332 g => ?_)
                obtain ⟨x_333, h_334, hF_335⟩ := hp
                have hG_336 := eOK.frame hMr_332 go_.2.2.2.1 ma0_ ka0_ (by decide) (by decide) hG_328
                have g := g.more hF_335
                refine lv_aload_n hx hb dX0_closeArgument_264 rfl (lv_at hl 5 rfl) ?_
                refine lv_aload_n hx hb dX0_closeArgument_265 rfl (lv_at hl 5 rfl) ?_
                refine g_getk (C := RX0) (T := TX0) (N := 14) hx hb hts (mc_ inX0) hown hK g rfl 7 (by decide) rfl (hts _ (List.mem_cons_of_mem _ t_380)) (fun _ h9 => h9) 9 rfl dX0_closeArgument_266 ?_
                refine lv_iload_n hx hb dX0_closeArgument_269 rfl (lv_at hl 4 rfl) ?_
                refine g_iald hx hb hK g ma_267 ka_267 (by decide) rfl (in_bd b_2 (by decide)) dX0_closeArgument_270 (fun x_337 bx_337 cx_337 => ?_)
                obtain rfl : x_292 = x_337 := el_same cx_292 cx_337 ((arr_eq hMr_332 ma_267 ka_267 (by decide) rfl).trans ((arr_eq hMr_324 ma_267 ka_267 (by decide) rfl).trans (arr_eq hMr_319 ma_267 ka_267 (by decide) rfl)))
                refine lv_iconst (v := 1) hx hb dX0_closeArgument_271 (by decide) ?_
                refine lv_iadd hx hb dX0_closeArgument_272 ?_
                refine lv_topi (fun y_338 ey_338 => ?_)
                obtain rfl : y_293 = y_338 := ey_293.trans ey_338.symm
                have go_ := g
                refine g_callv (va_runV (As := [.int y_293]) (rest := []) ⟨hx, hb, hml, hown, hts⟩ (r_X0_addWhole l dC dI L kd tys fr_332 H.size g.2.2.2.1 a0_ ma0_ ka0_ y_293) (cwV 1 hts (gV_ t_1211 t_1213 t_17 t_190 t_1214) rfl rfl rfl (by decide +kernel) ⟨(Nat.le_of_ble_eq_true rfl), (Nat.le_of_ble_eq_true rfl)⟩) (pre3V g hK ma0_ ka0_ (by decide) (q := (RX0, TX0, 14)) rfl) rfl rfl hl.1 rfl (lv_room (Nat.le_of_ble_eq_true rfl)) dX0_closeArgument_273 ⟨(Nat.le_of_ble_eq_true rfl), (Nat.le_of_ble_eq_true rfl)⟩) g hK (by decide) (by decide) (fx' := [(7, 6, q2_, .int x_333), (8, 6, q0_, .int 1201), (8, 8, q0_, .int x_320), (0, 4, a0_, .ref a_317), (0, 11, a0_, .int y_289), (0, 8, a0_, .int y_1), (6, 3, a_279, .int x_280), (7, 2, q2_, .ref a_278), (0, 7, a0_, .ref a_267), (0, 6, a0_, .ref a_262), (9, 9, q4_, .ref a_212), (0, 5, a0_, .ref a_3), (0, 0, a0_, .ref q0_), (0, 1, a0_, .ref q1_), (0, 2, a0_, .ref q2_), (0, 3, a0_, .ref q3_), (5, 1, q1_, .ref q4_)]) rfl (fun fr_339 H locs hp hMr_339 g => ?_)
                obtain ⟨x_340, h_341, hF_342⟩ := hp
                have hG_343 := eOK.frame hMr_339 go_.2.2.2.1 ma0_ ka0_ (by decide) (by decide) hG_336
                have g := g.more hF_342
                subst hQ
                exact W.vret hx hb hr (fun t ht hW => ⟨⟨_, rfl, Or.inr (⟨x_320, h_321, (g.fcts [3, 4] rfl)⟩), q3_of g hK ht hW⟩, g.2.2.1.F ht⟩) g.2.2.1.2.2 dX0_closeArgument_276
          · have fc_283 := nle_f c_283
            have b_344 : bd (-2147483648) 2 x_282 := ltL fc_283 (bdT x_282) bx_280 (by decide)
            refine lv_aload_n hx hb dX0_closeArgument_170 rfl (lv_at hl 5 rfl) ?_
            refine g_getk (C := RX0) (T := TX0) (N := 14) hx hb hts (mc_ inX0) hown hK g rfl 0 (by decide) rfl (hts _ (List.mem_cons_of_mem _ t_373)) (fun _ h9 => h9) 8 rfl dX0_closeArgument_171 ?_
            refine lv_bipush (v := 6) hx hb dX0_closeArgument_174 (by decide) ?_
            refine lv_iload hx hb dX0_closeArgument_176 (lv_at hl 1 rfl) ?_
            have kb_6 : bd 6 6 (6 : Int32) := ⟨by decide, by decide⟩
            have go_ := g
            refine g_callv (va_runV (As := [.int 6, .int r_214]) (rest := []) ⟨hx, hb, hml, hown, hts⟩ (r_X8_fail l dC dI L kd tys f H.size g.2.2.2.1 q0_ mq0_ kq0_ 6 (bd_sub kb_6 (by decide)) r_214 y1_ by1_ (g.fcts [14] rfl)) (cwV 2 hts (gV_ t_1215 t_1107 t_1108 t_184 t_1109) rfl rfl rfl (by decide +kernel) ⟨(Nat.le_of_ble_eq_true rfl), (Nat.le_of_ble_eq_true rfl)⟩) (pre3V g hK mq0_ kq0_ (by decide) (q := (RX8, TX8, 10)) rfl) rfl rfl hl.1 rfl (lv_room (Nat.le_of_ble_eq_true rfl)) dX0_closeArgument_178 ⟨(Nat.le_of_ble_eq_true rfl), (Nat.le_of_ble_eq_true rfl)⟩) g hK (by decide) (by decide) (fx' := [(6, 3, a_279, .int x_280), (7, 2, q2_, .ref a_278), (0, 10, a0_, .int x_270), (0, 7, a0_, .ref a_267), (0, 6, a0_, .ref a_262), (9, 9, q4_, .ref a_212), (0, 5, a0_, .ref a_3), (0, 0, a0_, .ref q0_), (0, 1, a0_, .ref q1_), (0, 2, a0_, .ref q2_), (0, 3, a0_, .ref q3_), (5, 1, q1_, .ref q4_), (0, 8, a0_, .int y0_)]) rfl (fun fr_345 H locs hp hMr_345 g => ?_)
            obtain ⟨x_346, h_347, hF_348⟩ := hp
            have hG_349 := eOK.frame hMr_345 go_.2.2.2.1 ma0_ ka0_ (by decide) (by decide) hG_277
            have g := g.more hF_348
            refine lv_aload_n hx hb dX0_closeArgument_181 rfl (lv_at hl 5 rfl) ?_
            refine lv_dup hx hb dX0_closeArgument_182 rfl ?_
            refine g_getk (C := RX0) (T := TX0) (N := 14) hx hb hts (mc_ inX0) hown hK g rfl 8 (by decide) rfl (hts _ (List.mem_cons_of_mem _ t_381)) (fun _ h9 => h9) 14 rfl dX0_closeArgument_183 ?_
            refine lv_iconst (v := 1) hx hb dX0_closeArgument_186 (by decide) ?_
            refine lv_isub hx hb dX0_closeArgument_187 ?_
            refine lv_topi (fun y_350 ey_350 => ?_)
            obtain rfl : y_1 = y_350 := ey_1.trans ey_350.symm
            have go_ := g
            refine g_put (C := RX0) (T := TX0) (N := 14) hx hb hts (mc_ inX0) tyX0 tyX0_ok nmX0 hown hK g ma0_ ka0_ (by decide) rfl 8 (by decide) (hts _ (List.mem_cons_of_mem _ t_381)) (fun _ h9 => h9) rfl rfl (okV_i (bd_sub b_2 (by decide))) rfl rfl (by decide) (Or.inr (Or.inl (by decide))) (fx' := [(8, 6, q0_, .int 1201), (8, 8, q0_, .int x_346), (6, 3, a_279, .int x_280), (7, 2, q2_, .ref a_278), (0, 10, a0_, .int x_270), (0, 7, a0_, .ref a_267), (0, 6, a0_, .ref a_262), (9, 9, q4_, .ref a_212), (0, 5, a0_, .ref a_3), (0, 0, a0_, .ref q0_), (0, 1, a0_, .ref q1_), (0, 2, a0_, .ref q2_), (0, 3, a0_, .ref q3_), (5, 1, q1_, .ref q4_)]) rfl dX0_closeArgument_188 (fun f H locs hM_351 g => ?_)
            have hG_352 := eOK.frame hM_351 go_.2.2.2.1 ma0_ ka0_ (by decide) (by decide) hG_349
            refine lv_aload_n hx hb dX0_closeArgument_191 rfl (lv_at hl 5 rfl) ?_
            refine lv_dup hx hb dX0_closeArgument_192 rfl ?_
            refine g_geti (C := RX0) (T := TX0) (N := 14) hx hb hts (mc_ inX0) hown hK g ma0_ ka0_ (by decide) rfl 11 (by decide) rfl (hts _ (List.mem_cons_of_mem _ t_384)) (fun _ h9 => h9) rfl dX0_closeArgument_193 (fun x_353 bx_353 g => ?_)
            refine lv_iconst (v := 1) hx hb dX0_closeArgument_196 (by decide) ?_
            refine lv_isub hx hb dX0_closeArgument_197 ?_
            refine lv_topi (fun y_354 ey_354 => ?_)
            have go_ := g
            refine g_put (C := RX0) (T := TX0) (N := 14) hx hb hts (mc_ inX0) tyX0 tyX0_ok nmX0 hown hK g ma0_ ka0_ (by decide) rfl 11 (by decide) (hts _ (List.mem_cons_of_mem _ t_384)) (fun _ h9 => h9) rfl rfl (okV_i (bdT y_354)) rfl rfl (by decide) (Or.inr (Or.inl (by decide))) (fx' := [(0, 8, a0_, .int y_1), (8, 6, q0_, .int 1201), (8, 8, q0_, .int x_346), (6, 3, a_279, .int x_280), (7, 2, q2_, .ref a_278), (0, 10, a0_, .int x_270), (0, 7, a0_, .ref a_267), (0, 6, a0_, .ref a_262), (9, 9, q4_, .ref a_212), (0, 5, a0_, .ref a_3), (0, 0, a0_, .ref q0_), (0, 1, a0_, .ref q1_), (0, 2, a0_, .ref q2_), (0, 3, a0_, .ref q3_), (5, 1, q1_, .ref q4_)]) rfl dX0_closeArgument_198 (fun f H locs hM_355 g => ?_)
            have hG_356 := eOK.frame hM_355 go_.2.2.2.1 ma0_ ka0_ (by decide) (by decide) hG_352
            refine lv_aload_n hx hb dX0_closeArgument_201 rfl (lv_at hl 5 rfl) ?_
            refine g_getk (C := RX0) (T := TX0) (N := 14) hx hb hts (mc_ inX0) hown hK g rfl 7 (by decide) rfl (hts _ (List.mem_cons_of_mem _ t_380)) (fun _ h9 => h9) 7 rfl dX0_closeArgument_202 ?_
            refine lv_iload_n hx hb dX0_closeArgument_205 rfl (lv_at hl 4 rfl) ?_
            refine g_iald hx hb hK g ma_267 ka_267 (by decide) rfl (in_bd b_2 (by decide)) dX0_closeArgument_206 (fun x_357 bx_357 cx_357 => ?_)
            refine lv_iconst (v := 1) hx hb dX0_closeArgument_207 (by decide) ?_
            refine lv_iadd hx hb dX0_closeArgument_208 ?_
            refine lv_topi (fun y_358 ey_358 => ?_)
            refine lv_bipush (v := 12) hx hb dX0_closeArgument_209 (by decide) ?_
            have kb_12 : bd 12 12 (12 : Int32) := ⟨by decide, by decide⟩
            refine lv_icmp_le (tgt := 229) hx hb dX0_closeArgument_211 (by decide) (fun c_359 => ?_) (fun c_359 => ?_)
            · have fc_359 := le_f c_359
              have b_360 : bd (-2147483648) 12 y_358 := leL fc_359 (bdT y_358) kb_12 (by decide)
              refine lv_aload_n hx hb dX0_closeArgument_229 rfl (lv_at hl 5 rfl) ?_
              refine g_getk (C := RX0) (T := TX0) (N := 14) hx hb hts (mc_ inX0) hown hK g rfl 2 (by decide) rfl (hts _ (List.mem_cons_of_mem _ t_375)) (fun _ h9 => h9) 13 rfl dX0_closeArgument_230 ?_
              refine lv_bipush (v := 13) hx hb dX0_closeArgument_233 (by decide) ?_
              refine lv_iconst (v := 0) hx hb dX0_closeArgument_235 (by decide) ?_
              have go_ := g
              refine g_callv (va_runV (As := [.int 13, .int 0]) (rest := []) ⟨hx, hb, hml, hown, hts⟩ (r_X7_emit l dC dI L kd tys f H.size g.2.2.2.1 q2_ mq2_ kq2_ 13 0) (cwV 2 hts (gV_ t_1203 t_1204 t_1205 t_191 t_1206) rfl rfl rfl (by decide +kernel) ⟨(Nat.le_of_ble_eq_true rfl), (Nat.le_of_ble_eq_true rfl)⟩) (pre3V g hK mq2_ kq2_ (by decide) (q := (RX7, TX7, 19)) rfl) rfl rfl hl.1 rfl (lv_room (Nat.le_of_ble_eq_true rfl)) dX0_closeArgument_236 ⟨(Nat.le_of_ble_eq_true rfl), (Nat.le_of_ble_eq_true rfl)⟩) g hK (by decide) (by decide) (fx' := [(0, 11, a0_, .int y_354), (0, 8, a0_, .int y_1), (8, 6, q0_, .int 1201), (8, 8, q0_, .int x_346), (6, 3, a_279, .int x_280), (7, 2, q2_, .ref a_278), (0, 10, a0_, .int x_270), (0, 7, a0_, .ref a_267), (0, 6, a0_, .ref a_262), (9, 9, q4_, .ref a_212), (0, 5, a0_, .ref a_3), (0, 0, a0_, .ref q0_), (0, 1, a0_, .ref q1_), (0, 2, a0_, .ref q2_), (0, 3, a0_, .ref q3_), (5, 1, q1_, .ref q4_)]) rfl (fun fr_361 H locs hp hMr_361 g => ?_)
              obtain ⟨x_362, h_363, hF_364⟩ := hp
              have hG_365 := eOK.frame hMr_361 go_.2.2.2.1 ma0_ ka0_ (by decide) (by decide) hG_356
              have g := g.more hF_364
              refine lv_aload_n hx hb dX0_closeArgument_239 rfl (lv_at hl 5 rfl) ?_
              refine g_getk (C := RX0) (T := TX0) (N := 14) hx hb hts (mc_ inX0) hown hK g rfl 2 (by decide) rfl (hts _ (List.mem_cons_of_mem _ t_375)) (fun _ h9 => h9) 14 rfl dX0_closeArgument_240 ?_
              refine lv_aload_n hx hb dX0_closeArgument_243 rfl (lv_at hl 5 rfl) ?_
              refine g_getk (C := RX0) (T := TX0) (N := 14) hx hb hts (mc_ inX0) hown hK g rfl 3 (by decide) rfl (hts _ (List.mem_cons_of_mem _ t_376)) (fun _ h9 => h9) 15 rfl dX0_closeArgument_244 ?_
              refine lv_iload_n hx hb dX0_closeArgument_247 rfl (lv_at hl 4 rfl) ?_
              refine g_iald hx hb hK g mq3_ kq3_ (by decide) rfl (in_bd b_2 (by decide)) dX0_closeArgument_248 (fun x_366 bx_366 cx_366 => ?_)
              obtain rfl : x_5 = x_366 := el_same cx_5 cx_366 ((arr_eq hMr_361 mq3_ kq3_ (by decide) rfl).trans ((arr_eq hM_355 mq3_ kq3_ (by decide) rfl).trans ((arr_eq hM_351 mq3_ kq3_ (by decide) rfl).trans ((arr_eq hMr_345 mq3_ kq3_ (by decide) rfl).trans ((arr_eq hM_276 mq3_ kq3_ (by decide) rfl).trans ((arr_eq hMr_269 mq3_ kq3_ (by decide) rfl).trans ((arr_eq hM_265 mq3_ kq3_ (by decide) rfl).trans ((arr_eq hMr_257 mq3_ kq3_ (by decide) rfl).trans (arr_eq hMr_214 mq3_ kq3_ (by decide) rfl)))))))))
              refine lv_iconst (v := 2) hx hb dX0_closeArgument_249 (by decide) ?_
              refine lv_icmp_ne (tgt := 258) hx hb dX0_closeArgument_250 (by decide) (fun c_367 => ?_) (fun c_367 => ?_)
              · have fc_367 := neq_f c_367
                have b_368 : bd 3 1 x_5 := neX fc_367 b_210 kb_2 (by decide)
                exact bd_no b_368 (by decide)
              · have fc_367 := eq_f c_367
                refine lv_bipush (v := 17) hx hb dX0_closeArgument_253 (by decide) ?_
                refine lv_goto (tgt := 260) hx hb dX0_closeArgument_255 (by decide) ?_
                refine lv_iload_n hx hb dX0_closeArgument_260 rfl (lv_at hl 3 rfl) ?_
                have go_ := g
                refine g_callv (va_runV (As := [.int 17, .int x_4]) (rest := []) ⟨hx, hb, hml, hown, hts⟩ (r_X7_emit l dC dI L kd tys fr_361 H.size g.2.2.2.1 q2_ mq2_ kq2_ 17 x_4) (cwV 2 hts (gV_ t_1203 t_1204 t_1205 t_191 t_1206) rfl rfl rfl (by decide +kernel) ⟨(Nat.le_of_ble_eq_true rfl), (Nat.le_of_ble_eq_true rfl)⟩) (pre3V g hK mq2_ kq2_ (by decide) (q := (RX7, TX7, 19)) rfl) rfl rfl hl.1 rfl (lv_room (Nat.le_of_ble_eq_true rfl)) dX0_closeArgument_261 ⟨(Nat.le_of_ble_eq_true rfl), (Nat.le_of_ble_eq_true rfl)⟩) g hK (by decide) (by decide) (fx' := [(0, 11, a0_, .int y_354), (0, 8, a0_, .int y_1), (8, 6, q0_, .int 1201), (8, 8, q0_, .int x_346), (6, 3, a_279, .int x_280), (7, 2, q2_, .ref a_278), (0, 10, a0_, .int x_270), (0, 7, a0_, .ref a_267), (0, 6, a0_, .ref a_262), (9, 9, q4_, .ref a_212), (0, 5, a0_, .ref a_3), (0, 0, a0_, .ref q0_), (0, 1, a0_, .ref q1_), (0, 2, a0_, .ref q2_), (0, 3, a0_, .ref q3_), (5, 1, q1_, .ref q4_)]) rfl (fun fr_369 H locs hp hMr_369 g => ?_)
                obtain ⟨x_370, h_371, hF_372⟩ := hp
                have hG_373 := eOK.frame hMr_369 go_.2.2.2.1 ma0_ ka0_ (by decide) (by decide) hG_365
                have g := g.more hF_372
                refine lv_aload_n hx hb dX0_closeArgument_264 rfl (lv_at hl 5 rfl) ?_
                refine lv_aload_n hx hb dX0_closeArgument_265 rfl (lv_at hl 5 rfl) ?_
                refine g_getk (C := RX0) (T := TX0) (N := 14) hx hb hts (mc_ inX0) hown hK g rfl 7 (by decide) rfl (hts _ (List.mem_cons_of_mem _ t_380)) (fun _ h9 => h9) 8 rfl dX0_closeArgument_266 ?_
                refine lv_iload_n hx hb dX0_closeArgument_269 rfl (lv_at hl 4 rfl) ?_
                refine g_iald hx hb hK g ma_267 ka_267 (by decide) rfl (in_bd b_2 (by decide)) dX0_closeArgument_270 (fun x_374 bx_374 cx_374 => ?_)
                obtain rfl : x_357 = x_374 := el_same cx_357 cx_374 ((arr_eq hMr_369 ma_267 ka_267 (by decide) rfl).trans (arr_eq hMr_361 ma_267 ka_267 (by decide) rfl))
                refine lv_iconst (v := 1) hx hb dX0_closeArgument_271 (by decide) ?_
                refine lv_iadd hx hb dX0_closeArgument_272 ?_
                refine lv_topi (fun y_375 ey_375 => ?_)
                obtain rfl : y_358 = y_375 := ey_358.trans ey_375.symm
                have go_ := g
                refine g_callv (va_runV (As := [.int y_358]) (rest := []) ⟨hx, hb, hml, hown, hts⟩ (r_X0_addWhole l dC dI L kd tys fr_369 H.size g.2.2.2.1 a0_ ma0_ ka0_ y_358) (cwV 1 hts (gV_ t_1211 t_1213 t_17 t_190 t_1214) rfl rfl rfl (by decide +kernel) ⟨(Nat.le_of_ble_eq_true rfl), (Nat.le_of_ble_eq_true rfl)⟩) (pre3V g hK ma0_ ka0_ (by decide) (q := (RX0, TX0, 14)) rfl) rfl rfl hl.1 rfl (lv_room (Nat.le_of_ble_eq_true rfl)) dX0_closeArgument_273 ⟨(Nat.le_of_ble_eq_true rfl), (Nat.le_of_ble_eq_true rfl)⟩) g hK (by decide) (by decide) (fx' := [(7, 6, q2_, .int x_370), (0, 11, a0_, .int y_354), (0, 8, a0_, .int y_1), (8, 6, q0_, .int 1201), (8, 8, q0_, .int x_346), (6, 3, a_279, .int x_280), (7, 2, q2_, .ref a_278), (0, 7, a0_, .ref a_267), (0, 6, a0_, .ref a_262), (9, 9, q4_, .ref a_212), (0, 5, a0_, .ref a_3), (0, 0, a0_, .ref q0_), (0, 1, a0_, .ref q1_), (0, 2, a0_, .ref q2_), (0, 3, a0_, .ref q3_), (5, 1, q1_, .ref q4_)]) rfl (fun fr_376 H locs hp hMr_376 g => ?_)
                obtain ⟨x_377, h_378, hF_379⟩ := hp
                have hG_380 := eOK.frame hMr_376 go_.2.2.2.1 ma0_ ka0_ (by decide) (by decide) hG_373
                have g := g.more hF_379
                subst hQ
                exact W.vret hx hb hr (fun t ht hW => ⟨⟨_, rfl, Or.inr (⟨x_346, h_347, (g.fcts [5, 6] rfl)⟩), q3_of g hK ht hW⟩, g.2.2.1.F ht⟩) g.2.2.1.2.2 dX0_closeArgument_276
            · have fc_359 := nle_f c_359
              have b_381 : bd 13 2147483647 y_358 := ltR fc_359 kb_12 (bdT y_358) (by decide)
              refine lv_aload_n hx hb dX0_closeArgument_214 rfl (lv_at hl 5 rfl) ?_
              refine g_getk (C := RX0) (T := TX0) (N := 14) hx hb hts (mc_ inX0) hown hK g rfl 0 (by decide) rfl (hts _ (List.mem_cons_of_mem _ t_373)) (fun _ h9 => h9) 11 rfl dX0_closeArgument_215 ?_
              refine lv_bipush (v := 7) hx hb dX0_closeArgument_218 (by decide) ?_
              refine lv_aload_n hx hb dX0_closeArgument_220 rfl (lv_at hl 5 rfl) ?_
              refine g_getr (K := 111) (C := RX0) (T := TX0) (N := 14) hx hb hts (mc_ inX0) hown hK g ma0_ ka0_ (by decide) rfl 4 (by decide) rfl (hts _ (List.mem_cons_of_mem _ t_377)) (fun _ h9 => h9) rfl dX0_closeArgument_221 (fun a_382 ma_382 ka_382 g => ?_)
              refine lv_iload_n hx hb dX0_closeArgument_224 rfl (lv_at hl 4 rfl) ?_
              refine g_iald hx hb hK g ma_382 ka_382 (by decide) rfl (in_bd b_2 (by decide)) dX0_closeArgument_225 (fun x_383 bx_383 cx_383 => ?_)
              have kb_7 : bd 7 7 (7 : Int32) := ⟨by decide, by decide⟩
              have go_ := g
              refine g_callv (va_runV (As := [.int 7, .int x_383]) (rest := []) ⟨hx, hb, hml, hown, hts⟩ (r_X8_fail_2 l dC dI L kd tys f H.size g.2.2.2.1 q0_ mq0_ kq0_ 7 (bd_sub kb_7 (by decide)) x_383 x_346 h_347 (g.fcts [4] rfl)) (cwV 2 hts (gV_ t_1215 t_1107 t_1108 t_184 t_1109) rfl rfl rfl (by decide +kernel) ⟨(Nat.le_of_ble_eq_true rfl), (Nat.le_of_ble_eq_true rfl)⟩) (pre3V g hK mq0_ kq0_ (by decide) (q := (RX8, TX8, 10)) rfl) rfl rfl hl.1 rfl (lv_room (Nat.le_of_ble_eq_true rfl)) dX0_closeArgument_226 ⟨(Nat.le_of_ble_eq_true rfl), (Nat.le_of_ble_eq_true rfl)⟩) g hK (by decide) (by decide) (fx' := [(0, 4, a0_, .ref a_382), (0, 11, a0_, .int y_354), (0, 8, a0_, .int y_1), (8, 8, q0_, .int x_346), (6, 3, a_279, .int x_280), (7, 2, q2_, .ref a_278), (0, 10, a0_, .int x_270), (0, 7, a0_, .ref a_267), (0, 6, a0_, .ref a_262), (9, 9, q4_, .ref a_212), (0, 5, a0_, .ref a_3), (0, 0, a0_, .ref q0_), (0, 1, a0_, .ref q1_), (0, 2, a0_, .ref q2_), (0, 3, a0_, .ref q3_), (5, 1, q1_, .ref q4_)]) rfl (fun fr_384 H locs hp hMr_384 g => ?_)
              have hF_385 := hp
              have hG_386 := eOK.frame hMr_384 go_.2.2.2.1 ma0_ ka0_ (by decide) (by decide) hG_356
              have g := g.more hF_385
              refine lv_aload_n hx hb dX0_closeArgument_229 rfl (lv_at hl 5 rfl) ?_
              refine g_getk (C := RX0) (T := TX0) (N := 14) hx hb hts (mc_ inX0) hown hK g rfl 2 (by decide) rfl (hts _ (List.mem_cons_of_mem _ t_375)) (fun _ h9 => h9) 14 rfl dX0_closeArgument_230 ?_
              refine lv_bipush (v := 13) hx hb dX0_closeArgument_233 (by decide) ?_
              refine lv_iconst (v := 0) hx hb dX0_closeArgument_235 (by decide) ?_
              have go_ := g
              refine g_callv (va_runV (As := [.int 13, .int 0]) (rest := []) ⟨hx, hb, hml, hown, hts⟩ (r_X7_emit l dC dI L kd tys fr_384 H.size g.2.2.2.1 q2_ mq2_ kq2_ 13 0) (cwV 2 hts (gV_ t_1203 t_1204 t_1205 t_191 t_1206) rfl rfl rfl (by decide +kernel) ⟨(Nat.le_of_ble_eq_true rfl), (Nat.le_of_ble_eq_true rfl)⟩) (pre3V g hK mq2_ kq2_ (by decide) (q := (RX7, TX7, 19)) rfl) rfl rfl hl.1 rfl (lv_room (Nat.le_of_ble_eq_true rfl)) dX0_closeArgument_236 ⟨(Nat.le_of_ble_eq_true rfl), (Nat.le_of_ble_eq_true rfl)⟩) g hK (by decide) (by decide) (fx' := [(8, 6, q0_, .int 1201), (0, 4, a0_, .ref a_382), (0, 11, a0_, .int y_354), (0, 8, a0_, .int y_1), (8, 8, q0_, .int x_346), (6, 3, a_279, .int x_280), (7, 2, q2_, .ref a_278), (0, 10, a0_, .int x_270), (0, 7, a0_, .ref a_267), (0, 6, a0_, .ref a_262), (9, 9, q4_, .ref a_212), (0, 5, a0_, .ref a_3), (0, 0, a0_, .ref q0_), (0, 1, a0_, .ref q1_), (0, 2, a0_, .ref q2_), (0, 3, a0_, .ref q3_), (5, 1, q1_, .ref q4_)]) rfl (fun fr_387 H locs hp hMr_387 g => ?_)
              obtain ⟨x_388, h_389, hF_390⟩ := hp
              have hG_391 := eOK.frame hMr_387 go_.2.2.2.1 ma0_ ka0_ (by decide) (by decide) hG_386
              have g := g.more hF_390
              refine lv_aload_n hx hb dX0_closeArgument_239 rfl (lv_at hl 5 rfl) ?_
              refine g_getk (C := RX0) (T := TX0) (N := 14) hx hb hts (mc_ inX0) hown hK g rfl 2 (by decide) rfl (hts _ (List.mem_cons_of_mem _ t_375)) (fun _ h9 => h9) 15 rfl dX0_closeArgument_240 ?_
              refine lv_aload_n hx hb dX0_closeArgument_243 rfl (lv_at hl 5 rfl) ?_
              refine g_getk (C := RX0) (T := TX0) (N := 14) hx hb hts (mc_ inX0) hown hK g rfl 3 (by decide) rfl (hts _ (List.mem_cons_of_mem _ t_376)) (fun _ h9 => h9) 16 rfl dX0_closeArgument_244 ?_
              refine lv_iload_n hx hb dX0_closeArgument_247 rfl (lv_at hl 4 rfl) ?_
              refine g_iald hx hb hK g mq3_ kq3_ (by decide) rfl (in_bd b_2 (by decide)) dX0_closeArgument_248 (fun x_392 bx_392 cx_392 => ?_)
              obtain rfl : x_5 = x_392 := el_same cx_5 cx_392 ((arr_eq hMr_387 mq3_ kq3_ (by decide) rfl).trans ((arr_eq hMr_384 mq3_ kq3_ (by decide) rfl).trans ((arr_eq hM_355 mq3_ kq3_ (by decide) rfl).trans ((arr_eq hM_351 mq3_ kq3_ (by decide) rfl).trans ((arr_eq hMr_345 mq3_ kq3_ (by decide) rfl).trans ((arr_eq hM_276 mq3_ kq3_ (by decide) rfl).trans ((arr_eq hMr_269 mq3_ kq3_ (by decide) rfl).trans ((arr_eq hM_265 mq3_ kq3_ (by decide) rfl).trans ((arr_eq hMr_257 mq3_ kq3_ (by decide) rfl).trans (arr_eq hMr_214 mq3_ kq3_ (by decide) rfl))))))))))
              refine lv_iconst (v := 2) hx hb dX0_closeArgument_249 (by decide) ?_
              refine lv_icmp_ne (tgt := 258) hx hb dX0_closeArgument_250 (by decide) (fun c_393 => ?_) (fun c_393 => ?_)
              · have fc_393 := neq_f c_393
                have b_394 : bd 3 1 x_5 := neX fc_393 b_210 kb_2 (by decide)
                exact bd_no b_394 (by decide)
              · have fc_393 := eq_f c_393
                refine lv_bipush (v := 17) hx hb dX0_closeArgument_253 (by decide) ?_
                refine lv_goto (tgt := 260) hx hb dX0_closeArgument_255 (by decide) ?_
                refine lv_iload_n hx hb dX0_closeArgument_260 rfl (lv_at hl 3 rfl) ?_
                have go_ := g
                refine g_callv (va_runV (As := [.int 17, .int x_4]) (rest := []) ⟨hx, hb, hml, hown, hts⟩ (r_X7_emit l dC dI L kd tys fr_387 H.size g.2.2.2.1 q2_ mq2_ kq2_ 17 x_4) (cwV 2 hts (gV_ t_1203 t_1204 t_1205 t_191 t_1206) rfl rfl rfl (by decide +kernel) ⟨(Nat.le_of_ble_eq_true rfl), (Nat.le_of_ble_eq_true rfl)⟩) (pre3V g hK mq2_ kq2_ (by decide) (q := (RX7, TX7, 19)) rfl) rfl rfl hl.1 rfl (lv_room (Nat.le_of_ble_eq_true rfl)) dX0_closeArgument_261 ⟨(Nat.le_of_ble_eq_true rfl), (Nat.le_of_ble_eq_true rfl)⟩) g hK (by decide) (by decide) (fx' := [(8, 6, q0_, .int 1201), (0, 4, a0_, .ref a_382), (0, 11, a0_, .int y_354), (0, 8, a0_, .int y_1), (8, 8, q0_, .int x_346), (6, 3, a_279, .int x_280), (7, 2, q2_, .ref a_278), (0, 10, a0_, .int x_270), (0, 7, a0_, .ref a_267), (0, 6, a0_, .ref a_262), (9, 9, q4_, .ref a_212), (0, 5, a0_, .ref a_3), (0, 0, a0_, .ref q0_), (0, 1, a0_, .ref q1_), (0, 2, a0_, .ref q2_), (0, 3, a0_, .ref q3_), (5, 1, q1_, .ref q4_)]) rfl (fun fr_395 H locs hp hMr_395 g => ?_)
                obtain ⟨x_396, h_397, hF_398⟩ := hp
                have hG_399 := eOK.frame hMr_395 go_.2.2.2.1 ma0_ ka0_ (by decide) (by decide) hG_391
                have g := g.more hF_398
                refine lv_aload_n hx hb dX0_closeArgument_264 rfl (lv_at hl 5 rfl) ?_
                refine lv_aload_n hx hb dX0_closeArgument_265 rfl (lv_at hl 5 rfl) ?_
                refine g_getk (C := RX0) (T := TX0) (N := 14) hx hb hts (mc_ inX0) hown hK g rfl 7 (by decide) rfl (hts _ (List.mem_cons_of_mem _ t_380)) (fun _ h9 => h9) 9 rfl dX0_closeArgument_266 ?_
                refine lv_iload_n hx hb dX0_closeArgument_269 rfl (lv_at hl 4 rfl) ?_
                refine g_iald hx hb hK g ma_267 ka_267 (by decide) rfl (in_bd b_2 (by decide)) dX0_closeArgument_270 (fun x_400 bx_400 cx_400 => ?_)
                obtain rfl : x_357 = x_400 := el_same cx_357 cx_400 ((arr_eq hMr_395 ma_267 ka_267 (by decide) rfl).trans ((arr_eq hMr_387 ma_267 ka_267 (by decide) rfl).trans (arr_eq hMr_384 ma_267 ka_267 (by decide) rfl)))
                refine lv_iconst (v := 1) hx hb dX0_closeArgument_271 (by decide) ?_
                refine lv_iadd hx hb dX0_closeArgument_272 ?_
                refine lv_topi (fun y_401 ey_401 => ?_)
                obtain rfl : y_358 = y_401 := ey_358.trans ey_401.symm
                have go_ := g
                refine g_callv (va_runV (As := [.int y_358]) (rest := []) ⟨hx, hb, hml, hown, hts⟩ (r_X0_addWhole l dC dI L kd tys fr_395 H.size g.2.2.2.1 a0_ ma0_ ka0_ y_358) (cwV 1 hts (gV_ t_1211 t_1213 t_17 t_190 t_1214) rfl rfl rfl (by decide +kernel) ⟨(Nat.le_of_ble_eq_true rfl), (Nat.le_of_ble_eq_true rfl)⟩) (pre3V g hK ma0_ ka0_ (by decide) (q := (RX0, TX0, 14)) rfl) rfl rfl hl.1 rfl (lv_room (Nat.le_of_ble_eq_true rfl)) dX0_closeArgument_273 ⟨(Nat.le_of_ble_eq_true rfl), (Nat.le_of_ble_eq_true rfl)⟩) g hK (by decide) (by decide) (fx' := [(7, 6, q2_, .int x_396), (8, 6, q0_, .int 1201), (0, 4, a0_, .ref a_382), (0, 11, a0_, .int y_354), (0, 8, a0_, .int y_1), (8, 8, q0_, .int x_346), (6, 3, a_279, .int x_280), (7, 2, q2_, .ref a_278), (0, 7, a0_, .ref a_267), (0, 6, a0_, .ref a_262), (9, 9, q4_, .ref a_212), (0, 5, a0_, .ref a_3), (0, 0, a0_, .ref q0_), (0, 1, a0_, .ref q1_), (0, 2, a0_, .ref q2_), (0, 3, a0_, .ref q3_), (5, 1, q1_, .ref q4_)]) rfl (fun fr_402 H locs hp hMr_402 g => ?_)
                obtain ⟨x_403, h_404, hF_405⟩ := hp
                have hG_406 := eOK.frame hMr_402 go_.2.2.2.1 ma0_ ka0_ (by decide) (by decide) hG_399
                have g := g.more hF_405
                subst hQ
                exact W.vret hx hb hr (fun t ht hW => ⟨⟨_, rfl, Or.inr (⟨x_346, h_347, (g.fcts [3, 7] rfl)⟩), q3_of g hK ht hW⟩, g.2.2.1.F ht⟩) g.2.2.1.2.2 dX0_closeArgument_276
        · have fc_281 := eq_f c_281
          have b_407 : bd 44 41 x1_ := eqX fc_281 b_256 kb_44 (by decide)
          exact bd_no b_407 (by decide)
      · have fc_255 := neq_f c_255
        refine lv_aload_n hx hb dX0_closeArgument_63 rfl (lv_at hl 4 rfl) ?_
        refine g_getk (C := RX0) (T := TX0) (N := 14) hx hb hts (mc_ inX0) hown hK g rfl 0 (by decide) rfl (hts _ (List.mem_cons_of_mem _ t_373)) (fun _ h9 => h9) 2 rfl dX0_closeArgument_64 ?_
        refine lv_iconst (v := 1) hx hb dX0_closeArgument_67 (by decide) ?_
        refine lv_iload hx hb dX0_closeArgument_68 (lv_at hl 0 rfl) ?_
        have go_ := g
        refine g_callv (va_runV (As := [.int 1, .int r_214]) (rest := []) ⟨hx, hb, hml, hown, hts⟩ (r_X8_fail l dC dI L kd tys fr_214 H.size g.2.2.2.1 q0_ mq0_ kq0_ 1 (bd_sub kb_1 (by decide)) r_214 y1_ by1_ (g.fcts [8] rfl)) (cwV 2 hts (gV_ t_1215 t_1107 t_1108 t_184 t_1109) rfl rfl rfl (by decide +kernel) ⟨(Nat.le_of_ble_eq_true rfl), (Nat.le_of_ble_eq_true rfl)⟩) (pre3V g hK mq0_ kq0_ (by decide) (q := (RX8, TX8, 10)) rfl) rfl rfl hl.1 rfl (lv_room (Nat.le_of_ble_eq_true rfl)) dX0_closeArgument_70 ⟨(Nat.le_of_ble_eq_true rfl), (Nat.le_of_ble_eq_true rfl)⟩) g hK (by decide) (by decide) (fx' := [(9, 9, q4_, .ref a_212), (0, 5, a0_, .ref a_3), (0, 0, a0_, .ref q0_), (0, 1, a0_, .ref q1_), (0, 2, a0_, .ref q2_), (0, 3, a0_, .ref q3_), (5, 1, q1_, .ref q4_), (0, 8, a0_, .int y0_)]) rfl (fun fr_408 H locs hp hMr_408 g => ?_)
        obtain ⟨x_409, h_410, hF_411⟩ := hp
        have hG_412 := eOK.frame hMr_408 go_.2.2.2.1 ma0_ ka0_ (by decide) (by decide) hG_215
        have g := g.more hF_411
        subst hQ
        exact W.vret hx hb hr (fun t ht hW => ⟨⟨_, rfl, Or.inr (⟨x_409, h_410, (g.fcts [0, 1] rfl)⟩), q3_of g hK ht hW⟩, g.2.2.1.F ht⟩) g.2.2.1.2.2 dX0_closeArgument_73
