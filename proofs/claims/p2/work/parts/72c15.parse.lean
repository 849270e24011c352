set_option maxHeartbeats 4000000 in
set_option maxRecDepth 100000 in
theorem r_X0_closeArgument (l : Launch) (dC : Nat → ClassId) (dI : Nat → Nat → Nat) (L : List Nat) (kd : Nat → Nat) (tys : List (ClassId × FieldType)) (f0 : Nat → va_E) (sz : Nat) (hWT : WT L kd tys f0) (a0_ : Nat) (ma0_ : a0_ ∈ L) (ka0_ : kd a0_ = 0) (x1_ : Int32) (q0_ : Nat) (mq0_ : q0_ ∈ L) (kq0_ : kd q0_ = 8) (q1_ : Nat) (mq1_ : q1_ ∈ L) (kq1_ : kd q1_ = 5) (q2_ : Nat) (mq2_ : q2_ ∈ L) (kq2_ : kd q2_ = 7) (q3_ : Nat) (mq3_ : q3_ ∈ L) (kq3_ : kd q3_ = 110) (q4_ : Nat) (mq4_ : q4_ ∈ L) (kq4_ : kd q4_ = 9) (y0_ : Int32) (by0_ : bd 1 300 y0_) (y1_ : Int32) (by1_ : bd 0 0 y1_) (hGea0_ : eOK f0 a0_) (hk_ : ∀ z : Int32, z.toInt = y0_.toInt - 1 → bd 2 3 (aI f0 q3_ z.toNatClampNeg)) (hfx : Fs L kd f0 [(0, 0, a0_, .ref q0_), (0, 1, a0_, .ref q1_), (0, 2, a0_, .ref q2_), (0, 3, a0_, .ref q3_), (5, 1, q1_, .ref q4_), (0, 8, a0_, .int y0_), (8, 8, q0_, .int y1_)]) : Met l yX0_closeArgument (.code yX0_closeArgument cX0_closeArgument 7 none :: lw_g) ({ frames := 1, cells := 0, slots := 0, locals := 23 }) (va_Pc [.ref a0_, .int x1_] (P3 (dC, dI) L tys f0 sz)) (va_Qv (fun (f : Nat → va_E) => (bd 41 44 x1_ ∧ ∃ z0_ : Int32, bd 1 1201 z0_ ∧ Fs L kd f [(8, 6, q0_, .int z0_), (8, 8, q0_, .int y1_)]) ∨ (∃ z1_ : Int32, bd 1 7 z1_ ∧ Fs L kd f [(8, 6, q0_, .int 1201), (8, 8, q0_, .int z1_)])) (Q3 (dC, dI) L kd tys [(0, 8), (0, 10), (0, 11), (0, 12), (7, 6), (8, 6), (8, 8), (8, 9)] [113, 114, 115, 138, 139] f0 sz) (pA L sz)) 0 0 (pA L sz) := by
  refine Met.ofW (cc := cX0_closeArgument) (maxL := 7) (ret := none) (by decide) rfl ?_
  intro p e s m args below meth c s₁ B hml hv
  obtain ⟨rfl, hsz, hP, hK, hD0⟩ := hv
  have hx := B.exec
  have hb := B.bytes
  have hr := B.returns
  have hts := atoms_spec (ws := (.code yX0_closeArgument cX0_closeArgument 7 none :: lw_g)) B.pre
  have hown : s.vm.findClass RX0 = some m.cls := findClass_of_methodNamed B.named
  have hlocks := B.notSynchronized
  subst hsz
  have g : G3 (dC, dI) L kd tys s f0 [(0, 8), (0, 10), (0, 11), (0, 12), (7, 6), (8, 6), (8, 8), (8, 9)] [113, 114, 115, 138, 139] f0 s.heap [] [(0, 0, a0_, .ref q0_), (0, 1, a0_, .ref q1_), (0, 2, a0_, .ref q2_), (0, 3, a0_, .ref q3_), (5, 1, q1_, .ref q4_), (0, 8, a0_, .int y0_), (8, 8, q0_, .int y1_)] := G3.start hP hD0 hWT hfx
  have hl := lv_entry ([.ref a0_, .int x1_]) (n := 7) (Nat.le_of_ble_eq_true rfl)
  rw [lg_entry_eq]
  generalize (lg_sl ([.ref a0_, .int x1_]) ++ List.replicate (7 - (lg_sl ([.ref a0_, .int x1_])).length) Slot.unset).toArray = ls at hl ⊢
  have hl : lv_has ls 7 [(0, .ref a0_), (1, .int x1_)] := hl
  refine W_q (fun Q hQ => ?_)
  refine lv_aload_n hx hb dX0_closeArgument_0 rfl (lv_at hl 0 rfl) ?_
  refine g_getk (C := RX0) (T := TX0) (N := 14) hx hb hts (mc_ inX0) hown hK g rfl 8 (by decide) rfl (hts _ (List.mem_cons_of_mem _ t_381)) (fun _ h9 => h9) 5 rfl dX0_closeArgument_1 ?_
  refine lv_iconst (v := 1) hx hb dX0_closeArgument_4 (by decide) ?_
  have kb_1 : bd 1 1 (1 : Int32) := ⟨by decide, by decide⟩
  refine lv_isub hx hb dX0_closeArgument_5 ?_
  refine lv_topi (fun y_1 ey_1 => ?_)
  have ty_1 := sub_bd ey_1 by0_ kb_1 (by decide)
  have b_2 : bd 0 299 y_1 := sub_rg ty_1 by0_ kb_1 (by decide)
  refine lv_istore_n (lv' := [(2, .int y_1), (0, .ref a0_), (1, .int x1_)]) hx hb dX0_closeArgument_6 rfl hl (by decide) rfl (fun ls hl => ?_)
  refine lv_aload_n hx hb dX0_closeArgument_7 rfl (lv_at hl 1 rfl) ?_
  refine g_getr (K := 112) (C := RX0) (T := TX0) (N := 14) hx hb hts (mc_ inX0) hown hK g ma0_ ka0_ (by decide) rfl 5 (by decide) rfl (hts _ (List.mem_cons_of_mem _ t_378)) (fun _ h9 => h9) rfl dX0_closeArgument_8 (fun a_3 ma_3 ka_3 g => ?_)
  refine lv_iload_n hx hb dX0_closeArgument_11 rfl (lv_at hl 0 rfl) ?_
  refine g_iald hx hb hK g ma_3 ka_3 (by decide) rfl (in_bd b_2 (by decide)) dX0_closeArgument_12 (fun x_4 bx_4 cx_4 => ?_)
  refine lv_istore_n (lv' := [(3, .int x_4), (2, .int y_1), (0, .ref a0_), (1, .int x1_)]) hx hb dX0_closeArgument_13 rfl hl (by decide) rfl (fun ls hl => ?_)
  refine lv_aload_n hx hb dX0_closeArgument_14 rfl (lv_at hl 2 rfl) ?_
  refine g_getk (C := RX0) (T := TX0) (N := 14) hx hb hts (mc_ inX0) hown hK g rfl 3 (by decide) rfl (hts _ (List.mem_cons_of_mem _ t_376)) (fun _ h9 => h9) 4 rfl dX0_closeArgument_15 ?_
  refine lv_iload_n hx hb dX0_closeArgument_18 rfl (lv_at hl 1 rfl) ?_
  refine g_iald hx hb hK g mq3_ kq3_ (by decide) rfl (in_bd b_2 (by decide)) dX0_closeArgument_19 (fun x_5 bx_5 cx_5 => ?_)
  have b_6 : bd 2 3 x_5 := (cx_5 ▸ hk_ y_1 (t1_ ty_1) : bd 2 3 x_5)
  have hc_7 : erel x_5 x_4 := hGea0_.at g 4 0 rfl rfl cx_5 cx_4 b_2 (by decide)
  refine lv_iconst (v := 2) hx hb dX0_closeArgument_20 (by decide) ?_
  have kb_2 : bd 2 2 (2 : Int32) := ⟨by decide, by decide⟩
  refine lv_icmp_ne (tgt := 39) hx hb dX0_closeArgument_21 (by decide) (fun c_8 => ?_) (fun c_8 => ?_)
  · have fc_8 := neq_f c_8
    have b_9 : bd 3 3 x_5 := neX fc_8 b_6 kb_2 (by decide)
    have b_10 : bd 0 95 x_4 := eqX rfl (bdT x_4) (er3 hc_7 b_9 (by decide)) (by decide)
    refine lv_iload_n hx hb dX0_closeArgument_39 rfl (lv_at hl 0 rfl) ?_
    refine lv_istore (lv' := [(4, .int x_4), (3, .int x_4), (2, .int y_1), (0, .ref a0_), (1, .int x1_)]) hx hb dX0_closeArgument_40 hl (by decide) rfl (fun ls hl => ?_)
    refine lv_aload_n hx hb dX0_closeArgument_42 rfl (lv_at hl 3 rfl) ?_
    refine g_getk (C := RX0) (T := TX0) (N := 14) hx hb hts (mc_ inX0) hown hK g rfl 0 (by decide) rfl (hts _ (List.mem_cons_of_mem _ t_373)) (fun _ h9 => h9) 1 rfl dX0_closeArgument_43 ?_
    have go_ := g
    refine g_calli (va_runV (As := []) (rest := []) ⟨hx, hb, hml, hown, hts⟩ (r_X8_place l dC dI L kd tys f0 s.heap.size g.2.2.2.1 q0_ mq0_ kq0_) (cwV 0 hts (gV_ t_1220 t_1111 t_1112 t_184 t_1113) rfl rfl rfl (by decide +kernel) ⟨(Nat.le_of_ble_eq_true rfl), (Nat.le_of_ble_eq_true rfl)⟩) (pre3V g hK mq0_ kq0_ (by decide) (q := (RX8, TX8, 10)) rfl) rfl rfl hl.1 rfl (lv_room (Nat.le_of_ble_eq_true rfl)) dX0_closeArgument_46 ⟨(Nat.le_of_ble_eq_true rfl), (Nat.le_of_ble_eq_true rfl)⟩) g hK (by decide) (by decide) (fx' := [(0, 5, a0_, .ref a_3), (0, 0, a0_, .ref q0_), (0, 1, a0_, .ref q1_), (0, 2, a0_, .ref q2_), (0, 3, a0_, .ref q3_), (5, 1, q1_, .ref q4_), (0, 8, a0_, .int y0_), (8, 8, q0_, .int y1_)]) rfl (fun r_11 fr_11 H locs hp hMr_11 g => ?_)
    have hG_12 := eOK.frame hMr_11 go_.2.2.2.1 ma0_ ka0_ (by decide) (by decide) hGea0_
    refine lv_istore (lv' := [(5, .int r_11), (4, .int x_4), (3, .int x_4), (2, .int y_1), (0, .ref a0_), (1, .int x1_)]) hx hb dX0_closeArgument_49 hl (by decide) rfl (fun ls hl => ?_)
    refine lv_iload_n hx hb dX0_closeArgument_51 rfl (lv_at hl 5 rfl) ?_
    refine lv_bipush (v := 44) hx hb dX0_closeArgument_52 (by decide) ?_
    have kb_44 : bd 44 44 (44 : Int32) := ⟨by decide, by decide⟩
    refine lv_icmp_eq (tgt := 74) hx hb dX0_closeArgument_54 (by decide) (fun c_13 => ?_) (fun c_13 => ?_)
    · have fc_13 := eq_f c_13
      have b_14 : bd 44 44 x1_ := eqX fc_13 (bdT x1_) kb_44 (by decide)
      refine lv_aload_n hx hb dX0_closeArgument_74 rfl (lv_at hl 4 rfl) ?_
      refine g_getk (C := RX0) (T := TX0) (N := 14) hx hb hts (mc_ inX0) hown hK g rfl 0 (by decide) rfl (hts _ (List.mem_cons_of_mem _ t_373)) (fun _ h9 => h9) 1 rfl dX0_closeArgument_75 ?_
      have go_ := g
      refine g_callv (va_runV (As := []) (rest := []) ⟨hx, hb, hml, hown, hts⟩ (r_X8_next l dC dI L kd tys fr_11 H.size g.2.2.2.1 q0_ mq0_ kq0_) (cwV 0 hts (gV_ t_1225 t_1103 t_1104 t_184 t_1105) rfl rfl rfl (by decide +kernel) ⟨(Nat.le_of_ble_eq_true rfl), (Nat.le_of_ble_eq_true rfl)⟩) (pre3V g hK mq0_ kq0_ (by decide) (q := (RX8, TX8, 10)) rfl) rfl rfl hl.1 rfl (lv_room (Nat.le_of_ble_eq_true rfl)) dX0_closeArgument_78 ⟨(Nat.le_of_ble_eq_true rfl), (Nat.le_of_ble_eq_true rfl)⟩) g hK (by decide) (by decide) (fx' := [(0, 5, a0_, .ref a_3), (0, 0, a0_, .ref q0_), (0, 1, a0_, .ref q1_), (0, 2, a0_, .ref q2_), (0, 3, a0_, .ref q3_), (5, 1, q1_, .ref q4_), (0, 8, a0_, .int y0_), (8, 8, q0_, .int y1_)]) rfl (fun fr_15 H locs hp hMr_15 g => ?_)
      obtain ⟨x_16, h_17, hF_18⟩ := hp
      have hG_19 := eOK.frame hMr_15 go_.2.2.2.1 ma0_ ka0_ (by decide) (by decide) hG_12
      have g := g.more hF_18
      refine lv_aload_n hx hb dX0_closeArgument_81 rfl (lv_at hl 4 rfl) ?_
      refine g_getr (K := 113) (C := RX0) (T := TX0) (N := 14) hx hb hts (mc_ inX0) hown hK g ma0_ ka0_ (by decide) rfl 6 (by decide) rfl (hts _ (List.mem_cons_of_mem _ t_379)) (fun _ h9 => h9) rfl dX0_closeArgument_82 (fun a_20 ma_20 ka_20 g => ?_)
      refine lv_iload_n hx hb dX0_closeArgument_85 rfl (lv_at hl 3 rfl) ?_
      refine lv_dup2_11 hx hb dX0_closeArgument_86 rfl rfl ?_
      refine g_iald hx hb hK g ma_20 ka_20 (by decide) rfl (in_bd b_2 (by decide)) dX0_closeArgument_87 (fun x_21 bx_21 cx_21 => ?_)
      refine lv_iconst (v := 1) hx hb dX0_closeArgument_88 (by decide) ?_
      refine lv_iadd hx hb dX0_closeArgument_89 ?_
      refine lv_topi (fun y_22 ey_22 => ?_)
      have go_ := g
      refine g_iast hx hb hK g ma_20 ka_20 (by decide) rfl (in_bd b_2 (by decide)) (bdT y_22) (by decide) dX0_closeArgument_90 (fun f H locs hM_23 g => ?_)
      have hG_24 := eOK.frame hM_23 go_.2.2.2.1 ma0_ ka0_ (by decide) (by decide) hG_19
      refine lv_aload_n hx hb dX0_closeArgument_91 rfl (lv_at hl 4 rfl) ?_
      refine g_getr (K := 114) (C := RX0) (T := TX0) (N := 14) hx hb hts (mc_ inX0) hown hK g ma0_ ka0_ (by decide) rfl 7 (by decide) rfl (hts _ (List.mem_cons_of_mem _ t_380)) (fun _ h9 => h9) rfl dX0_closeArgument_92 (fun a_25 ma_25 ka_25 g => ?_)
      refine lv_iload_n hx hb dX0_closeArgument_95 rfl (lv_at hl 3 rfl) ?_
      refine lv_aload_n hx hb dX0_closeArgument_96 rfl (lv_at hl 4 rfl) ?_
      refine g_getk (C := RX0) (T := TX0) (N := 14) hx hb hts (mc_ inX0) hown hK g rfl 7 (by decide) rfl (hts _ (List.mem_cons_of_mem _ t_380)) (fun _ h9 => h9) 0 rfl dX0_closeArgument_97 ?_
      refine lv_iload_n hx hb dX0_closeArgument_100 rfl (lv_at hl 3 rfl) ?_
      refine g_iald hx hb hK g ma_25 ka_25 (by decide) rfl (in_bd b_2 (by decide)) dX0_closeArgument_101 (fun x_26 bx_26 cx_26 => ?_)
      refine lv_aload_n hx hb dX0_closeArgument_102 rfl (lv_at hl 4 rfl) ?_
      have go_ := g
      refine g_calli (va_runV (As := []) (rest := [.int x_26, .int y_1, .ref a_25]) ⟨hx, hb, hml, hown, hts⟩ (r_X0_takeHeight l dC dI L kd tys f H.size g.2.2.2.1 a0_ ma0_ ka0_) (cwV 0 hts (gV_ t_1199 t_1201 t_16 t_190 t_1202) rfl rfl rfl (by decide +kernel) ⟨(Nat.le_of_ble_eq_true rfl), (Nat.le_of_ble_eq_true rfl)⟩) (pre3V g hK ma0_ ka0_ (by decide) (q := (RX0, TX0, 14)) rfl) rfl rfl hl.1 rfl (lv_room (Nat.le_of_ble_eq_true rfl)) dX0_closeArgument_103 ⟨(Nat.le_of_ble_eq_true rfl), (Nat.le_of_ble_eq_true rfl)⟩) g hK (by decide) (by decide) (fx' := [(0, 7, a0_, .ref a_25), (0, 6, a0_, .ref a_20), (8, 6, q0_, .int x_16), (0, 5, a0_, .ref a_3), (0, 0, a0_, .ref q0_), (0, 1, a0_, .ref q1_), (0, 2, a0_, .ref q2_), (0, 3, a0_, .ref q3_), (5, 1, q1_, .ref q4_), (0, 8, a0_, .int y0_), (8, 8, q0_, .int y1_)]) rfl (fun r_27 fr_27 H locs hp hMr_27 g => ?_)
      obtain ⟨x_28, h_29, hF_30⟩ := hp
      have hG_31 := eOK.frame hMr_27 go_.2.2.2.1 ma0_ ka0_ (by decide) (by decide) hG_24
      have g := g.more hF_30
      refine va_mmax hx hb (hml.trans hl.1.symm) hown (hts _ (List.mem_cons_of_mem _ t_1194)) (hts _ (List.mem_cons_of_mem _ t_1041)) (hts _ (List.mem_cons_of_mem _ t_204)) (hts _ (List.mem_cons_of_mem _ t_1042)) (Nat.le_of_ble_eq_true rfl) (Nat.le_of_ble_eq_true rfl) (Nat.le_of_ble_eq_true rfl) (Nat.le_of_ble_eq_true rfl) dX0_closeArgument_106 ?_
      refine lv_topi (fun y_32 ey_32 => ?_)
      have ty_32 : y_32.toInt = max x_26.toInt r_27.toInt := by rw [ey_32]; exact mmax_ok _ _
      have b_33 : bd (-2147483648) 2147483647 y_32 := max_rg ty_32 (bdT x_26) (bdT r_27) (by decide)
      have go_ := g
      refine g_iast hx hb hK g ma_25 ka_25 (by decide) rfl (in_bd b_2 (by decide)) b_33 (by decide) dX0_closeArgument_109 (fun f H locs hM_34 g => ?_)
      have hG_35 := eOK.frame hM_34 go_.2.2.2.1 ma0_ ka0_ (by decide) (by decide) hG_31
      refine lv_aload_n hx hb dX0_closeArgument_110 rfl (lv_at hl 4 rfl) ?_
      refine g_getk (C := RX0) (T := TX0) (N := 14) hx hb hts (mc_ inX0) hown hK g rfl 2 (by decide) rfl (hts _ (List.mem_cons_of_mem _ t_375)) (fun _ h9 => h9) 7 rfl dX0_closeArgument_111 ?_
      refine g_getr (K := 137) (C := RX7) (T := TX7) (N := 19) hx hb hts (mc_ inX7) hown hK g mq2_ kq2_ (by decide) rfl 2 (by decide) rfl (hts _ (List.mem_cons_of_mem _ t_633)) (fun _ h9 => h9) rfl dX0_closeArgument_114 (fun a_36 ma_36 ka_36 g => ?_)
      refine lv_iload hx hb dX0_closeArgument_117 (lv_at hl 1 rfl) ?_
      refine g_aald hx hb hK g ma_36 ka_36 (by decide) rfl (by decide) (in_bd b_10 (by decide)) dX0_closeArgument_119 (fun a_37 ma_37 ua_37 wa_37 => ?_)
      have ka_37 : kd a_37 = 6 := by omega
      refine g_geti (C := RX6) (T := TX6) (N := 13) hx hb hts (mc_ inX6) hown hK g ma_37 ka_37 (by decide) rfl 3 (by decide) rfl (hts _ (List.mem_cons_of_mem _ t_564)) (fun _ h9 => h9) rfl dX0_closeArgument_120 (fun x_38 bx_38 g => ?_)
      refine lv_istore (lv' := [(6, .int x_38), (5, .int r_11), (4, .int x_4), (3, .int x_4), (2, .int y_1), (0, .ref a0_), (1, .int x1_)]) hx hb dX0_closeArgument_123 hl (by decide) rfl (fun ls hl => ?_)
      refine lv_iload_n hx hb dX0_closeArgument_125 rfl (lv_at hl 6 rfl) ?_
      refine lv_bipush (v := 44) hx hb dX0_closeArgument_126 (by decide) ?_
      refine lv_icmp_ne (tgt := 159) hx hb dX0_closeArgument_128 (by decide) (fun c_39 => ?_) (fun c_39 => ?_)
      · have fc_39 := neq_f c_39
        have b_40 : bd 45 43 x1_ := neX fc_39 b_14 kb_44 (by decide)
        exact bd_no b_40 (by decide)
      · have fc_39 := eq_f c_39
        refine lv_aload_n hx hb dX0_closeArgument_131 rfl (lv_at hl 5 rfl) ?_
        refine lv_iconst (v := 1) hx hb dX0_closeArgument_132 (by decide) ?_
        have go_ := g
        refine g_put (C := RX0) (T := TX0) (N := 14) hx hb hts (mc_ inX0) tyX0 tyX0_ok nmX0 hown hK g ma0_ ka0_ (by decide) rfl 12 (by decide) (hts _ (List.mem_cons_of_mem _ t_385)) (fun _ h9 => h9) rfl rfl (okV_i (bd_sub kb_1 (by decide))) rfl rfl (by decide) (Or.inr (Or.inl (by decide))) (fx' := [(6, 3, a_37, .int x_38), (7, 2, q2_, .ref a_36), (0, 10, a0_, .int x_28), (0, 7, a0_, .ref a_25), (0, 6, a0_, .ref a_20), (8, 6, q0_, .int x_16), (0, 5, a0_, .ref a_3), (0, 0, a0_, .ref q0_), (0, 1, a0_, .ref q1_), (0, 2, a0_, .ref q2_), (0, 3, a0_, .ref q3_), (5, 1, q1_, .ref q4_), (0, 8, a0_, .int y0_), (8, 8, q0_, .int y1_)]) rfl dX0_closeArgument_133 (fun f H locs hM_41 g => ?_)
        have hG_42 := eOK.frame hM_41 go_.2.2.2.1 ma0_ ka0_ (by decide) (by decide) hG_35
        refine lv_aload_n hx hb dX0_closeArgument_136 rfl (lv_at hl 5 rfl) ?_
        refine g_getk (C := RX0) (T := TX0) (N := 14) hx hb hts (mc_ inX0) hown hK g rfl 6 (by decide) rfl (hts _ (List.mem_cons_of_mem _ t_379)) (fun _ h9 => h9) 5 rfl dX0_closeArgument_137 ?_
        refine lv_iload_n hx hb dX0_closeArgument_140 rfl (lv_at hl 4 rfl) ?_
        refine g_iald hx hb hK g ma_20 ka_20 (by decide) rfl (in_bd b_2 (by decide)) dX0_closeArgument_141 (fun x_43 bx_43 cx_43 => ?_)
        refine lv_iload hx hb dX0_closeArgument_142 (lv_at hl 0 rfl) ?_
        refine lv_icmp_lt (tgt := 158) hx hb dX0_closeArgument_144 (by decide) (fun c_44 => ?_) (fun c_44 => ?_)
        · have fc_44 := lt_f c_44
          have b_45 : bd (-2147483648) 2 x_43 := ltL fc_44 (bdT x_43) bx_38 (by decide)
          subst hQ
          exact W.vret hx hb hr (fun t ht hW => ⟨⟨_, rfl, Or.inl ⟨(bd_sub b_14 (by decide)), x_16, h_17, (g.fcts [6, 14] rfl)⟩, q3_of g hK ht hW⟩, g.2.2.1.F ht⟩) g.2.2.1.2.2 dX0_closeArgument_158
        · have fc_44 := nlt_f c_44
          have b_46 : bd 0 2147483647 x_43 := leR fc_44 bx_38 (bdT x_43) (by decide)
          refine lv_aload_n hx hb dX0_closeArgument_147 rfl (lv_at hl 5 rfl) ?_
          refine g_getk (C := RX0) (T := TX0) (N := 14) hx hb hts (mc_ inX0) hown hK g rfl 0 (by decide) rfl (hts _ (List.mem_cons_of_mem _ t_373)) (fun _ h9 => h9) 8 rfl dX0_closeArgument_148 ?_
          refine lv_bipush (v := 6) hx hb dX0_closeArgument_151 (by decide) ?_
          refine lv_iload hx hb dX0_closeArgument_153 (lv_at hl 1 rfl) ?_
          have kb_6 : bd 6 6 (6 : Int32) := ⟨by decide, by decide⟩
          have go_ := g
          refine g_callv (va_runV (As := [.int 6, .int r_11]) (rest := []) ⟨hx, hb, hml, hown, hts⟩ (r_X8_fail l dC dI L kd tys f H.size g.2.2.2.1 q0_ mq0_ kq0_ 6 (bd_sub kb_6 (by decide)) r_11 y1_ by1_ (g.fcts [14] rfl)) (cwV 2 hts (gV_ t_1215 t_1107 t_1108 t_184 t_1109) rfl rfl rfl (by decide +kernel) ⟨(Nat.le_of_ble_eq_true rfl), (Nat.le_of_ble_eq_true rfl)⟩) (pre3V g hK mq0_ kq0_ (by decide) (q := (RX8, TX8, 10)) rfl) rfl rfl hl.1 rfl (lv_room (Nat.le_of_ble_eq_true rfl)) dX0_closeArgument_155 ⟨(Nat.le_of_ble_eq_true rfl), (Nat.le_of_ble_eq_true rfl)⟩) g hK (by decide) (by decide) (fx' := [(0, 12, a0_, .int 1), (6, 3, a_37, .int x_38), (7, 2, q2_, .ref a_36), (0, 10, a0_, .int x_28), (0, 7, a0_, .ref a_25), (0, 6, a0_, .ref a_20), (0, 5, a0_, .ref a_3), (0, 0, a0_, .ref q0_), (0, 1, a0_, .ref q1_), (0, 2, a0_, .ref q2_), (0, 3, a0_, .ref q3_), (5, 1, q1_, .ref q4_), (0, 8, a0_, .int y0_)]) rfl (fun fr_47 H locs hp hMr_47 g => ?_)
          obtain ⟨x_48, h_49, hF_50⟩ := hp
          have hG_51 := eOK.frame hMr_47 go_.2.2.2.1 ma0_ ka0_ (by decide) (by decide) hG_42
          have g := g.more hF_50
          subst hQ
          exact W.vret hx hb hr (fun t ht hW => ⟨⟨_, rfl, Or.inr (⟨x_48, h_49, (g.fcts [0, 1] rfl)⟩), q3_of g hK ht hW⟩, g.2.2.1.F ht⟩) g.2.2.1.2.2 dX0_closeArgument_158
    · have fc_13 := neq_f c_13
      refine lv_iload_n hx hb dX0_closeArgument_57 rfl (lv_at hl 5 rfl) ?_
      refine lv_bipush (v := 41) hx hb dX0_closeArgument_58 (by decide) ?_
      have kb_41 : bd 41 41 (41 : Int32) := ⟨by decide, by decide⟩
      refine lv_icmp_eq (tgt := 74) hx hb dX0_closeArgument_60 (by decide) (fun c_52 => ?_) (fun c_52 => ?_)
      · have fc_52 := eq_f c_52
        have b_53 : bd 41 41 x1_ := eqX fc_52 (bdT x1_) kb_41 (by decide)
        refine lv_aload_n hx hb dX0_closeArgument_74 rfl (lv_at hl 4 rfl) ?_
        refine g_getk (C := RX0) (T := TX0) (N := 14) hx hb hts (mc_ inX0) hown hK g rfl 0 (by decide) rfl (hts _ (List.mem_cons_of_mem _ t_373)) (fun _ h9 => h9) 1 rfl dX0_closeArgument_75 ?_
        have go_ := g
        refine g_callv (va_runV (As := []) (rest := []) ⟨hx, hb, hml, hown, hts⟩ (r_X8_next l dC dI L kd tys fr_11 H.size g.2.2.2.1 q0_ mq0_ kq0_) (cwV 0 hts (gV_ t_1225 t_1103 t_1104 t_184 t_1105) rfl rfl rfl (by decide +kernel) ⟨(Nat.le_of_ble_eq_true rfl), (Nat.le_of_ble_eq_true rfl)⟩) (pre3V g hK mq0_ kq0_ (by decide) (q := (RX8, TX8, 10)) rfl) rfl rfl hl.1 rfl (lv_room (Nat.le_of_ble_eq_true rfl)) dX0_closeArgument_78 ⟨(Nat.le_of_ble_eq_true rfl), (Nat.le_of_ble_eq_true rfl)⟩) g hK (by decide) (by decide) (fx' := [(0, 5, a0_, .ref a_3), (0, 0, a0_, .ref q0_), (0, 1, a0_, .ref q1_), (0, 2, a0_, .ref q2_), (0, 3, a0_, .ref q3_), (5, 1, q1_, .ref q4_), (0, 8, a0_, .int y0_), (8, 8, q0_, .int y1_)]) rfl (fun fr_54 H locs hp hMr_54 g => ?_)
        obtain ⟨x_55, h_56, hF_57⟩ := hp
        have hG_58 := eOK.frame hMr_54 go_.2.2.2.1 ma0_ ka0_ (by decide) (by decide) hG_12
        have g := g.more hF_57
        refine lv_aload_n hx hb dX0_closeArgument_81 rfl (lv_at hl 4 rfl) ?_
        refine g_getr (K := 113) (C := RX0) (T := TX0) (N := 14) hx hb hts (mc_ inX0) hown hK g ma0_ ka0_ (by decide) rfl 6 (by decide) rfl (hts _ (List.mem_cons_of_mem _ t_379)) (fun _ h9 => h9) rfl dX0_closeArgument_82 (fun a_59 ma_59 ka_59 g => ?_)
        refine lv_iload_n hx hb dX0_closeArgument_85 rfl (lv_at hl 3 rfl) ?_
        refine lv_dup2_11 hx hb dX0_closeArgument_86 rfl rfl ?_
        refine g_iald hx hb hK g ma_59 ka_59 (by decide) rfl (in_bd b_2 (by decide)) dX0_closeArgument_87 (fun x_60 bx_60 cx_60 => ?_)
        refine lv_iconst (v := 1) hx hb dX0_closeArgument_88 (by decide) ?_
        refine lv_iadd hx hb dX0_closeArgument_89 ?_
        refine lv_topi (fun y_61 ey_61 => ?_)
        have go_ := g
        refine g_iast hx hb hK g ma_59 ka_59 (by decide) rfl (in_bd b_2 (by decide)) (bdT y_61) (by decide) dX0_closeArgument_90 (fun f H locs hM_62 g => ?_)
        have hG_63 := eOK.frame hM_62 go_.2.2.2.1 ma0_ ka0_ (by decide) (by decide) hG_58
        refine lv_aload_n hx hb dX0_closeArgument_91 rfl (lv_at hl 4 rfl) ?_
        refine g_getr (K := 114) (C := RX0) (T := TX0) (N := 14) hx hb hts (mc_ inX0) hown hK g ma0_ ka0_ (by decide) rfl 7 (by decide) rfl (hts _ (List.mem_cons_of_mem _ t_380)) (fun _ h9 => h9) rfl dX0_closeArgument_92 (fun a_64 ma_64 ka_64 g => ?_)
        refine lv_iload_n hx hb dX0_closeArgument_95 rfl (lv_at hl 3 rfl) ?_
        refine lv_aload_n hx hb dX0_closeArgument_96 rfl (lv_at hl 4 rfl) ?_
        refine g_getk (C := RX0) (T := TX0) (N := 14) hx hb hts (mc_ inX0) hown hK g rfl 7 (by decide) rfl (hts _ (List.mem_cons_of_mem _ t_380)) (fun _ h9 => h9) 0 rfl dX0_closeArgument_97 ?_
        refine lv_iload_n hx hb dX0_closeArgument_100 rfl (lv_at hl 3 rfl) ?_
        refine g_iald hx hb hK g ma_64 ka_64 (by decide) rfl (in_bd b_2 (by decide)) dX0_closeArgument_101 (fun x_65 bx_65 cx_65 => ?_)
        refine lv_aload_n hx hb dX0_closeArgument_102 rfl (lv_at hl 4 rfl) ?_
        have go_ := g
        refine g_calli (va_runV (As := []) (rest := [.int x_65, .int y_1, .ref a_64]) ⟨hx, hb, hml, hown, hts⟩ (r_X0_takeHeight l dC dI L kd tys f H.size g.2.2.2.1 a0_ ma0_ ka0_) (cwV 0 hts (gV_ t_1199 t_1201 t_16 t_190 t_1202) rfl rfl rfl (by decide +kernel) ⟨(Nat.le_of_ble_eq_true rfl), (Nat.le_of_ble_eq_true rfl)⟩) (pre3V g hK ma0_ ka0_ (by decide) (q := (RX0, TX0, 14)) rfl) rfl rfl hl.1 rfl (lv_room (Nat.le_of_ble_eq_true rfl)) dX0_closeArgument_103 ⟨(Nat.le_of_ble_eq_true rfl), (Nat.le_of_ble_eq_true rfl)⟩) g hK (by decide) (by decide) (fx' := [(0, 7, a0_, .ref a_64), (0, 6, a0_, .ref a_59), (8, 6, q0_, .int x_55), (0, 5, a0_, .ref a_3), (0, 0, a0_, .ref q0_), (0, 1, a0_, .ref q1_), (0, 2, a0_, .ref q2_), (0, 3, a0_, .ref q3_), (5, 1, q1_, .ref q4_), (0, 8, a0_, .int y0_), (8, 8, q0_, .int y1_)]) rfl (fun r_66 fr_66 H locs hp hMr_66 g => ?_)
        obtain ⟨x_67, h_68, hF_69⟩ := hp
        have hG_70 := eOK.frame hMr_66 go_.2.2.2.1 ma0_ ka0_ (by decide) (by decide) hG_63
        have g := g.more hF_69
        refine va_mmax hx hb (hml.trans hl.1.symm) hown (hts _ (List.mem_cons_of_mem _ t_1194)) (hts _ (List.mem_cons_of_mem _ t_1041)) (hts _ (List.mem_cons_of_mem _ t_204)) (hts _ (List.mem_cons_of_mem _ t_1042)) (Nat.le_of_ble_eq_true rfl) (Nat.le_of_ble_eq_true rfl) (Nat.le_of_ble_eq_true rfl) (Nat.le_of_ble_eq_true rfl) dX0_closeArgument_106 ?_
        refine lv_topi (fun y_71 ey_71 => ?_)
        have ty_71 : y_71.toInt = max x_65.toInt r_66.toInt := by rw [ey_71]; exact mmax_ok _ _
        have b_72 : bd (-2147483648) 2147483647 y_71 := max_rg ty_71 (bdT x_65) (bdT r_66) (by decide)
        have go_ := g
        refine g_iast hx hb hK g ma_64 ka_64 (by decide) rfl (in_bd b_2 (by decide)) b_72 (by decide) dX0_closeArgument_109 (fun f H locs hM_73 g => ?_)
        have hG_74 := eOK.frame hM_73 go_.2.2.2.1 ma0_ ka0_ (by decide) (by decide) hG_70
        refine lv_aload_n hx hb dX0_closeArgument_110 rfl (lv_at hl 4 rfl) ?_
        refine g_getk (C := RX0) (T := TX0) (N := 14) hx hb hts (mc_ inX0) hown hK g rfl 2 (by decide) rfl (hts _ (List.mem_cons_of_mem _ t_375)) (fun _ h9 => h9) 7 rfl dX0_closeArgument_111 ?_
        refine g_getr (K := 137) (C := RX7) (T := TX7) (N := 19) hx hb hts (mc_ inX7) hown hK g mq2_ kq2_ (by decide) rfl 2 (by decide) rfl (hts _ (List.mem_cons_of_mem _ t_633)) (fun _ h9 => h9) rfl dX0_closeArgument_114 (fun a_75 ma_75 ka_75 g => ?_)
        refine lv_iload hx hb dX0_closeArgument_117 (lv_at hl 1 rfl) ?_
        refine g_aald hx hb hK g ma_75 ka_75 (by decide) rfl (by decide) (in_bd b_10 (by decide)) dX0_closeArgument_119 (fun a_76 ma_76 ua_76 wa_76 => ?_)
        have ka_76 : kd a_76 = 6 := by omega
        refine g_geti (C := RX6) (T := TX6) (N := 13) hx hb hts (mc_ inX6) hown hK g ma_76 ka_76 (by decide) rfl 3 (by decide) rfl (hts _ (List.mem_cons_of_mem _ t_564)) (fun _ h9 => h9) rfl dX0_closeArgument_120 (fun x_77 bx_77 g => ?_)
        refine lv_istore (lv' := [(6, .int x_77), (5, .int r_11), (4, .int x_4), (3, .int x_4), (2, .int y_1), (0, .ref a0_), (1, .int x1_)]) hx hb dX0_closeArgument_123 hl (by decide) rfl (fun ls hl => ?_)
        refine lv_iload_n hx hb dX0_closeArgument_125 rfl (lv_at hl 6 rfl) ?_
        refine lv_bipush (v := 44) hx hb dX0_closeArgument_126 (by decide) ?_
        refine lv_icmp_ne (tgt := 159) hx hb dX0_closeArgument_128 (by decide) (fun c_78 => ?_) (fun c_78 => ?_)
        · have fc_78 := neq_f c_78
          refine lv_aload_n hx hb dX0_closeArgument_159 rfl (lv_at hl 5 rfl) ?_
          refine g_getk (C := RX0) (T := TX0) (N := 14) hx hb hts (mc_ inX0) hown hK g rfl 6 (by decide) rfl (hts _ (List.mem_cons_of_mem _ t_379)) (fun _ h9 => h9) 4 rfl dX0_closeArgument_160 ?_
          refine lv_iload_n hx hb dX0_closeArgument_163 rfl (lv_at hl 4 rfl) ?_
          refine g_iald hx hb hK g ma_59 ka_59 (by decide) rfl (in_bd b_2 (by decide)) dX0_closeArgument_164 (fun x_79 bx_79 cx_79 => ?_)
          refine lv_iload hx hb dX0_closeArgument_165 (lv_at hl 0 rfl) ?_
          refine lv_icmp_ge (tgt := 181) hx hb dX0_closeArgument_167 (by decide) (fun c_80 => ?_) (fun c_80 => ?_)
          · have fc_80 := le_f c_80
            have b_81 : bd 0 2147483647 x_79 := leR fc_80 bx_77 (bdT x_79) (by decide)
            refine lv_aload_n hx hb dX0_closeArgument_181 rfl (lv_at hl 5 rfl) ?_
            refine lv_dup hx hb dX0_closeArgument_182 rfl ?_
            refine g_getk (C := RX0) (T := TX0) (N := 14) hx hb hts (mc_ inX0) hown hK g rfl 8 (by decide) rfl (hts _ (List.mem_cons_of_mem _ t_381)) (fun _ h9 => h9) 12 rfl dX0_closeArgument_183 ?_
            refine lv_iconst (v := 1) hx hb dX0_closeArgument_186 (by decide) ?_
            refine lv_isub hx hb dX0_closeArgument_187 ?_
            refine lv_topi (fun y_82 ey_82 => ?_)
            obtain rfl : y_1 = y_82 := ey_1.trans ey_82.symm
            have go_ := g
            refine g_put (C := RX0) (T := TX0) (N := 14) hx hb hts (mc_ inX0) tyX0 tyX0_ok nmX0 hown hK g ma0_ ka0_ (by decide) rfl 8 (by decide) (hts _ (List.mem_cons_of_mem _ t_381)) (fun _ h9 => h9) rfl rfl (okV_i (bd_sub b_2 (by decide))) rfl rfl (by decide) (Or.inr (Or.inl (by decide))) (fx' := [(6, 3, a_76, .int x_77), (7, 2, q2_, .ref a_75), (0, 10, a0_, .int x_67), (0, 7, a0_, .ref a_64), (0, 6, a0_, .ref a_59), (8, 6, q0_, .int x_55), (0, 5, a0_, .ref a_3), (0, 0, a0_, .ref q0_), (0, 1, a0_, .ref q1_), (0, 2, a0_, .ref q2_), (0, 3, a0_, .ref q3_), (5, 1, q1_, .ref q4_), (8, 8, q0_, .int y1_)]) rfl dX0_closeArgument_188 (fun f H locs hM_83 g => ?_)
            have hG_84 := eOK.frame hM_83 go_.2.2.2.1 ma0_ ka0_ (by decide) (by decide) hG_74
            refine lv_aload_n hx hb dX0_closeArgument_191 rfl (lv_at hl 5 rfl) ?_
            refine lv_dup hx hb dX0_closeArgument_192 rfl ?_
            refine g_geti (C := RX0) (T := TX0) (N := 14) hx hb hts (mc_ inX0) hown hK g ma0_ ka0_ (by decide) rfl 11 (by decide) rfl (hts _ (List.mem_cons_of_mem _ t_384)) (fun _ h9 => h9) rfl dX0_closeArgument_193 (fun x_85 bx_85 g => ?_)
            refine lv_iconst (v := 1) hx hb dX0_closeArgument_196 (by decide) ?_
            refine lv_isub hx hb dX0_closeArgument_197 ?_
            refine lv_topi (fun y_86 ey_86 => ?_)
            have go_ := g
            refine g_put (C := RX0) (T := TX0) (N := 14) hx hb hts (mc_ inX0) tyX0 tyX0_ok nmX0 hown hK g ma0_ ka0_ (by decide) rfl 11 (by decide) (hts _ (List.mem_cons_of_mem _ t_384)) (fun _ h9 => h9) rfl rfl (okV_i (bdT y_86)) rfl rfl (by decide) (Or.inr (Or.inl (by decide))) (fx' := [(0, 8, a0_, .int y_1), (6, 3, a_76, .int x_77), (7, 2, q2_, .ref a_75), (0, 10, a0_, .int x_67), (0, 7, a0_, .ref a_64), (0, 6, a0_, .ref a_59), (8, 6, q0_, .int x_55), (0, 5, a0_, .ref a_3), (0, 0, a0_, .ref q0_), (0, 1, a0_, .ref q1_), (0, 2, a0_, .ref q2_), (0, 3, a0_, .ref q3_), (5, 1, q1_, .ref q4_), (8, 8, q0_, .int y1_)]) rfl dX0_closeArgument_198 (fun f H locs hM_87 g => ?_)
            have hG_88 := eOK.frame hM_87 go_.2.2.2.1 ma0_ ka0_ (by decide) (by decide) hG_84
            refine lv_aload_n hx hb dX0_closeArgument_201 rfl (lv_at hl 5 rfl) ?_
            refine g_getk (C := RX0) (T := TX0) (N := 14) hx hb hts (mc_ inX0) hown hK g rfl 7 (by decide) rfl (hts _ (List.mem_cons_of_mem _ t_380)) (fun _ h9 => h9) 5 rfl dX0_closeArgument_202 ?_
            refine lv_iload_n hx hb dX0_closeArgument_205 rfl (lv_at hl 4 rfl) ?_
            refine g_iald hx hb hK g ma_64 ka_64 (by decide) rfl (in_bd b_2 (by decide)) dX0_closeArgument_206 (fun x_89 bx_89 cx_89 => ?_)
            refine lv_iconst (v := 1) hx hb dX0_closeArgument_207 (by decide) ?_
            refine lv_iadd hx hb dX0_closeArgument_208 ?_
            refine lv_topi (fun y_90 ey_90 => ?_)
            refine lv_bipush (v := 12) hx hb dX0_closeArgument_209 (by decide) ?_
            have kb_12 : bd 12 12 (12 : Int32) := ⟨by decide, by decide⟩
            refine lv_icmp_le (tgt := 229) hx hb dX0_closeArgument_211 (by decide) (fun c_91 => ?_) (fun c_91 => ?_)
            · have fc_91 := le_f c_91
              have b_92 : bd (-2147483648) 12 y_90 := leL fc_91 (bdT y_90) kb_12 (by decide)
              refine lv_aload_n hx hb dX0_closeArgument_229 rfl (lv_at hl 5 rfl) ?_
              refine g_getk (C := RX0) (T := TX0) (N := 14) hx hb hts (mc_ inX0) hown hK g rfl 2 (by decide) rfl (hts _ (List.mem_cons_of_mem _ t_375)) (fun _ h9 => h9) 11 rfl dX0_closeArgument_230 ?_
              refine lv_bipush (v := 13) hx hb dX0_closeArgument_233 (by decide) ?_
              refine lv_iconst (v := 0) hx hb dX0_closeArgument_235 (by decide) ?_
              have go_ := g
              refine g_callv (va_runV (As := [.int 13, .int 0]) (rest := []) ⟨hx, hb, hml, hown, hts⟩ (r_X7_emit l dC dI L kd tys f H.size g.2.2.2.1 q2_ mq2_ kq2_ 13 0) (cwV 2 hts (gV_ t_1203 t_1204 t_1205 t_191 t_1206) rfl rfl rfl (by decide +kernel) ⟨(Nat.le_of_ble_eq_true rfl), (Nat.le_of_ble_eq_true rfl)⟩) (pre3V g hK mq2_ kq2_ (by decide) (q := (RX7, TX7, 19)) rfl) rfl rfl hl.1 rfl (lv_room (Nat.le_of_ble_eq_true rfl)) dX0_closeArgument_236 ⟨(Nat.le_of_ble_eq_true rfl), (Nat.le_of_ble_eq_true rfl)⟩) g hK (by decide) (by decide) (fx' := [(0, 11, a0_, .int y_86), (0, 8, a0_, .int y_1), (6, 3, a_76, .int x_77), (7, 2, q2_, .ref a_75), (0, 10, a0_, .int x_67), (0, 7, a0_, .ref a_64), (0, 6, a0_, .ref a_59), (8, 6, q0_, .int x_55), (0, 5, a0_, .ref a_3), (0, 0, a0_, .ref q0_), (0, 1, a0_, .ref q1_), (0, 2, a0_, .ref q2_), (0, 3, a0_, .ref q3_), (5, 1, q1_, .ref q4_), (8, 8, q0_, .int y1_)]) rfl (fun fr_93 H locs hp hMr_93 g => ?_)
              obtain ⟨x_94, h_95, hF_96⟩ := hp
              have hG_97 := eOK.frame hMr_93 go_.2.2.2.1 ma0_ ka0_ (by decide) (by decide) hG_88
              have g := g.more hF_96
              refine lv_aload_n hx hb dX0_closeArgument_239 rfl (lv_at hl 5 rfl) ?_
              refine g_getk (C := RX0) (T := TX0) (N := 14) hx hb hts (mc_ inX0) hown hK g rfl 2 (by decide) rfl (hts _ (List.mem_cons_of_mem _ t_375)) (fun _ h9 => h9) 12 rfl dX0_closeArgument_240 ?_
              refine lv_aload_n hx hb dX0_closeArgument_243 rfl (lv_at hl 5 rfl) ?_
              refine g_getk (C := RX0) (T := TX0) (N := 14) hx hb hts (mc_ inX0) hown hK g rfl 3 (by decide) rfl (hts _ (List.mem_cons_of_mem _ t_376)) (fun _ h9 => h9) 13 rfl dX0_closeArgument_244 ?_
              refine lv_iload_n hx hb dX0_closeArgument_247 rfl (lv_at hl 4 rfl) ?_
              refine g_iald hx hb hK g mq3_ kq3_ (by decide) rfl (in_bd b_2 (by decide)) dX0_closeArgument_248 (fun x_98 bx_98 cx_98 => ?_)
              obtain rfl : x_5 = x_98 := el_same cx_5 cx_98 ((arr_eq hMr_93 mq3_ kq3_ (by decide) rfl).trans ((arr_eq hM_87 mq3_ kq3_ (by decide) rfl).trans ((arr_eq hM_83 mq3_ kq3_ (by decide) rfl).trans ((arr_eq hM_73 mq3_ kq3_ (by decide) rfl).trans ((arr_eq hMr_66 mq3_ kq3_ (by decide) rfl).trans ((arr_eq hM_62 mq3_ kq3_ (by decide) rfl).trans ((arr_eq hMr_54 mq3_ kq3_ (by decide) rfl).trans (arr_eq hMr_11 mq3_ kq3_ (by decide) rfl))))))))
              refine lv_iconst (v := 2) hx hb dX0_closeArgument_249 (by decide) ?_
              refine lv_icmp_ne (tgt := 258) hx hb dX0_closeArgument_250 (by decide) (fun c_99 => ?_) (fun c_99 => ?_)
              · have fc_99 := neq_f c_99
                refine lv_bipush (v := 18) hx hb dX0_closeArgument_258 (by decide) ?_
                refine lv_iload_n hx hb dX0_closeArgument_260 rfl (lv_at hl 3 rfl) ?_
                have go_ := g
                refine g_callv (va_runV (As := [.int 18, .int x_4]) (rest := []) ⟨hx, hb, hml, hown, hts⟩ (r_X7_emit l dC dI L kd tys fr_93 H.size g.2.2.2.1 q2_ mq2_ kq2_ 18 x_4) (cwV 2 hts (gV_ t_1203 t_1204 t_1205 t_191 t_1206) rfl rfl rfl (by decide +kernel) ⟨(Nat.le_of_ble_eq_true rfl), (Nat.le_of_ble_eq_true rfl)⟩) (pre3V g hK mq2_ kq2_ (by decide) (q := (RX7, TX7, 19)) rfl) rfl rfl hl.1 rfl (lv_room (Nat.le_of_ble_eq_true rfl)) dX0_closeArgument_261 ⟨(Nat.le_of_ble_eq_true rfl), (Nat.le_of_ble_eq_true rfl)⟩) g hK (by decide) (by decide) (fx' := [(0, 11, a0_, .int y_86), (0, 8, a0_, .int y_1), (6, 3, a_76, .int x_77), (7, 2, q2_, .ref a_75), (0, 10, a0_, .int x_67), (0, 7, a0_, .ref a_64), (0, 6, a0_, .ref a_59), (8, 6, q0_, .int x_55), (0, 5, a0_, .ref a_3), (0, 0, a0_, .ref q0_), (0, 1, a0_, .ref q1_), (0, 2, a0_, .ref q2_), (0, 3, a0_, .ref q3_), (5, 1, q1_, .ref q4_), (8, 8, q0_, .int y1_)]) rfl (fun fr_100 H locs hp hMr_100 g => ?_)
                obtain ⟨x_101, h_102, hF_103⟩ := hp
                have hG_104 := eOK.frame hMr_100 go_.2.2.2.1 ma0_ ka0_ (by decide) (by decide) hG_97
                have g := g.more hF_103
                refine lv_aload_n hx hb dX0_closeArgument_264 rfl (lv_at hl 5 rfl) ?_
                refine lv_aload_n hx hb dX0_closeArgument_265 rfl (lv_at hl 5 rfl) ?_
                refine g_getk (C := RX0) (T := TX0) (N := 14) hx hb hts (mc_ inX0) hown hK g rfl 7 (by decide) rfl (hts _ (List.mem_cons_of_mem _ t_380)) (fun _ h9 => h9) 6 rfl dX0_closeArgument_266 ?_
                refine lv_iload_n hx hb dX0_closeArgument_269 rfl (lv_at hl 4 rfl) ?_
                refine g_iald hx hb hK g ma_64 ka_64 (by decide) rfl (in_bd b_2 (by decide)) dX0_closeArgument_270 (fun x_105 bx_105 cx_105 => ?_)
                obtain rfl : x_89 = x_105 := el_same cx_89 cx_105 ((arr_eq hMr_100 ma_64 ka_64 (by decide) rfl).trans (arr_eq hMr_93 ma_64 ka_64 (by decide) rfl))
                refine lv_iconst (v := 1) hx hb dX0_closeArgument_271 (by decide) ?_
                refine lv_iadd hx hb dX0_closeArgument_272 ?_
                refine lv_topi (fun y_106 ey_106 => ?_)
                obtain rfl : y_90 = y_106 := ey_90.trans ey_106.symm
                have go_ := g
                refine g_callv (va_runV (As := [.int y_90]) (rest := []) ⟨hx, hb, hml, hown, hts⟩ (r_X0_addWhole l dC dI L kd tys fr_100 H.size g.2.2.2.1 a0_ ma0_ ka0_ y_90) (cwV 1 hts (gV_ t_1211 t_1213 t_17 t_190 t_1214) rfl rfl rfl (by decide +kernel) ⟨(Nat.le_of_ble_eq_true rfl), (Nat.le_of_ble_eq_true rfl)⟩) (pre3V g hK ma0_ ka0_ (by decide) (q := (RX0, TX0, 14)) rfl) rfl rfl hl.1 rfl (lv_room (Nat.le_of_ble_eq_true rfl)) dX0_closeArgument_273 ⟨(Nat.le_of_ble_eq_true rfl), (Nat.le_of_ble_eq_true rfl)⟩) g hK (by decide) (by decide) (fx' := [(7, 6, q2_, .int x_101), (0, 11, a0_, .int y_86), (0, 8, a0_, .int y_1), (6, 3, a_76, .int x_77), (7, 2, q2_, .ref a_75), (0, 7, a0_, .ref a_64), (0, 6, a0_, .ref a_59), (8, 6, q0_, .int x_55), (0, 5, a0_, .ref a_3), (0, 0, a0_, .ref q0_), (0, 1, a0_, .ref q1_), (0, 2, a0_, .ref q2_), (0, 3, a0_, .ref q3_), (5, 1, q1_, .ref q4_), (8, 8, q0_, .int y1_)]) rfl (fun fr_107 H locs hp hMr_107 g => ?_)
                obtain ⟨x_108, h_109, hF_110⟩ := hp
                have hG_111 := eOK.frame hMr_107 go_.2.2.2.1 ma0_ ka0_ (by decide) (by decide) hG_104
                have g := g.more hF_110
                subst hQ
                exact W.vret hx hb hr (fun t ht hW => ⟨⟨_, rfl, Or.inl ⟨(bd_sub b_53 (by decide)), x_55, h_56, (g.fcts [9, 16] rfl)⟩, q3_of g hK ht hW⟩, g.2.2.1.F ht⟩) g.2.2.1.2.2 dX0_closeArgument_276
              · have fc_99 := eq_f c_99
                exact absurd fc_99 fc_8
            · have fc_91 := nle_f c_91
              have b_112 : bd 13 2147483647 y_90 := ltR fc_91 kb_12 (bdT y_90) (by decide)
              refine lv_aload_n hx hb dX0_closeArgument_214 rfl (lv_at hl 5 rfl) ?_
              refine g_getk (C := RX0) (T := TX0) (N := 14) hx hb hts (mc_ inX0) hown hK g rfl 0 (by decide) rfl (hts _ (List.mem_cons_of_mem _ t_373)) (fun _ h9 => h9) 9 rfl dX0_closeArgument_215 ?_
              refine lv_bipush (v := 7) hx hb dX0_closeArgument_218 (by decide) ?_
              refine lv_aload_n hx hb dX0_closeArgument_220 rfl (lv_at hl 5 rfl) ?_
              refine g_getr (K := 111) (C := RX0) (T := TX0) (N := 14) hx hb hts (mc_ inX0) hown hK g ma0_ ka0_ (by decide) rfl 4 (by decide) rfl (hts _ (List.mem_cons_of_mem _ t_377)) (fun _ h9 => h9) rfl dX0_closeArgument_221 (fun a_113 ma_113 ka_113 g => ?_)
              refine lv_iload_n hx hb dX0_closeArgument_224 rfl (lv_at hl 4 rfl) ?_
              refine g_iald hx hb hK g ma_113 ka_113 (by decide) rfl (in_bd b_2 (by decide)) dX0_closeArgument_225 (fun x_114 bx_114 cx_114 => ?_)
              have kb_7 : bd 7 7 (7 : Int32) := ⟨by decide, by decide⟩
              have go_ := g
              refine g_callv (va_runV (As := [.int 7, .int x_114]) (rest := []) ⟨hx, hb, hml, hown, hts⟩ (r_X8_fail l dC dI L kd tys f H.size g.2.2.2.1 q0_ mq0_ kq0_ 7 (bd_sub kb_7 (by decide)) x_114 y1_ by1_ (g.fcts [15] rfl)) (cwV 2 hts (gV_ t_1215 t_1107 t_1108 t_184 t_1109) rfl rfl rfl (by decide +kernel) ⟨(Nat.le_of_ble_eq_true rfl), (Nat.le_of_ble_eq_true rfl)⟩) (pre3V g hK mq0_ kq0_ (by decide) (q := (RX8, TX8, 10)) rfl) rfl rfl hl.1 rfl (lv_room (Nat.le_of_ble_eq_true rfl)) dX0_closeArgument_226 ⟨(Nat.le_of_ble_eq_true rfl), (Nat.le_of_ble_eq_true rfl)⟩) g hK (by decide) (by decide) (fx' := [(0, 4, a0_, .ref a_113), (0, 11, a0_, .int y_86), (0, 8, a0_, .int y_1), (6, 3, a_76, .int x_77), (7, 2, q2_, .ref a_75), (0, 10, a0_, .int x_67), (0, 7, a0_, .ref a_64), (0, 6, a0_, .ref a_59), (0, 5, a0_, .ref a_3), (0, 0, a0_, .ref q0_), (0, 1, a0_, .ref q1_), (0, 2, a0_, .ref q2_), (0, 3, a0_, .ref q3_), (5, 1, q1_, .ref q4_)]) rfl (fun fr_115 H locs hp hMr_115 g => ?_)
              obtain ⟨x_116, h_117, hF_118⟩ := hp
              have hG_119 := eOK.frame hMr_115 go_.2.2.2.1 ma0_ ka0_ (by decide) (by decide) hG_88
              have g := g.more hF_118
              refine lv_aload_n hx hb dX0_closeArgument_229 rfl (lv_at hl 5 rfl) ?_
              refine g_getk (C := RX0) (T := TX0) (N := 14) hx hb hts (mc_ inX0) hown hK g rfl 2 (by decide) rfl (hts _ (List.mem_cons_of_mem _ t_375)) (fun _ h9 => h9) 13 rfl dX0_closeArgument_230 ?_
              refine lv_bipush (v := 13) hx hb dX0_closeArgument_233 (by decide) ?_
              refine lv_iconst (v := 0) hx hb dX0_closeArgument_235 (by decide) ?_
              have go_ := g
              refine g_callv (va_runV (As := [.int 13, .int 0]) (rest := []) ⟨hx, hb, hml, hown, hts⟩ (r_X7_emit l dC dI L kd tys fr_115 H.size g.2.2.2.1 q2_ mq2_ kq2_ 13 0) (cwV 2 hts (gV_ t_1203 t_1204 t_1205 t_191 t_1206) rfl rfl rfl (by decide +kernel) ⟨(Nat.le_of_ble_eq_true rfl), (Nat.le_of_ble_eq_true rfl)⟩) (pre3V g hK mq2_ kq2_ (by decide) (q := (RX7, TX7, 19)) rfl) rfl rfl hl.1 rfl (lv_room (Nat.le_of_ble_eq_true rfl)) dX0_closeArgument_236 ⟨(Nat.le_of_ble_eq_true rfl), (Nat.le_of_ble_eq_true rfl)⟩) g hK (by decide) (by decide) (fx' := [(8, 6, q0_, .int 1201), (8, 8, q0_, .int x_116), (0, 4, a0_, .ref a_113), (0, 11, a0_, .int y_86), (0, 8, a0_, .int y_1), (6, 3, a_76, .int x_77), (7, 2, q2_, .ref a_75), (0, 10, a0_, .int x_67), (0, 7, a0_, .ref a_64), (0, 6, a0_, .ref a_59), (0, 5, a0_, .ref a_3), (0, 0, a0_, .ref q0_), (0, 1, a0_, .ref q1_), (0, 2, a0_, .ref q2_), (0, 3, a0_, .ref q3_), (5, 1, q1_, .ref q4_)]) rfl (fun fr_120 H locs hp hMr_120 g => ?_)
              obtain ⟨x_121, h_122, hF_123⟩ := hp
              have hG_124 := eOK.frame hMr_120 go_.2.2.2.1 ma0_ ka0_ (by decide) (by decide) hG_119
              have g := g.more hF_123
              refine lv_aload_n hx hb dX0_closeArgument_239 rfl (lv_at hl 5 rfl) ?_
              refine g_getk (C := RX0) (T := TX0) (N := 14) hx hb hts (mc_ inX0) hown hK g rfl 2 (by decide) rfl (hts _ (List.mem_cons_of_mem _ t_375)) (fun _ h9 => h9) 14 rfl dX0_closeArgument_240 ?_
              refine lv_aload_n hx hb dX0_closeArgument_243 rfl (lv_at hl 5 rfl) ?_
              refine g_getk (C := RX0) (T := TX0) (N := 14) hx hb hts (mc_ inX0) hown hK g rfl 3 (by decide) rfl (hts _ (List.mem_cons_of_mem _ t_376)) (fun _ h9 => h9) 15 rfl dX0_closeArgument_244 ?_
              refine lv_iload_n hx hb dX0_closeArgument_247 rfl (lv_at hl 4 rfl) ?_
              refine g_iald hx hb hK g mq3_ kq3_ (by decide) rfl (in_bd b_2 (by decide)) dX0_closeArgument_248 (fun x_125 bx_125 cx_125 => ?_)
              obtain rfl : x_5 = x_125 := el_same cx_5 cx_125 ((arr_eq hMr_120 mq3_ kq3_ (by decide) rfl).trans ((arr_eq hMr_115 mq3_ kq3_ (by decide) rfl).trans ((arr_eq hM_87 mq3_ kq3_ (by decide) rfl).trans ((arr_eq hM_83 mq3_ kq3_ (by decide) rfl).trans ((arr_eq hM_73 mq3_ kq3_ (by decide) rfl).trans ((arr_eq hMr_66 mq3_ kq3_ (by decide) rfl).trans ((arr_eq hM_62 mq3_ kq3_ (by decide) rfl).trans ((arr_eq hMr_54 mq3_ kq3_ (by decide) rfl).trans (arr_eq hMr_11 mq3_ kq3_ (by decide) rfl)))))))))
              refine lv_iconst (v := 2) hx hb dX0_closeArgument_249 (by decide) ?_
              refine lv_icmp_ne (tgt := 258) hx hb dX0_closeArgument_250 (by decide) (fun c_126 => ?_) (fun c_126 => ?_)
              · have fc_126 := neq_f c_126
                refine lv_bipush (v := 18) hx hb dX0_closeArgument_258 (by decide) ?_
                refine lv_iload_n hx hb dX0_closeArgument_260 rfl (lv_at hl 3 rfl) ?_
                have go_ := g
                refine g_callv (va_runV (As := [.int 18, .int x_4]) (rest := []) ⟨hx, hb, hml, hown, hts⟩ (r_X7_emit l dC dI L kd tys fr_120 H.size g.2.2.2.1 q2_ mq2_ kq2_ 18 x_4) (cwV 2 hts (gV_ t_1203 t_1204 t_1205 t_191 t_1206) rfl rfl rfl (by decide +kernel) ⟨(Nat.le_of_ble_eq_true rfl), (Nat.le_of_ble_eq_true rfl)⟩) (pre3V g hK mq2_ kq2_ (by decide) (q := (RX7, TX7, 19)) rfl) rfl rfl hl.1 rfl (lv_room (Nat.le_of_ble_eq_true rfl)) dX0_closeArgument_261 ⟨(Nat.le_of_ble_eq_true rfl), (Nat.le_of_ble_eq_true rfl)⟩) g hK (by decide) (by decide) (fx' := [(8, 6, q0_, .int 1201), (8, 8, q0_, .int x_116), (0, 4, a0_, .ref a_113), (0, 11, a0_, .int y_86), (0, 8, a0_, .int y_1), (6, 3, a_76, .int x_77), (7, 2, q2_, .ref a_75), (0, 10, a0_, .int x_67), (0, 7, a0_, .ref a_64), (0, 6, a0_, .ref a_59), (0, 5, a0_, .ref a_3), (0, 0, a0_, .ref q0_), (0, 1, a0_, .ref q1_), (0, 2, a0_, .ref q2_), (0, 3, a0_, .ref q3_), (5, 1, q1_, .ref q4_)]) rfl (fun fr_127 H locs hp hMr_127 g => ?_)
                obtain ⟨x_128, h_129, hF_130⟩ := hp
                have hG_131 := eOK.frame hMr_127 go_.2.2.2.1 ma0_ ka0_ (by decide) (by decide) hG_124
                have g := g.more hF_130
                refine lv_aload_n hx hb dX0_closeArgument_264 rfl (lv_at hl 5 rfl) ?_
                refine lv_aload_n hx hb dX0_closeArgument_265 rfl (lv_at hl 5 rfl) ?_
                refine g_getk (C := RX0) (T := TX0) (N := 14) hx hb hts (mc_ inX0) hown hK g rfl 7 (by decide) rfl (hts _ (List.mem_cons_of_mem _ t_380)) (fun _ h9 => h9) 9 rfl dX0_closeArgument_266 ?_
                refine lv_iload_n hx hb dX0_closeArgument_269 rfl (lv_at hl 4 rfl) ?_
                refine g_iald hx hb hK g ma_64 ka_64 (by decide) rfl (in_bd b_2 (by decide)) dX0_closeArgument_270 (fun x_132 bx_132 cx_132 => ?_)
                obtain rfl : x_89 = x_132 := el_same cx_89 cx_132 ((arr_eq hMr_127 ma_64 ka_64 (by decide) rfl).trans ((arr_eq hMr_120 ma_64 ka_64 (by decide) rfl).trans (arr_eq hMr_115 ma_64 ka_64 (by decide) rfl)))
                refine lv_iconst (v := 1) hx hb dX0_closeArgument_271 (by decide) ?_
                refine lv_iadd hx hb dX0_closeArgument_272 ?_
                refine lv_topi (fun y_133 ey_133 => ?_)
                obtain rfl : y_90 = y_133 := ey_90.trans ey_133.symm
                have go_ := g
                refine g_callv (va_runV (As := [.int y_90]) (rest := []) ⟨hx, hb, hml, hown, hts⟩ (r_X0_addWhole l dC dI L kd tys fr_127 H.size g.2.2.2.1 a0_ ma0_ ka0_ y_90) (cwV 1 hts (gV_ t_1211 t_1213 t_17 t_190 t_1214) rfl rfl rfl (by decide +kernel) ⟨(Nat.le_of_ble_eq_true rfl), (Nat.le_of_ble_eq_true rfl)⟩) (pre3V g hK ma0_ ka0_ (by decide) (q := (RX0, TX0, 14)) rfl) rfl rfl hl.1 rfl (lv_room (Nat.le_of_ble_eq_true rfl)) dX0_closeArgument_273 ⟨(Nat.le_of_ble_eq_true rfl), (Nat.le_of_ble_eq_true rfl)⟩) g hK (by decide) (by decide) (fx' := [(7, 6, q2_, .int x_128), (8, 6, q0_, .int 1201), (8, 8, q0_, .int x_116), (0, 4, a0_, .ref a_113), (0, 11, a0_, .int y_86), (0, 8, a0_, .int y_1), (6, 3, a_76, .int x_77), (7, 2, q2_, .ref a_75), (0, 7, a0_, .ref a_64), (0, 6, a0_, .ref a_59), (0, 5, a0_, .ref a_3), (0, 0, a0_, .ref q0_), (0, 1, a0_, .ref q1_), (0, 2, a0_, .ref q2_), (0, 3, a0_, .ref q3_), (5, 1, q1_, .ref q4_)]) rfl (fun fr_134 H locs hp hMr_134 g => ?_)
                obtain ⟨x_135, h_136, hF_137⟩ := hp
                have hG_138 := eOK.frame hMr_134 go_.2.2.2.1 ma0_ ka0_ (by decide) (by decide) hG_131
                have g := g.more hF_137
                subst hQ
                exact W.vret hx hb hr (fun t ht hW => ⟨⟨_, rfl, Or.inr (⟨x_116, h_117, (g.fcts [3, 4] rfl)⟩), q3_of g hK ht hW⟩, g.2.2.1.F ht⟩) g.2.2.1.2.2 dX0_closeArgument_276
              · have fc_126 := eq_f c_126
                exact absurd fc_126 fc_8
          · have fc_80 := nle_f c_80
            have b_139 : bd (-2147483648) 2 x_79 := ltL fc_80 (bdT x_79) bx_77 (by decide)
            refine lv_aload_n hx hb dX0_closeArgument_170 rfl (lv_at hl 5 rfl) ?_
            refine g_getk (C := RX0) (T := TX0) (N := 14) hx hb hts (mc_ inX0) hown hK g rfl 0 (by decide) rfl (hts _ (List.mem_cons_of_mem _ t_373)) (fun _ h9 => h9) 7 rfl dX0_closeArgument_171 ?_
            refine lv_bipush (v := 6) hx hb dX0_closeArgument_174 (by decide) ?_
            refine lv_iload hx hb dX0_closeArgument_176 (lv_at hl 1 rfl) ?_
            have kb_6 : bd 6 6 (6 : Int32) := ⟨by decide, by decide⟩
            have go_ := g
            refine g_callv (va_runV (As := [.int 6, .int r_11]) (rest := []) ⟨hx, hb, hml, hown, hts⟩ (r_X8_fail l dC dI L kd tys f H.size g.2.2.2.1 q0_ mq0_ kq0_ 6 (bd_sub kb_6 (by decide)) r_11 y1_ by1_ (g.fcts [13] rfl)) (cwV 2 hts (gV_ t_1215 t_1107 t_1108 t_184 t_1109) rfl rfl rfl (by decide +kernel) ⟨(Nat.le_of_ble_eq_true rfl), (Nat.le_of_ble_eq_true rfl)⟩) (pre3V g hK mq0_ kq0_ (by decide) (q := (RX8, TX8, 10)) rfl) rfl rfl hl.1 rfl (lv_room (Nat.le_of_ble_eq_true rfl)) dX0_closeArgument_178 ⟨(Nat.le_of_ble_eq_true rfl), (Nat.le_of_ble_eq_true rfl)⟩) g hK (by decide) (by decide) (fx' := [(6, 3, a_76, .int x_77), (7, 2, q2_, .ref a_75), (0, 10, a0_, .int x_67), (0, 7, a0_, .ref a_64), (0, 6, a0_, .ref a_59), (0, 5, a0_, .ref a_3), (0, 0, a0_, .ref q0_), (0, 1, a0_, .ref q1_), (0, 2, a0_, .ref q2_), (0, 3, a0_, .ref q3_), (5, 1, q1_, .ref q4_), (0, 8, a0_, .int y0_)]) rfl (fun fr_140 H locs hp hMr_140 g => ?_)
            obtain ⟨x_141, h_142, hF_143⟩ := hp
            have hG_144 := eOK.frame hMr_140 go_.2.2.2.1 ma0_ ka0_ (by decide) (by decide) hG_74
            have g := g.more hF_143
            refine lv_aload_n hx hb dX0_closeArgument_181 rfl (lv_at hl 5 rfl) ?_
            refine lv_dup hx hb dX0_closeArgument_182 rfl ?_
            refine g_getk (C := RX0) (T := TX0) (N := 14) hx hb hts (mc_ inX0) hown hK g rfl 8 (by decide) rfl (hts _ (List.mem_cons_of_mem _ t_381)) (fun _ h9 => h9) 13 rfl dX0_closeArgument_183 ?_
            refine lv_iconst (v := 1) hx hb dX0_closeArgument_186 (by decide) ?_
            refine lv_isub hx hb dX0_closeArgument_187 ?_
            refine lv_topi (fun y_145 ey_145 => ?_)
            obtain rfl : y_1 = y_145 := ey_1.trans ey_145.symm
            have go_ := g
            refine g_put (C := RX0) (T := TX0) (N := 14) hx hb hts (mc_ inX0) tyX0 tyX0_ok nmX0 hown hK g ma0_ ka0_ (by decide) rfl 8 (by decide) (hts _ (List.mem_cons_of_mem _ t_381)) (fun _ h9 => h9) rfl rfl (okV_i (bd_sub b_2 (by decide))) rfl rfl (by decide) (Or.inr (Or.inl (by decide))) (fx' := [(8, 6, q0_, .int 1201), (8, 8, q0_, .int x_141), (6, 3, a_76, .int x_77), (7, 2, q2_, .ref a_75), (0, 10, a0_, .int x_67), (0, 7, a0_, .ref a_64), (0, 6, a0_, .ref a_59), (0, 5, a0_, .ref a_3), (0, 0, a0_, .ref q0_), (0, 1, a0_, .ref q1_), (0, 2, a0_, .ref q2_), (0, 3, a0_, .ref q3_), (5, 1, q1_, .ref q4_)]) rfl dX0_closeArgument_188 (fun f H locs hM_146 g => ?_)
            have hG_147 := eOK.frame hM_146 go_.2.2.2.1 ma0_ ka0_ (by decide) (by decide) hG_144
            refine lv_aload_n hx hb dX0_closeArgument_191 rfl (lv_at hl 5 rfl) ?_
            refine lv_dup hx hb dX0_closeArgument_192 rfl ?_
            refine g_geti (C := RX0) (T := TX0) (N := 14) hx hb hts (mc_ inX0) hown hK g ma0_ ka0_ (by decide) rfl 11 (by decide) rfl (hts _ (List.mem_cons_of_mem _ t_384)) (fun _ h9 => h9) rfl dX0_closeArgument_193 (fun x_148 bx_148 g => ?_)
            refine lv_iconst (v := 1) hx hb dX0_closeArgument_196 (by decide) ?_
            refine lv_isub hx hb dX0_closeArgument_197 ?_
            refine lv_topi (fun y_149 ey_149 => ?_)
            have go_ := g
            refine g_put (C := RX0) (T := TX0) (N := 14) hx hb hts (mc_ inX0) tyX0 tyX0_ok nmX0 hown hK g ma0_ ka0_ (by decide) rfl 11 (by decide) (hts _ (List.mem_cons_of_mem _ t_384)) (fun _ h9 => h9) rfl rfl (okV_i (bdT y_149)) rfl rfl (by decide) (Or.inr (Or.inl (by decide))) (fx' := [(0, 8, a0_, .int y_1), (8, 6, q0_, .int 1201), (8, 8, q0_, .int x_141), (6, 3, a_76, .int x_77), (7, 2, q2_, .ref a_75), (0, 10, a0_, .int x_67), (0, 7, a0_, .ref a_64), (0, 6, a0_, .ref a_59), (0, 5, a0_, .ref a_3), (0, 0, a0_, .ref q0_), (0, 1, a0_, .ref q1_), (0, 2, a0_, .ref q2_), (0, 3, a0_, .ref q3_), (5, 1, q1_, .ref q4_)]) rfl dX0_closeArgument_198 (fun f H locs hM_150 g => ?_)
            have hG_151 := eOK.frame hM_150 go_.2.2.2.1 ma0_ ka0_ (by decide) (by decide) hG_147
            refine lv_aload_n hx hb dX0_closeArgument_201 rfl (lv_at hl 5 rfl) ?_
            refine g_getk (C := RX0) (T := TX0) (N := 14) hx hb hts (mc_ inX0) hown hK g rfl 7 (by decide) rfl (hts _ (List.mem_cons_of_mem _ t_380)) (fun _ h9 => h9) 7 rfl dX0_closeArgument_202 ?_
            refine lv_iload_n hx hb dX0_closeArgument_205 rfl (lv_at hl 4 rfl) ?_
            refine g_iald hx hb hK g ma_64 ka_64 (by decide) rfl (in_bd b_2 (by decide)) dX0_closeArgument_206 (fun x_152 bx_152 cx_152 => ?_)
            refine lv_iconst (v := 1) hx hb dX0_closeArgument_207 (by decide) ?_
            refine lv_iadd hx hb dX0_closeArgument_208 ?_
            refine lv_topi (fun y_153 ey_153 => ?_)
            refine lv_bipush (v := 12) hx hb dX0_closeArgument_209 (by decide) ?_
            have kb_12 : bd 12 12 (12 : Int32) := ⟨by decide, by decide⟩
            refine lv_icmp_le (tgt := 229) hx hb dX0_closeArgument_211 (by decide) (fun c_154 => ?_) (fun c_154 => ?_)
            · have fc_154 := le_f c_154
              have b_155 : bd (-2147483648) 12 y_153 := leL fc_154 (bdT y_153) kb_12 (by decide)
              refine lv_aload_n hx hb dX0_closeArgument_229 rfl (lv_at hl 5 rfl) ?_
              refine g_getk (C := RX0) (T := TX0) (N := 14) hx hb hts (mc_ inX0) hown hK g rfl 2 (by decide) rfl (hts _ (List.mem_cons_of_mem _ t_375)) (fun _ h9 => h9) 12 rfl dX0_closeArgument_230 ?_
              refine lv_bipush (v := 13) hx hb dX0_closeArgument_233 (by decide) ?_
              refine lv_iconst (v := 0) hx hb dX0_closeArgument_235 (by decide) ?_
              have go_ := g
              refine g_callv (va_runV (As := [.int 13, .int 0]) (rest := []) ⟨hx, hb, hml, hown, hts⟩ (r_X7_emit l dC dI L kd tys f H.size g.2.2.2.1 q2_ mq2_ kq2_ 13 0) (cwV 2 hts (gV_ t_1203 t_1204 t_1205 t_191 t_1206) rfl rfl rfl (by decide +kernel) ⟨(Nat.le_of_ble_eq_true rfl), (Nat.le_of_ble_eq_true rfl)⟩) (pre3V g hK mq2_ kq2_ (by decide) (q := (RX7, TX7, 19)) rfl) rfl rfl hl.1 rfl (lv_room (Nat.le_of_ble_eq_true rfl)) dX0_closeArgument_236 ⟨(Nat.le_of_ble_eq_true rfl), (Nat.le_of_ble_eq_true rfl)⟩) g hK (by decide) (by decide) (fx' := [(0, 11, a0_, .int y_149), (0, 8, a0_, .int y_1), (8, 6, q0_, .int 1201), (8, 8, q0_, .int x_141), (6, 3, a_76, .int x_77), (7, 2, q2_, .ref a_75), (0, 10, a0_, .int x_67), (0, 7, a0_, .ref a_64), (0, 6, a0_, .ref a_59), (0, 5, a0_, .ref a_3), (0, 0, a0_, .ref q0_), (0, 1, a0_, .ref q1_), (0, 2, a0_, .ref q2_), (0, 3, a0_, .ref q3_), (5, 1, q1_, .ref q4_)]) rfl (fun fr_156 H locs hp hMr_156 g => ?_)
              obtain ⟨x_157, h_158, hF_159⟩ := hp
              have hG_160 := eOK.frame hMr_156 go_.2.2.2.1 ma0_ ka0_ (by decide) (by decide) hG_151
              have g := g.more hF_159
              refine lv_aload_n hx hb dX0_closeArgument_239 rfl (lv_at hl 5 rfl) ?_
              refine g_getk (C := RX0) (T := TX0) (N := 14) hx hb hts (mc_ inX0) hown hK g rfl 2 (by decide) rfl (hts _ (List.mem_cons_of_mem _ t_375)) (fun _ h9 => h9) 13 rfl dX0_closeArgument_240 ?_
              refine lv_aload_n hx hb dX0_closeArgument_243 rfl (lv_at hl 5 rfl) ?_
              refine g_getk (C := RX0) (T := TX0) (N := 14) hx hb hts (mc_ inX0) hown hK g rfl 3 (by decide) rfl (hts _ (List.mem_cons_of_mem _ t_376)) (fun _ h9 => h9) 14 rfl dX0_closeArgument_244 ?_
              refine lv_iload_n hx hb dX0_closeArgument_247 rfl (lv_at hl 4 rfl) ?_
              refine g_iald hx hb hK g mq3_ kq3_ (by decide) rfl (in_bd b_2 (by decide)) dX0_closeArgument_248 (fun x_161 bx_161 cx_161 => ?_)
              obtain rfl : x_5 = x_161 := el_same cx_5 cx_161 ((arr_eq hMr_156 mq3_ kq3_ (by decide) rfl).trans ((arr_eq hM_150 mq3_ kq3_ (by decide) rfl).trans ((arr_eq hM_146 mq3_ kq3_ (by decide) rfl).trans ((arr_eq hMr_140 mq3_ kq3_ (by decide) rfl).trans ((arr_eq hM_73 mq3_ kq3_ (by decide) rfl).trans ((arr_eq hMr_66 mq3_ kq3_ (by decide) rfl).trans ((arr_eq hM_62 mq3_ kq3_ (by decide) rfl).trans ((arr_eq hMr_54 mq3_ kq3_ (by decide) rfl).trans (arr_eq hMr_11 mq3_ kq3_ (by decide) rfl)))))))))
              refine lv_iconst (v := 2) hx hb dX0_closeArgument_249 (by decide) ?_
              refine lv_icmp_ne (tgt := 258) hx hb dX0_closeArgument_250 (by decide) (fun c_162 => ?_) (fun c_162 => ?_)
              · have fc_162 := neq_f c_162
                refine lv_bipush (v := 18) hx hb dX0_closeArgument_258 (by decide) ?_
                refine lv_iload_n hx hb dX0_closeArgument_260 rfl (lv_at hl 3 rfl) ?_
                have go_ := g
                refine g_callv (va_runV (As := [.int 18, .int x_4]) (rest := []) ⟨hx, hb, hml, hown, hts⟩ (r_X7_emit l dC dI L kd tys fr_156 H.size g.2.2.2.1 q2_ mq2_ kq2_ 18 x_4) (cwV 2 hts (gV_ t_1203 t_1204 t_1205 t_191 t_1206) rfl rfl rfl (by decide +kernel) ⟨(Nat.le_of_ble_eq_true rfl), (Nat.le_of_ble_eq_true rfl)⟩) (pre3V g hK mq2_ kq2_ (by decide) (q := (RX7, TX7, 19)) rfl) rfl rfl hl.1 rfl (lv_room (Nat.le_of_ble_eq_true rfl)) dX0_closeArgument_261 ⟨(Nat.le_of_ble_eq_true rfl), (Nat.le_of_ble_eq_true rfl)⟩) g hK (by decide) (by decide) (fx' := [(0, 11, a0_, .int y_149), (0, 8, a0_, .int y_1), (8, 6, q0_, .int 1201), (8, 8, q0_, .int x_141), (6, 3, a_76, .int x_77), (7, 2, q2_, .ref a_75), (0, 10, a0_, .int x_67), (0, 7, a0_, .ref a_64), (0, 6, a0_, .ref a_59), (0, 5, a0_, .ref a_3), (0, 0, a0_, .ref q0_), (0, 1, a0_, .ref q1_), (0, 2, a0_, .ref q2_), (0, 3, a0_, .ref q3_), (5, 1, q1_, .ref q4_)]) rfl (fun fr_163 H locs hp hMr_163 g => ?_)
                obtain ⟨x_164, h_165, hF_166⟩ := hp
                have hG_167 := eOK.frame hMr_163 go_.2.2.2.1 ma0_ ka0_ (by decide) (by decide) hG_160
                have g := g.more hF_166
                refine lv_aload_n hx hb dX0_closeArgument_264 rfl (lv_at hl 5 rfl) ?_
                refine lv_aload_n hx hb dX0_closeArgument_265 rfl (lv_at hl 5 rfl) ?_
                refine g_getk (C := RX0) (T := TX0) (N := 14) hx hb hts (mc_ inX0) hown hK g rfl 7 (by decide) rfl (hts _ (List.mem_cons_of_mem _ t_380)) (fun _ h9 => h9) 8 rfl dX0_closeArgument_266 ?_
                refine lv_iload_n hx hb dX0_closeArgument_269 rfl (lv_at hl 4 rfl) ?_
                refine g_iald hx hb hK g ma_64 ka_64 (by decide) rfl (in_bd b_2 (by decide)) dX0_closeArgument_270 (fun x_168 bx_168 cx_168 => ?_)
                obtain rfl : x_152 = x_168 := el_same cx_152 cx_168 ((arr_eq hMr_163 ma_64 ka_64 (by decide) rfl).trans (arr_eq hMr_156 ma_64 ka_64 (by decide) rfl))
                refine lv_iconst (v := 1) hx hb dX0_closeArgument_271 (by decide) ?_
                refine lv_iadd hx hb dX0_closeArgument_272 ?_
                refine lv_topi (fun y_169 ey_169 => ?_)
                obtain rfl : y_153 = y_169 := ey_153.trans ey_169.symm
                have go_ := g
                refine g_callv (va_runV (As := [.int y_153]) (rest := []) ⟨hx, hb, hml, hown, hts⟩ (r_X0_addWhole l dC dI L kd tys fr_163 H.size g.2.2.2.1 a0_ ma0_ ka0_ y_153) (cwV 1 hts (gV_ t_1211 t_1213 t_17 t_190 t_1214) rfl rfl rfl (by decide +kernel) ⟨(Nat.le_of_ble_eq_true rfl), (Nat.le_of_ble_eq_true rfl)⟩) (pre3V g hK ma0_ ka0_ (by decide) (q := (RX0, TX0, 14)) rfl) rfl rfl hl.1 rfl (lv_room (Nat.le_of_ble_eq_true rfl)) dX0_closeArgument_273 ⟨(Nat.le_of_ble_eq_true rfl), (Nat.le_of_ble_eq_true rfl)⟩) g hK (by decide) (by decide) (fx' := [(7, 6, q2_, .int x_164), (0, 11, a0_, .int y_149), (0, 8, a0_, .int y_1), (8, 6, q0_, .int 1201), (8, 8, q0_, .int x_141), (6, 3, a_76, .int x_77), (7, 2, q2_, .ref a_75), (0, 7, a0_, .ref a_64), (0, 6, a0_, .ref a_59), (0, 5, a0_, .ref a_3), (0, 0, a0_, .ref q0_), (0, 1, a0_, .ref q1_), (0, 2, a0_, .ref q2_), (0, 3, a0_, .ref q3_), (5, 1, q1_, .ref q4_)]) rfl (fun fr_170 H locs hp hMr_170 g => ?_)
                obtain ⟨x_171, h_172, hF_173⟩ := hp
                have hG_174 := eOK.frame hMr_170 go_.2.2.2.1 ma0_ ka0_ (by decide) (by decide) hG_167
                have g := g.more hF_173
                subst hQ
                exact W.vret hx hb hr (fun t ht hW => ⟨⟨_, rfl, Or.inr (⟨x_141, h_142, (g.fcts [5, 6] rfl)⟩), q3_of g hK ht hW⟩, g.2.2.1.F ht⟩) g.2.2.1.2.2 dX0_closeArgument_276
              · have fc_162 := eq_f c_162
                exact absurd fc_162 fc_8
            · have fc_154 := nle_f c_154
              have b_175 : bd 13 2147483647 y_153 := ltR fc_154 kb_12 (bdT y_153) (by decide)
              refine lv_aload_n hx hb dX0_closeArgument_214 rfl (lv_at hl 5 rfl) ?_
              refine g_getk (C := RX0) (T := TX0) (N := 14) hx hb hts (mc_ inX0) hown hK g rfl 0 (by decide) rfl (hts _ (List.mem_cons_of_mem _ t_373)) (fun _ h9 => h9) 10 rfl dX0_closeArgument_215 ?_
              refine lv_bipush (v := 7) hx hb dX0_closeArgument_218 (by decide) ?_
              refine lv_aload_n hx hb dX0_closeArgument_220 rfl (lv_at hl 5 rfl) ?_
              refine g_getr (K := 111) (C := RX0) (T := TX0) (N := 14) hx hb hts (mc_ inX0) hown hK g ma0_ ka0_ (by decide) rfl 4 (by decide) rfl (hts _ (List.mem_cons_of_mem _ t_377)) (fun _ h9 => h9) rfl dX0_closeArgument_221 (fun a_176 ma_176 ka_176 g => ?_)
              refine lv_iload_n hx hb dX0_closeArgument_224 rfl (lv_at hl 4 rfl) ?_
              refine g_iald hx hb hK g ma_176 ka_176 (by decide) rfl (in_bd b_2 (by decide)) dX0_closeArgument_225 (fun x_177 bx_177 cx_177 => ?_)
              have kb_7 : bd 7 7 (7 : Int32) := ⟨by decide, by decide⟩
              have go_ := g
              refine g_callv (va_runV (As := [.int 7, .int x_177]) (rest := []) ⟨hx, hb, hml, hown, hts⟩ (r_X8_fail_2 l dC dI L kd tys f H.size g.2.2.2.1 q0_ mq0_ kq0_ 7 (bd_sub kb_7 (by decide)) x_177 x_141 h_142 (g.fcts [4] rfl)) (cwV 2 hts (gV_ t_1215 t_1107 t_1108 t_184 t_1109) rfl rfl rfl (by decide +kernel) ⟨(Nat.le_of_ble_eq_true rfl), (Nat.le_of_ble_eq_true rfl)⟩) (pre3V g hK mq0_ kq0_ (by decide) (q := (RX8, TX8, 10)) rfl) rfl rfl hl.1 rfl (lv_room (Nat.le_of_ble_eq_true rfl)) dX0_closeArgument_226 ⟨(Nat.le_of_ble_eq_true rfl), (Nat.le_of_ble_eq_true rfl)⟩) g hK (by decide) (by decide) (fx' := [(0, 4, a0_, .ref a_176), (0, 11, a0_, .int y_149), (0, 8, a0_, .int y_1), (8, 8, q0_, .int x_141), (6, 3, a_76, .int x_77), (7, 2, q2_, .ref a_75), (0, 10, a0_, .int x_67), (0, 7, a0_, .ref a_64), (0, 6, a0_, .ref a_59), (0, 5, a0_, .ref a_3), (0, 0, a0_, .ref q0_), (0, 1, a0_, .ref q1_), (0, 2, a0_, .ref q2_), (0, 3, a0_, .ref q3_), (5, 1, q1_, .ref q4_)]) rfl (fun fr_178 H locs hp hMr_178 g => ?_)
              have hF_179 := hp
              have hG_180 := eOK.frame hMr_178 go_.2.2.2.1 ma0_ ka0_ (by decide) (by decide) hG_151
              have g := g.more hF_179
              refine lv_aload_n hx hb dX0_closeArgument_229 rfl (lv_at hl 5 rfl) ?_
              refine g_getk (C := RX0) (T := TX0) (N := 14) hx hb hts (mc_ inX0) hown hK g rfl 2 (by decide) rfl (hts _ (List.mem_cons_of_mem _ t_375)) (fun _ h9 => h9) 13 rfl dX0_closeArgument_230 ?_
              refine lv_bipush (v := 13) hx hb dX0_closeArgument_233 (by decide) ?_
              refine lv_iconst (v := 0) hx hb dX0_closeArgument_235 (by decide) ?_
              have go_ := g
              refine g_callv (va_runV (As := [.int 13, .int 0]) (rest := []) ⟨hx, hb, hml, hown, hts⟩ (r_X7_emit l dC dI L kd tys fr_178 H.size g.2.2.2.1 q2_ mq2_ kq2_ 13 0) (cwV 2 hts (gV_ t_1203 t_1204 t_1205 t_191 t_1206) rfl rfl rfl (by decide +kernel) ⟨(Nat.le_of_ble_eq_true rfl), (Nat.le_of_ble_eq_true rfl)⟩) (pre3V g hK mq2_ kq2_ (by decide) (q := (RX7, TX7, 19)) rfl) rfl rfl hl.1 rfl (lv_room (Nat.le_of_ble_eq_true rfl)) dX0_closeArgument_236 ⟨(Nat.le_of_ble_eq_true rfl), (Nat.le_of_ble_eq_true rfl)⟩) g hK (by decide) (by decide) (fx' := [(8, 6, q0_, .int 1201), (0, 4, a0_, .ref a_176), (0, 11, a0_, .int y_149), (0, 8, a0_, .int y_1), (8, 8, q0_, .int x_141), (6, 3, a_76, .int x_77), (7, 2, q2_, .ref a_75), (0, 10, a0_, .int x_67), (0, 7, a0_, .ref a_64), (0, 6, a0_, .ref a_59), (0, 5, a0_, .ref a_3), (0, 0, a0_, .ref q0_), (0, 1, a0_, .ref q1_), (0, 2, a0_, .ref q2_), (0, 3, a0_, .ref q3_), (5, 1, q1_, .ref q4_)]) rfl (fun fr_181 H locs hp hMr_181 g => ?_)
              obtain ⟨x_182, h_183, hF_184⟩ := hp
              have hG_185 := eOK.frame hMr_181 go_.2.2.2.1 ma0_ ka0_ (by decide) (by decide) hG_180
              have g := g.more hF_184
              refine lv_aload_n hx hb dX0_closeArgument_239 rfl (lv_at hl 5 rfl) ?_
              refine g_getk (C := RX0) (T := TX0) (N := 14) hx hb hts (mc_ inX0) hown hK g rfl 2 (by decide) rfl (hts _ (List.mem_cons_of_mem _ t_375)) (fun _ h9 => h9) 14 rfl dX0_closeArgument_240 ?_
              refine lv_aload_n hx hb dX0_closeArgument_243 rfl (lv_at hl 5 rfl) ?_
              refine g_getk (C := RX0) (T := TX0) (N := 14) hx hb hts (mc_ inX0) hown hK g rfl 3 (by decide) rfl (hts _ (List.mem_cons_of_mem _ t_376)) (fun _ h9 => h9) 15 rfl dX0_closeArgument_244 ?_
              refine lv_iload_n hx hb dX0_closeArgument_247 rfl (lv_at hl 4 rfl) ?_
              refine g_iald hx hb hK g mq3_ kq3_ (by decide) rfl (in_bd b_2 (by decide)) dX0_closeArgument_248 (fun x_186 bx_186 cx_186 => ?_)
              obtain rfl : x_5 = x_186 := el_same cx_5 cx_186 ((arr_eq hMr_181 mq3_ kq3_ (by decide) rfl).trans ((arr_eq hMr_178 mq3_ kq3_ (by decide) rfl).trans ((arr_eq hM_150 mq3_ kq3_ (by decide) rfl).trans ((arr_eq hM_146 mq3_ kq3_ (by decide) rfl).trans ((arr_eq hMr_140 mq3_ kq3_ (by decide) rfl).trans ((arr_eq hM_73 mq3_ kq3_ (by decide) rfl).trans ((arr_eq hMr_66 mq3_ kq3_ (by decide) rfl).trans ((arr_eq hM_62 mq3_ kq3_ (by decide) rfl).trans ((arr_eq hMr_54 mq3_ kq3_ (by decide) rfl).trans (arr_eq hMr_11 mq3_ kq3_ (by decide) rfl))))))))))
              refine lv_iconst (v := 2) hx hb dX0_closeArgument_249 (by decide) ?_
              refine lv_icmp_ne (tgt := 258) hx hb dX0_closeArgument_250 (by decide) (fun c_187 => ?_) (fun c_187 => ?_)
              · have fc_187 := neq_f c_187
                refine lv_bipush (v := 18) hx hb dX0_closeArgument_258 (by decide) ?_
                refine lv_iload_n hx hb dX0_closeArgument_260 rfl (lv_at hl 3 rfl) ?_
                have go_ := g
                refine g_callv (va_runV (As := [.int 18, .int x_4]) (rest := []) ⟨hx, hb, hml, hown, hts⟩ (r_X7_emit l dC dI L kd tys fr_181 H.size g.2.2.2.1 q2_ mq2_ kq2_ 18 x_4) (cwV 2 hts (gV_ t_1203 t_1204 t_1205 t_191 t_1206) rfl rfl rfl (by decide +kernel) ⟨(Nat.le_of_ble_eq_true rfl), (Nat.le_of_ble_eq_true rfl)⟩) (pre3V g hK mq2_ kq2_ (by decide) (q := (RX7, TX7, 19)) rfl) rfl rfl hl.1 rfl (lv_room (Nat.le_of_ble_eq_true rfl)) dX0_closeArgument_261 ⟨(Nat.le_of_ble_eq_true rfl), (Nat.le_of_ble_eq_true rfl)⟩) g hK (by decide) (by decide) (fx' := [(8, 6, q0_, .int 1201), (0, 4, a0_, .ref a_176), (0, 11, a0_, .int y_149), (0, 8, a0_, .int y_1), (8, 8, q0_, .int x_141), (6, 3, a_76, .int x_77), (7, 2, q2_, .ref a_75), (0, 10, a0_, .int x_67), (0, 7, a0_, .ref a_64), (0, 6, a0_, .ref a_59), (0, 5, a0_, .ref a_3), (0, 0, a0_, .ref q0_), (0, 1, a0_, .ref q1_), (0, 2, a0_, .ref q2_), (0, 3, a0_, .ref q3_), (5, 1, q1_, .ref q4_)]) rfl (fun fr_188 H locs hp hMr_188 g => ?_)
                obtain ⟨x_189, h_190, hF_191⟩ := hp
                have hG_192 := eOK.frame hMr_188 go_.2.2.2.1 ma0_ ka0_ (by decide) (by decide) hG_185
                have g := g.more hF_191
                refine lv_aload_n hx hb dX0_closeArgument_264 rfl (lv_at hl 5 rfl) ?_
                refine lv_aload_n hx hb dX0_closeArgument_265 rfl (lv_at hl 5 rfl) ?_
                refine g_getk (C := RX0) (T := TX0) (N := 14) hx hb hts (mc_ inX0) hown hK g rfl 7 (by decide) rfl (hts _ (List.mem_cons_of_mem _ t_380)) (fun _ h9 => h9) 9 rfl dX0_closeArgument_266 ?_
                refine lv_iload_n hx hb dX0_closeArgument_269 rfl (lv_at hl 4 rfl) ?_
                refine g_iald hx hb hK g ma_64 ka_64 (by decide) rfl (in_bd b_2 (by decide)) dX0_closeArgument_270 (fun x_193 bx_193 cx_193 => ?_)
                obtain rfl : x_152 = x_193 := el_same cx_152 cx_193 ((arr_eq hMr_188 ma_64 ka_64 (by decide) rfl).trans ((arr_eq hMr_181 ma_64 ka_64 (by decide) rfl).trans (arr_eq hMr_178 ma_64 ka_64 (by decide) rfl)))
                refine lv_iconst (v := 1) hx hb dX0_closeArgument_271 (by decide) ?_
                refine lv_iadd hx hb dX0_closeArgument_272 ?_
                refine lv_topi (fun y_194 ey_194 => ?_)
                obtain rfl : y_153 = y_194 := ey_153.trans ey_194.symm
                have go_ := g
                refine g_callv (va_runV (As := [.int y_153]) (rest := []) ⟨hx, hb, hml, hown, hts⟩ (r_X0_addWhole l dC dI L kd tys fr_188 H.size g.2.2.2.1 a0_ ma0_ ka0_ y_153) (cwV 1 hts (gV_ t_1211 t_1213 t_17 t_190 t_1214) rfl rfl rfl (by decide +kernel) ⟨(Nat.le_of_ble_eq_true rfl), (Nat.le_of_ble_eq_true rfl)⟩) (pre3V g hK ma0_ ka0_ (by decide) (q := (RX0, TX0, 14)) rfl) rfl rfl hl.1 rfl (lv_room (Nat.le_of_ble_eq_true rfl)) dX0_closeArgument_273 ⟨(Nat.le_of_ble_eq_true rfl), (Nat.le_of_ble_eq_true rfl)⟩) g hK (by decide) (by decide) (fx' := [(7, 6, q2_, .int x_189), (8, 6, q0_, .int 1201), (0, 4, a0_, .ref a_176), (0, 11, a0_, .int y_149), (0, 8, a0_, .int y_1), (8, 8, q0_, .int x_141), (6, 3, a_76, .int x_77), (7, 2, q2_, .ref a_75), (0, 7, a0_, .ref a_64), (0, 6, a0_, .ref a_59), (0, 5, a0_, .ref a_3), (0, 0, a0_, .ref q0_), (0, 1, a0_, .ref q1_), (0, 2, a0_, .ref q2_), (0, 3, a0_, .ref q3_), (5, 1, q1_, .ref q4_)]) rfl (fun fr_195 H locs hp hMr_195 g => ?_)
                obtain ⟨x_196, h_197, hF_198⟩ := hp
                have hG_199 := eOK.frame hMr_195 go_.2.2.2.1 ma0_ ka0_ (by decide) (by decide) hG_192
                have g := g.more hF_198
                subst hQ
                exact W.vret hx hb hr (fun t ht hW => ⟨⟨_, rfl, Or.inr (⟨x_141, h_142, (g.fcts [3, 7] rfl)⟩), q3_of g hK ht hW⟩, g.2.2.1.F ht⟩) g.2.2.1.2.2 dX0_closeArgument_276
              · have fc_187 := eq_f c_187
                exact absurd fc_187 fc_8
        · have fc_78 := eq_f c_78
          exact absurd fc_78 fc_13
      · have fc_52 := neq_f c_52
        refine lv_aload_n hx hb dX0_closeArgument_63 rfl (lv_at hl 4 rfl) ?_
        refine g_getk (C := RX0) (T := TX0) (N := 14) hx hb hts (mc_ inX0) hown hK g rfl 0 (by decide) rfl (hts _ (List.mem_cons_of_mem _ t_373)) (fun _ h9 => h9) 1 rfl dX0_closeArgument_64 ?_
        refine lv_iconst (v := 1) hx hb dX0_closeArgument_67 (by decide) ?_
        refine lv_iload hx hb dX0_closeArgument_68 (lv_at hl 0 rfl) ?_
        have go_ := g
        refine g_callv (va_runV (As := [.int 1, .int r_11]) (rest := []) ⟨hx, hb, hml, hown, hts⟩ (r_X8_fail l dC dI L kd tys fr_11 H.size g.2.2.2.1 q0_ mq0_ kq0_ 1 (bd_sub kb_1 (by decide)) r_11 y1_ by1_ (g.fcts [7] rfl)) (cwV 2 hts (gV_ t_1215 t_1107 t_1108 t_184 t_1109) rfl rfl rfl (by decide +kernel) ⟨(Nat.le_of_ble_eq_true rfl), (Nat.le_of_ble_eq_true rfl)⟩) (pre3V g hK mq0_ kq0_ (by decide) (q := (RX8, TX8, 10)) rfl) rfl rfl hl.1 rfl (lv_room (Nat.le_of_ble_eq_true rfl)) dX0_closeArgument_70 ⟨(Nat.le_of_ble_eq_true rfl), (Nat.le_of_ble_eq_true rfl)⟩) g hK (by decide) (by decide) (fx' := [(0, 5, a0_, .ref a_3), (0, 0, a0_, .ref q0_), (0, 1, a0_, .ref q1_), (0, 2, a0_, .ref q2_), (0, 3, a0_, .ref q3_), (5, 1, q1_, .ref q4_), (0, 8, a0_, .int y0_)]) rfl (fun fr_200 H locs hp hMr_200 g => ?_)
        obtain ⟨x_201, h_202, hF_203⟩ := hp
        have hG_204 := eOK.frame hMr_200 go_.2.2.2.1 ma0_ ka0_ (by decide) (by decide) hG_12
        have g := g.more hF_203
        subst hQ
        exact W.vret hx hb hr (fun t ht hW => ⟨⟨_, rfl, Or.inr (⟨x_201, h_202, (g.fcts [0, 1] rfl)⟩), q3_of g hK ht hW⟩, g.2.2.1.F ht⟩) g.2.2.1.2.2 dX0_closeArgument_73
  · have fc_8 := eq_f c_8
    have b_205 : bd 2 2 x_5 := eqX fc_8 b_6 kb_2 (by decide)
    have b_206 : bd 0 11 x_4 := eqX rfl (bdT x_4) (er2 hc_7 b_205 (by decide)) (by decide)
    refine lv_aload_n hx hb dX0_closeArgument_24 rfl (lv_at hl 2 rfl) ?_
    refine g_getk (C := RX0) (T := TX0) (N := 14) hx hb hts (mc_ inX0) hown hK g rfl 1 (by decide) rfl (hts _ (List.mem_cons_of_mem _ t_374)) (fun _ h9 => h9) 2 rfl dX0_closeArgument_25 ?_
    refine g_getk (C := RX5) (T := TX5) (N := 9) hx hb hts (mc_ inX5) hown hK g rfl 1 (by decide) rfl (hts _ (List.mem_cons_of_mem _ t_332)) (fun _ h9 => h9) 5 rfl dX0_closeArgument_28 ?_
    refine g_getr (K := 156) (C := RX9) (T := TX9) (N := 13) hx hb hts (mc_ inX9) hown hK g mq4_ kq4_ (by decide) rfl 9 (by decide) rfl (hts _ (List.mem_cons_of_mem _ t_508)) (fun _ h9 => h9) rfl dX0_closeArgument_31 (fun a_207 ma_207 ka_207 g => ?_)
    refine lv_iload_n hx hb dX0_closeArgument_34 rfl (lv_at hl 0 rfl) ?_
    refine g_iald hx hb hK g ma_207 ka_207 (by decide) rfl (in_bd b_206 (by decide)) dX0_closeArgument_35 (fun x_208 bx_208 cx_208 => ?_)
    refine lv_goto (tgt := 40) hx hb dX0_closeArgument_36 (by decide) ?_
    refine lv_istore (lv' := [(4, .int x_208), (3, .int x_4), (2, .int y_1), (0, .ref a0_), (1, .int x1_)]) hx hb dX0_closeArgument_40 hl (by decide) rfl (fun ls hl => ?_)
    refine lv_aload_n hx hb dX0_closeArgument_42 rfl (lv_at hl 3 rfl) ?_
    refine g_getk (C := RX0) (T := TX0) (N := 14) hx hb hts (mc_ inX0) hown hK g rfl 0 (by decide) rfl (hts _ (List.mem_cons_of_mem _ t_373)) (fun _ h9 => h9) 2 rfl dX0_closeArgument_43 ?_
    have go_ := g
    refine g_calli (va_runV (As := []) (rest := []) ⟨hx, hb, hml, hown, hts⟩ (r_X8_place l dC dI L kd tys f0 s.heap.size g.2.2.2.1 q0_ mq0_ kq0_) (cwV 0 hts (gV_ t_1220 t_1111 t_1112 t_184 t_1113) rfl rfl rfl (by decide +kernel) ⟨(Nat.le_of_ble_eq_true rfl), (Nat.le_of_ble_eq_true rfl)⟩) (pre3V g hK mq0_ kq0_ (by decide) (q := (RX8, TX8, 10)) rfl) rfl rfl hl.1 rfl (lv_room (Nat.le_of_ble_eq_true rfl)) dX0_closeArgument_46 ⟨(Nat.le_of_ble_eq_true rfl), (Nat.le_of_ble_eq_true rfl)⟩) g hK (by decide) (by decide) (fx' := [(9, 9, q4_, .ref a_207), (0, 5, a0_, .ref a_3), (0, 0, a0_, .ref q0_), (0, 1, a0_, .ref q1_), (0, 2, a0_, .ref q2_), (0, 3, a0_, .ref q3_), (5, 1, q1_, .ref q4_), (0, 8, a0_, .int y0_), (8, 8, q0_, .int y1_)]) rfl (fun r_209 fr_209 H locs hp hMr_209 g => ?_)
    have hG_210 := eOK.frame hMr_209 go_.2.2.2.1 ma0_ ka0_ (by decide) (by decide) hGea0_
    refine lv_istore (lv' := [(5, .int r_209), (4, .int x_208), (3, .int x_4), (2, .int y_1), (0, .ref a0_), (1, .int x1_)]) hx hb dX0_closeArgument_49 hl (by decide) rfl (fun ls hl => ?_)
    refine lv_iload_n hx hb dX0_closeArgument_51 rfl (lv_at hl 5 rfl) ?_
    refine lv_bipush (v := 44) hx hb dX0_closeArgument_52 (by decide) ?_
    have kb_44 : bd 44 44 (44 : Int32) := ⟨by decide, by decide⟩
    refine lv_icmp_eq (tgt := 74) hx hb dX0_closeArgument_54 (by decide) (fun c_211 => ?_) (fun c_211 => ?_)
    · have fc_211 := eq_f c_211
      have b_212 : bd 44 44 x1_ := eqX fc_211 (bdT x1_) kb_44 (by decide)
      refine lv_aload_n hx hb dX0_closeArgument_74 rfl (lv_at hl 4 rfl) ?_
      refine g_getk (C := RX0) (T := TX0) (N := 14) hx hb hts (mc_ inX0) hown hK g rfl 0 (by decide) rfl (hts _ (List.mem_cons_of_mem _ t_373)) (fun _ h9 => h9) 2 rfl dX0_closeArgument_75 ?_
      have go_ := g
      refine g_callv (va_runV (As := []) (rest := []) ⟨hx, hb, hml, hown, hts⟩ (r_X8_next l dC dI L kd tys fr_209 H.size g.2.2.2.1 q0_ mq0_ kq0_) (cwV 0 hts (gV_ t_1225 t_1103 t_1104 t_184 t_1105) rfl rfl rfl (by decide +kernel) ⟨(Nat.le_of_ble_eq_true rfl), (Nat.le_of_ble_eq_true rfl)⟩) (pre3V g hK mq0_ kq0_ (by decide) (q := (RX8, TX8, 10)) rfl) rfl rfl hl.1 rfl (lv_room (Nat.le_of_ble_eq_true rfl)) dX0_closeArgument_78 ⟨(Nat.le_of_ble_eq_true rfl), (Nat.le_of_ble_eq_true rfl)⟩) g hK (by decide) (by decide) (fx' := [(9, 9, q4_, .ref a_207), (0, 5, a0_, .ref a_3), (0, 0, a0_, .ref q0_), (0, 1, a0_, .ref q1_), (0, 2, a0_, .ref q2_), (0, 3, a0_, .ref q3_), (5, 1, q1_, .ref q4_), (0, 8, a0_, .int y0_), (8, 8, q0_, .int y1_)]) rfl (fun fr_213 H locs hp hMr_213 g => ?_)
      obtain ⟨x_214, h_215, hF_216⟩ := hp
      have hG_217 := eOK.frame hMr_213 go_.2.2.2.1 ma0_ ka0_ (by decide) (by decide) hG_210
      have g := g.more hF_216
      refine lv_aload_n hx hb dX0_closeArgument_81 rfl (lv_at hl 4 rfl) ?_
      refine g_getr (K := 113) (C := RX0) (T := TX0) (N := 14) hx hb hts (mc_ inX0) hown hK g ma0_ ka0_ (by decide) rfl 6 (by decide) rfl (hts _ (List.mem_cons_of_mem _ t_379)) (fun _ h9 => h9) rfl dX0_closeArgument_82 (fun a_218 ma_218 ka_218 g => ?_)
      refine lv_iload_n hx hb dX0_closeArgument_85 rfl (lv_at hl 3 rfl) ?_
      refine lv_dup2_11 hx hb dX0_closeArgument_86 rfl rfl ?_
      refine g_iald hx hb hK g ma_218 ka_218 (by decide) rfl (in_bd b_2 (by decide)) dX0_closeArgument_87 (fun x_219 bx_219 cx_219 => ?_)
      refine lv_iconst (v := 1) hx hb dX0_closeArgument_88 (by decide) ?_
      refine lv_iadd hx hb dX0_closeArgument_89 ?_
      refine lv_topi (fun y_220 ey_220 => ?_)
      have go_ := g
      refine g_iast hx hb hK g ma_218 ka_218 (by decide) rfl (in_bd b_2 (by decide)) (bdT y_220) (by decide) dX0_closeArgument_90 (fun f H locs hM_221 g => ?_)
      have hG_222 := eOK.frame hM_221 go_.2.2.2.1 ma0_ ka0_ (by decide) (by decide) hG_217
      refine lv_aload_n hx hb dX0_closeArgument_91 rfl (lv_at hl 4 rfl) ?_
      refine g_getr (K := 114) (C := RX0) (T := TX0) (N := 14) hx hb hts (mc_ inX0) hown hK g ma0_ ka0_ (by decide) rfl 7 (by decide) rfl (hts _ (List.mem_cons_of_mem _ t_380)) (fun _ h9 => h9) rfl dX0_closeArgument_92 (fun a_223 ma_223 ka_223 g => ?_)
      refine lv_iload_n hx hb dX0_closeArgument_95 rfl (lv_at hl 3 rfl) ?_
      refine lv_aload_n hx hb dX0_closeArgument_96 rfl (lv_at hl 4 rfl) ?_
      refine g_getk (C := RX0) (T := TX0) (N := 14) hx hb hts (mc_ inX0) hown hK g rfl 7 (by decide) rfl (hts _ (List.mem_cons_of_mem _ t_380)) (fun _ h9 => h9) 0 rfl dX0_closeArgument_97 ?_
      refine lv_iload_n hx hb dX0_closeArgument_100 rfl (lv_at hl 3 rfl) ?_
      refine g_iald hx hb hK g ma_223 ka_223 (by decide) rfl (in_bd b_2 (by decide)) dX0_closeArgument_101 (fun x_224 bx_224 cx_224 => ?_)
      refine lv_aload_n hx hb dX0_closeArgument_102 rfl (lv_at hl 4 rfl) ?_
      have go_ := g
      refine g_calli (va_runV (As := []) (rest := [.int x_224, .int y_1, .ref a_223]) ⟨hx, hb, hml, hown, hts⟩ (r_X0_takeHeight l dC dI L kd tys f H.size g.2.2.2.1 a0_ ma0_ ka0_) (cwV 0 hts (gV_ t_1199 t_1201 t_16 t_190 t_1202) rfl rfl rfl (by decide +kernel) ⟨(Nat.le_of_ble_eq_true rfl), (Nat.le_of_ble_eq_true rfl)⟩) (pre3V g hK ma0_ ka0_ (by decide) (q := (RX0, TX0, 14)) rfl) rfl rfl hl.1 rfl (lv_room (Nat.le_of_ble_eq_true rfl)) dX0_closeArgument_103 ⟨(Nat.le_of_ble_eq_true rfl), (Nat.le_of_ble_eq_true rfl)⟩) g hK (by decide) (by decide) (fx' := [(0, 7, a0_, .ref a_223), (0, 6, a0_, .ref a_218), (8, 6, q0_, .int x_214), (9, 9, q4_, .ref a_207), (0, 5, a0_, .ref a_3), (0, 0, a0_, .ref q0_), (0, 1, a0_, .ref q1_), (0, 2, a0_, .ref q2_), (0, 3, a0_, .ref q3_), (5, 1, q1_, .ref q4_), (0, 8, a0_, .int y0_), (8, 8, q0_, .int y1_)]) rfl (fun r_225 fr_225 H locs hp hMr_225 g => ?_)
      obtain ⟨x_226, h_227, hF_228⟩ := hp
      have hG_229 := eOK.frame hMr_225 go_.2.2.2.1 ma0_ ka0_ (by decide) (by decide) hG_222
      have g := g.more hF_228
      refine va_mmax hx hb (hml.trans hl.1.symm) hown (hts _ (List.mem_cons_of_mem _ t_1194)) (hts _ (List.mem_cons_of_mem _ t_1041)) (hts _ (List.mem_cons_of_mem _ t_204)) (hts _ (List.mem_cons_of_mem _ t_1042)) (Nat.le_of_ble_eq_true rfl) (Nat.le_of_ble_eq_true rfl) (Nat.le_of_ble_eq_true rfl) (Nat.le_of_ble_eq_true rfl) dX0_closeArgument_106 ?_
      refine lv_topi (fun y_230 ey_230 => ?_)
      have ty_230 : y_230.toInt = max x_224.toInt r_225.toInt := by rw [ey_230]; exact mmax_ok _ _
      have b_231 : bd (-2147483648) 2147483647 y_230 := max_rg ty_230 (bdT x_224) (bdT r_225) (by decide)
      have go_ := g
      refine g_iast hx hb hK g ma_223 ka_223 (by decide) rfl (in_bd b_2 (by decide)) b_231 (by decide) dX0_closeArgument_109 (fun f H locs hM_232 g => ?_)
      have hG_233 := eOK.frame hM_232 go_.2.2.2.1 ma0_ ka0_ (by decide) (by decide) hG_229
      refine lv_aload_n hx hb dX0_closeArgument_110 rfl (lv_at hl 4 rfl) ?_
      refine g_getk (C := RX0) (T := TX0) (N := 14) hx hb hts (mc_ inX0) hown hK g rfl 2 (by decide) rfl (hts _ (List.mem_cons_of_mem _ t_375)) (fun _ h9 => h9) 8 rfl dX0_closeArgument_111 ?_
      refine g_getr (K := 137) (C := RX7) (T := TX7) (N := 19) hx hb hts (mc_ inX7) hown hK g mq2_ kq2_ (by decide) rfl 2 (by decide) rfl (hts _ (List.mem_cons_of_mem _ t_633)) (fun _ h9 => h9) rfl dX0_closeArgument_114 (fun a_234 ma_234 ka_234 g => ?_)
      refine lv_iload hx hb dX0_closeArgument_117 (lv_at hl 1 rfl) ?_
      refine g_aald hx hb hK g ma_234 ka_234 (by decide) rfl (by decide) (in_bd bx_208 (by decide)) dX0_closeArgument_119 (fun a_235 ma_235 ua_235 wa_235 => ?_)
      have ka_235 : kd a_235 = 6 := by omega
      refine g_geti (C := RX6) (T := TX6) (N := 13) hx hb hts (mc_ inX6) hown hK g ma_235 ka_235 (by decide) rfl 3 (by decide) rfl (hts _ (List.mem_cons_of_mem _ t_564)) (fun _ h9 => h9) rfl dX0_closeArgument_120 (fun x_236 bx_236 g => ?_)
      refine lv_istore (lv' := [(6, .int x_236), (5, .int r_209), (4, .int x_208), (3, .int x_4), (2, .int y_1), (0, .ref a0_), (1, .int x1_)]) hx hb dX0_closeArgument_123 hl (by decide) rfl (fun ls hl => ?_)
      refine lv_iload_n hx hb dX0_closeArgument_125 rfl (lv_at hl 6 rfl) ?_
      refine lv_bipush (v := 44) hx hb dX0_closeArgument_126 (by decide) ?_
      refine lv_icmp_ne (tgt := 159) hx hb dX0_closeArgument_128 (by decide) (fun c_237 => ?_) (fun c_237 => ?_)
      · have fc_237 := neq_f c_237
        have b_238 : bd 45 43 x1_ := neX fc_237 b_212 kb_44 (by decide)
        exact bd_no b_238 (by decide)
      · have fc_237 := eq_f c_237
        refine lv_aload_n hx hb dX0_closeArgument_131 rfl (lv_at hl 5 rfl) ?_
        refine lv_iconst (v := 1) hx hb dX0_closeArgument_132 (by decide) ?_
        have go_ := g
        refine g_put (C := RX0) (T := TX0) (N := 14) hx hb hts (mc_ inX0) tyX0 tyX0_ok nmX0 hown hK g ma0_ ka0_ (by decide) rfl 12 (by decide) (hts _ (List.mem_cons_of_mem _ t_385)) (fun _ h9 => h9) rfl rfl (okV_i (bd_sub kb_1 (by decide))) rfl rfl (by decide) (Or.inr (Or.inl (by decide))) (fx' := [(6, 3, a_235, .int x_236), (7, 2, q2_, .ref a_234), (0, 10, a0_, .int x_226), (0, 7, a0_, .ref a_223), (0, 6, a0_, .ref a_218), (8, 6, q0_, .int x_214), (9, 9, q4_, .ref a_207), (0, 5, a0_, .ref a_3), (0, 0, a0_, .ref q0_), (0, 1, a0_, .ref q1_), (0, 2, a0_, .ref q2_), (0, 3, a0_, .ref q3_), (5, 1, q1_, .ref q4_), (0, 8, a0_, .int y0_), (8, 8, q0_, .int y1_)]) rfl dX0_closeArgument_133 (fun f H locs hM_239 g => ?_)
        have hG_240 := eOK.frame hM_239 go_.2.2.2.1 ma0_ ka0_ (by decide) (by decide) hG_233
        refine lv_aload_n hx hb dX0_closeArgument_136 rfl (lv_at hl 5 rfl) ?_
        refine g_getk (C := RX0) (T := TX0) (N := 14) hx hb hts (mc_ inX0) hown hK g rfl 6 (by decide) rfl (hts _ (List.mem_cons_of_mem _ t_379)) (fun _ h9 => h9) 5 rfl dX0_closeArgument_137 ?_
        refine lv_iload_n hx hb dX0_closeArgument_140 rfl (lv_at hl 4 rfl) ?_
        refine g_iald hx hb hK g ma_218 ka_218 (by decide) rfl (in_bd b_2 (by decide)) dX0_closeArgument_141 (fun x_241 bx_241 cx_241 => ?_)
        refine lv_iload hx hb dX0_closeArgument_142 (lv_at hl 0 rfl) ?_
        refine lv_icmp_lt (tgt := 158) hx hb dX0_closeArgument_144 (by decide) (fun c_242 => ?_) (fun c_242 => ?_)
        · have fc_242 := lt_f c_242
          have b_243 : bd (-2147483648) 2 x_241 := ltL fc_242 (bdT x_241) bx_236 (by decide)
          subst hQ
          exact W.vret hx hb hr (fun t ht hW => ⟨⟨_, rfl, Or.inl ⟨(bd_sub b_212 (by decide)), x_214, h_215, (g.fcts [6, 15] rfl)⟩, q3_of g hK ht hW⟩, g.2.2.1.F ht⟩) g.2.2.1.2.2 dX0_closeArgument_158
        · have fc_242 := nlt_f c_242
          have b_244 : bd 0 2147483647 x_241 := leR fc_242 bx_236 (bdT x_241) (by decide)
          refine lv_aload_n hx hb dX0_closeArgument_147 rfl (lv_at hl 5 rfl) ?_
          refine g_getk (C := RX0) (T := TX0) (N := 14) hx hb hts (mc_ inX0) hown hK g rfl 0 (by decide) rfl (hts _ (List.mem_cons_of_mem _ t_373)) (fun _ h9 => h9) 9 rfl dX0_closeArgument_148 ?_
          refine lv_bipush (v := 6) hx hb dX0_closeArgument_151 (by decide) ?_
          refine lv_iload hx hb dX0_closeArgument_153 (lv_at hl 1 rfl) ?_
          have kb_6 : bd 6 6 (6 : Int32) := ⟨by decide, by decide⟩
          have go_ := g
          refine g_callv (va_runV (As := [.int 6, .int r_209]) (rest := []) ⟨hx, hb, hml, hown, hts⟩ (r_X8_fail l dC dI L kd tys f H.size g.2.2.2.1 q0_ mq0_ kq0_ 6 (bd_sub kb_6 (by decide)) r_209 y1_ by1_ (g.fcts [15] rfl)) (cwV 2 hts (gV_ t_1215 t_1107 t_1108 t_184 t_1109) rfl rfl rfl (by decide +kernel) ⟨(Nat.le_of_ble_eq_true rfl), (Nat.le_of_ble_eq_true rfl)⟩) (pre3V g hK mq0_ kq0_ (by decide) (q := (RX8, TX8, 10)) rfl) rfl rfl hl.1 rfl (lv_room (Nat.le_of_ble_eq_true rfl)) dX0_closeArgument_155 ⟨(Nat.le_of_ble_eq_true rfl), (Nat.le_of_ble_eq_true rfl)⟩) g hK (by decide) (by decide) (fx' := [(0, 12, a0_, .int 1), (6, 3, a_235, .int x_236), (7, 2, q2_, .ref a_234), (0, 10, a0_, .int x_226), (0, 7, a0_, .ref a_223), (0, 6, a0_, .ref a_218), (9, 9, q4_, .ref a_207), (0, 5, a0_, .ref a_3), (0, 0, a0_, .ref q0_), (0, 1, a0_, .ref q1_), (0, 2, a0_, .ref q2_), (0, 3, a0_, .ref q3_), (5, 1, q1_, .ref q4_), (0, 8, a0_, .int y0_)]) rfl (fun fr_245 H locs hp hMr_245 g => ?_)
          obtain ⟨x_246, h_247, hF_248⟩ := hp
          have hG_249 := eOK.frame hMr_245 go_.2.2.2.1 ma0_ ka0_ (by decide) (by decide) hG_240
          have g := g.more hF_248
          subst hQ
          exact W.vret hx hb hr (fun t ht hW => ⟨⟨_, rfl, Or.inr (⟨x_246, h_247, (g.fcts [0, 1] rfl)⟩), q3_of g hK ht hW⟩, g.2.2.1.F ht⟩) g.2.2.1.2.2 dX0_closeArgument_158
    · have fc_211 := neq_f c_211
      refine lv_iload_n hx hb dX0_closeArgument_57 rfl (lv_at hl 5 rfl) ?_
      refine lv_bipush (v := 41) hx hb dX0_closeArgument_58 (by decide) ?_
      have kb_41 : bd 41 41 (41 : Int32) := ⟨by decide, by decide⟩
      refine lv_icmp_eq (tgt := 74) hx hb dX0_closeArgument_60 (by decide) (fun c_250 => ?_) (fun c_250 => ?_)
      · have fc_250 := eq_f c_250
        have b_251 : bd 41 41 x1_ := eqX fc_250 (bdT x1_) kb_41 (by decide)
        refine lv_aload_n hx hb dX0_closeArgument_74 rfl (lv_at hl 4 rfl) ?_
        refine g_getk (C := RX0) (T := TX0) (N := 14) hx hb hts (mc_ inX0) hown hK g rfl 0 (by decide) rfl (hts _ (List.mem_cons_of_mem _ t_373)) (fun _ h9 => h9) 2 rfl dX0_closeArgument_75 ?_
        have go_ := g
        refine g_callv (va_runV (As := []) (rest := []) ⟨hx, hb, hml, hown, hts⟩ (r_X8_next l dC dI L kd tys fr_209 H.size g.2.2.2.1 q0_ mq0_ kq0_) (cwV 0 hts (gV_ t_1225 t_1103 t_1104 t_184 t_1105) rfl rfl rfl (by decide +kernel) ⟨(Nat.le_of_ble_eq_true rfl), (Nat.le_of_ble_eq_true rfl)⟩) (pre3V g hK mq0_ kq0_ (by decide) (q := (RX8, TX8, 10)) rfl) rfl rfl hl.1 rfl (lv_room (Nat.le_of_ble_eq_true rfl)) dX0_closeArgument_78 ⟨(Nat.le_of_ble_eq_true rfl), (Nat.le_of_ble_eq_true rfl)⟩) g hK (by decide) (by decide) (fx' := [(9, 9, q4_, .ref a_207), (0, 5, a0_, .ref a_3), (0, 0, a0_, .ref q0_), (0, 1, a0_, .ref q1_), (0, 2, a0_, .ref q2_), (0, 3, a0_, .ref q3_), (5, 1, q1_, .ref q4_), (0, 8, a0_, .int y0_), (8, 8, q0_, .int y1_)]) rfl (fun fr_252 H locs hp hMr_252 g => ?_)
        obtain ⟨x_253, h_254, hF_255⟩ := hp
        have hG_256 := eOK.frame hMr_252 go_.2.2.2.1 ma0_ ka0_ (by decide) (by decide) hG_210
        have g := g.more hF_255
        refine lv_aload_n hx hb dX0_closeArgument_81 rfl (lv_at hl 4 rfl) ?_
        refine g_getr (K := 113) (C := RX0) (T := TX0) (N := 14) hx hb hts (mc_ inX0) hown hK g ma0_ ka0_ (by decide) rfl 6 (by decide) rfl (hts _ (List.mem_cons_of_mem _ t_379)) (fun _ h9 => h9) rfl dX0_closeArgument_82 (fun a_257 ma_257 ka_257 g => ?_)
        refine lv_iload_n hx hb dX0_closeArgument_85 rfl (lv_at hl 3 rfl) ?_
        refine lv_dup2_11 hx hb dX0_closeArgument_86 rfl rfl ?_
        refine g_iald hx hb hK g ma_257 ka_257 (by decide) rfl (in_bd b_2 (by decide)) dX0_closeArgument_87 (fun x_258 bx_258 cx_258 => ?_)
        refine lv_iconst (v := 1) hx hb dX0_closeArgument_88 (by decide) ?_
        refine lv_iadd hx hb dX0_closeArgument_89 ?_
        refine lv_topi (fun y_259 ey_259 => ?_)
        have go_ := g
        refine g_iast hx hb hK g ma_257 ka_257 (by decide) rfl (in_bd b_2 (by decide)) (bdT y_259) (by decide) dX0_closeArgument_90 (fun f H locs hM_260 g => ?_)
        have hG_261 := eOK.frame hM_260 go_.2.2.2.1 ma0_ ka0_ (by decide) (by decide) hG_256
        refine lv_aload_n hx hb dX0_closeArgument_91 rfl (lv_at hl 4 rfl) ?_
        refine g_getr (K := 114) (C := RX0) (T := TX0) (N := 14) hx hb hts (mc_ inX0) hown hK g ma0_ ka0_ (by decide) rfl 7 (by decide) rfl (hts _ (List.mem_cons_of_mem _ t_380)) (fun _ h9 => h9) rfl dX0_closeArgument_92 (fun a_262 ma_262 ka_262 g => ?_)
        refine lv_iload_n hx hb dX0_closeArgument_95 rfl (lv_at hl 3 rfl) ?_
        refine lv_aload_n hx hb dX0_closeArgument_96 rfl (lv_at hl 4 rfl) ?_
        refine g_getk (C := RX0) (T := TX0) (N := 14) hx hb hts (mc_ inX0) hown hK g rfl 7 (by decide) rfl (hts _ (List.mem_cons_of_mem _ t_380)) (fun _ h9 => h9) 0 rfl dX0_closeArgument_97 ?_
        refine lv_iload_n hx hb dX0_closeArgument_100 rfl (lv_at hl 3 rfl) ?_
        refine g_iald hx hb hK g ma_262 ka_262 (by decide) rfl (in_bd b_2 (by decide)) dX0_closeArgument_101 (fun x_263 bx_263 cx_263 => ?_)
        refine lv_aload_n hx hb dX0_closeArgument_102 rfl (lv_at hl 4 rfl) ?_
        have go_ := g
        refine g_calli (va_runV (As := []) (rest := [.int x_263, .int y_1, .ref a_262]) ⟨hx, hb, hml, hown, hts⟩ (r_X0_takeHeight l dC dI L kd tys f H.size g.2.2.2.1 a0_ ma0_ ka0_) (cwV 0 hts (gV_ t_1199 t_1201 t_16 t_190 t_1202) rfl rfl rfl (by decide +kernel) ⟨(Nat.le_of_ble_eq_true rfl), (Nat.le_of_ble_eq_true rfl)⟩) (pre3V g hK ma0_ ka0_ (by decide) (q := (RX0, TX0, 14)) rfl) rfl rfl hl.1 rfl (lv_room (Nat.le_of_ble_eq_true rfl)) dX0_closeArgument_103 ⟨(Nat.le_of_ble_eq_true rfl), (Nat.le_of_ble_eq_true rfl)⟩) g hK (by decide) (by decide) (fx' := [(0, 7, a0_, .ref a_262), (0, 6, a0_, .ref a_257), (8, 6, q0_, .int x_253), (9, 9, q4_, .ref a_207), (0, 5, a0_, .ref a_3), (0, 0, a0_, .ref q0_), (0, 1, a0_, .ref q1_), (0, 2, a0_, .ref q2_), (0, 3, a0_, .ref q3_), (5, 1, q1_, .ref q4_), (0, 8, a0_, .int y0_), (8, 8, q0_, .int y1_)]) rfl (fun r_264 fr_264 H locs hp hMr_264 g => ?_)
        obtain ⟨x_265, h_266, hF_267⟩ := hp
        have hG_268 := eOK.frame hMr_264 go_.2.2.2.1 ma0_ ka0_ (by decide) (by decide) hG_261
        have g := g.more hF_267
        refine va_mmax hx hb (hml.trans hl.1.symm) hown (hts _ (List.mem_cons_of_mem _ t_1194)) (hts _ (List.mem_cons_of_mem _ t_1041)) (hts _ (List.mem_cons_of_mem _ t_204)) (hts _ (List.mem_cons_of_mem _ t_1042)) (Nat.le_of_ble_eq_true rfl) (Nat.le_of_ble_eq_true rfl) (Nat.le_of_ble_eq_true rfl) (Nat.le_of_ble_eq_true rfl) dX0_closeArgument_106 ?_
        refine lv_topi (fun y_269 ey_269 => ?_)
        have ty_269 : y_269.toInt = max x_263.toInt r_264.toInt := by rw [ey_269]; exact mmax_ok _ _
        have b_270 : bd (-2147483648) 2147483647 y_269 := max_rg ty_269 (bdT x_263) (bdT r_264) (by decide)
        have go_ := g
        refine g_iast hx hb hK g ma_262 ka_262 (by decide) rfl (in_bd b_2 (by decide)) b_270 (by decide) dX0_closeArgument_109 (fun f H locs hM_271 g => ?_)
        have hG_272 := eOK.frame hM_271 go_.2.2.2.1 ma0_ ka0_ (by decide) (by decide) hG_268
        refine lv_aload_n hx hb dX0_closeArgument_110 rfl (lv_at hl 4 rfl) ?_
        refine g_getk (C := RX0) (T := TX0) (N := 14) hx hb hts (mc_ inX0) hown hK g rfl 2 (by decide) rfl (hts _ (List.mem_cons_of_mem _ t_375)) (fun _ h9 => h9) 8 rfl dX0_closeArgument_111 ?_
        refine g_getr (K := 137) (C := RX7) (T := TX7) (N := 19) hx hb hts (mc_ inX7) hown hK g mq2_ kq2_ (by decide) rfl 2 (by decide) rfl (hts _ (List.mem_cons_of_mem _ t_633)) (fun _ h9 => h9) rfl dX0_closeArgument_114 (fun a_273 ma_273 ka_273 g => ?_)
        refine lv_iload hx hb dX0_closeArgument_117 (lv_at hl 1 rfl) ?_
        refine g_aald hx hb hK g ma_273 ka_273 (by decide) rfl (by decide) (in_bd bx_208 (by decide)) dX0_closeArgument_119 (fun a_274 ma_274 ua_274 wa_274 => ?_)
        have ka_274 : kd a_274 = 6 := by omega
        refine g_geti (C := RX6) (T := TX6) (N := 13) hx hb hts (mc_ inX6) hown hK g ma_274 ka_274 (by decide) rfl 3 (by decide) rfl (hts _ (List.mem_cons_of_mem _ t_564)) (fun _ h9 => h9) rfl dX0_closeArgument_120 (fun x_275 bx_275 g => ?_)
        refine lv_istore (lv' := [(6, .int x_275), (5, .int r_209), (4, .int x_208), (3, .int x_4), (2, .int y_1), (0, .ref a0_), (1, .int x1_)]) hx hb dX0_closeArgument_123 hl (by decide) rfl (fun ls hl => ?_)
        refine lv_iload_n hx hb dX0_closeArgument_125 rfl (lv_at hl 6 rfl) ?_
        refine lv_bipush (v := 44) hx hb dX0_closeArgument_126 (by decide) ?_
        refine lv_icmp_ne (tgt := 159) hx hb dX0_closeArgument_128 (by decide) (fun c_276 => ?_) (fun c_276 => ?_)
        · have fc_276 := neq_f c_276
          refine lv_aload_n hx hb dX0_closeArgument_159 rfl (lv_at hl 5 rfl) ?_
          refine g_getk (C := RX0) (T := TX0) (N := 14) hx hb hts (mc_ inX0) hown hK g rfl 6 (by decide) rfl (hts _ (List.mem_cons_of_mem _ t_379)) (fun _ h9 => h9) 4 rfl dX0_closeArgument_160 ?_
          refine lv_iload_n hx hb dX0_closeArgument_163 rfl (lv_at hl 4 rfl) ?_
          refine g_iald hx hb hK g ma_257 ka_257 (by decide) rfl (in_bd b_2 (by decide)) dX0_closeArgument_164 (fun x_277 bx_277 cx_277 => ?_)
          refine lv_iload hx hb dX0_closeArgument_165 (lv_at hl 0 rfl) ?_
          refine lv_icmp_ge (tgt := 181) hx hb dX0_closeArgument_167 (by decide) (fun c_278 => ?_) (fun c_278 => ?_)
          · have fc_278 := le_f c_278
            have b_279 : bd 0 2147483647 x_277 := leR fc_278 bx_275 (bdT x_277) (by decide)
            refine lv_aload_n hx hb dX0_closeArgument_181 rfl (lv_at hl 5 rfl) ?_
            refine lv_dup hx hb dX0_closeArgument_182 rfl ?_
            refine g_getk (C := RX0) (T := TX0) (N := 14) hx hb hts (mc_ inX0) hown hK g rfl 8 (by decide) rfl (hts _ (List.mem_cons_of_mem _ t_381)) (fun _ h9 => h9) 13 rfl dX0_closeArgument_183 ?_
            refine lv_iconst (v := 1) hx hb dX0_closeArgument_186 (by decide) ?_
            refine lv_isub hx hb dX0_closeArgument_187 ?_
            refine lv_topi (fun y_280 ey_280 => ?_)
            obtain rfl : y_1 = y_280 := ey_1.trans ey_280.symm
            have go_ := g
            refine g_put (C := RX0) (T := TX0) (N := 14) hx hb hts (mc_ inX0) tyX0 tyX0_ok nmX0 hown hK g ma0_ ka0_ (by decide) rfl 8 (by decide) (hts _ (List.mem_cons_of_mem _ t_381)) (fun _ h9 => h9) rfl rfl (okV_i (bd_sub b_2 (by decide))) rfl rfl (by decide) (Or.inr (Or.inl (by decide))) (fx' := [(6, 3, a_274, .int x_275), (7, 2, q2_, .ref a_273), (0, 10, a0_, .int x_265), (0, 7, a0_, .ref a_262), (0, 6, a0_, .ref a_257), (8, 6, q0_, .int x_253), (9, 9, q4_, .ref a_207), (0, 5, a0_, .ref a_3), (0, 0, a0_, .ref q0_), (0, 1, a0_, .ref q1_), (0, 2, a0_, .ref q2_), (0, 3, a0_, .ref q3_), (5, 1, q1_, .ref q4_), (8, 8, q0_, .int y1_)]) rfl dX0_closeArgument_188 (fun f H locs hM_281 g => ?_)
            have hG_282 := eOK.frame hM_281 go_.2.2.2.1 ma0_ ka0_ (by decide) (by decide) hG_272
            refine lv_aload_n hx hb dX0_closeArgument_191 rfl (lv_at hl 5 rfl) ?_
            refine lv_dup hx hb dX0_closeArgument_192 rfl ?_
            refine g_geti (C := RX0) (T := TX0) (N := 14) hx hb hts (mc_ inX0) hown hK g ma0_ ka0_ (by decide) rfl 11 (by decide) rfl (hts _ (List.mem_cons_of_mem _ t_384)) (fun _ h9 => h9) rfl dX0_closeArgument_193 (fun x_283 bx_283 g => ?_)
            refine lv_iconst (v := 1) hx hb dX0_closeArgument_196 (by decide) ?_
            refine lv_isub hx hb dX0_closeArgument_197 ?_
            refine lv_topi (fun y_284 ey_284 => ?_)
            have go_ := g
            refine g_put (C := RX0) (T := TX0) (N := 14) hx hb hts (mc_ inX0) tyX0 tyX0_ok nmX0 hown hK g ma0_ ka0_ (by decide) rfl 11 (by decide) (hts _ (List.mem_cons_of_mem _ t_384)) (fun _ h9 => h9) rfl rfl (okV_i (bdT y_284)) rfl rfl (by decide) (Or.inr (Or.inl (by decide))) (fx' := [(0, 8, a0_, .int y_1), (6, 3, a_274, .int x_275), (7, 2, q2_, .ref a_273), (0, 10, a0_, .int x_265), (0, 7, a0_, .ref a_262), (0, 6, a0_, .ref a_257), (8, 6, q0_, .int x_253), (9, 9, q4_, .ref a_207), (0, 5, a0_, .ref a_3), (0, 0, a0_, .ref q0_), (0, 1, a0_, .ref q1_), (0, 2, a0_, .ref q2_), (0, 3, a0_, .ref q3_), (5, 1, q1_, .ref q4_), (8, 8, q0_, .int y1_)]) rfl dX0_closeArgument_198 (fun f H locs hM_285 g => ?_)
            have hG_286 := eOK.frame hM_285 go_.2.2.2.1 ma0_ ka0_ (by decide) (by decide) hG_282
            refine lv_aload_n hx hb dX0_closeArgument_201 rfl (lv_at hl 5 rfl) ?_
            refine g_getk (C := RX0) (T := TX0) (N := 14) hx hb hts (mc_ inX0) hown hK g rfl 7 (by decide) rfl (hts _ (List.mem_cons_of_mem _ t_380)) (fun _ h9 => h9) 5 rfl dX0_closeArgument_202 ?_
            refine lv_iload_n hx hb dX0_closeArgument_205 rfl (lv_at hl 4 rfl) ?_
            refine g_iald hx hb hK g ma_262 ka_262 (by decide) rfl (in_bd b_2 (by decide)) dX0_closeArgument_206 (fun x_287 bx_287 cx_287 => ?_)
            refine lv_iconst (v := 1) hx hb dX0_closeArgument_207 (by decide) ?_
            refine lv_iadd hx hb dX0_closeArgument_208 ?_
            refine lv_topi (fun y_288 ey_288 => ?_)
            refine lv_bipush (v := 12) hx hb dX0_closeArgument_209 (by decide) ?_
            have kb_12 : bd 12 12 (12 : Int32) := ⟨by decide, by decide⟩
            refine lv_icmp_le (tgt := 229) hx hb dX0_closeArgument_211 (by decide) (fun c_289 => ?_) (fun c_289 => ?_)
            · have fc_289 := le_f c_289
              have b_290 : bd (-2147483648) 12 y_288 := leL fc_289 (bdT y_288) kb_12 (by decide)
              refine lv_aload_n hx hb dX0_closeArgument_229 rfl (lv_at hl 5 rfl) ?_
              refine g_getk (C := RX0) (T := TX0) (N := 14) hx hb hts (mc_ inX0) hown hK g rfl 2 (by decide) rfl (hts _ (List.mem_cons_of_mem _ t_375)) (fun _ h9 => h9) 12 rfl dX0_closeArgument_230 ?_
              refine lv_bipush (v := 13) hx hb dX0_closeArgument_233 (by decide) ?_
              refine lv_iconst (v := 0) hx hb dX0_closeArgument_235 (by decide) ?_
              have go_ := g
              refine g_callv (va_runV (As := [.int 13, .int 0]) (rest := []) ⟨hx, hb, hml, hown, hts⟩ (r_X7_emit l dC dI L kd tys f H.size g.2.2.2.1 q2_ mq2_ kq2_ 13 0) (cwV 2 hts (gV_ t_1203 t_1204 t_1205 t_191 t_1206) rfl rfl rfl (by decide +kernel) ⟨(Nat.le_of_ble_eq_true rfl), (Nat.le_of_ble_eq_true rfl)⟩) (pre3V g hK mq2_ kq2_ (by decide) (q := (RX7, TX7, 19)) rfl) rfl rfl hl.1 rfl (lv_room (Nat.le_of_ble_eq_true rfl)) dX0_closeArgument_236 ⟨(Nat.le_of_ble_eq_true rfl), (Nat.le_of_ble_eq_true rfl)⟩) g hK (by decide) (by decide) (fx' := [(0, 11, a0_, .int y_284), (0, 8, a0_, .int y_1), (6, 3, a_274, .int x_275), (7, 2, q2_, .ref a_273), (0, 10, a0_, .int x_265), (0, 7, a0_, .ref a_262), (0, 6, a0_, .ref a_257), (8, 6, q0_, .int x_253), (9, 9, q4_, .ref a_207), (0, 5, a0_, .ref a_3), (0, 0, a0_, .ref q0_), (0, 1, a0_, .ref q1_), (0, 2, a0_, .ref q2_), (0, 3, a0_, .ref q3_), (5, 1, q1_, .ref q4_), (8, 8, q0_, .int y1_)]) rfl (fun fr_291 H locs hp hMr_291 g => ?_)
              obtain ⟨x_292, h_293, hF_294⟩ := hp
              have hG_295 := eOK.frame hMr_291 go_.2.2.2.1 ma0_ ka0_ (by decide) (by decide) hG_286
              have g := g.more hF_294
              refine lv_aload_n hx hb dX0_closeArgument_239 rfl (lv_at hl 5 rfl) ?_
              refine g_getk (C := RX0) (T := TX0) (N := 14) hx hb hts (mc_ inX0) hown hK g rfl 2 (by decide) rfl (hts _ (List.mem_cons_of_mem _ t_375)) (fun _ h9 => h9) 13 rfl dX0_closeArgument_240 ?_
              refine lv_aload_n hx hb dX0_closeArgument_243 rfl (lv_at hl 5 rfl) ?_
              refine g_getk (C := RX0) (T := TX0) (N := 14) hx hb hts (mc_ inX0) hown hK g rfl 3 (by decide) rfl (hts _ (List.mem_cons_of_mem _ t_376)) (fun _ h9 => h9) 14 rfl dX0_closeArgument_244 ?_
              refine lv_iload_n hx hb dX0_closeArgument_247 rfl (lv_at hl 4 rfl) ?_
              refine g_iald hx hb hK g mq3_ kq3_ (by decide) rfl (in_bd b_2 (by decide)) dX0_closeArgument_248 (fun x_296 bx_296 cx_296 => ?_)
              obtain rfl : x_5 = x_296 := el_same cx_5 cx_296 ((arr_eq hMr_291 mq3_ kq3_ (by decide) rfl).trans ((arr_eq hM_285 mq3_ kq3_ (by decide) rfl).trans ((arr_eq hM_281 mq3_ kq3_ (by decide) rfl).trans ((arr_eq hM_271 mq3_ kq3_ (by decide) rfl).trans ((arr_eq hMr_264 mq3_ kq3_ (by decide) rfl).trans ((arr_eq hM_260 mq3_ kq3_ (by decide) rfl).trans ((arr_eq hMr_252 mq3_ kq3_ (by decide) rfl).trans (arr_eq hMr_209 mq3_ kq3_ (by decide) rfl))))))))
              refine lv_iconst (v := 2) hx hb dX0_closeArgument_249 (by decide) ?_
              refine lv_icmp_ne (tgt := 258) hx hb dX0_closeArgument_250 (by decide) (fun c_297 => ?_) (fun c_297 => ?_)
              · have fc_297 := neq_f c_297
                have b_298 : bd 3 1 x_5 := neX fc_297 b_205 kb_2 (by decide)
                exact bd_no b_298 (by decide)
              · have fc_297 := eq_f c_297
                refine lv_bipush (v := 17) hx hb dX0_closeArgument_253 (by decide) ?_
                refine lv_goto (tgt := 260) hx hb dX0_closeArgument_255 (by decide) ?_
                refine lv_iload_n hx hb dX0_closeArgument_260 rfl (lv_at hl 3 rfl) ?_
                have go_ := g
                refine g_callv (va_runV (As := [.int 17, .int x_4]) (rest := []) ⟨hx, hb, hml, hown, hts⟩ (r_X7_emit l dC dI L kd tys fr_291 H.size g.2.2.2.1 q2_ mq2_ kq2_ 17 x_4) (cwV 2 hts (gV_ t_1203 t_1204 t_1205 t_191 t_1206) rfl rfl rfl (by decide +kernel) ⟨(Nat.le_of_ble_eq_true rfl), (Nat.le_of_ble_eq_true rfl)⟩) (pre3V g hK mq2_ kq2_ (by decide) (q := (RX7, TX7, 19)) rfl) rfl rfl hl.1 rfl (lv_room (Nat.le_of_ble_eq_true rfl)) dX0_closeArgument_261 ⟨(Nat.le_of_ble_eq_true rfl), (Nat.le_of_ble_eq_true rfl)⟩) g hK (by decide) (by decide) (fx' := [(0, 11, a0_, .int y_284), (0, 8, a0_, .int y_1), (6, 3, a_274, .int x_275), (7, 2, q2_, .ref a_273), (0, 10, a0_, .int x_265), (0, 7, a0_, .ref a_262), (0, 6, a0_, .ref a_257), (8, 6, q0_, .int x_253), (9, 9, q4_, .ref a_207), (0, 5, a0_, .ref a_3), (0, 0, a0_, .ref q0_), (0, 1, a0_, .ref q1_), (0, 2, a0_, .ref q2_), (0, 3, a0_, .ref q3_), (5, 1, q1_, .ref q4_), (8, 8, q0_, .int y1_)]) rfl (fun fr_299 H locs hp hMr_299 g => ?_)
                obtain ⟨x_300, h_301, hF_302⟩ := hp
                have hG_303 := eOK.frame hMr_299 go_.2.2.2.1 ma0_ ka0_ (by decide) (by decide) hG_295
                have g := g.more hF_302
                refine lv_aload_n hx hb dX0_closeArgument_264 rfl (lv_at hl 5 rfl) ?_
                refine lv_aload_n hx hb dX0_closeArgument_265 rfl (lv_at hl 5 rfl) ?_
                refine g_getk (C := RX0) (T := TX0) (N := 14) hx hb hts (mc_ inX0) hown hK g rfl 7 (by decide) rfl (hts _ (List.mem_cons_of_mem _ t_380)) (fun _ h9 => h9) 6 rfl dX0_closeArgument_266 ?_
                refine lv_iload_n hx hb dX0_closeArgument_269 rfl (lv_at hl 4 rfl) ?_
                refine g_iald hx hb hK g ma_262 ka_262 (by decide) rfl (in_bd b_2 (by decide)) dX0_closeArgument_270 (fun x_304 bx_304 cx_304 => ?_)
                obtain rfl : x_287 = x_304 := el_same cx_287 cx_304 ((arr_eq hMr_299 ma_262 ka_262 (by decide) rfl).trans (arr_eq hMr_291 ma_262 ka_262 (by decide) rfl))
                refine lv_iconst (v := 1) hx hb dX0_closeArgument_271 (by decide) ?_
                refine lv_iadd hx hb dX0_closeArgument_272 ?_
                refine lv_topi (fun y_305 ey_305 => ?_)
                obtain rfl : y_288 = y_305 := ey_288.trans ey_305.symm
                have go_ := g
                refine g_callv (va_runV (As := [.int y_288]) (rest := []) ⟨hx, hb, hml, hown, hts⟩ (r_X0_addWhole l dC dI L kd tys fr_299 H.size g.2.2.2.1 a0_ ma0_ ka0_ y_288) (cwV 1 hts (gV_ t_1211 t_1213 t_17 t_190 t_1214) rfl rfl rfl (by decide +kernel) ⟨(Nat.le_of_ble_eq_true rfl), (Nat.le_of_ble_eq_true rfl)⟩) (pre3V g hK ma0_ ka0_ (by decide) (q := (RX0, TX0, 14)) rfl) rfl rfl hl.1 rfl (lv_room (Nat.le_of_ble_eq_true rfl)) dX0_closeArgument_273 ⟨(Nat.le_of_ble_eq_true rfl), (Nat.le_of_ble_eq_true rfl)⟩) g hK (by decide) (by decide) (fx' := [(7, 6, q2_, .int x_300), (0, 11, a0_, .int y_284), (0, 8, a0_, .int y_1), (6, 3, a_274, .int x_275), (7, 2, q2_, .ref a_273), (0, 7, a0_, .ref a_262), (0, 6, a0_, .ref a_257), (8, 6, q0_, .int x_253), (9, 9, q4_, .ref a_207), (0, 5, a0_, .ref a_3), (0, 0, a0_, .ref q0_), (0, 1, a0_, .ref q1_), (0, 2, a0_, .ref q2_), (0, 3, a0_, .ref q3_), (5, 1, q1_, .ref q4_), (8, 8, q0_, .int y1_)]) rfl (fun fr_306 H locs hp hMr_306 g => ?_)
                obtain ⟨x_307, h_308, hF_309⟩ := hp
                have hG_310 := eOK.frame hMr_306 go_.2.2.2.1 ma0_ ka0_ (by decide) (by decide) hG_303
                have g := g.more hF_309
                subst hQ
                exact W.vret hx hb hr (fun t ht hW => ⟨⟨_, rfl, Or.inl ⟨(bd_sub b_251 (by decide)), x_253, h_254, (g.fcts [9, 17] rfl)⟩, q3_of g hK ht hW⟩, g.2.2.1.F ht⟩) g.2.2.1.2.2 dX0_closeArgument_276
            · have fc_289 := nle_f c_289
              have b_311 : bd 13 2147483647 y_288 := ltR fc_289 kb_12 (bdT y_288) (by decide)
              refine lv_aload_n hx hb dX0_closeArgument_214 rfl (lv_at hl 5 rfl) ?_
              refine g_getk (C := RX0) (T := TX0) (N := 14) hx hb hts (mc_ inX0) hown hK g rfl 0 (by decide) rfl (hts _ (List.mem_cons_of_mem _ t_373)) (fun _ h9 => h9) 10 rfl dX0_closeArgument_215 ?_
              refine lv_bipush (v := 7) hx hb dX0_closeArgument_218 (by decide) ?_
              refine lv_aload_n hx hb dX0_closeArgument_220 rfl (lv_at hl 5 rfl) ?_
              refine g_getr (K := 111) (C := RX0) (T := TX0) (N := 14) hx hb hts (mc_ inX0) hown hK g ma0_ ka0_ (by decide) rfl 4 (by decide) rfl (hts _ (List.mem_cons_of_mem _ t_377)) (fun _ h9 => h9) rfl dX0_closeArgument_221 (fun a_312 ma_312 ka_312 g => ?_)
              refine lv_iload_n hx hb dX0_closeArgument_224 rfl (lv_at hl 4 rfl) ?_
              refine g_iald hx hb hK g ma_312 ka_312 (by decide) rfl (in_bd b_2 (by decide)) dX0_closeArgument_225 (fun x_313 bx_313 cx_313 => ?_)
              have kb_7 : bd 7 7 (7 : Int32) := ⟨by decide, by decide⟩
              have go_ := g
              refine g_callv (va_runV (As := [.int 7, .int x_313]) (rest := []) ⟨hx, hb, hml, hown, hts⟩ (r_X8_fail l dC dI L kd tys f H.size g.2.2.2.1 q0_ mq0_ kq0_ 7 (bd_sub kb_7 (by decide)) x_313 y1_ by1_ (g.fcts [16] rfl)) (cwV 2 hts (gV_ t_1215 t_1107 t_1108 t_184 t_1109) rfl rfl rfl (by decide +kernel) ⟨(Nat.le_of_ble_eq_true rfl), (Nat.le_of_ble_eq_true rfl)⟩) (pre3V g hK mq0_ kq0_ (by decide) (q := (RX8, TX8, 10)) rfl) rfl rfl hl.1 rfl (lv_room (Nat.le_of_ble_eq_true rfl)) dX0_closeArgument_226 ⟨(Nat.le_of_ble_eq_true rfl), (Nat.le_of_ble_eq_true rfl)⟩) g hK (by decide) (by decide) (fx' := [(0, 4, a0_, .ref a_312), (0, 11, a0_, .int y_284), (0, 8, a0_, .int y_1), (6, 3, a_274, .int x_275), (7, 2, q2_, .ref a_273), (0, 10, a0_, .int x_265), (0, 7, a0_, .ref a_262), (0, 6, a0_, .ref a_257), (9, 9, q4_, .ref a_207), (0, 5, a0_, .ref a_3), (0, 0, a0_, .ref q0_), (0, 1, a0_, .ref q1_), (0, 2, a0_, .ref q2_), (0, 3, a0_, .ref q3_), (5, 1, q1_, .ref q4_)]) rfl (fun fr_314 H locs hp hMr_314 g => ?_)
              obtain ⟨x_315, h_316, hF_317⟩ := hp
              have hG_318 := eOK.frame hMr_314 go_.2.2.2.1 ma0_ ka0_ (by decide) (by decide) hG_286
              have g := g.more hF_317
              refine lv_aload_n hx hb dX0_closeArgument_229 rfl (lv_at hl 5 rfl) ?_
              refine g_getk (C := RX0) (T := TX0) (N := 14) hx hb hts (mc_ inX0) hown hK g rfl 2 (by decide) rfl (hts _ (List.mem_cons_of_mem _ t_375)) (fun _ h9 => h9) 14 rfl dX0_closeArgument_230 ?_
              refine lv_bipush (v := 13) hx hb dX0_closeArgument_233 (by decide) ?_
              refine lv_iconst (v := 0) hx hb dX0_closeArgument_235 (by decide) ?_
              have go_ := g
              refine g_callv (va_runV (As := [.int 13, .int 0]) (rest := []) ⟨hx, hb, hml, hown, hts⟩ (r_X7_emit l dC dI L kd tys fr_314 H.size g.2.2.2.1 q2_ mq2_ kq2_ 13 0) (cwV 2 hts (gV_ t_1203 t_1204 t_1205 t_191 t_1206) rfl rfl rfl (by decide +kernel) ⟨(Nat.le_of_ble_eq_true rfl), (Nat.le_of_ble_eq_true rfl)⟩) (pre3V g hK mq2_ kq2_ (by decide) (q := (RX7, TX7, 19)) rfl) rfl rfl hl.1 rfl (lv_room (Nat.le_of_ble_eq_true rfl)) dX0_closeArgument_236 ⟨(Nat.le_of_ble_eq_true rfl), (Nat.le_of_ble_eq_true rfl)⟩) g hK (by decide) (by decide) (fx' := [(8, 6, q0_, .int 1201), (8, 8, q0_, .int x_315), (0, 4, a0_, .ref a_312), (0, 11, a0_, .int y_284), (0, 8, a0_, .int y_1), (6, 3, a_274, .int x_275), (7, 2, q2_, .ref a_273), (0, 10, a0_, .int x_265), (0, 7, a0_, .ref a_262), (0, 6, a0_, .ref a_257), (9, 9, q4_, .ref a_207), (0, 5, a0_, .ref a_3), (0, 0, a0_, .ref q0_), (0, 1, a0_, .ref q1_), (0, 2, a0_, .ref q2_), (0, 3, a0_, .ref q3_), (5, 1, q1_, .ref q4_)]) rfl (fun fr_319 H locs hp hMr_319 g => ?_)
              obtain ⟨x_320, h_321, hF_322⟩ := hp
              have hG_323 := eOK.frame hMr_319 go_.2.2.2.1 ma0_ ka0_ (by decide) (by decide) hG_318
              have g := g.more hF_322
              refine lv_aload_n hx hb dX0_closeArgument_239 rfl (lv_at hl 5 rfl) ?_
              refine g_getk (C := RX0) (T := TX0) (N := 14) hx hb hts (mc_ inX0) hown hK g rfl 2 (by decide) rfl (hts _ (List.mem_cons_of_mem _ t_375)) (fun _ h9 => h9) 15 rfl dX0_closeArgument_240 ?_
              refine lv_aload_n hx hb dX0_closeArgument_243 rfl (lv_at hl 5 rfl) ?_
              refine g_getk (C := RX0) (T := TX0) (N := 14) hx hb hts (mc_ inX0) hown hK g rfl 3 (by decide) rfl (hts _ (List.mem_cons_of_mem _ t_376)) (fun _ h9 => h9) 16 rfl dX0_closeArgument_244 ?_
              refine lv_iload_n hx hb dX0_closeArgument_247 rfl (lv_at hl 4 rfl) ?_
              refine g_iald hx hb hK g mq3_ kq3_ (by decide) rfl (in_bd b_2 (by decide)) dX0_closeArgument_248 (fun x_324 bx_324 cx_324 => ?_)
              obtain rfl : x_5 = x_324 := el_same cx_5 cx_324 ((arr_eq hMr_319 mq3_ kq3_ (by decide) rfl).trans ((arr_eq hMr_314 mq3_ kq3_ (by decide) rfl).trans ((arr_eq hM_285 mq3_ kq3_ (by decide) rfl).trans ((arr_eq hM_281 mq3_ kq3_ (by decide) rfl).trans ((arr_eq hM_271 mq3_ kq3_ (by decide) rfl).trans ((arr_eq hMr_264 mq3_ kq3_ (by decide) rfl).trans ((arr_eq hM_260 mq3_ kq3_ (by decide) rfl).trans ((arr_eq hMr_252 mq3_ kq3_ (by decide) rfl).trans (arr_eq hMr_209 mq3_ kq3_ (by decide) rfl)))))))))
              refine lv_iconst (v := 2) hx hb dX0_closeArgument_249 (by decide) ?_
              refine lv_icmp_ne (tgt := 258) hx hb dX0_closeArgument_250 (by decide) (fun c_325 => ?_) (fun c_325 => ?_)
              · have fc_325 := neq_f c_325
                have b_326 : bd 3 1 x_5 := neX fc_325 b_205 kb_2 (by decide)
                exact bd_no b_326 (by decide)
              · have fc_325 := eq_f c_325
                refine lv_bipush (v := 17) hx hb dX0_closeArgument_253 (by decide) ?_
                refine lv_goto (tgt := 260) hx hb dX0_closeArgument_255 (by decide) ?_
                refine lv_iload_n hx hb dX0_closeArgument_260 rfl (lv_at hl 3 rfl) ?_
                have go_ := g
                refine g_callv (va_runV (As := [.int 17, .int x_4]) (rest := []) ⟨hx, hb, hml, hown, hts⟩ (r_X7_emit l dC dI L kd tys fr_319 H.size g.2.2.2.1 q2_ mq2_ kq2_ 17 x_4) (cwV 2 hts (gV_ t_1203 t_1204 t_1205 t_191 t_1206) rfl rfl rfl (by decide +kernel) ⟨(Nat.le_of_ble_eq_true rfl), (Nat.le_of_ble_eq_true rfl)⟩) (pre3V g hK mq2_ kq2_ (by decide) (q := (RX7, TX7, 19)) rfl) rfl rfl hl.1 rfl (lv_room (Nat.le_of_ble_eq_true rfl)) dX0_closeArgument_261 ⟨(Nat.le_of_ble_eq_true rfl), (Nat.le_of_ble_eq_true rfl)⟩) g hK (by decide) (by decide) (fx' := [(8, 6, q0_, .int 1201), (8, 8, q0_, .int x_315), (0, 4, a0_, .ref a_312), (0, 11, a0_, .int y_284), (0, 8, a0_, .int y_1), (6, 3, a_274, .int x_275), (7, 2, q2_, .ref a_273), (0, 10, a0_, .int x_265), (0, 7, a0_, .ref a_262), (0, 6, a0_, .ref a_257), (9, 9, q4_, .ref a_207), (0, 5, a0_, .ref a_3), (0, 0, a0_, .ref q0_), (0, 1, a0_, .ref q1_), (0, 2, a0_, .ref q2_), (0, 3, a0_, .ref q3_), (5, 1, q1_, .ref q4_)]) rfl (fun fr_327 H locs hp hMr_327 g => ?_)
                obtain ⟨x_328, h_329, hF_330⟩ := hp
                have hG_331 := eOK.frame hMr_327 go_.2.2.2.1 ma0_ ka0_ (by decide) (by decide) hG_323
                have g := g.more hF_330
                refine lv_aload_n hx hb dX0_closeArgument_264 rfl (lv_at hl 5 rfl) ?_
                refine lv_aload_n hx hb dX0_closeArgument_265 rfl (lv_at hl 5 rfl) ?_
                refine g_getk (C := RX0) (T := TX0) (N := 14) hx hb hts (mc_ inX0) hown hK g rfl 7 (by decide) rfl (hts _ (List.mem_cons_of_mem _ t_380)) (fun _ h9 => h9) 9 rfl dX0_closeArgument_266 ?_
                refine lv_iload_n hx hb dX0_closeArgument_269 rfl (lv_at hl 4 rfl) ?_
                refine g_iald hx hb hK g ma_262 ka_262 (by decide) rfl (in_bd b_2 (by decide)) dX0_closeArgument_270 (fun x_332 bx_332 cx_332 => ?_)
                obtain rfl : x_287 = x_332 := el_same cx_287 cx_332 ((arr_eq hMr_327 ma_262 ka_262 (by decide) rfl).trans ((arr_eq hMr_319 ma_262 ka_262 (by decide) rfl).trans (arr_eq hMr_314 ma_262 ka_262 (by decide) rfl)))
                refine lv_iconst (v := 1) hx hb dX0_closeArgument_271 (by decide) ?_
                refine lv_iadd hx hb dX0_closeArgument_272 ?_
                refine lv_topi (fun y_333 ey_333 => ?_)
                obtain rfl : y_288 = y_333 := ey_288.trans ey_333.symm
                have go_ := g
                refine g_callv (va_runV (As := [.int y_288]) (rest := []) ⟨hx, hb, hml, hown, hts⟩ (r_X0_addWhole l dC dI L kd tys fr_327 H.size g.2.2.2.1 a0_ ma0_ ka0_ y_288) (cwV 1 hts (gV_ t_1211 t_1213 t_17 t_190 t_1214) rfl rfl rfl (by decide +kernel) ⟨(Nat.le_of_ble_eq_true rfl), (Nat.le_of_ble_eq_true rfl)⟩) (pre3V g hK ma0_ ka0_ (by decide) (q := (RX0, TX0, 14)) rfl) rfl rfl hl.1 rfl (lv_room (Nat.le_of_ble_eq_true rfl)) dX0_closeArgument_273 ⟨(Nat.le_of_ble_eq_true rfl), (Nat.le_of_ble_eq_true rfl)⟩) g hK (by decide) (by decide) (fx' := [(7, 6, q2_, .int x_328), (8, 6, q0_, .int 1201), (8, 8, q0_, .int x_315), (0, 4, a0_, .ref a_312), (0, 11, a0_, .int y_284), (0, 8, a0_, .int y_1), (6, 3, a_274, .int x_275), (7, 2, q2_, .ref a_273), (0, 7, a0_, .ref a_262), (0, 6, a0_, .ref a_257), (9, 9, q4_, .ref a_207), (0, 5, a0_, .ref a_3), (0, 0, a0_, .ref q0_), (0, 1, a0_, .ref q1_), (0, 2, a0_, .ref q2_), (0, 3, a0_, .ref q3_), (5, 1, q1_, .ref q4_)]) rfl (fun fr_334 H locs hp hMr_334 g => ?_)
                obtain ⟨x_335, h_336, hF_337⟩ := hp
                have hG_338 := eOK.frame hMr_334 go_.2.2.2.1 ma0_ ka0_ (by decide) (by decide) hG_331
                have g := g.more hF_337
                subst hQ
                exact W.vret hx hb hr (fun t ht hW => ⟨⟨_, rfl, Or.inr (⟨x_315, h_316, (g.fcts [3, 4] rfl)⟩), q3_of g hK ht hW⟩, g.2.2.1.F ht⟩) g.2.2.1.2.2 dX0_closeArgument_276
          · have fc_278 := nle_f c_278
            have b_339 : bd (-2147483648) 2 x_277 := ltL fc_278 (bdT x_277) bx_275 (by decide)
            refine lv_aload_n hx hb dX0_closeArgument_170 rfl (lv_at hl 5 rfl) ?_
            refine g_getk (C := RX0) (T := TX0) (N := 14) hx hb hts (mc_ inX0) hown hK g rfl 0 (by decide) rfl (hts _ (List.mem_cons_of_mem _ t_373)) (fun _ h9 => h9) 8 rfl dX0_closeArgument_171 ?_
            refine lv_bipush (v := 6) hx hb dX0_closeArgument_174 (by decide) ?_
            refine lv_iload hx hb dX0_closeArgument_176 (lv_at hl 1 rfl) ?_
            have kb_6 : bd 6 6 (6 : Int32) := ⟨by decide, by decide⟩
            have go_ := g
            refine g_callv (va_runV (As := [.int 6, .int r_209]) (rest := []) ⟨hx, hb, hml, hown, hts⟩ (r_X8_fail l dC dI L kd tys f H.size g.2.2.2.1 q0_ mq0_ kq0_ 6 (bd_sub kb_6 (by decide)) r_209 y1_ by1_ (g.fcts [14] rfl)) (cwV 2 hts (gV_ t_1215 t_1107 t_1108 t_184 t_1109) rfl rfl rfl (by decide +kernel) ⟨(Nat.le_of_ble_eq_true rfl), (Nat.le_of_ble_eq_true rfl)⟩) (pre3V g hK mq0_ kq0_ (by decide) (q := (RX8, TX8, 10)) rfl) rfl rfl hl.1 rfl (lv_room (Nat.le_of_ble_eq_true rfl)) dX0_closeArgument_178 ⟨(Nat.le_of_ble_eq_true rfl), (Nat.le_of_ble_eq_true rfl)⟩) g hK (by decide) (by decide) (fx' := [(6, 3, a_274, .int x_275), (7, 2, q2_, .ref a_273), (0, 10, a0_, .int x_265), (0, 7, a0_, .ref a_262), (0, 6, a0_, .ref a_257), (9, 9, q4_, .ref a_207), (0, 5, a0_, .ref a_3), (0, 0, a0_, .ref q0_), (0, 1, a0_, .ref q1_), (0, 2, a0_, .ref q2_), (0, 3, a0_, .ref q3_), (5, 1, q1_, .ref q4_), (0, 8, a0_, .int y0_)]) rfl (fun fr_340 H locs hp hMr_340 g => ?_)
            obtain ⟨x_341, h_342, hF_343⟩ := hp
            have hG_344 := eOK.frame hMr_340 go_.2.2.2.1 ma0_ ka0_ (by decide) (by decide) hG_272
            have g := g.more hF_343
            refine lv_aload_n hx hb dX0_closeArgument_181 rfl (lv_at hl 5 rfl) ?_
            refine lv_dup hx hb dX0_closeArgument_182 rfl ?_
            refine g_getk (C := RX0) (T := TX0) (N := 14) hx hb hts (mc_ inX0) hown hK g rfl 8 (by decide) rfl (hts _ (List.mem_cons_of_mem _ t_381)) (fun _ h9 => h9) 14 rfl dX0_closeArgument_183 ?_
            refine lv_iconst (v := 1) hx hb dX0_closeArgument_186 (by decide) ?_
            refine lv_isub hx hb dX0_closeArgument_187 ?_
            refine lv_topi (fun y_345 ey_345 => ?_)
            obtain rfl : y_1 = y_345 := ey_1.trans ey_345.symm
            have go_ := g
            refine g_put (C := RX0) (T := TX0) (N := 14) hx hb hts (mc_ inX0) tyX0 tyX0_ok nmX0 hown hK g ma0_ ka0_ (by decide) rfl 8 (by decide) (hts _ (List.mem_cons_of_mem _ t_381)) (fun _ h9 => h9) rfl rfl (okV_i (bd_sub b_2 (by decide))) rfl rfl (by decide) (Or.inr (Or.inl (by decide))) (fx' := [(8, 6, q0_, .int 1201), (8, 8, q0_, .int x_341), (6, 3, a_274, .int x_275), (7, 2, q2_, .ref a_273), (0, 10, a0_, .int x_265), (0, 7, a0_, .ref a_262), (0, 6, a0_, .ref a_257), (9, 9, q4_, .ref a_207), (0, 5, a0_, .ref a_3), (0, 0, a0_, .ref q0_), (0, 1, a0_, .ref q1_), (0, 2, a0_, .ref q2_), (0, 3, a0_, .ref q3_), (5, 1, q1_, .ref q4_)]) rfl dX0_closeArgument_188 (fun f H locs hM_346 g => ?_)
            have hG_347 := eOK.frame hM_346 go_.2.2.2.1 ma0_ ka0_ (by decide) (by decide) hG_344
            refine lv_aload_n hx hb dX0_closeArgument_191 rfl (lv_at hl 5 rfl) ?_
            refine lv_dup hx hb dX0_closeArgument_192 rfl ?_
            refine g_geti (C := RX0) (T := TX0) (N := 14) hx hb hts (mc_ inX0) hown hK g ma0_ ka0_ (by decide) rfl 11 (by decide) rfl (hts _ (List.mem_cons_of_mem _ t_384)) (fun _ h9 => h9) rfl dX0_closeArgument_193 (fun x_348 bx_348 g => ?_)
            refine lv_iconst (v := 1) hx hb dX0_closeArgument_196 (by decide) ?_
            refine lv_isub hx hb dX0_closeArgument_197 ?_
            refine lv_topi (fun y_349 ey_349 => ?_)
            have go_ := g
            refine g_put (C := RX0) (T := TX0) (N := 14) hx hb hts (mc_ inX0) tyX0 tyX0_ok nmX0 hown hK g ma0_ ka0_ (by decide) rfl 11 (by decide) (hts _ (List.mem_cons_of_mem _ t_384)) (fun _ h9 => h9) rfl rfl (okV_i (bdT y_349)) rfl rfl (by decide) (Or.inr (Or.inl (by decide))) (fx' := [(0, 8, a0_, .int y_1), (8, 6, q0_, .int 1201), (8, 8, q0_, .int x_341), (6, 3, a_274, .int x_275), (7, 2, q2_, .ref a_273), (0, 10, a0_, .int x_265), (0, 7, a0_, .ref a_262), (0, 6, a0_, .ref a_257), (9, 9, q4_, .ref a_207), (0, 5, a0_, .ref a_3), (0, 0, a0_, .ref q0_), (0, 1, a0_, .ref q1_), (0, 2, a0_, .ref q2_), (0, 3, a0_, .ref q3_), (5, 1, q1_, .ref q4_)]) rfl dX0_closeArgument_198 (fun f H locs hM_350 g => ?_)
            have hG_351 := eOK.frame hM_350 go_.2.2.2.1 ma0_ ka0_ (by decide) (by decide) hG_347
            refine lv_aload_n hx hb dX0_closeArgument_201 rfl (lv_at hl 5 rfl) ?_
            refine g_getk (C := RX0) (T := TX0) (N := 14) hx hb hts (mc_ inX0) hown hK g rfl 7 (by decide) rfl (hts _ (List.mem_cons_of_mem _ t_380)) (fun _ h9 => h9) 7 rfl dX0_closeArgument_202 ?_
            refine lv_iload_n hx hb dX0_closeArgument_205 rfl (lv_at hl 4 rfl) ?_
            refine g_iald hx hb hK g ma_262 ka_262 (by decide) rfl (in_bd b_2 (by decide)) dX0_closeArgument_206 (fun x_352 bx_352 cx_352 => ?_)
            refine lv_iconst (v := 1) hx hb dX0_closeArgument_207 (by decide) ?_
            refine lv_iadd hx hb dX0_closeArgument_208 ?_
            refine lv_topi (fun y_353 ey_353 => ?_)
            refine lv_bipush (v := 12) hx hb dX0_closeArgument_209 (by decide) ?_
            have kb_12 : bd 12 12 (12 : Int32) := ⟨by decide, by decide⟩
            refine lv_icmp_le (tgt := 229) hx hb dX0_closeArgument_211 (by decide) (fun c_354 => ?_) (fun c_354 => ?_)
            · have fc_354 := le_f c_354
              have b_355 : bd (-2147483648) 12 y_353 := leL fc_354 (bdT y_353) kb_12 (by decide)
              refine lv_aload_n hx hb dX0_closeArgument_229 rfl (lv_at hl 5 rfl) ?_
              refine g_getk (C := RX0) (T := TX0) (N := 14) hx hb hts (mc_ inX0) hown hK g rfl 2 (by decide) rfl (hts _ (List.mem_cons_of_mem _ t_375)) (fun _ h9 => h9) 13 rfl dX0_closeArgument_230 ?_
              refine lv_bipush (v := 13) hx hb dX0_closeArgument_233 (by decide) ?_
              refine lv_iconst (v := 0) hx hb dX0_closeArgument_235 (by decide) ?_
              have go_ := g
              refine g_callv (va_runV (As := [.int 13, .int 0]) (rest := []) ⟨hx, hb, hml, hown, hts⟩ (r_X7_emit l dC dI L kd tys f H.size g.2.2.2.1 q2_ mq2_ kq2_ 13 0) (cwV 2 hts (gV_ t_1203 t_1204 t_1205 t_191 t_1206) rfl rfl rfl (by decide +kernel) ⟨(Nat.le_of_ble_eq_true rfl), (Nat.le_of_ble_eq_true rfl)⟩) (pre3V g hK mq2_ kq2_ (by decide) (q := (RX7, TX7, 19)) rfl) rfl rfl hl.1 rfl (lv_room (Nat.le_of_ble_eq_true rfl)) dX0_closeArgument_236 ⟨(Nat.le_of_ble_eq_true rfl), (Nat.le_of_ble_eq_true rfl)⟩) g hK (by decide) (by decide) (fx' := [(0, 11, a0_, .int y_349), (0, 8, a0_, .int y_1), (8, 6, q0_, .int 1201), (8, 8, q0_, .int x_341), (6, 3, a_274, .int x_275), (7, 2, q2_, .ref a_273), (0, 10, a0_, .int x_265), (0, 7, a0_, .ref a_262), (0, 6, a0_, .ref a_257), (9, 9, q4_, .ref a_207), (0, 5, a0_, .ref a_3), (0, 0, a0_, .ref q0_), (0, 1, a0_, .ref q1_), (0, 2, a0_, .ref q2_), (0, 3, a0_, .ref q3_), (5, 1, q1_, .ref q4_)]) rfl (fun fr_356 H locs hp hMr_356 g => ?_)
              obtain ⟨x_357, h_358, hF_359⟩ := hp
              have hG_360 := eOK.frame hMr_356 go_.2.2.2.1 ma0_ ka0_ (by decide) (by decide) hG_351
              have g := g.more hF_359
              refine lv_aload_n hx hb dX0_closeArgument_239 rfl (lv_at hl 5 rfl) ?_
              refine g_getk (C := RX0) (T := TX0) (N := 14) hx hb hts (mc_ inX0) hown hK g rfl 2 (by decide) rfl (hts _ (List.mem_cons_of_mem _ t_375)) (fun _ h9 => h9) 14 rfl dX0_closeArgument_240 ?_
              refine lv_aload_n hx hb dX0_closeArgument_243 rfl (lv_at hl 5 rfl) ?_
              refine g_getk (C := RX0) (T := TX0) (N := 14) hx hb hts (mc_ inX0) hown hK g rfl 3 (by decide) rfl (hts _ (List.mem_cons_of_mem _ t_376)) (fun _ h9 => h9) 15 rfl dX0_closeArgument_244 ?_
              refine lv_iload_n hx hb dX0_closeArgument_247 rfl (lv_at hl 4 rfl) ?_
              refine g_iald hx hb hK g mq3_ kq3_ (by decide) rfl (in_bd b_2 (by decide)) dX0_closeArgument_248 (fun x_361 bx_361 cx_361 => ?_)
              obtain rfl : x_5 = x_361 := el_same cx_5 cx_361 ((arr_eq hMr_356 mq3_ kq3_ (by decide) rfl).trans ((arr_eq hM_350 mq3_ kq3_ (by decide) rfl).trans ((arr_eq hM_346 mq3_ kq3_ (by decide) rfl).trans ((arr_eq hMr_340 mq3_ kq3_ (by decide) rfl).trans ((arr_eq hM_271 mq3_ kq3_ (by decide) rfl).trans ((arr_eq hMr_264 mq3_ kq3_ (by decide) rfl).trans ((arr_eq hM_260 mq3_ kq3_ (by decide) rfl).trans ((arr_eq hMr_252 mq3_ kq3_ (by decide) rfl).trans (arr_eq hMr_209 mq3_ kq3_ (by decide) rfl)))))))))
              refine lv_iconst (v := 2) hx hb dX0_closeArgument_249 (by decide) ?_
              refine lv_icmp_ne (tgt := 258) hx hb dX0_closeArgument_250 (by decide) (fun c_362 => ?_) (fun c_362 => ?_)
              · have fc_362 := neq_f c_362
                have b_363 : bd 3 1 x_5 := neX fc_362 b_205 kb_2 (by decide)
                exact bd_no b_363 (by decide)
              · have fc_362 := eq_f c_362
                refine lv_bipush (v := 17) hx hb dX0_closeArgument_253 (by decide) ?_
                refine lv_goto (tgt := 260) hx hb dX0_closeArgument_255 (by decide) ?_
                refine lv_iload_n hx hb dX0_closeArgument_260 rfl (lv_at hl 3 rfl) ?_
                have go_ := g
                refine g_callv (va_runV (As := [.int 17, .int x_4]) (rest := []) ⟨hx, hb, hml, hown, hts⟩ (r_X7_emit l dC dI L kd tys fr_356 H.size g.2.2.2.1 q2_ mq2_ kq2_ 17 x_4) (cwV 2 hts (gV_ t_1203 t_1204 t_1205 t_191 t_1206) rfl rfl rfl (by decide +kernel) ⟨(Nat.le_of_ble_eq_true rfl), (Nat.le_of_ble_eq_true rfl)⟩) (pre3V g hK mq2_ kq2_ (by decide) (q := (RX7, TX7, 19)) rfl) rfl rfl hl.1 rfl (lv_room (Nat.le_of_ble_eq_true rfl)) dX0_closeArgument_261 ⟨(Nat.le_of_ble_eq_true rfl), (Nat.le_of_ble_eq_true rfl)⟩) g hK (by decide) (by decide) (fx' := [(0, 11, a0_, .int y_349), (0, 8, a0_, .int y_1), (8, 6, q0_, .int 1201), (8, 8, q0_, .int x_341), (6, 3, a_274, .int x_275), (7, 2, q2_, .ref a_273), (0, 10, a0_, .int x_265), (0, 7, a0_, .ref a_262), (0, 6, a0_, .ref a_257), (9, 9, q4_, .ref a_207), (0, 5, a0_, .ref a_3), (0, 0, a0_, .ref q0_), (0, 1, a0_, .ref q1_), (0, 2, a0_, .ref q2_), (0, 3, a0_, .ref q3_), (5, 1, q1_, .ref q4_)]) rfl (fun fr_364 H locs hp hMr_364 g => ?_)
                obtain ⟨x_365, h_366, hF_367⟩ := hp
                have hG_368 := eOK.frame hMr_364 go_.2.2.2.1 ma0_ ka0_ (by decide) (by decide) hG_360
                have g := g.more hF_367
                refine lv_aload_n hx hb dX0_closeArgument_264 rfl (lv_at hl 5 rfl) ?_
                refine lv_aload_n hx hb dX0_closeArgument_265 rfl (lv_at hl 5 rfl) ?_
                refine g_getk (C := RX0) (T := TX0) (N := 14) hx hb hts (mc_ inX0) hown hK g rfl 7 (by decide) rfl (hts _ (List.mem_cons_of_mem _ t_380)) (fun _ h9 => h9) 8 rfl dX0_closeArgument_266 ?_
                refine lv_iload_n hx hb dX0_closeArgument_269 rfl (lv_at hl 4 rfl) ?_
                refine g_iald hx hb hK g ma_262 ka_262 (by decide) rfl (in_bd b_2 (by decide)) dX0_closeArgument_270 (fun x_369 bx_369 cx_369 => ?_)
                obtain rfl : x_352 = x_369 := el_same cx_352 cx_369 ((arr_eq hMr_364 ma_262 ka_262 (by decide) rfl).trans (arr_eq hMr_356 ma_262 ka_262 (by decide) rfl))
                refine lv_iconst (v := 1) hx hb dX0_closeArgument_271 (by decide) ?_
                refine lv_iadd hx hb dX0_closeArgument_272 ?_
                refine lv_topi (fun y_370 ey_370 => ?_)
                obtain rfl : y_353 = y_370 := ey_353.trans ey_370.symm
                have go_ := g
                refine g_callv (va_runV (As := [.int y_353]) (rest := []) ⟨hx, hb, hml, hown, hts⟩ (r_X0_addWhole l dC dI L kd tys fr_364 H.size g.2.2.2.1 a0_ ma0_ ka0_ y_353) (cwV 1 hts (gV_ t_1211 t_1213 t_17 t_190 t_1214) rfl rfl rfl (by decide +kernel) ⟨(Nat.le_of_ble_eq_true rfl), (Nat.le_of_ble_eq_true rfl)⟩) (pre3V g hK ma0_ ka0_ (by decide) (q := (RX0, TX0, 14)) rfl) rfl rfl hl.1 rfl (lv_room (Nat.le_of_ble_eq_true rfl)) dX0_closeArgument_273 ⟨(Nat.le_of_ble_eq_true rfl), (Nat.le_of_ble_eq_true rfl)⟩) g hK (by decide) (by decide) (fx' := [(7, 6, q2_, .int x_365), (0, 11, a0_, .int y_349), (0, 8, a0_, .int y_1), (8, 6, q0_, .int 1201), (8, 8, q0_, .int x_341), (6, 3, a_274, .int x_275), (7, 2, q2_, .ref a_273), (0, 7, a0_, .ref a_262), (0, 6, a0_, .ref a_257), (9, 9, q4_, .ref a_207), (0, 5, a0_, .ref a_3), (0, 0, a0_, .ref q0_), (0, 1, a0_, .ref q1_), (0, 2, a0_, .ref q2_), (0, 3, a0_, .ref q3_), (5, 1, q1_, .ref q4_)]) rfl (fun fr_371 H locs hp hMr_371 g => ?_)
                obtain ⟨x_372, h_373, hF_374⟩ := hp
                have hG_375 := eOK.frame hMr_371 go_.2.2.2.1 ma0_ ka0_ (by decide) (by decide) hG_368
                have g := g.more hF_374
                subst hQ
                exact W.vret hx hb hr (fun t ht hW => ⟨⟨_, rfl, Or.inr (⟨x_341, h_342, (g.fcts [5, 6] rfl)⟩), q3_of g hK ht hW⟩, g.2.2.1.F ht⟩) g.2.2.1.2.2 dX0_closeArgument_276
            · have fc_354 := nle_f c_354
              have b_376 : bd 13 2147483647 y_353 := ltR fc_354 kb_12 (bdT y_353) (by decide)
              refine lv_aload_n hx hb dX0_closeArgument_214 rfl (lv_at hl 5 rfl) ?_
              refine g_getk (C := RX0) (T := TX0) (N := 14) hx hb hts (mc_ inX0) hown hK g rfl 0 (by decide) rfl (hts _ (List.mem_cons_of_mem _ t_373)) (fun _ h9 => h9) 11 rfl dX0_closeArgument_215 ?_
              refine lv_bipush (v := 7) hx hb dX0_closeArgument_218 (by decide) ?_
              refine lv_aload_n hx hb dX0_closeArgument_220 rfl (lv_at hl 5 rfl) ?_
              refine g_getr (K := 111) (C := RX0) (T := TX0) (N := 14) hx hb hts (mc_ inX0) hown hK g ma0_ ka0_ (by decide) rfl 4 (by decide) rfl (hts _ (List.mem_cons_of_mem _ t_377)) (fun _ h9 => h9) rfl dX0_closeArgument_221 (fun a_377 ma_377 ka_377 g => ?_)
              refine lv_iload_n hx hb dX0_closeArgument_224 rfl (lv_at hl 4 rfl) ?_
              refine g_iald hx hb hK g ma_377 ka_377 (by decide) rfl (in_bd b_2 (by decide)) dX0_closeArgument_225 (fun x_378 bx_378 cx_378 => ?_)
              have kb_7 : bd 7 7 (7 : Int32) := ⟨by decide, by decide⟩
              have go_ := g
              refine g_callv (va_runV (As := [.int 7, .int x_378]) (rest := []) ⟨hx, hb, hml, hown, hts⟩ (r_X8_fail_2 l dC dI L kd tys f H.size g.2.2.2.1 q0_ mq0_ kq0_ 7 (bd_sub kb_7 (by decide)) x_378 x_341 h_342 (g.fcts [4] rfl)) (cwV 2 hts (gV_ t_1215 t_1107 t_1108 t_184 t_1109) rfl rfl rfl (by decide +kernel) ⟨(Nat.le_of_ble_eq_true rfl), (Nat.le_of_ble_eq_true rfl)⟩) (pre3V g hK mq0_ kq0_ (by decide) (q := (RX8, TX8, 10)) rfl) rfl rfl hl.1 rfl (lv_room (Nat.le_of_ble_eq_true rfl)) dX0_closeArgument_226 ⟨(Nat.le_of_ble_eq_true rfl), (Nat.le_of_ble_eq_true rfl)⟩) g hK (by decide) (by decide) (fx' := [(0, 4, a0_, .ref a_377), (0, 11, a0_, .int y_349), (0, 8, a0_, .int y_1), (8, 8, q0_, .int x_341), (6, 3, a_274, .int x_275), (7, 2, q2_, .ref a_273), (0, 10, a0_, .int x_265), (0, 7, a0_, .ref a_262), (0, 6, a0_, .ref a_257), (9, 9, q4_, .ref a_207), (0, 5, a0_, .ref a_3), (0, 0, a0_, .ref q0_), (0, 1, a0_, .ref q1_), (0, 2, a0_, .ref q2_), (0, 3, a0_, .ref q3_), (5, 1, q1_, .ref q4_)]) rfl (fun fr_379 H locs hp hMr_379 g => ?_)
              have hF_380 := hp
              have hG_381 := eOK.frame hMr_379 go_.2.2.2.1 ma0_ ka0_ (by decide) (by decide) hG_351
              have g := g.more hF_380
              refine lv_aload_n hx hb dX0_closeArgument_229 rfl (lv_at hl 5 rfl) ?_
              refine g_getk (C := RX0) (T := TX0) (N := 14) hx hb hts (mc_ inX0) hown hK g rfl 2 (by decide) rfl (hts _ (List.mem_cons_of_mem _ t_375)) (fun _ h9 => h9) 14 rfl dX0_closeArgument_230 ?_
              refine lv_bipush (v := 13) hx hb dX0_closeArgument_233 (by decide) ?_
              refine lv_iconst (v := 0) hx hb dX0_closeArgument_235 (by decide) ?_
              have go_ := g
              refine g_callv (va_runV (As := [.int 13, .int 0]) (rest := []) ⟨hx, hb, hml, hown, hts⟩ (r_X7_emit l dC dI L kd tys fr_379 H.size g.2.2.2.1 q2_ mq2_ kq2_ 13 0) (cwV 2 hts (gV_ t_1203 t_1204 t_1205 t_191 t_1206) rfl rfl rfl (by decide +kernel) ⟨(Nat.le_of_ble_eq_true rfl), (Nat.le_of_ble_eq_true rfl)⟩) (pre3V g hK mq2_ kq2_ (by decide) (q := (RX7, TX7, 19)) rfl) rfl rfl hl.1 rfl (lv_room (Nat.le_of_ble_eq_true rfl)) dX0_closeArgument_236 ⟨(Nat.le_of_ble_eq_true rfl), (Nat.le_of_ble_eq_true rfl)⟩) g hK (by decide) (by decide) (fx' := [(8, 6, q0_, .int 1201), (0, 4, a0_, .ref a_377), (0, 11, a0_, .int y_349), (0, 8, a0_, .int y_1), (8, 8, q0_, .int x_341), (6, 3, a_274, .int x_275), (7, 2, q2_, .ref a_273), (0, 10, a0_, .int x_265), (0, 7, a0_, .ref a_262), (0, 6, a0_, .ref a_257), (9, 9, q4_, .ref a_207), (0, 5, a0_, .ref a_3), (0, 0, a0_, .ref q0_), (0, 1, a0_, .ref q1_), (0, 2, a0_, .ref q2_), (0, 3, a0_, .ref q3_), (5, 1, q1_, .ref q4_)]) rfl (fun fr_382 H locs hp hMr_382 g => ?_)
              obtain ⟨x_383, h_384, hF_385⟩ := hp
              have hG_386 := eOK.frame hMr_382 go_.2.2.2.1 ma0_ ka0_ (by decide) (by decide) hG_381
              have g := g.more hF_385
              refine lv_aload_n hx hb dX0_closeArgument_239 rfl (lv_at hl 5 rfl) ?_
              refine g_getk (C := RX0) (T := TX0) (N := 14) hx hb hts (mc_ inX0) hown hK g rfl 2 (by decide) rfl (hts _ (List.mem_cons_of_mem _ t_375)) (fun _ h9 => h9) 15 rfl dX0_closeArgument_240 ?_
              refine lv_aload_n hx hb dX0_closeArgument_243 rfl (lv_at hl 5 rfl) ?_
              refine g_getk (C := RX0) (T := TX0) (N := 14) hx hb hts (mc_ inX0) hown hK g rfl 3 (by decide) rfl (hts _ (List.mem_cons_of_mem _ t_376)) (fun _ h9 => h9) 16 rfl dX0_closeArgument_244 ?_
              refine lv_iload_n hx hb dX0_closeArgument_247 rfl (lv_at hl 4 rfl) ?_
              refine g_iald hx hb hK g mq3_ kq3_ (by decide) rfl (in_bd b_2 (by decide)) dX0_closeArgument_248 (fun x_387 bx_387 cx_387 => ?_)
              obtain rfl : x_5 = x_387 := el_same cx_5 cx_387 ((arr_eq hMr_382 mq3_ kq3_ (by decide) rfl).trans ((arr_eq hMr_379 mq3_ kq3_ (by decide) rfl).trans ((arr_eq hM_350 mq3_ kq3_ (by decide) rfl).trans ((arr_eq hM_346 mq3_ kq3_ (by decide) rfl).trans ((arr_eq hMr_340 mq3_ kq3_ (by decide) rfl).trans ((arr_eq hM_271 mq3_ kq3_ (by decide) rfl).trans ((arr_eq hMr_264 mq3_ kq3_ (by decide) rfl).trans ((arr_eq hM_260 mq3_ kq3_ (by decide) rfl).trans ((arr_eq hMr_252 mq3_ kq3_ (by decide) rfl).trans (arr_eq hMr_209 mq3_ kq3_ (by decide) rfl))))))))))
              refine lv_iconst (v := 2) hx hb dX0_closeArgument_249 (by decide) ?_
              refine lv_icmp_ne (tgt := 258) hx hb dX0_closeArgument_250 (by decide) (fun c_388 => ?_) (fun c_388 => ?_)
              · have fc_388 := neq_f c_388
                have b_389 : bd 3 1 x_5 := neX fc_388 b_205 kb_2 (by decide)
                exact bd_no b_389 (by decide)
              · have fc_388 := eq_f c_388
                refine lv_bipush (v := 17) hx hb dX0_closeArgument_253 (by decide) ?_
                refine lv_goto (tgt := 260) hx hb dX0_closeArgument_255 (by decide) ?_
                refine lv_iload_n hx hb dX0_closeArgument_260 rfl (lv_at hl 3 rfl) ?_
                have go_ := g
                refine g_callv (va_runV (As := [.int 17, .int x_4]) (rest := []) ⟨hx, hb, hml, hown, hts⟩ (r_X7_emit l dC dI L kd tys fr_382 H.size g.2.2.2.1 q2_ mq2_ kq2_ 17 x_4) (cwV 2 hts (gV_ t_1203 t_1204 t_1205 t_191 t_1206) rfl rfl rfl (by decide +kernel) ⟨(Nat.le_of_ble_eq_true rfl), (Nat.le_of_ble_eq_true rfl)⟩) (pre3V g hK mq2_ kq2_ (by decide) (q := (RX7, TX7, 19)) rfl) rfl rfl hl.1 rfl (lv_room (Nat.le_of_ble_eq_true rfl)) dX0_closeArgument_261 ⟨(Nat.le_of_ble_eq_true rfl), (Nat.le_of_ble_eq_true rfl)⟩) g hK (by decide) (by decide) (fx' := [(8, 6, q0_, .int 1201), (0, 4, a0_, .ref a_377), (0, 11, a0_, .int y_349), (0, 8, a0_, .int y_1), (8, 8, q0_, .int x_341), (6, 3, a_274, .int x_275), (7, 2, q2_, .ref a_273), (0, 10, a0_, .int x_265), (0, 7, a0_, .ref a_262), (0, 6, a0_, .ref a_257), (9, 9, q4_, .ref a_207), (0, 5, a0_, .ref a_3), (0, 0, a0_, .ref q0_), (0, 1, a0_, .ref q1_), (0, 2, a0_, .ref q2_), (0, 3, a0_, .ref q3_), (5, 1, q1_, .ref q4_)]) rfl (fun fr_390 H locs hp hMr_390 g => ?_)
                obtain ⟨x_391, h_392, hF_393⟩ := hp
                have hG_394 := eOK.frame hMr_390 go_.2.2.2.1 ma0_ ka0_ (by decide) (by decide) hG_386
                have g := g.more hF_393
                refine lv_aload_n hx hb dX0_closeArgument_264 rfl (lv_at hl 5 rfl) ?_
                refine lv_aload_n hx hb dX0_closeArgument_265 rfl (lv_at hl 5 rfl) ?_
                refine g_getk (C := RX0) (T := TX0) (N := 14) hx hb hts (mc_ inX0) hown hK g rfl 7 (by decide) rfl (hts _ (List.mem_cons_of_mem _ t_380)) (fun _ h9 => h9) 9 rfl dX0_closeArgument_266 ?_
                refine lv_iload_n hx hb dX0_closeArgument_269 rfl (lv_at hl 4 rfl) ?_
                refine g_iald hx hb hK g ma_262 ka_262 (by decide) rfl (in_bd b_2 (by decide)) dX0_closeArgument_270 (fun x_395 bx_395 cx_395 => ?_)
                obtain rfl : x_352 = x_395 := el_same cx_352 cx_395 ((arr_eq hMr_390 ma_262 ka_262 (by decide) rfl).trans ((arr_eq hMr_382 ma_262 ka_262 (by decide) rfl).trans (arr_eq hMr_379 ma_262 ka_262 (by decide) rfl)))
                refine lv_iconst (v := 1) hx hb dX0_closeArgument_271 (by decide) ?_
                refine lv_iadd hx hb dX0_closeArgument_272 ?_
                refine lv_topi (fun y_396 ey_396 => ?_)
                obtain rfl : y_353 = y_396 := ey_353.trans ey_396.symm
                have go_ := g
                refine g_callv (va_runV (As := [.int y_353]) (rest := []) ⟨hx, hb, hml, hown, hts⟩ (r_X0_addWhole l dC dI L kd tys fr_390 H.size g.2.2.2.1 a0_ ma0_ ka0_ y_353) (cwV 1 hts (gV_ t_1211 t_1213 t_17 t_190 t_1214) rfl rfl rfl (by decide +kernel) ⟨(Nat.le_of_ble_eq_true rfl), (Nat.le_of_ble_eq_true rfl)⟩) (pre3V g hK ma0_ ka0_ (by decide) (q := (RX0, TX0, 14)) rfl) rfl rfl hl.1 rfl (lv_room (Nat.le_of_ble_eq_true rfl)) dX0_closeArgument_273 ⟨(Nat.le_of_ble_eq_true rfl), (Nat.le_of_ble_eq_true rfl)⟩) g hK (by decide) (by decide) (fx' := [(7, 6, q2_, .int x_391), (8, 6, q0_, .int 1201), (0, 4, a0_, .ref a_377), (0, 11, a0_, .int y_349), (0, 8, a0_, .int y_1), (8, 8, q0_, .int x_341), (6, 3, a_274, .int x_275), (7, 2, q2_, .ref a_273), (0, 7, a0_, .ref a_262), (0, 6, a0_, .ref a_257), (9, 9, q4_, .ref a_207), (0, 5, a0_, .ref a_3), (0, 0, a0_, .ref q0_), (0, 1, a0_, .ref q1_), (0, 2, a0_, .ref q2_), (0, 3, a0_, .ref q3_), (5, 1, q1_, .ref q4_)]) rfl (fun fr_397 H locs hp hMr_397 g => ?_)
                obtain ⟨x_398, h_399, hF_400⟩ := hp
                have hG_401 := eOK.frame hMr_397 go_.2.2.2.1 ma0_ ka0_ (by decide) (by decide) hG_394
                have g := g.more hF_400
                subst hQ
                exact W.vret hx hb hr (fun t ht hW => ⟨⟨_, rfl, Or.inr (⟨x_341, h_342, (g.fcts [3, 7] rfl)⟩), q3_of g hK ht hW⟩, g.2.2.1.F ht⟩) g.2.2.1.2.2 dX0_closeArgument_276
        · have fc_276 := eq_f c_276
          exact absurd fc_276 fc_211
      · have fc_250 := neq_f c_250
        refine lv_aload_n hx hb dX0_closeArgument_63 rfl (lv_at hl 4 rfl) ?_
        refine g_getk (C := RX0) (T := TX0) (N := 14) hx hb hts (mc_ inX0) hown hK g rfl 0 (by decide) rfl (hts _ (List.mem_cons_of_mem _ t_373)) (fun _ h9 => h9) 2 rfl dX0_closeArgument_64 ?_
        refine lv_iconst (v := 1) hx hb dX0_closeArgument_67 (by decide) ?_
        refine lv_iload hx hb dX0_closeArgument_68 (lv_at hl 0 rfl) ?_
        have go_ := g
        refine g_callv (va_runV (As := [.int 1, .int r_209]) (rest := []) ⟨hx, hb, hml, hown, hts⟩ (r_X8_fail l dC dI L kd tys fr_209 H.size g.2.2.2.1 q0_ mq0_ kq0_ 1 (bd_sub kb_1 (by decide)) r_209 y1_ by1_ (g.fcts [8] rfl)) (cwV 2 hts (gV_ t_1215 t_1107 t_1108 t_184 t_1109) rfl rfl rfl (by decide +kernel) ⟨(Nat.le_of_ble_eq_true rfl), (Nat.le_of_ble_eq_true rfl)⟩) (pre3V g hK mq0_ kq0_ (by decide) (q := (RX8, TX8, 10)) rfl) rfl rfl hl.1 rfl (lv_room (Nat.le_of_ble_eq_true rfl)) dX0_closeArgument_70 ⟨(Nat.le_of_ble_eq_true rfl), (Nat.le_of_ble_eq_true rfl)⟩) g hK (by decide) (by decide) (fx' := [(9, 9, q4_, .ref a_207), (0, 5, a0_, .ref a_3), (0, 0, a0_, .ref q0_), (0, 1, a0_, .ref q1_), (0, 2, a0_, .ref q2_), (0, 3, a0_, .ref q3_), (5, 1, q1_, .ref q4_), (0, 8, a0_, .int y0_)]) rfl (fun fr_402 H locs hp hMr_402 g => ?_)
        obtain ⟨x_403, h_404, hF_405⟩ := hp
        have hG_406 := eOK.frame hMr_402 go_.2.2.2.1 ma0_ ka0_ (by decide) (by decide) hG_210
        have g := g.more hF_405
        subst hQ
        exact W.vret hx hb hr (fun t ht hW => ⟨⟨_, rfl, Or.inr (⟨x_403, h_404, (g.fcts [0, 1] rfl)⟩), q3_of g hK ht hW⟩, g.2.2.1.F ht⟩) g.2.2.1.2.2 dX0_closeArgument_73
