set_option maxHeartbeats 4000000 in
set_option maxRecDepth 100000 in
theorem r_X2_closeBlock (l : Launch) (dC : Nat → ClassId) (dI : Nat → Nat → Nat) (L : List Nat) (kd : Nat → Nat) (tys : List (ClassId × FieldType)) (f0 : Nat → va_E) (sz : Nat) (hWT : WT L kd tys f0) (a0_ : Nat) (ma0_ : a0_ ∈ L) (ka0_ : kd a0_ = 2) (q0_ : Nat) (mq0_ : q0_ ∈ L) (kq0_ : kd q0_ = 8) (q1_ : Nat) (mq1_ : q1_ ∈ L) (kq1_ : kd q1_ = 7) (y0_ : Int32) (by0_ : bd 0 0 y0_) (hfx : Fs L kd f0 [(2, 0, a0_, .ref q0_), (2, 3, a0_, .ref q1_), (8, 8, q0_, .int y0_)]) : Met l yX2_closeBlock (.code yX2_closeBlock cX2_closeBlock 4 none :: lw_g) ({ frames := 2, cells := 0, slots := 0, locals := 46 }) (va_Pc [.ref a0_] (P3 (dC, dI) L tys f0 sz)) (va_Qv (fun (f : Nat → va_E) => (∃ z0_ : Int32, bd 1 1201 z0_ ∧ Fs L kd f [(8, 6, q0_, .int z0_), (8, 8, q0_, .int y0_)]) ∨ (∃ z1_ : Int32, bd 1 7 z1_ ∧ ∃ z2_ : Int32, bd 1 2000 z2_ ∧ Fs L kd f [(8, 6, q0_, .int 1201), (8, 8, q0_, .int z1_), (7, 6, q1_, .int z2_)])) (Q3 (dC, dI) L kd tys [(2, 11), (5, 6), (7, 6), (8, 6), (8, 8), (8, 9)] [118, 119, 120, 121, 138, 139] f0 sz) (pA L sz)) 0 0 (pA L sz) := by
  refine Met.ofW (cc := cX2_closeBlock) (maxL := 4) (ret := none) (by decide) rfl ?_
  intro p e s m args below meth c s₁ B hml hv
  obtain ⟨rfl, hsz, hP, hK, hD0⟩ := hv
  have hx := B.exec
  have hb := B.bytes
  have hr := B.returns
  have hts := atoms_spec (ws := (.code yX2_closeBlock cX2_closeBlock 4 none :: lw_g)) B.pre
  have hown : s.vm.findClass RX2 = some m.cls := findClass_of_methodNamed B.named
  have hlocks := B.notSynchronized
  subst hsz
  have g : G3 (dC, dI) L kd tys s f0 [(2, 11), (5, 6), (7, 6), (8, 6), (8, 8), (8, 9)] [118, 119, 120, 121, 138, 139] f0 s.heap [] [(2, 0, a0_, .ref q0_), (2, 3, a0_, .ref q1_), (8, 8, q0_, .int y0_)] := G3.start hP hD0 hWT hfx
  have hl := lv_entry ([.ref a0_]) (n := 4) (Nat.le_of_ble_eq_true rfl)
  rw [lg_entry_eq]
  generalize (lg_sl ([.ref a0_]) ++ List.replicate (4 - (lg_sl ([.ref a0_])).length) Slot.unset).toArray = ls at hl ⊢
  have hl : lv_has ls 4 [(0, .ref a0_)] := hl
  refine W_q (fun Q hQ => ?_)
  refine lv_aload_n hx hb dX2_closeBlock_0 rfl (lv_at hl 0 rfl) ?_
  refine g_getk (C := RX2) (T := TX2) (N := 16) hx hb hts (mc_ inX2) hown hK g rfl 0 (by decide) rfl (hts _ (List.mem_cons_of_mem _ t_416)) (fun _ h9 => h9) 0 rfl dX2_closeBlock_1 ?_
  refine g_callv (va_runV (As := []) (rest := []) ⟨hx, hb, hml, hown, hts⟩ (r_X8_next l dC dI L kd tys f0 s.heap.size g.2.2.2.1 q0_ mq0_ kq0_) (cwV 0 hts (gV_ t_1131 t_1103 t_1104 t_184 t_1105) rfl rfl rfl (by decide +kernel) ⟨(Nat.le_of_ble_eq_true rfl), (Nat.le_of_ble_eq_true rfl)⟩) (pre3V g hK mq0_ kq0_ (by decide) (q := (RX8, TX8, 10)) rfl) rfl rfl hl.1 rfl (lv_room (Nat.le_of_ble_eq_true rfl)) dX2_closeBlock_4 ⟨(Nat.le_of_ble_eq_true rfl), (Nat.le_of_ble_eq_true rfl)⟩) g hK (by decide) (by decide) (fx' := [(2, 0, a0_, .ref q0_), (2, 3, a0_, .ref q1_), (8, 8, q0_, .int y0_)]) rfl (fun fr_1 H locs hp hMr_1 g => ?_)
  obtain ⟨x_2, h_3, hF_4⟩ := hp
  have g := g.more hF_4
  refine lv_aload_n hx hb dX2_closeBlock_7 rfl (lv_at hl 0 rfl) ?_
  refine lv_aload_n hx hb dX2_closeBlock_8 rfl (lv_at hl 0 rfl) ?_
  refine g_geti (C := RX2) (T := TX2) (N := 16) hx hb hts (mc_ inX2) hown hK g ma0_ ka0_ (by decide) rfl 11 (by decide) rfl (hts _ (List.mem_cons_of_mem _ t_427)) (fun _ h9 => h9) rfl dX2_closeBlock_9 (fun x_5 bx_5 g => ?_)
  refine lv_iconst (v := 1) hx hb dX2_closeBlock_12 (by decide) ?_
  have kb_1 : bd 1 1 (1 : Int32) := ⟨by decide, by decide⟩
  refine lv_isub hx hb dX2_closeBlock_13 ?_
  refine lv_topi (fun y_6 ey_6 => ?_)
  have ty_6 := sub_bd ey_6 bx_5 kb_1 (by decide)
  have b_7 : bd (-1) 7 y_6 := sub_rg ty_6 bx_5 kb_1 (by decide)
  refine lv_iconst (v := 0) hx hb dX2_closeBlock_14 (by decide) ?_
  have kb_0 : bd 0 0 (0 : Int32) := ⟨by decide, by decide⟩
  refine va_mmax hx hb (hml.trans hl.1.symm) hown (hts _ (List.mem_cons_of_mem _ t_1312)) (hts _ (List.mem_cons_of_mem _ t_1041)) (hts _ (List.mem_cons_of_mem _ t_204)) (hts _ (List.mem_cons_of_mem _ t_1042)) (Nat.le_of_ble_eq_true rfl) (Nat.le_of_ble_eq_true rfl) (Nat.le_of_ble_eq_true rfl) (Nat.le_of_ble_eq_true rfl) dX2_closeBlock_15 ?_
  refine lv_topi (fun y_8 ey_8 => ?_)
  have ty_8 : y_8.toInt = max y_6.toInt (0 : Int32).toInt := by rw [ey_8]; exact mmax_ok _ _
  have b_9 : bd 0 7 y_8 := max_rg ty_8 b_7 kb_0 (by decide)
  refine g_put (C := RX2) (T := TX2) (N := 16) hx hb hts (mc_ inX2) tyX2 tyX2_ok nmX2 hown hK g ma0_ ka0_ (by decide) rfl 11 (by decide) (hts _ (List.mem_cons_of_mem _ t_427)) (fun _ h9 => h9) rfl rfl (okV_i (bd_sub b_9 (by decide))) rfl rfl (by decide) (Or.inr (Or.inl (by decide))) (fx' := [(8, 6, q0_, .int x_2), (2, 0, a0_, .ref q0_), (2, 3, a0_, .ref q1_), (8, 8, q0_, .int y0_)]) rfl dX2_closeBlock_18 (fun f H locs hM_10 g => ?_)
  refine lv_aload_n hx hb dX2_closeBlock_21 rfl (lv_at hl 0 rfl) ?_
  refine g_getr (K := 5) (C := RX2) (T := TX2) (N := 16) hx hb hts (mc_ inX2) hown hK g ma0_ ka0_ (by decide) rfl 1 (by decide) rfl (hts _ (List.mem_cons_of_mem _ t_417)) (fun _ h9 => h9) rfl dX2_closeBlock_22 (fun a_11 ma_11 ka_11 g => ?_)
  refine lv_aload_n hx hb dX2_closeBlock_25 rfl (lv_at hl 0 rfl) ?_
  refine g_getr (K := 121) (C := RX2) (T := TX2) (N := 16) hx hb hts (mc_ inX2) hown hK g ma0_ ka0_ (by decide) rfl 10 (by decide) rfl (hts _ (List.mem_cons_of_mem _ t_426)) (fun _ h9 => h9) rfl dX2_closeBlock_26 (fun a_12 ma_12 ka_12 g => ?_)
  refine lv_aload_n hx hb dX2_closeBlock_29 rfl (lv_at hl 0 rfl) ?_
  refine g_getk (C := RX2) (T := TX2) (N := 16) hx hb hts (mc_ inX2) hown hK g rfl 11 (by decide) rfl (hts _ (List.mem_cons_of_mem _ t_427)) (fun _ h9 => h9) 2 rfl dX2_closeBlock_30 ?_
  refine g_iald hx hb hK g ma_12 ka_12 (by decide) rfl (in_bd b_9 (by decide)) dX2_closeBlock_33 (fun x_13 bx_13 cx_13 => ?_)
  refine g_put (C := RX5) (T := TX5) (N := 9) hx hb hts (mc_ inX5) tyX5 tyX5_ok nmX5 hown hK g ma_11 ka_11 (by decide) rfl 6 (by decide) (hts _ (List.mem_cons_of_mem _ t_341)) (fun _ h9 => h9) rfl rfl (okV_i bx_13) rfl rfl (by decide) (Or.inr (Or.inl (by decide))) (fx' := [(2, 10, a0_, .ref a_12), (2, 1, a0_, .ref a_11), (2, 11, a0_, .int y_8), (8, 6, q0_, .int x_2), (2, 0, a0_, .ref q0_), (2, 3, a0_, .ref q1_), (8, 8, q0_, .int y0_)]) rfl dX2_closeBlock_34 (fun f H locs hM_14 g => ?_)
  refine lv_aload_n hx hb dX2_closeBlock_37 rfl (lv_at hl 0 rfl) ?_
  refine g_getr (K := 119) (C := RX2) (T := TX2) (N := 16) hx hb hts (mc_ inX2) hown hK g ma0_ ka0_ (by decide) rfl 8 (by decide) rfl (hts _ (List.mem_cons_of_mem _ t_424)) (fun _ h9 => h9) rfl dX2_closeBlock_38 (fun a_15 ma_15 ka_15 g => ?_)
  refine lv_aload_n hx hb dX2_closeBlock_41 rfl (lv_at hl 0 rfl) ?_
  refine g_getk (C := RX2) (T := TX2) (N := 16) hx hb hts (mc_ inX2) hown hK g rfl 11 (by decide) rfl (hts _ (List.mem_cons_of_mem _ t_427)) (fun _ h9 => h9) 4 rfl dX2_closeBlock_42 ?_
  refine g_iald hx hb hK g ma_15 ka_15 (by decide) rfl (in_bd b_9 (by decide)) dX2_closeBlock_45 (fun x_16 bx_16 cx_16 => ?_)
  refine lv_istore_n (lv' := [(1, .int x_16), (0, .ref a0_)]) hx hb dX2_closeBlock_46 rfl hl (by decide) rfl (fun ls hl => ?_)
  refine lv_aload_n hx hb dX2_closeBlock_47 rfl (lv_at hl 1 rfl) ?_
  refine g_getr (K := 118) (C := RX2) (T := TX2) (N := 16) hx hb hts (mc_ inX2) hown hK g ma0_ ka0_ (by decide) rfl 7 (by decide) rfl (hts _ (List.mem_cons_of_mem _ t_423)) (fun _ h9 => h9) rfl dX2_closeBlock_48 (fun a_17 ma_17 ka_17 g => ?_)
  refine lv_aload_n hx hb dX2_closeBlock_51 rfl (lv_at hl 1 rfl) ?_
  refine g_getk (C := RX2) (T := TX2) (N := 16) hx hb hts (mc_ inX2) hown hK g rfl 11 (by decide) rfl (hts _ (List.mem_cons_of_mem _ t_427)) (fun _ h9 => h9) 5 rfl dX2_closeBlock_52 ?_
  refine g_iald hx hb hK g ma_17 ka_17 (by decide) rfl (in_bd b_9 (by decide)) dX2_closeBlock_55 (fun x_18 bx_18 cx_18 => ?_)
  refine lv_if_ne (tgt := 70) hx hb dX2_closeBlock_56 (by decide) (fun c_19 => ?_) (fun c_19 => ?_)
  · have fc_19 := neq_f c_19
    refine lv_aload_n hx hb dX2_closeBlock_70 rfl (lv_at hl 1 rfl) ?_
    refine g_getk (C := RX2) (T := TX2) (N := 16) hx hb hts (mc_ inX2) hown hK g rfl 7 (by decide) rfl (hts _ (List.mem_cons_of_mem _ t_423)) (fun _ h9 => h9) 0 rfl dX2_closeBlock_71 ?_
    refine lv_aload_n hx hb dX2_closeBlock_74 rfl (lv_at hl 1 rfl) ?_
    refine g_getk (C := RX2) (T := TX2) (N := 16) hx hb hts (mc_ inX2) hown hK g rfl 11 (by decide) rfl (hts _ (List.mem_cons_of_mem _ t_427)) (fun _ h9 => h9) 5 rfl dX2_closeBlock_75 ?_
    refine g_iald hx hb hK g ma_17 ka_17 (by decide) rfl (in_bd b_9 (by decide)) dX2_closeBlock_78 (fun x_20 bx_20 cx_20 => ?_)
    obtain rfl : x_18 = x_20 := el_same cx_18 cx_20 rfl
    refine lv_iconst (v := 3) hx hb dX2_closeBlock_79 (by decide) ?_
    have kb_3 : bd 3 3 (3 : Int32) := ⟨by decide, by decide⟩
    refine lv_icmp_ne (tgt := 101) hx hb dX2_closeBlock_80 (by decide) (fun c_21 => ?_) (fun c_21 => ?_)
    · have fc_21 := neq_f c_21
      refine lv_aload_n hx hb dX2_closeBlock_101 rfl (lv_at hl 1 rfl) ?_
      refine g_getk (C := RX2) (T := TX2) (N := 16) hx hb hts (mc_ inX2) hown hK g rfl 7 (by decide) rfl (hts _ (List.mem_cons_of_mem _ t_423)) (fun _ h9 => h9) 0 rfl dX2_closeBlock_102 ?_
      refine lv_aload_n hx hb dX2_closeBlock_105 rfl (lv_at hl 1 rfl) ?_
      refine g_getk (C := RX2) (T := TX2) (N := 16) hx hb hts (mc_ inX2) hown hK g rfl 11 (by decide) rfl (hts _ (List.mem_cons_of_mem _ t_427)) (fun _ h9 => h9) 5 rfl dX2_closeBlock_106 ?_
      refine g_iald hx hb hK g ma_17 ka_17 (by decide) rfl (in_bd b_9 (by decide)) dX2_closeBlock_109 (fun x_22 bx_22 cx_22 => ?_)
      obtain rfl : x_18 = x_22 := el_same cx_18 cx_22 rfl
      refine lv_iconst (v := 1) hx hb dX2_closeBlock_110 (by decide) ?_
      refine lv_icmp_ne (tgt := 130) hx hb dX2_closeBlock_111 (by decide) (fun c_23 => ?_) (fun c_23 => ?_)
      · have fc_23 := neq_f c_23
        refine lv_iconst (v := 0) hx hb dX2_closeBlock_130 (by decide) ?_
        refine lv_istore_n (lv' := [(2, .int 0), (1, .int x_16), (0, .ref a0_)]) hx hb dX2_closeBlock_131 rfl hl (by decide) rfl (fun ls hl => ?_)
        refine lv_aload_n hx hb dX2_closeBlock_132 rfl (lv_at hl 2 rfl) ?_
        refine g_getk (C := RX2) (T := TX2) (N := 16) hx hb hts (mc_ inX2) hown hK g rfl 3 (by decide) rfl (hts _ (List.mem_cons_of_mem _ t_419)) (fun _ h9 => h9) 8 rfl dX2_closeBlock_133 ?_
        refine g_geti (C := RX7) (T := TX7) (N := 19) hx hb hts (mc_ inX7) hown hK g mq1_ kq1_ (by decide) rfl 6 (by decide) rfl (hts _ (List.mem_cons_of_mem _ t_647)) (fun _ h9 => h9) rfl dX2_closeBlock_136 (fun x_24 bx_24 g => ?_)
        refine lv_istore_n (lv' := [(3, .int x_24), (2, .int 0), (1, .int x_16), (0, .ref a0_)]) hx hb dX2_closeBlock_139 rfl hl (by decide) rfl (fun ls hl => ?_)
        refine lv_iload_n hx hb dX2_closeBlock_140 rfl (lv_at hl 1 rfl) ?_
        refine lv_if_eq (tgt := 154) hx hb dX2_closeBlock_141 (by decide) (fun c_ => ?_) (fun c_ => absurd (by decide) c_)
        refine lv_aload_n hx hb dX2_closeBlock_154 rfl (lv_at hl 3 rfl) ?_
        refine g_getk (C := RX2) (T := TX2) (N := 16) hx hb hts (mc_ inX2) hown hK g rfl 3 (by decide) rfl (hts _ (List.mem_cons_of_mem _ t_419)) (fun _ h9 => h9) 9 rfl dX2_closeBlock_155 ?_
        refine lv_iload_n hx hb dX2_closeBlock_158 rfl (lv_at hl 2 rfl) ?_
        refine g_callv (va_runV (As := [.int x_16]) (rest := []) ⟨hx, hb, hml, hown, hts⟩ (r_X7_leadHere l dC dI L kd tys f H.size g.2.2.2.1 q1_ mq1_ kq1_ x_16) (cwV 1 hts (gV_ t_1350 t_1208 t_1209 t_191 t_1210) rfl rfl rfl (by decide +kernel) ⟨(Nat.le_of_ble_eq_true rfl), (Nat.le_of_ble_eq_true rfl)⟩) (pre3V g hK mq1_ kq1_ (by decide) (q := (RX7, TX7, 19)) rfl) rfl rfl hl.1 rfl (lv_room (Nat.le_of_ble_eq_true rfl)) dX2_closeBlock_159 ⟨(Nat.le_of_ble_eq_true rfl), (Nat.le_of_ble_eq_true rfl)⟩) g hK (by decide) (by decide) (fx' := [(7, 6, q1_, .int x_24), (2, 7, a0_, .ref a_17), (2, 8, a0_, .ref a_15), (5, 6, a_11, .int x_13), (2, 10, a0_, .ref a_12), (2, 1, a0_, .ref a_11), (2, 11, a0_, .int y_8), (8, 6, q0_, .int x_2), (2, 0, a0_, .ref q0_), (2, 3, a0_, .ref q1_), (8, 8, q0_, .int y0_)]) rfl (fun fr_25 H locs hp hMr_25 g => ?_)
        refine lv_iload_n hx hb dX2_closeBlock_162 rfl (lv_at hl 1 rfl) ?_
        refine lv_if_eq (tgt := 180) hx hb dX2_closeBlock_163 (by decide) (fun c_ => ?_) (fun c_ => absurd (by decide) c_)
        subst hQ
        exact W.vret hx hb hr (fun t ht hW => ⟨⟨_, rfl, Or.inl ⟨x_2, h_3, (g.fcts [7, 10] rfl)⟩, q3_of g hK ht hW⟩, g.2.2.1.F ht⟩) g.2.2.1.2.2 dX2_closeBlock_180
      · have fc_23 := eq_f c_23
        have b_26 : bd 1 1 x_18 := eqX fc_23 (bdT x_18) kb_1 (by decide)
        refine lv_aload_n hx hb dX2_closeBlock_114 rfl (lv_at hl 1 rfl) ?_
        refine g_getk (C := RX2) (T := TX2) (N := 16) hx hb hts (mc_ inX2) hown hK g rfl 0 (by decide) rfl (hts _ (List.mem_cons_of_mem _ t_416)) (fun _ h9 => h9) 7 rfl dX2_closeBlock_115 ?_
        refine g_calli (va_runV (As := []) (rest := []) ⟨hx, hb, hml, hown, hts⟩ (r_X8_kind l dC dI L kd tys f H.size g.2.2.2.1 q0_ mq0_ kq0_) (cwV 0 hts (gV_ t_1118 t_1119 t_1120 t_184 t_1121) rfl rfl rfl (by decide +kernel) ⟨(Nat.le_of_ble_eq_true rfl), (Nat.le_of_ble_eq_true rfl)⟩) (pre3V g hK mq0_ kq0_ (by decide) (q := (RX8, TX8, 10)) rfl) rfl rfl hl.1 rfl (lv_room (Nat.le_of_ble_eq_true rfl)) dX2_closeBlock_118 ⟨(Nat.le_of_ble_eq_true rfl), (Nat.le_of_ble_eq_true rfl)⟩) g hK (by decide) (by decide) (fx' := [(2, 7, a0_, .ref a_17), (2, 8, a0_, .ref a_15), (5, 6, a_11, .int x_13), (2, 10, a0_, .ref a_12), (2, 1, a0_, .ref a_11), (2, 11, a0_, .int y_8), (8, 6, q0_, .int x_2), (2, 0, a0_, .ref q0_), (2, 3, a0_, .ref q1_), (8, 8, q0_, .int y0_)]) rfl (fun r_27 fr_27 H locs hp hMr_27 g => ?_)
        refine lv_bipush (v := 24) hx hb dX2_closeBlock_121 (by decide) ?_
        have kb_24 : bd 24 24 (24 : Int32) := ⟨by decide, by decide⟩
        refine lv_icmp_ne (tgt := 130) hx hb dX2_closeBlock_123 (by decide) (fun c_28 => ?_) (fun c_28 => ?_)
        · have fc_28 := neq_f c_28
          refine lv_iconst (v := 0) hx hb dX2_closeBlock_130 (by decide) ?_
          refine lv_istore_n (lv' := [(2, .int 0), (1, .int x_16), (0, .ref a0_)]) hx hb dX2_closeBlock_131 rfl hl (by decide) rfl (fun ls hl => ?_)
          refine lv_aload_n hx hb dX2_closeBlock_132 rfl (lv_at hl 2 rfl) ?_
          refine g_getk (C := RX2) (T := TX2) (N := 16) hx hb hts (mc_ inX2) hown hK g rfl 3 (by decide) rfl (hts _ (List.mem_cons_of_mem _ t_419)) (fun _ h9 => h9) 8 rfl dX2_closeBlock_133 ?_
          refine g_geti (C := RX7) (T := TX7) (N := 19) hx hb hts (mc_ inX7) hown hK g mq1_ kq1_ (by decide) rfl 6 (by decide) rfl (hts _ (List.mem_cons_of_mem _ t_647)) (fun _ h9 => h9) rfl dX2_closeBlock_136 (fun x_29 bx_29 g => ?_)
          refine lv_istore_n (lv' := [(3, .int x_29), (2, .int 0), (1, .int x_16), (0, .ref a0_)]) hx hb dX2_closeBlock_139 rfl hl (by decide) rfl (fun ls hl => ?_)
          refine lv_iload_n hx hb dX2_closeBlock_140 rfl (lv_at hl 1 rfl) ?_
          refine lv_if_eq (tgt := 154) hx hb dX2_closeBlock_141 (by decide) (fun c_ => ?_) (fun c_ => absurd (by decide) c_)
          refine lv_aload_n hx hb dX2_closeBlock_154 rfl (lv_at hl 3 rfl) ?_
          refine g_getk (C := RX2) (T := TX2) (N := 16) hx hb hts (mc_ inX2) hown hK g rfl 3 (by decide) rfl (hts _ (List.mem_cons_of_mem _ t_419)) (fun _ h9 => h9) 9 rfl dX2_closeBlock_155 ?_
          refine lv_iload_n hx hb dX2_closeBlock_158 rfl (lv_at hl 2 rfl) ?_
          refine g_callv (va_runV (As := [.int x_16]) (rest := []) ⟨hx, hb, hml, hown, hts⟩ (r_X7_leadHere l dC dI L kd tys fr_27 H.size g.2.2.2.1 q1_ mq1_ kq1_ x_16) (cwV 1 hts (gV_ t_1350 t_1208 t_1209 t_191 t_1210) rfl rfl rfl (by decide +kernel) ⟨(Nat.le_of_ble_eq_true rfl), (Nat.le_of_ble_eq_true rfl)⟩) (pre3V g hK mq1_ kq1_ (by decide) (q := (RX7, TX7, 19)) rfl) rfl rfl hl.1 rfl (lv_room (Nat.le_of_ble_eq_true rfl)) dX2_closeBlock_159 ⟨(Nat.le_of_ble_eq_true rfl), (Nat.le_of_ble_eq_true rfl)⟩) g hK (by decide) (by decide) (fx' := [(7, 6, q1_, .int x_29), (2, 7, a0_, .ref a_17), (2, 8, a0_, .ref a_15), (5, 6, a_11, .int x_13), (2, 10, a0_, .ref a_12), (2, 1, a0_, .ref a_11), (2, 11, a0_, .int y_8), (8, 6, q0_, .int x_2), (2, 0, a0_, .ref q0_), (2, 3, a0_, .ref q1_), (8, 8, q0_, .int y0_)]) rfl (fun fr_30 H locs hp hMr_30 g => ?_)
          refine lv_iload_n hx hb dX2_closeBlock_162 rfl (lv_at hl 1 rfl) ?_
          refine lv_if_eq (tgt := 180) hx hb dX2_closeBlock_163 (by decide) (fun c_ => ?_) (fun c_ => absurd (by decide) c_)
          subst hQ
          exact W.vret hx hb hr (fun t ht hW => ⟨⟨_, rfl, Or.inl ⟨x_2, h_3, (g.fcts [7, 10] rfl)⟩, q3_of g hK ht hW⟩, g.2.2.1.F ht⟩) g.2.2.1.2.2 dX2_closeBlock_180
        · have fc_28 := eq_f c_28
          have b_31 : bd 24 24 r_27 := eqX fc_28 (bdT r_27) kb_24 (by decide)
          refine lv_iconst (v := 1) hx hb dX2_closeBlock_126 (by decide) ?_
          refine lv_goto (tgt := 131) hx hb dX2_closeBlock_127 (by decide) ?_
          refine lv_istore_n (lv' := [(2, .int 1), (1, .int x_16), (0, .ref a0_)]) hx hb dX2_closeBlock_131 rfl hl (by decide) rfl (fun ls hl => ?_)
          refine lv_aload_n hx hb dX2_closeBlock_132 rfl (lv_at hl 2 rfl) ?_
          refine g_getk (C := RX2) (T := TX2) (N := 16) hx hb hts (mc_ inX2) hown hK g rfl 3 (by decide) rfl (hts _ (List.mem_cons_of_mem _ t_419)) (fun _ h9 => h9) 8 rfl dX2_closeBlock_133 ?_
          refine g_geti (C := RX7) (T := TX7) (N := 19) hx hb hts (mc_ inX7) hown hK g mq1_ kq1_ (by decide) rfl 6 (by decide) rfl (hts _ (List.mem_cons_of_mem _ t_647)) (fun _ h9 => h9) rfl dX2_closeBlock_136 (fun x_32 bx_32 g => ?_)
          refine lv_istore_n (lv' := [(3, .int x_32), (2, .int 1), (1, .int x_16), (0, .ref a0_)]) hx hb dX2_closeBlock_139 rfl hl (by decide) rfl (fun ls hl => ?_)
          refine lv_iload_n hx hb dX2_closeBlock_140 rfl (lv_at hl 1 rfl) ?_
          refine lv_if_eq (tgt := 154) hx hb dX2_closeBlock_141 (by decide) (fun c_ => absurd c_ (by decide)) (fun c_ => ?_)
          refine lv_aload_n hx hb dX2_closeBlock_144 rfl (lv_at hl 3 rfl) ?_
          refine g_getk (C := RX2) (T := TX2) (N := 16) hx hb hts (mc_ inX2) hown hK g rfl 3 (by decide) rfl (hts _ (List.mem_cons_of_mem _ t_419)) (fun _ h9 => h9) 9 rfl dX2_closeBlock_145 ?_
          refine lv_bipush (v := 15) hx hb dX2_closeBlock_148 (by decide) ?_
          refine lv_iconst (v := 0) hx hb dX2_closeBlock_150 (by decide) ?_
          refine g_callv (va_runV (As := [.int 15, .int 0]) (rest := []) ⟨hx, hb, hml, hown, hts⟩ (r_X7_emit l dC dI L kd tys fr_27 H.size g.2.2.2.1 q1_ mq1_ kq1_ 15 0) (cwV 2 hts (gV_ t_1301 t_1204 t_1205 t_191 t_1206) rfl rfl rfl (by decide +kernel) ⟨(Nat.le_of_ble_eq_true rfl), (Nat.le_of_ble_eq_true rfl)⟩) (pre3V g hK mq1_ kq1_ (by decide) (q := (RX7, TX7, 19)) rfl) rfl rfl hl.1 rfl (lv_room (Nat.le_of_ble_eq_true rfl)) dX2_closeBlock_151 ⟨(Nat.le_of_ble_eq_true rfl), (Nat.le_of_ble_eq_true rfl)⟩) g hK (by decide) (by decide) (fx' := [(2, 7, a0_, .ref a_17), (2, 8, a0_, .ref a_15), (5, 6, a_11, .int x_13), (2, 10, a0_, .ref a_12), (2, 1, a0_, .ref a_11), (2, 11, a0_, .int y_8), (8, 6, q0_, .int x_2), (2, 0, a0_, .ref q0_), (2, 3, a0_, .ref q1_), (8, 8, q0_, .int y0_)]) rfl (fun fr_33 H locs hp hMr_33 g => ?_)
          obtain ⟨x_34, h_35, hF_36⟩ := hp
          have g := g.more hF_36
          refine lv_aload_n hx hb dX2_closeBlock_154 rfl (lv_at hl 3 rfl) ?_
          refine g_getk (C := RX2) (T := TX2) (N := 16) hx hb hts (mc_ inX2) hown hK g rfl 3 (by decide) rfl (hts _ (List.mem_cons_of_mem _ t_419)) (fun _ h9 => h9) 9 rfl dX2_closeBlock_155 ?_
          refine lv_iload_n hx hb dX2_closeBlock_158 rfl (lv_at hl 2 rfl) ?_
          refine g_callv (va_runV (As := [.int x_16]) (rest := []) ⟨hx, hb, hml, hown, hts⟩ (r_X7_leadHere l dC dI L kd tys fr_33 H.size g.2.2.2.1 q1_ mq1_ kq1_ x_16) (cwV 1 hts (gV_ t_1350 t_1208 t_1209 t_191 t_1210) rfl rfl rfl (by decide +kernel) ⟨(Nat.le_of_ble_eq_true rfl), (Nat.le_of_ble_eq_true rfl)⟩) (pre3V g hK mq1_ kq1_ (by decide) (q := (RX7, TX7, 19)) rfl) rfl rfl hl.1 rfl (lv_room (Nat.le_of_ble_eq_true rfl)) dX2_closeBlock_159 ⟨(Nat.le_of_ble_eq_true rfl), (Nat.le_of_ble_eq_true rfl)⟩) g hK (by decide) (by decide) (fx' := [(7, 6, q1_, .int x_34), (2, 7, a0_, .ref a_17), (2, 8, a0_, .ref a_15), (5, 6, a_11, .int x_13), (2, 10, a0_, .ref a_12), (2, 1, a0_, .ref a_11), (2, 11, a0_, .int y_8), (8, 6, q0_, .int x_2), (2, 0, a0_, .ref q0_), (2, 3, a0_, .ref q1_), (8, 8, q0_, .int y0_)]) rfl (fun fr_37 H locs hp hMr_37 g => ?_)
          refine lv_iload_n hx hb dX2_closeBlock_162 rfl (lv_at hl 1 rfl) ?_
          refine lv_if_eq (tgt := 180) hx hb dX2_closeBlock_163 (by decide) (fun c_ => absurd c_ (by decide)) (fun c_ => ?_)
          refine lv_aload_n hx hb dX2_closeBlock_166 rfl (lv_at hl 3 rfl) ?_
          refine g_getk (C := RX2) (T := TX2) (N := 16) hx hb hts (mc_ inX2) hown hK g rfl 0 (by decide) rfl (hts _ (List.mem_cons_of_mem _ t_416)) (fun _ h9 => h9) 8 rfl dX2_closeBlock_167 ?_
          refine g_callv (va_runV (As := []) (rest := []) ⟨hx, hb, hml, hown, hts⟩ (r_X8_next l dC dI L kd tys fr_37 H.size g.2.2.2.1 q0_ mq0_ kq0_) (cwV 0 hts (gV_ t_1131 t_1103 t_1104 t_184 t_1105) rfl rfl rfl (by decide +kernel) ⟨(Nat.le_of_ble_eq_true rfl), (Nat.le_of_ble_eq_true rfl)⟩) (pre3V g hK mq0_ kq0_ (by decide) (q := (RX8, TX8, 10)) rfl) rfl rfl hl.1 rfl (lv_room (Nat.le_of_ble_eq_true rfl)) dX2_closeBlock_170 ⟨(Nat.le_of_ble_eq_true rfl), (Nat.le_of_ble_eq_true rfl)⟩) g hK (by decide) (by decide) (fx' := [(7, 6, q1_, .int x_34), (2, 7, a0_, .ref a_17), (2, 8, a0_, .ref a_15), (5, 6, a_11, .int x_13), (2, 10, a0_, .ref a_12), (2, 1, a0_, .ref a_11), (2, 11, a0_, .int y_8), (2, 0, a0_, .ref q0_), (2, 3, a0_, .ref q1_), (8, 8, q0_, .int y0_)]) rfl (fun fr_38 H locs hp hMr_38 g => ?_)
          obtain ⟨x_39, h_40, hF_41⟩ := hp
          have g := g.more hF_41
          refine lv_aload_n hx hb dX2_closeBlock_173 rfl (lv_at hl 3 rfl) ?_
          refine lv_iconst (v := 2) hx hb dX2_closeBlock_174 (by decide) ?_
          refine lv_iload_n hx hb dX2_closeBlock_175 rfl (lv_at hl 0 rfl) ?_
          refine lv_iconst (v := (-1)) hx hb dX2_closeBlock_176 (by decide) ?_
          refine g_callv (va_runV (As := [.int 2, .int x_32, .int (-1)]) (rest := []) ⟨hx, hb, hml, hown, hts⟩ (r_X2_openBlock l dC dI L kd tys fr_38 H.size g.2.2.2.1 a0_ ma0_ ka0_ 2 x_32 (-1) q0_ mq0_ kq0_ y0_ by0_ (g.fcts [8, 10] rfl)) (cwV 3 hts (gV_ t_1338 t_1340 t_40 t_183 t_1341) rfl rfl rfl (by decide +kernel) ⟨(Nat.le_of_ble_eq_true rfl), (Nat.le_of_ble_eq_true rfl)⟩) (pre3V g hK ma0_ ka0_ (by decide) (q := (RX2, TX2, 16)) rfl) rfl rfl hl.1 rfl (lv_room (Nat.le_of_ble_eq_true rfl)) dX2_closeBlock_177 ⟨(Nat.le_of_ble_eq_true rfl), (Nat.le_of_ble_eq_true rfl)⟩) g hK (by decide) (by decide) (fx' := [(7, 6, q1_, .int x_34), (2, 7, a0_, .ref a_17), (2, 8, a0_, .ref a_15), (5, 6, a_11, .int x_13), (2, 10, a0_, .ref a_12), (2, 1, a0_, .ref a_11), (2, 0, a0_, .ref q0_), (2, 3, a0_, .ref q1_)]) rfl (fun fr_42 H locs hp hMr_42 g => ?_)
          rcases hp with ⟨x_43, h_44, x_45, h_46, hF_47⟩ | ⟨x_48, h_49, hF_50⟩
          · have g := g.more hF_47
            subst hQ
            exact W.vret hx hb hr (fun t ht hW => ⟨⟨_, rfl, Or.inl ⟨x_43, h_44, (g.fcts [0, 2] rfl)⟩, q3_of g hK ht hW⟩, g.2.2.1.F ht⟩) g.2.2.1.2.2 dX2_closeBlock_180
          · have g := g.more hF_50
            subst hQ
            exact W.vret hx hb hr (fun t ht hW => ⟨⟨_, rfl, Or.inr (⟨x_48, h_49, x_34, h_35, (g.fcts [0, 1, 2] rfl)⟩), q3_of g hK ht hW⟩, g.2.2.1.F ht⟩) g.2.2.1.2.2 dX2_closeBlock_180
    · have fc_21 := eq_f c_21
      have b_51 : bd 3 3 x_18 := eqX fc_21 (bdT x_18) kb_3 (by decide)
      refine lv_aload_n hx hb dX2_closeBlock_83 rfl (lv_at hl 1 rfl) ?_
      refine g_getk (C := RX2) (T := TX2) (N := 16) hx hb hts (mc_ inX2) hown hK g rfl 3 (by decide) rfl (hts _ (List.mem_cons_of_mem _ t_419)) (fun _ h9 => h9) 8 rfl dX2_closeBlock_84 ?_
      refine lv_bipush (v := 15) hx hb dX2_closeBlock_87 (by decide) ?_
      refine lv_aload_n hx hb dX2_closeBlock_89 rfl (lv_at hl 1 rfl) ?_
      refine g_getr (K := 120) (C := RX2) (T := TX2) (N := 16) hx hb hts (mc_ inX2) hown hK g ma0_ ka0_ (by decide) rfl 9 (by decide) rfl (hts _ (List.mem_cons_of_mem _ t_425)) (fun _ h9 => h9) rfl dX2_closeBlock_90 (fun a_52 ma_52 ka_52 g => ?_)
      refine lv_aload_n hx hb dX2_closeBlock_93 rfl (lv_at hl 1 rfl) ?_
      refine g_getk (C := RX2) (T := TX2) (N := 16) hx hb hts (mc_ inX2) hown hK g rfl 11 (by decide) rfl (hts _ (List.mem_cons_of_mem _ t_427)) (fun _ h9 => h9) 6 rfl dX2_closeBlock_94 ?_
      refine g_iald hx hb hK g ma_52 ka_52 (by decide) rfl (in_bd b_9 (by decide)) dX2_closeBlock_97 (fun x_53 bx_53 cx_53 => ?_)
      refine g_callv (va_runV (As := [.int 15, .int x_53]) (rest := []) ⟨hx, hb, hml, hown, hts⟩ (r_X7_emit l dC dI L kd tys f H.size g.2.2.2.1 q1_ mq1_ kq1_ 15 x_53) (cwV 2 hts (gV_ t_1301 t_1204 t_1205 t_191 t_1206) rfl rfl rfl (by decide +kernel) ⟨(Nat.le_of_ble_eq_true rfl), (Nat.le_of_ble_eq_true rfl)⟩) (pre3V g hK mq1_ kq1_ (by decide) (q := (RX7, TX7, 19)) rfl) rfl rfl hl.1 rfl (lv_room (Nat.le_of_ble_eq_true rfl)) dX2_closeBlock_98 ⟨(Nat.le_of_ble_eq_true rfl), (Nat.le_of_ble_eq_true rfl)⟩) g hK (by decide) (by decide) (fx' := [(2, 9, a0_, .ref a_52), (2, 7, a0_, .ref a_17), (2, 8, a0_, .ref a_15), (5, 6, a_11, .int x_13), (2, 10, a0_, .ref a_12), (2, 1, a0_, .ref a_11), (2, 11, a0_, .int y_8), (8, 6, q0_, .int x_2), (2, 0, a0_, .ref q0_), (2, 3, a0_, .ref q1_), (8, 8, q0_, .int y0_)]) rfl (fun fr_54 H locs hp hMr_54 g => ?_)
      obtain ⟨x_55, h_56, hF_57⟩ := hp
      have g := g.more hF_57
      refine lv_aload_n hx hb dX2_closeBlock_101 rfl (lv_at hl 1 rfl) ?_
      refine g_getk (C := RX2) (T := TX2) (N := 16) hx hb hts (mc_ inX2) hown hK g rfl 7 (by decide) rfl (hts _ (List.mem_cons_of_mem _ t_423)) (fun _ h9 => h9) 2 rfl dX2_closeBlock_102 ?_
      refine lv_aload_n hx hb dX2_closeBlock_105 rfl (lv_at hl 1 rfl) ?_
      refine g_getk (C := RX2) (T := TX2) (N := 16) hx hb hts (mc_ inX2) hown hK g rfl 11 (by decide) rfl (hts _ (List.mem_cons_of_mem _ t_427)) (fun _ h9 => h9) 7 rfl dX2_closeBlock_106 ?_
      refine g_iald hx hb hK g ma_17 ka_17 (by decide) rfl (in_bd b_9 (by decide)) dX2_closeBlock_109 (fun x_58 bx_58 cx_58 => ?_)
      obtain rfl : x_18 = x_58 := el_same cx_18 cx_58 (arr_eq hMr_54 ma_17 ka_17 (by decide) rfl)
      refine lv_iconst (v := 1) hx hb dX2_closeBlock_110 (by decide) ?_
      refine lv_icmp_ne (tgt := 130) hx hb dX2_closeBlock_111 (by decide) (fun c_59 => ?_) (fun c_59 => ?_)
      · have fc_59 := neq_f c_59
        refine lv_iconst (v := 0) hx hb dX2_closeBlock_130 (by decide) ?_
        refine lv_istore_n (lv' := [(2, .int 0), (1, .int x_16), (0, .ref a0_)]) hx hb dX2_closeBlock_131 rfl hl (by decide) rfl (fun ls hl => ?_)
        refine lv_aload_n hx hb dX2_closeBlock_132 rfl (lv_at hl 2 rfl) ?_
        refine g_getk (C := RX2) (T := TX2) (N := 16) hx hb hts (mc_ inX2) hown hK g rfl 3 (by decide) rfl (hts _ (List.mem_cons_of_mem _ t_419)) (fun _ h9 => h9) 10 rfl dX2_closeBlock_133 ?_
        refine g_getk (C := RX7) (T := TX7) (N := 19) hx hb hts (mc_ inX7) hown hK g rfl 6 (by decide) rfl (hts _ (List.mem_cons_of_mem _ t_647)) (fun _ h9 => h9) 0 rfl dX2_closeBlock_136 ?_
        refine lv_istore_n (lv' := [(3, .int x_55), (2, .int 0), (1, .int x_16), (0, .ref a0_)]) hx hb dX2_closeBlock_139 rfl hl (by decide) rfl (fun ls hl => ?_)
        refine lv_iload_n hx hb dX2_closeBlock_140 rfl (lv_at hl 1 rfl) ?_
        refine lv_if_eq (tgt := 154) hx hb dX2_closeBlock_141 (by decide) (fun c_ => ?_) (fun c_ => absurd (by decide) c_)
        refine lv_aload_n hx hb dX2_closeBlock_154 rfl (lv_at hl 3 rfl) ?_
        refine g_getk (C := RX2) (T := TX2) (N := 16) hx hb hts (mc_ inX2) hown hK g rfl 3 (by decide) rfl (hts _ (List.mem_cons_of_mem _ t_419)) (fun _ h9 => h9) 10 rfl dX2_closeBlock_155 ?_
        refine lv_iload_n hx hb dX2_closeBlock_158 rfl (lv_at hl 2 rfl) ?_
        refine g_callv (va_runV (As := [.int x_16]) (rest := []) ⟨hx, hb, hml, hown, hts⟩ (r_X7_leadHere l dC dI L kd tys fr_54 H.size g.2.2.2.1 q1_ mq1_ kq1_ x_16) (cwV 1 hts (gV_ t_1350 t_1208 t_1209 t_191 t_1210) rfl rfl rfl (by decide +kernel) ⟨(Nat.le_of_ble_eq_true rfl), (Nat.le_of_ble_eq_true rfl)⟩) (pre3V g hK mq1_ kq1_ (by decide) (q := (RX7, TX7, 19)) rfl) rfl rfl hl.1 rfl (lv_room (Nat.le_of_ble_eq_true rfl)) dX2_closeBlock_159 ⟨(Nat.le_of_ble_eq_true rfl), (Nat.le_of_ble_eq_true rfl)⟩) g hK (by decide) (by decide) (fx' := [(7, 6, q1_, .int x_55), (2, 9, a0_, .ref a_52), (2, 7, a0_, .ref a_17), (2, 8, a0_, .ref a_15), (5, 6, a_11, .int x_13), (2, 10, a0_, .ref a_12), (2, 1, a0_, .ref a_11), (2, 11, a0_, .int y_8), (8, 6, q0_, .int x_2), (2, 0, a0_, .ref q0_), (2, 3, a0_, .ref q1_), (8, 8, q0_, .int y0_)]) rfl (fun fr_60 H locs hp hMr_60 g => ?_)
        refine lv_iload_n hx hb dX2_closeBlock_162 rfl (lv_at hl 1 rfl) ?_
        refine lv_if_eq (tgt := 180) hx hb dX2_closeBlock_163 (by decide) (fun c_ => ?_) (fun c_ => absurd (by decide) c_)
        subst hQ
        exact W.vret hx hb hr (fun t ht hW => ⟨⟨_, rfl, Or.inl ⟨x_2, h_3, (g.fcts [8, 11] rfl)⟩, q3_of g hK ht hW⟩, g.2.2.1.F ht⟩) g.2.2.1.2.2 dX2_closeBlock_180
      · have fc_59 := eq_f c_59
        have b_61 : bd 3 1 x_18 := eqX fc_59 b_51 kb_1 (by decide)
        exact bd_no b_61 (by decide)
  · have fc_19 := eq_f c_19
    have b_62 : bd 0 0 x_18 := eqX fc_19 (bdT x_18) kb_0 (by decide)
    refine lv_aload_n hx hb dX2_closeBlock_59 rfl (lv_at hl 1 rfl) ?_
    refine g_getk (C := RX2) (T := TX2) (N := 16) hx hb hts (mc_ inX2) hown hK g rfl 3 (by decide) rfl (hts _ (List.mem_cons_of_mem _ t_419)) (fun _ h9 => h9) 8 rfl dX2_closeBlock_60 ?_
    refine lv_bipush (v := 19) hx hb dX2_closeBlock_63 (by decide) ?_
    refine lv_iconst (v := 0) hx hb dX2_closeBlock_65 (by decide) ?_
    refine g_callv (va_runV (As := [.int 19, .int 0]) (rest := []) ⟨hx, hb, hml, hown, hts⟩ (r_X7_emit l dC dI L kd tys f H.size g.2.2.2.1 q1_ mq1_ kq1_ 19 0) (cwV 2 hts (gV_ t_1301 t_1204 t_1205 t_191 t_1206) rfl rfl rfl (by decide +kernel) ⟨(Nat.le_of_ble_eq_true rfl), (Nat.le_of_ble_eq_true rfl)⟩) (pre3V g hK mq1_ kq1_ (by decide) (q := (RX7, TX7, 19)) rfl) rfl rfl hl.1 rfl (lv_room (Nat.le_of_ble_eq_true rfl)) dX2_closeBlock_66 ⟨(Nat.le_of_ble_eq_true rfl), (Nat.le_of_ble_eq_true rfl)⟩) g hK (by decide) (by decide) (fx' := [(2, 7, a0_, .ref a_17), (2, 8, a0_, .ref a_15), (5, 6, a_11, .int x_13), (2, 10, a0_, .ref a_12), (2, 1, a0_, .ref a_11), (2, 11, a0_, .int y_8), (8, 6, q0_, .int x_2), (2, 0, a0_, .ref q0_), (2, 3, a0_, .ref q1_), (8, 8, q0_, .int y0_)]) rfl (fun fr_63 H locs hp hMr_63 g => ?_)
    obtain ⟨x_64, h_65, hF_66⟩ := hp
    have g := g.more hF_66
    subst hQ
    exact W.vret hx hb hr (fun t ht hW => ⟨⟨_, rfl, Or.inl ⟨x_2, h_3, (g.fcts [7, 10] rfl)⟩, q3_of g hK ht hW⟩, g.2.2.1.F ht⟩) g.2.2.1.2.2 dX2_closeBlock_69
