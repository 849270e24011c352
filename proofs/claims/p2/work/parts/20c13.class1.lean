set_option maxHeartbeats 4000000 in
set_option maxRecDepth 100000 in
theorem r_X2_closeBlock (l : Launch) (dC : Nat → ClassId) (dI : Nat → Nat → Nat) (L : List Nat) (kd : Nat → Nat) (tys : List (ClassId × FieldType)) (f0 : Nat → va_E) (sz : Nat) (hWT : WT L kd tys f0) (a0_ : Nat) (ma0_ : a0_ ∈ L) (ka0_ : kd a0_ = 2) (q0_ : Nat) (mq0_ : q0_ ∈ L) (kq0_ : kd q0_ = 8) (q1_ : Nat) (mq1_ : q1_ ∈ L) (kq1_ : kd q1_ = 7) (hfx : Fs L kd f0 [(2, 0, a0_, .ref q0_), (2, 3, a0_, .ref q1_)]) : Met l yX2_closeBlock (.code yX2_closeBlock cX2_closeBlock 4 none :: lw_g) ({ frames := 2, cells := 0, slots := 0, locals := 46 }) (va_Pc [.ref a0_] (P3 (dC, dI) L tys f0 sz)) (va_Qv (fun (f : Nat → va_E) => (∃ z1_ : Int32, bd 1 7 z1_ ∧ ∃ z2_ : Int32, bd 1 2000 z2_ ∧ Fs L kd f [(8, 6, q0_, .int 1201), (8, 8, q0_, .int z1_), (7, 6, q1_, .int z2_)]) ∨ (∃ z0_ : Int32, bd 1 1201 z0_ ∧ Fs L kd f [(8, 6, q0_, .int z0_)])) (Q3 (dC, dI) L kd tys [(2, 11), (5, 6), (7, 6), (8, 6), (8, 8), (8, 9)] [118, 119, 120, 121, 138, 139] f0 sz) (pA L sz)) 0 0 (pA L sz) := by
  refine Met.ofW (cc := cX2_closeBlock) (maxL := 4) (ret := none) (by decide) rfl ?_
  intro p e s m args below meth c s₁ B hml hv
  obtain ⟨rfl, hsz, hP, hK, hD0⟩ := hv
  have hx := B.exec
  have hb := B.bytes
  have hr := B.returns
  have hts := atoms_spec (ws := (.code yX2_closeBlock cX2_closeBlock 4 none :: lw_g)) B.pre
  have hown : s.vm.findClass RX2 = some m.cls := findClass_of_methodNamed B.named
  have hlocks := B.notSynchronized
  subst hsz
  have g : G3 (dC, dI) L kd tys s f0 [(2, 11), (5, 6), (7, 6), (8, 6), (8, 8), (8, 9)] [118, 119, 120, 121, 138, 139] f0 s.heap [] [(2, 0, a0_, .ref q0_), (2, 3, a0_, .ref q1_)] := G3.start hP hD0 hWT hfx
  have hl := lv_entry ([.ref a0_]) (n := 4) (Nat.le_of_ble_eq_true rfl)
  rw [lg_entry_eq]
  generalize (lg_sl ([.ref a0_]) ++ List.replicate (4 - (lg_sl ([.ref a0_])).length) Slot.unset).toArray = ls at hl ⊢
  have hl : lv_has ls 4 [(0, .ref a0_)] := hl
  refine W_q (fun Q hQ => ?_)
  refine lv_aload_n hx hb dX2_closeBlock_0 rfl (lv_at hl 0 rfl) ?_
  refine g_getk (C := RX2) (T := TX2) (N := 16) hx hb hts (mc_ inX2) hown hK g rfl 0 (by decide) rfl (hts _ (List.mem_cons_of_mem _ t_416)) (fun _ h9 => h9) 0 rfl dX2_closeBlock_1 ?_
  refine g_callv (va_runV (As := []) (rest := []) ⟨hx, hb, hml, hown, hts⟩ (r_X8_next l dC dI L kd tys f0 s.heap.size g.2.2.2.1 q0_ mq0_ kq0_) (cwV 0 hts (gV_ t_1131 t_1103 t_1104 t_184 t_1105) rfl rfl rfl (by decide +kernel) ⟨(Nat.le_of_ble_eq_true rfl), (Nat.le_of_ble_eq_true rfl)⟩) (pre3V g hK mq0_ kq0_ (by decide) (q := (RX8, TX8, 10)) rfl) rfl rfl hl.1 rfl (lv_room (Nat.le_of_ble_eq_true rfl)) dX2_closeBlock_4 ⟨(Nat.le_of_ble_eq_true rfl), (Nat.le_of_ble_eq_true rfl)⟩) g hK (by decide) (by decide) (fx' := [(2, 0, a0_, .ref q0_), (2, 3, a0_, .ref q1_)]) rfl (fun fr_1 H locs hp hMr_1 g => ?_)
  obtain ⟨x_2, h_3, hF_4⟩ := hp
  have g := g.more hF_4
  refine lv_aload_n hx hb dX2_closeBlock_7 rfl (lv_at hl 0 rfl) ?_
  refine lv_aload_n hx hb dX2_closeBlock_8 rfl (lv_at hl 0 rfl) ?_
  refine g_geti (C := RX2) (T := TX2) (N := 16) hx hb hts (mc_ inX2) hown hK g ma0_ ka0_ (by decide) rfl 11 (by decide) rfl (hts _ (List.mem_cons_of_mem _ t_427)) (fun _ h9 => h9) rfl dX2_closeBlock_9 (fun x_5 bx_5 g => ?_)
  refine lv_iconst (v := 1) hx hb dX2_closeBlock_12 (by decide) ?_
  have kb_1 : bd 1 1 (1 : Int32) := ⟨by decide, by decide⟩
  refine lv_isub hx hb dX2_closeBlock_13 ?_
  refine lv_topi (fun y_6 ey_6 => ?_)
  have ty_6 := sub_bd ey_6 bx_5 kb_1 (by decide)
  have b_7 : bd (-1) 7 y_6 := sub_rg ty_6 bx_5 kb_1 (by decide)
  refine lv_iconst (v := 0) hx hb dX2_closeBlock_14 (by decide) ?_
  have kb_0 : bd 0 0 (0 : Int32) := ⟨by decide, by decide⟩
  refine va_mmax hx hb (hml.trans hl.1.symm) hown (hts _ (List.mem_cons_of_mem _ t_1312)) (hts _ (List.mem_cons_of_mem _ t_1041)) (hts _ (List.mem_cons_of_mem _ t_204)) (hts _ (List.mem_cons_of_mem _ t_1042)) (Nat.le_of_ble_eq_true rfl) (Nat.le_of_ble_eq_true rfl) (Nat.le_of_ble_eq_true rfl) (Nat.le_of_ble_eq_true rfl) dX2_closeBlock_15 ?_
  refine lv_topi (fun y_8 ey_8 => ?_)
  have ty_8 : y_8.toInt = max y_6.toInt (0 : Int32).toInt := by rw [ey_8]; exact mmax_ok _ _
  have b_9 : bd 0 7 y_8 := max_rg ty_8 b_7 kb_0 (by decide)
  refine g_put (C := RX2) (T := TX2) (N := 16) hx hb hts (mc_ inX2) tyX2 tyX2_ok nmX2 hown hK g ma0_ ka0_ (by decide) rfl 11 (by decide) (hts _ (List.mem_cons_of_mem _ t_427)) (fun _ h9 => h9) rfl rfl (okV_i (bd_sub b_9 (by decide))) rfl rfl (by decide) (Or.inr (Or.inl (by decide))) (fx' := [(8, 6, q0_, .int x_2), (2, 0, a0_, .ref q0_), (2, 3, a0_, .ref q1_)]) rfl dX2_closeBlock_18 (fun f H locs hM_10 g => ?_)
  refine lv_aload_n hx hb dX2_closeBlock_21 rfl (lv_at hl 0 rfl) ?_
  refine g_getr (K := 5) (C := RX2) (T := TX2) (N := 16) hx hb hts (mc_ inX2) hown hK g ma0_ ka0_ (by decide) rfl 1 (by decide) rfl (hts _ (List.mem_cons_of_mem _ t_417)) (fun _ h9 => h9) rfl dX2_closeBlock_22 (fun a_11 ma_11 ka_11 g => ?_)
  refine lv_aload_n hx hb dX2_closeBlock_25 rfl (lv_at hl 0 rfl) ?_
  refine g_getr (K := 121) (C := RX2) (T := TX2) (N := 16) hx hb hts (mc_ inX2) hown hK g ma0_ ka0_ (by decide) rfl 10 (by decide) rfl (hts _ (List.mem_cons_of_mem _ t_426)) (fun _ h9 => h9) rfl dX2_closeBlock_26 (fun a_12 ma_12 ka_12 g => ?_)
  refine lv_aload_n hx hb dX2_closeBlock_29 rfl (lv_at hl 0 rfl) ?_
  refine g_getk (C := RX2) (T := TX2) (N := 16) hx hb hts (mc_ inX2) hown hK g rfl 11 (by decide) rfl (hts _ (List.mem_cons_of_mem _ t_427)) (fun _ h9 => h9) 2 rfl dX2_closeBlock_30 ?_
  refine g_iald hx hb hK g ma_12 ka_12 (by decide) rfl (in_bd b_9 (by decide)) dX2_closeBlock_33 (fun x_13 bx_13 cx_13 => ?_)
  refine g_put (C := RX5) (T := TX5) (N := 9) hx hb hts (mc_ inX5) tyX5 tyX5_ok nmX5 hown hK g ma_11 ka_11 (by decide) rfl 6 (by decide) (hts _ (List.mem_cons_of_mem _ t_341)) (fun _ h9 => h9) rfl rfl (okV_i bx_13) rfl rfl (by decide) (Or.inr (Or.inl (by decide))) (fx' := [(2, 10, a0_, .ref a_12), (2, 1, a0_, .ref a_11), (2, 11, a0_, .int y_8), (8, 6, q0_, .int x_2), (2, 0, a0_, .ref q0_), (2, 3, a0_, .ref q1_)]) rfl dX2_closeBlock_34 (fun f H locs hM_14 g => ?_)
  refine lv_aload_n hx hb dX2_closeBlock_37 rfl (lv_at hl 0 rfl) ?_
  refine g_getr (K := 119) (C := RX2) (T := TX2) (N := 16) hx hb hts (mc_ inX2) hown hK g ma0_ ka0_ (by decide) rfl 8 (by decide) rfl (hts _ (List.mem_cons_of_mem _ t_424)) (fun _ h9 => h9) rfl dX2_closeBlock_38 (fun a_15 ma_15 ka_15 g => ?_)
  refine lv_aload_n hx hb dX2_closeBlock_41 rfl (lv_at hl 0 rfl) ?_
  refine g_getk (C := RX2) (T := TX2) (N := 16) hx hb hts (mc_ inX2) hown hK g rfl 11 (by decide) rfl (hts _ (List.mem_cons_of_mem _ t_427)) (fun _ h9 => h9) 4 rfl dX2_closeBlock_42 ?_
  refine g_iald hx hb hK g ma_15 ka_15 (by decide) rfl (in_bd b_9 (by decide)) dX2_closeBlock_45 (fun x_16 bx_16 cx_16 => ?_)
  refine lv_istore_n (lv' := [(1, .int x_16), (0, .ref a0_)]) hx hb dX2_closeBlock_46 rfl hl (by decide) rfl (fun ls hl => ?_)
  refine lv_aload_n hx hb dX2_closeBlock_47 rfl (lv_at hl 1 rfl) ?_
  refine g_getr (K := 118) (C := RX2) (T := TX2) (N := 16) hx hb hts (mc_ inX2) hown hK g ma0_ ka0_ (by decide) rfl 7 (by decide) rfl (hts _ (List.mem_cons_of_mem _ t_423)) (fun _ h9 => h9) rfl dX2_closeBlock_48 (fun a_17 ma_17 ka_17 g => ?_)
  refine lv_aload_n hx hb dX2_closeBlock_51 rfl (lv_at hl 1 rfl) ?_
  refine g_getk (C := RX2) (T := TX2) (N := 16) hx hb hts (mc_ inX2) hown hK g rfl 11 (by decide) rfl (hts _ (List.mem_cons_of_mem _ t_427)) (fun _ h9 => h9) 5 rfl dX2_closeBlock_52 ?_
  refine g_iald hx hb hK g ma_17 ka_17 (by decide) rfl (in_bd b_9 (by decide)) dX2_closeBlock_55 (fun x_18 bx_18 cx_18 => ?_)
  refine lv_if_ne (tgt := 70) hx hb dX2_closeBlock_56 (by decide) (fun c_19 => ?_) (fun c_19 => ?_)
  · have fc_19 := neq_f c_19
    refine lv_aload_n hx hb dX2_closeBlock_70 rfl (lv_at hl 1 rfl) ?_
    refine g_getk (C := RX2) (T := TX2) (N := 16) hx hb hts (mc_ inX2) hown hK g rfl 7 (by decide) rfl (hts _ (List.mem_cons_of_mem _ t_423)) (fun _ h9 => h9) 0 rfl dX2_closeBlock_71 ?_
    refine lv_aload_n hx hb dX2_closeBlock_74 rfl (lv_at hl 1 rfl) ?_
    refine g_getk (C := RX2) (T := TX2) (N := 16) hx hb hts (mc_ inX2) hown hK g rfl 11 (by decide) rfl (hts _ (List.mem_cons_of_mem _ t_427)) (fun _ h9 => h9) 5 rfl dX2_closeBlock_75 ?_
    refine g_iald hx hb hK g ma_17 ka_17 (by decide) rfl (in_bd b_9 (by decide)) dX2_closeBlock_78 (fun x_20 bx_20 cx_20 => ?_)
    obtain rfl : x_18 = x_20 := el_same cx_18 cx_20 rfl
    refine lv_iconst (v := 3) hx hb dX2_closeBlock_79 (by decide) ?_
    have kb_3 : bd 3 3 (3 : Int32) := ⟨by decide, by decide⟩
    refine lv_icmp_ne (tgt := 101) hx hb dX2_closeBlock_80 (by decide) (fun c_21 => ?_) (fun c_21 => ?_)
    · have fc_21 := neq_f c_21
      refine lv_aload_n hx hb dX2_closeBlock_101 rfl (lv_at hl 1 rfl) ?_
      refine g_getk (C := RX2) (T := TX2) (N := 16) hx hb hts (mc_ inX2) hown hK g rfl 7 (by decide) rfl (hts _ (List.mem_cons_of_mem _ t_423)) (fun _ h9 => h9) 0 rfl dX2_closeBlock_102 ?_
      refine lv_aload_n hx hb dX2_closeBlock_105 rfl (lv_at hl 1 rfl) ?_
      refine g_getk (C := RX2) (T := TX2) (N := 16) hx hb hts (mc_ inX2) hown hK g rfl 11 (by decide) rfl (hts _ (List.mem_cons_of_mem _ t_427)) (fun _ h9 => h9) 5 rfl dX2_closeBlock_106 ?_
      refine g_iald hx hb hK g ma_17 ka_17 (by decide) rfl (in_bd b_9 (by decide)) dX2_closeBlock_109 (fun x_22 bx_22 cx_22 => ?_)
      obtain rfl : x_18 = x_22 := el_same cx_18 cx_22 rfl
      refine lv_iconst (v := 1) hx hb dX2_closeBlock_110 (by decide) ?_
      refine lv_icmp_ne (tgt := 130) hx hb dX2_closeBlock_111 (by decide) (fun c_23 => ?_) (fun c_23 => ?_)
      · have fc_23 := neq_f c_23
        refine lv_iconst (v := 0) hx hb dX2_closeBlock_130 (by decide) ?_
        refine lv_istore_n (lv' := [(2, .int 0), (1, .int x_16), (0, .ref a0_)]) hx hb dX2_closeBlock_131 rfl hl (by decide) rfl (fun ls hl => ?_)
        refine lv_aload_n hx hb dX2_closeBlock_132 rfl (lv_at hl 2 rfl) ?_
        refine g_getk (C := RX2) (T := TX2) (N := 16) hx hb hts (mc_ inX2) hown hK g rfl 3 (by decide) rfl (hts _ (List.mem_cons_of_mem _ t_419)) (fun _ h9 => h9) 8 rfl dX2_closeBlock_133 ?_
        refine g_geti (C := RX7) (T := TX7) (N := 19) hx hb hts (mc_ inX7) hown hK g mq1_ kq1_ (by decide) rfl 6 (by decide) rfl (hts _ (List.mem_cons_of_mem _ t_647)) (fun _ h9 => h9) rfl dX2_closeBlock_136 (fun x_24 bx_24 g => ?_)
        refine lv_istore_n (lv' := [(3, .int x_24), (2, .int 0), (1, .int x_16), (0, .ref a0_)]) hx hb dX2_closeBlock_139 rfl hl (by decide) rfl (fun ls hl => ?_)
        refine lv_iload_n hx hb dX2_closeBlock_140 rfl (lv_at hl 1 rfl) ?_
        refine lv_if_eq (tgt := 154) hx hb dX2_closeBlock_141 (by decide) (fun c_ => ?_) (fun c_ => absurd (by decide) c_)
        refine lv_aload_n hx hb dX2_closeBlock_154 rfl (lv_at hl 3 rfl) ?_
        refine g_getk (C := RX2) (T := TX2) (N := 16) hx hb hts (mc_ inX2) hown hK g rfl 3 (by decide) rfl (hts _ (List.mem_cons_of_mem _ t_419)) (fun _ h9 => h9) 9 rfl dX2_closeBlock_155 ?_
        refine lv_iload_n hx hb dX2_closeBlock_158 rfl (lv_at hl 2 rfl) ?_
        refine g_callv (va_runV (As := [.int x_16]) (rest := []) ⟨hx, hb, hml, hown, hts⟩ (r_X7_leadHere l dC dI L kd tys f H.size g.2.2.2.1 q1_ mq1_ kq1_ x_16) (cwV 1 hts (gV_ t_1350 t_1208 t_1209 t_191 t_1210) rfl rfl rfl (by decide +kernel) ⟨(Nat.le_of_ble_eq_true rfl), (Nat.le_of_ble_eq_true rfl)⟩) (pre3V g hK mq1_ kq1_ (by decide) (q := (RX7, TX7, 19)) rfl) rfl rfl hl.1 rfl (lv_room (Nat.le_of_ble_eq_true rfl)) dX2_closeBlock_159 ⟨(Nat.le_of_ble_eq_true rfl), (Nat.le_of_ble_eq_true rfl)⟩) g hK (by decide) (by decide) (fx' := [(7, 6, q1_, .int x_24), (2, 7, a0_, .ref a_17), (2, 8, a0_, .ref a_15), (5, 6, a_11, .int x_13), (2, 10, a0_, .ref a_12), (2, 1, a0_, .ref a_11), (2, 11, a0_, .int y_8), (8, 6, q0_, .int x_2), (2, 0, a0_, .ref q0_), (2, 3, a0_, .ref q1_)]) rfl (fun fr_25 H locs hp hMr_25 g => ?_)
        refine lv_iload_n hx hb dX2_closeBlock_162 rfl (lv_at hl 1 rfl) ?_
        refine lv_if_eq (tgt := 180) hx hb dX2_closeBlock_163 (by decide) (fun c_ => ?_) (fun c_ => absurd (by decide) c_)
        subst hQ
        exact W.vret hx hb hr (fun t ht hW => ⟨⟨_, rfl, Or.inr (⟨x_2, h_3, (g.fcts [7] rfl)⟩), q3_of g hK ht hW⟩, g.2.2.1.F ht⟩) g.2.2.1.2.2 dX2_closeBlock_180
      · have fc_23 := eq_f c_23
        have b_26 : bd 1 1 x_18 := eqX fc_23 (bdT x_18) kb_1 (by decide)
        refine lv_aload_n hx hb dX2_closeBlock_114 rfl (lv_at hl 1 rfl) ?_
        refine g_getk (C := RX2) (T := TX2) (N := 16) hx hb hts (mc_ inX2) hown hK g rfl 0 (by decide) rfl (hts _ (List.mem_cons_of_mem _ t_416)) (fun _ h9 => h9) 7 rfl dX2_closeBlock_115 ?_
        refine g_calli (va_runV (As := []) (rest := []) ⟨hx, hb, hml, hown, hts⟩ (r_X8_kind l dC dI L kd tys f H.size g.2.2.2.1 q0_ mq0_ kq0_) (cwV 0 hts (gV_ t_1118 t_1119 t_1120 t_184 t_1121) rfl rfl rfl (by decide +kernel) ⟨(Nat.le_of_ble_eq_true rfl), (Nat.le_of_ble_eq_true rfl)⟩) (pre3V g hK mq0_ kq0_ (by decide) (q := (RX8, TX8, 10)) rfl) rfl rfl hl.1 rfl (lv_room (Nat.le_of_ble_eq_true rfl)) dX2_closeBlock_118 ⟨(Nat.le_of_ble_eq_true rfl), (Nat.le_of_ble_eq_true rfl)⟩) g hK (by decide) (by decide) (fx' := [(2, 7, a0_, .ref a_17), (2, 8, a0_, .ref a_15), (5, 6, a_11, .int x_13), (2, 10, a0_, .ref a_12), (2, 1, a0_, .ref a_11), (2, 11, a0_, .int y_8), (8, 6, q0_, .int x_2), (2, 0, a0_, .ref q0_), (2, 3, a0_, .ref q1_)]) rfl (fun r_27 fr_27 H locs hp hMr_27 g => ?_)
        refine lv_bipush (v := 24) hx hb dX2_closeBlock_121 (by decide) ?_
        have kb_24 : bd 24 24 (24 : Int32) := ⟨by decide, by decide⟩
        refine lv_icmp_ne (tgt := 130) hx hb dX2_closeBlock_123 (by decide) (fun c_28 => ?_) (fun c_28 => ?_)
        · have fc_28 := neq_f c_28
          refine lv_iconst (v := 0) hx hb dX2_closeBlock_130 (by decide) ?_
          refine lv_istore_n (lv' := [(2, .int 0), (1, .int x_16), (0, .ref a0_)]) hx hb dX2_closeBlock_131 rfl hl (by decide) rfl (fun ls hl => ?_)
          refine lv_aload_n hx hb dX2_closeBlock_132 rfl (lv_at hl 2 rfl) ?_
          refine g_getk (C := RX2) (T := TX2) (N := 16) hx hb hts (mc_ inX2) hown hK g rfl 3 (by decide) rfl (hts _ (List.mem_cons_of_mem _ t_419)) (fun _ h9 => h9) 8 rfl dX2_closeBlock_133 ?_
          refine g_geti (C := RX7) (T := TX7) (N := 19) hx hb hts (mc_ inX7) hown hK g mq1_ kq1_ (by decide) rfl 6 (by decide) rfl (hts _ (List.mem_cons_of_mem _ t_647)) (fun _ h9 => h9) rfl dX2_closeBlock_136 (fun x_29 bx_29 g => ?_)
          refine lv_istore_n (lv' := [(3, .int x_29), (2, .int 0), (1, .int x_16), (0, .ref a0_)]) hx hb dX2_closeBlock_139 rfl hl (by decide) rfl (fun ls hl => ?_)
          refine lv_iload_n hx hb dX2_closeBlock_140 rfl (lv_at hl 1 rfl) ?_
          refine lv_if_eq (tgt := 154) hx hb dX2_closeBlock_141 (by decide) (fun c_ => ?_) (fun c_ => absurd (by decide) c_)
          refine lv_aload_n hx hb dX2_closeBlock_154 rfl (lv_at hl 3 rfl) ?_
          refine g_getk (C := RX2) (T := TX2) (N := 16) hx hb hts (mc_ inX2) hown hK g rfl 3 (by decide) rfl (hts _ (List.mem_cons_of_mem _ t_419)) (fun _ h9 => h9) 9 rfl dX2_closeBlock_155 ?_
          refine lv_iload_n hx hb dX2_closeBlock_158 rfl (lv_at hl 2 rfl) ?_
          refine g_callv (va_runV (As := [.int x_16]) (rest := []) ⟨hx, hb, hml, hown, hts⟩ (r_X7_leadHere l dC dI L kd tys fr_27 H.size g.2.2.2.1 q1_ mq1_ kq1_ x_16) (cwV 1 hts (gV_ t_1350 t_1208 t_1209 t_191 t_1210) rfl rfl rfl (by decide +kernel) ⟨(Nat.le_of_ble_eq_true rfl), (Nat.le_of_ble_eq_true rfl)⟩) (pre3V g hK mq1_ kq1_ (by decide) (q := (RX7, TX7, 19)) rfl) rfl rfl hl.1 rfl (lv_room (Nat.le_of_ble_eq_true rfl)) dX2_closeBlock_159 ⟨(Nat.le_of_ble_eq_true rfl), (Nat.le_of_ble_eq_true rfl)⟩) g hK (by decide) (by decide) (fx' := [(7, 6, q1_, .int x_29), (2, 7, a0_, .ref a_17), (2, 8, a0_, .ref a_15), (5, 6, a_11, .int x_13), (2, 10, a0_, .ref a_12), (2, 1, a0_, .ref a_11), (2, 11, a0_, .int y_8), (8, 6, q0_, .int x_2), (2, 0, a0_, .ref q0_), (2, 3, a0_, .ref q1_)]) rfl (fun fr_30 H locs hp hMr_30 g => ?_)
          refine lv_iload_n hx hb dX2_closeBlock_162 rfl (lv_at hl 1 rfl) ?_
          refine lv_if_eq (tgt := 180) hx hb dX2_closeBlock_163 (by decide) (fun c_ => ?_) (fun c_ => absurd (by decide) c_)
          subst hQ
          exact W.vret hx hb hr (fun t ht hW => ⟨⟨_, rfl, Or.inr (⟨x_2, h_3, (g.fcts [7] rfl)⟩), q3_of g hK ht hW⟩, g.2.2.1.F ht⟩) g.2.2.1.2.2 dX2_closeBlock_180
        · have fc_28 := eq_f c_28
          have b_31 : bd 24 24 r_27 := eqX fc_28 (bdT r_27) kb_24 (by decide)
          refine lv_iconst (v := 1) hx hb dX2_closeBlock_126 (by decide) ?_
          refine lv_goto (tgt := 131) hx hb dX2_closeBlock_127 (by decide) ?_
          refine lv_istore_n (lv' := [(2, .int 1), (1, .int x_16), (0, .ref a0_)]) hx hb dX2_closeBlock_131 rfl hl (by decide) rfl (fun ls hl => ?_)
          refine lv_aload_n hx hb dX2_closeBlock_132 rfl (lv_at hl 2 rfl) ?_
          refine g_getk (C := RX2) (T := TX2) (N := 16) hx hb hts (mc_ inX2) hown hK g rfl 3 (by decide) rfl (hts _ (List.mem_cons_of_mem _ t_419)) (fun _ h9 => h9) 8 rfl dX2_closeBlock_133 ?_
          refine g_geti (C := RX7) (T := TX7) (N := 19) hx hb hts (mc_ inX7) hown hK g mq1_ kq1_ (by decide) rfl 6 (by decide) rfl (hts _ (List.mem_cons_of_mem _ t_647)) (fun _ h9 => h9) rfl dX2_closeBlock_136 (fun x_32 bx_32 g => ?_)
          refine lv_istore_n (lv' := [(3, .int x_32), (2, .int 1), (1, .int x_16), (0, .ref a0_)]) hx hb dX2_closeBlock_139 rfl hl (by decide) rfl (fun ls hl => ?_)
          refine lv_iload_n hx hb dX2_closeBlock_140 rfl (lv_at hl 1 rfl) ?_
          refine lv_if_eq (tgt := 154) hx hb dX2_closeBlock_141 (by decide) (fun c_ => absurd c_ (by decide)) (fun c_ => ?_)
          refine lv_aload_n hx hb dX2_closeBlock_144 rfl (lv_at hl 3 rfl) ?_
          refine g_getk (C := RX2) (T := TX2) (N := 16) hx hb hts (mc_ inX2) hown hK g rfl 3 (by decide) rfl (hts _ (List.mem_cons_of_mem _ t_419)) (fun _ h9 => h9) 9 rfl dX2_closeBlock_145 ?_
          refine lv_bipush (v := 15) hx hb dX2_closeBlock_148 (by decide) ?_
          refine lv_iconst (v := 0) hx hb dX2_closeBlock_150 (by decide) ?_
          refine g_callv (va_runV (As := [.int 15, .int 0]) (rest := []) ⟨hx, hb, hml, hown, hts⟩ (r_X7_emit l dC dI L kd tys fr_27 H.size g.2.2.2.1 q1_ mq1_ kq1_ 15 0) (cwV 2 hts (gV_ t_1301 t_1204 t_1205 t_191 t_1206) rfl rfl rfl (by decide +kernel) ⟨(Nat.le_of_ble_eq_true rfl), (Nat.le_of_ble_eq_true rfl)⟩) (pre3V g hK mq1_ kq1_ (by decide) (q := (RX7, TX7, 19)) rfl) rfl rfl hl.1 rfl (lv_room (Nat.le_of_ble_eq_true rfl)) dX2_closeBlock_151 ⟨(Nat.le_of_ble_eq_true rfl), (Nat.le_of_ble_eq_true rfl)⟩) g hK (by decide) (by decide) (fx' := [(2, 7, a0_, .ref a_17), (2, 8, a0_, .ref a_15), (5, 6, a_11, .int x_13), (2, 10, a0_, .ref a_12), (2, 1, a0_, .ref a_11), (2, 11, a0_, .int y_8), (8, 6, q0_, .int x_2), (2, 0, a0_, .ref q0_), (2, 3, a0_, .ref q1_)]) rfl (fun fr_33 H locs hp hMr_33 g => ?_)
          obtain ⟨x_34, h_35, hF_36⟩ := hp
          have g := g.more hF_36
          refine lv_aload_n hx hb dX2_closeBlock_154 rfl (lv_at hl 3 rfl) ?_
          refine g_getk (C := RX2) (T := TX2) (N := 16) hx hb hts (mc_ inX2) hown hK g rfl 3 (by decide) rfl (hts _ (List.mem_cons_of_mem _ t_419)) (fun _ h9 => h9) 9 rfl dX2_closeBlock_155 ?_
          refine lv_iload_n hx hb dX2_closeBlock_158 rfl (lv_at hl 2 rfl) ?_
          refine g_callv (va_runV (As := [.int x_16]) (rest := []) ⟨hx, hb, hml, hown, hts⟩ (r_X7_leadHere l dC dI L kd tys fr_33 H.size g.2.2.2.1 q1_ mq1_ kq1_ x_16) (cwV 1 hts (gV_ t_1350 t_1208 t_1209 t_191 t_1210) rfl rfl rfl (by decide +kernel) ⟨(Nat.le_of_ble_eq_true rfl), (Nat.le_of_ble_eq_true rfl)⟩) (pre3V g hK mq1_ kq1_ (by decide) (q := (RX7, TX7, 19)) rfl) rfl rfl hl.1 rfl (lv_room (Nat.le_of_ble_eq_true rfl)) dX2_closeBlock_159 ⟨(Nat.le_of_ble_eq_true rfl), (Nat.le_of_ble_eq_true rfl)⟩) g hK (by decide) (by decide) (fx' := [(7, 6, q1_, .int x_34), (2, 7, a0_, .ref a_17), (2, 8, a0_, .ref a_15), (5, 6, a_11, .int x_13), (2, 10, a0_, .ref a_12), (2, 1, a0_, .ref a_11), (2, 11, a0_, .int y_8), (8, 6, q0_, .int x_2), (2, 0, a0_, .ref q0_), (2, 3, a0_, .ref q1_)]) rfl (fun fr_37 H locs hp hMr_37 g => ?_)
          refine lv_iload_n hx hb dX2_closeBlock_162 rfl (lv_at hl 1 rfl) ?_
          refine lv_if_eq (tgt := 180) hx hb dX2_closeBlock_163 (by decide) (fun c_ => absurd c_ (by decide)) (fun c_ => ?_)
          refine lv_aload_n hx hb dX2_closeBlock_166 rfl (lv_at hl 3 rfl) ?_
          refine g_getk (C := RX2) (T := TX2) (N := 16) hx hb hts (mc_ inX2) hown hK g rfl 0 (by decide) rfl (hts _ (List.mem_cons_of_mem _ t_416)) (fun _ h9 => h9) 8 rfl dX2_closeBlock_167 ?_
          refine g_callv (va_runV (As := []) (rest := []) ⟨hx, hb, hml, hown, hts⟩ (r_X8_next l dC dI L kd tys fr_37 H.size g.2.2.2.1 q0_ mq0_ kq0_) (cwV 0 hts (gV_ t_1131 t_1103 t_1104 t_184 t_1105) rfl rfl rfl (by decide +kernel) ⟨(Nat.le_of_ble_eq_true rfl), (Nat.le_of_ble_eq_true rfl)⟩) (pre3V g hK mq0_ kq0_ (by decide) (q := (RX8, TX8, 10)) rfl) rfl rfl hl.1 rfl (lv_room (Nat.le_of_ble_eq_true rfl)) dX2_closeBlock_170 ⟨(Nat.le_of_ble_eq_true rfl), (Nat.le_of_ble_eq_true rfl)⟩) g hK (by decide) (by decide) (fx' := [(7, 6, q1_, .int x_34), (2, 7, a0_, .ref a_17), (2, 8, a0_, .ref a_15), (5, 6, a_11, .int x_13), (2, 10, a0_, .ref a_12), (2, 1, a0_, .ref a_11), (2, 11, a0_, .int y_8), (2, 0, a0_, .ref q0_), (2, 3, a0_, .ref q1_)]) rfl (fun fr_38 H locs hp hMr_38 g => ?_)
          obtain ⟨x_39, h_40, hF_41⟩ := hp
          have g := g.more hF_41
          refine lv_aload_n hx hb dX2_closeBlock_173 rfl (lv_at hl 3 rfl) ?_
          refine lv_iconst (v := 2) hx hb dX2_closeBlock_174 (by decide) ?_
          refine lv_iload_n hx hb dX2_closeBlock_175 rfl (lv_at hl 0 rfl) ?_
          refine lv_iconst (v := (-1)) hx hb dX2_closeBlock_176 (by decide) ?_
          refine g_callv (va_runV (As := [.int 2, .int x_32, .int (-1)]) (rest := []) ⟨hx, hb, hml, hown, hts⟩ (r_X2_openBlock l dC dI L kd tys fr_38 H.size g.2.2.2.1 a0_ ma0_ ka0_ 2 x_32 (-1) q0_ mq0_ kq0_ (g.fcts [8] rfl)) (cwV 3 hts (gV_ t_1338 t_1340 t_40 t_183 t_1341) rfl rfl rfl (by decide +kernel) ⟨(Nat.le_of_ble_eq_true rfl), (Nat.le_of_ble_eq_true rfl)⟩) (pre3V g hK ma0_ ka0_ (by decide) (q := (RX2, TX2, 16)) rfl) rfl rfl hl.1 rfl (lv_room (Nat.le_of_ble_eq_true rfl)) dX2_closeBlock_177 ⟨(Nat.le_of_ble_eq_true rfl), (Nat.le_of_ble_eq_true rfl)⟩) g hK (by decide) (by decide) (fx' := [(7, 6, q1_, .int x_34), (2, 7, a0_, .ref a_17), (2, 8, a0_, .ref a_15), (5, 6, a_11, .int x_13), (2, 10, a0_, .ref a_12), (2, 1, a0_, .ref a_11), (2, 0, a0_, .ref q0_), (2, 3, a0_, .ref q1_)]) rfl (fun fr_42 H locs hp hMr_42 g => ?_)
          rcases hp with ⟨x_43, h_44, hF_45⟩ | ⟨x_46, h_47, x_48, h_49, hF_50⟩
          · have g := g.more hF_45
            subst hQ
            exact W.vret hx hb hr (fun t ht hW => ⟨⟨_, rfl, Or.inl ⟨x_43, h_44, x_34, h_35, (g.fcts [0, 1, 2] rfl)⟩, q3_of g hK ht hW⟩, g.2.2.1.F ht⟩) g.2.2.1.2.2 dX2_closeBlock_180
          · have g := g.more hF_50
            subst hQ
            exact W.vret hx hb hr (fun t ht hW => ⟨⟨_, rfl, Or.inr (⟨x_46, h_47, (g.fcts [0] rfl)⟩), q3_of g hK ht hW⟩, g.2.2.1.F ht⟩) g.2.2.1.2.2 dX2_closeBlock_180
    · have fc_21 := eq_f c_21
      have b_51 : bd 3 3 x_18 := eqX fc_21 (bdT x_18) kb_3 (by decide)
      refine lv_aload_n hx hb dX2_closeBlock_83 rfl (lv_at hl 1 rfl) ?_
      refine g_getk (C := RX2) (T := TX2) (N := 16) hx hb hts (mc_ inX2) hown hK g rfl 3 (by decide) rfl (hts _ (List.mem_cons_of_mem _ t_419)) (fun _ h9 => h9) 8 rfl dX2_closeBlock_84 ?_
      refine lv_bipush (v := 15) hx hb dX2_closeBlock_87 (by decide) ?_
      refine lv_aload_n hx hb dX2_closeBlock_89 rfl (lv_at hl 1 rfl) ?_
      refine g_getr (K := 120) (C := RX2) (T := TX2) (N := 16) hx hb hts (mc_ inX2) hown hK g ma0_ ka0_ (by decide) rfl 9 (by decide) rfl (hts _ (List.mem_cons_of_mem _ t_425)) (fun _ h9 => h9) rfl dX2_closeBlock_90 (fun a_52 ma_52 ka_52 g => ?_)
      refine lv_aload_n hx hb dX2_closeBlock_93 rfl (lv_at hl 1 rfl) ?_
      refine g_getk (C := RX2) (T := TX2) (N := 16) hx hb hts (mc_ inX2) hown hK g rfl 11 (by decide) rfl (hts _ (List.mem_cons_of_mem _ t_427)) (fun _ h9 => h9) 6 rfl dX2_closeBlock_94 ?_
      refine g_iald hx hb hK g ma_52 ka_52 (by decide) rfl (in_bd b_9 (by decide)) dX2_closeBlock_97 (fun x_53 bx_53 cx_53 => ?_)
      refine g_callv (va_runV (As := [.int 15, .int x_53]) (rest := []) ⟨hx, hb, hml, hown, hts⟩ (r_X7_emit l dC dI L kd tys f H.size g.2.2.2.1 q1_ mq1_ kq1_ 15 x_53) (cwV 2 hts (gV_ t_1301 t_1204 t_1205 t_191 t_1206) rfl rfl rfl (by decide +kernel) ⟨(Nat.le_of_ble_eq_true rfl), (Nat.le_of_ble_eq_true rfl)⟩) (pre3V g hK mq1_ kq1_ (by decide) (q := (RX7, TX7, 19)) rfl) rfl rfl hl.1 rfl (lv_room (Nat.le_of_ble_eq_true rfl)) dX2_closeBlock_98 ⟨(Nat.le_of_ble_eq_true rfl), (Nat.le_of_ble_eq_true rfl)⟩) g hK (by decide) (by decide) (fx' := [(2, 9, a0_, .ref a_52), (2, 7, a0_, .ref a_17), (2, 8, a0_, .ref a_15), (5, 6, a_11, .int x_13), (2, 10, a0_, .ref a_12), (2, 1, a0_, .ref a_11), (2, 11, a0_, .int y_8), (8, 6, q0_, .int x_2), (2, 0, a0_, .ref q0_), (2, 3, a0_, .ref q1_)]) rfl (fun fr_54 H locs hp hMr_54 g => ?_)
      obtain ⟨x_55, h_56, hF_57⟩ := hp
      have g := g.more hF_57
      refine lv_aload_n hx hb dX2_closeBlock_101 rfl (lv_at hl 1 rfl) ?_
      refine g_getk (C := RX2) (T := TX2) (N := 16) hx hb hts (mc_ inX2) hown hK g rfl 7 (by decide) rfl (hts _ (List.mem_cons_of_mem _ t_423)) (fun _ h9 => h9) 2 rfl dX2_closeBlock_102 ?_
      refine lv_aload_n hx hb dX2_closeBlock_105 rfl (lv_at hl 1 rfl) ?_
      refine g_getk (C := RX2) (T := TX2) (N := 16) hx hb hts (mc_ inX2) hown hK g rfl 11 (by decide) rfl (hts _ (List.mem_cons_of_mem _ t_427)) (fun _ h9 => h9) 7 rfl dX2_closeBlock_106 ?_
      refine g_iald hx hb hK g ma_17 ka_17 (by decide) rfl (in_bd b_9 (by decide)) dX2_closeBlock_109 (fun x_58 bx_58 cx_58 => ?_)
      obtain rfl : x_18 = x_58 := el_same cx_18 cx_58 (arr_eq hMr_54 ma_17 ka_17 (by decide) rfl)
      refine lv_iconst (v := 1) hx hb dX2_closeBlock_110 (by decide) ?_
      refine lv_icmp_ne (tgt := 130) hx hb dX2_closeBlock_111 (by decide) (fun c_59 => ?_) (fun c_59 => ?_)
      · have fc_59 := neq_f c_59
        refine lv_iconst (v := 0) hx hb dX2_closeBlock_130 (by decide) ?_
        refine lv_istore_n (lv' := [(2, .int 0), (1, .int x_16), (0, .ref a0_)]) hx hb dX2_closeBlock_131 rfl hl (by decide) rfl (fun ls hl => ?_)
        refine lv_aload_n hx hb dX2_closeBlock_132 rfl (lv_at hl 2 rfl) ?_
        refine g_getk (C := RX2) (T := TX2) (N := 16) hx hb hts (mc_ inX2) hown hK g rfl 3 (by decide) rfl (hts _ (List.mem_cons_of_mem _ t_419)) (fun _ h9 => h9) 10 rfl dX2_closeBlock_133 ?_
        refine g_getk (C := RX7) (T := TX7) (N := 19) hx hb hts (mc_ inX7) hown hK g rfl 6 (by decide) rfl (hts _ (List.mem_cons_of_mem _ t_647)) (fun _ h9 => h9) 0 rfl dX2_closeBlock_136 ?_
        refine lv_istore_n (lv' := [(3, .int x_55), (2, .int 0), (1, .int x_16), (0, .ref a0_)]) hx hb dX2_closeBlock_139 rfl hl (by decide) rfl (fun ls hl => ?_)
        refine lv_iload_n hx hb dX2_closeBlock_140 rfl (lv_at hl 1 rfl) ?_
        refine lv_if_eq (tgt := 154) hx hb dX2_closeBlock_141 (by decide) (fun c_ => ?_) (fun c_ => absurd (by decide) c_)
        refine lv_aload_n hx hb dX2_closeBlock_154 rfl (lv_at hl 3 rfl) ?_
        refine g_getk (C := RX2) (T := TX2) (N := 16) hx hb hts (mc_ inX2) hown hK g rfl 3 (by decide) rfl (hts _ (List.mem_cons_of_mem _ t_419)) (fun _ h9 => h9) 10 rfl dX2_closeBlock_155 ?_
        refine lv_iload_n hx hb dX2_closeBlock_158 rfl (lv_at hl 2 rfl) ?_
        refine g_callv (va_runV (As := [.int x_16]) (rest := []) ⟨hx, hb, hml, hown, hts⟩ (r_X7_leadHere l dC dI L kd tys fr_54 H.size g.2.2.2.1 q1_ mq1_ kq1_ x_16) (cwV 1 hts (gV_ t_1350 t_1208 t_1209 t_191 t_1210) rfl rfl rfl (by decide +kernel) ⟨(Nat.le_of_ble_eq_true rfl), (Nat.le_of_ble_eq_true rfl)⟩) (pre3V g hK mq1_ kq1_ (by decide) (q := (RX7, TX7, 19)) rfl) rfl rfl hl.1 rfl (lv_room (Nat.le_of_ble_eq_true rfl)) dX2_closeBlock_159 ⟨(Nat.le_of_ble_eq_true rfl), (Nat.le_of_ble_eq_true rfl)⟩) g hK (by decide) (by decide) (fx' := [(7, 6, q1_, .int x_55), (2, 9, a0_, .ref a_52), (2, 7, a0_, .ref a_17), (2, 8, a0_, .ref a_15), (5, 6, a_11, .int x_13), (2, 10, a0_, .ref a_12), (2, 1, a0_, .ref a_11), (2, 11, a0_, .int y_8), (8, 6, q0_, .int x_2), (2, 0, a0_, .ref q0_), (2, 3, a0_, .ref q1_)]) rfl (fun fr_60 H locs hp hMr_60 g => ?_)
        refine lv_iload_n hx hb dX2_closeBlock_162 rfl (lv_at hl 1 rfl) ?_
        refine lv_if_eq (tgt := 180) hx hb dX2_closeBlock_163 (by decide) (fun c_ => ?_) (fun c_ => absurd (by decide) c_)
        subst hQ
        exact W.vret hx hb hr (fun t ht hW => ⟨⟨_, rfl, Or.inr (⟨x_2, h_3, (g.fcts [8] rfl)⟩), q3_of g hK ht hW⟩, g.2.2.1.F ht⟩) g.2.2.1.2.2 dX2_closeBlock_180
      · have fc_59 := eq_f c_59
        have b_61 : bd 3 1 x_18 := eqX fc_59 b_51 kb_1 (by decide)
        exact bd_no b_61 (by decide)
  · have fc_19 := eq_f c_19
    have b_62 : bd 0 0 x_18 := eqX fc_19 (bdT x_18) kb_0 (by decide)
    refine lv_aload_n hx hb dX2_closeBlock_59 rfl (lv_at hl 1 rfl) ?_
    refine g_getk (C := RX2) (T := TX2) (N := 16) hx hb hts (mc_ inX2) hown hK g rfl 3 (by decide) rfl (hts _ (List.mem_cons_of_mem _ t_419)) (fun _ h9 => h9) 8 rfl dX2_closeBlock_60 ?_
    refine lv_bipush (v := 19) hx hb dX2_closeBlock_63 (by decide) ?_
    refine lv_iconst (v := 0) hx hb dX2_closeBlock_65 (by decide) ?_
    refine g_callv (va_runV (As := [.int 19, .int 0]) (rest := []) ⟨hx, hb, hml, hown, hts⟩ (r_X7_emit l dC dI L kd tys f H.size g.2.2.2.1 q1_ mq1_ kq1_ 19 0) (cwV 2 hts (gV_ t_1301 t_1204 t_1205 t_191 t_1206) rfl rfl rfl (by decide +kernel) ⟨(Nat.le_of_ble_eq_true rfl), (Nat.le_of_ble_eq_true rfl)⟩) (pre3V g hK mq1_ kq1_ (by decide) (q := (RX7, TX7, 19)) rfl) rfl rfl hl.1 rfl (lv_room (Nat.le_of_ble_eq_true rfl)) dX2_closeBlock_66 ⟨(Nat.le_of_ble_eq_true rfl), (Nat.le_of_ble_eq_true rfl)⟩) g hK (by decide) (by decide) (fx' := [(2, 7, a0_, .ref a_17), (2, 8, a0_, .ref a_15), (5, 6, a_11, .int x_13), (2, 10, a0_, .ref a_12), (2, 1, a0_, .ref a_11), (2, 11, a0_, .int y_8), (8, 6, q0_, .int x_2), (2, 0, a0_, .ref q0_), (2, 3, a0_, .ref q1_)]) rfl (fun fr_63 H locs hp hMr_63 g => ?_)
    obtain ⟨x_64, h_65, hF_66⟩ := hp
    have g := g.more hF_66
    subst hQ
    exact W.vret hx hb hr (fun t ht hW => ⟨⟨_, rfl, Or.inr (⟨x_2, h_3, (g.fcts [7] rfl)⟩), q3_of g hK ht hW⟩, g.2.2.1.F ht⟩) g.2.2.1.2.2 dX2_closeBlock_69
set_option maxHeartbeats 4000000 in
set_option maxRecDepth 100000 in
theorem r_X2_startsStatement (l : Launch) (dC : Nat → ClassId) (dI : Nat → Nat → Nat) (L : List Nat) (kd : Nat → Nat) (tys : List (ClassId × FieldType)) (f0 : Nat → va_E) (sz : Nat) (hWT : WT L kd tys f0) (x0_ : Int32) : Met l yX2_startsStatement (.code yX2_startsStatement cX2_startsStatement 1 (some .boolean) :: lw_g) ({ frames := 0, cells := 0, slots := 0, locals := 0 }) (va_Pc [.int x0_] (P3 (dC, dI) L tys f0 sz)) (va_Qi (fun (r : Int32) (f : Nat → va_E) => (r = 0 ∧ True) ∨ (r = 1 ∧ bd 3 27 x0_ ∧ True)) (Q3 (dC, dI) L kd tys [] [] f0 sz) (pA L sz)) 0 0 (pA L sz) := by
  refine Met.ofW (cc := cX2_startsStatement) (maxL := 1) (ret := (some .boolean)) (by decide) rfl ?_
  intro p e s m args below meth c s₁ B hml hv
  obtain ⟨rfl, hsz, hP, hK, hD0⟩ := hv
  have hx := B.exec
  have hb := B.bytes
  have hr := B.returns
  have hts := atoms_spec (ws := (.code yX2_startsStatement cX2_startsStatement 1 (some .boolean) :: lw_g)) B.pre
  have hown : s.vm.findClass RX2 = some m.cls := findClass_of_methodNamed B.named
  have hlocks := B.notSynchronized
  subst hsz
  have g : G3 (dC, dI) L kd tys s f0 [] [] f0 s.heap [] [] := G3.start hP hD0 hWT Fs.nil
  have hl := lv_entry ([.int x0_]) (n := 1) (Nat.le_of_ble_eq_true rfl)
  rw [lg_entry_eq]
  generalize (lg_sl ([.int x0_]) ++ List.replicate (1 - (lg_sl ([.int x0_])).length) Slot.unset).toArray = ls at hl ⊢
  have hl : lv_has ls 1 [(0, .int x0_)] := hl
  refine W_q (fun Q hQ => ?_)
  refine lv_iload_n hx hb dX2_startsStatement_0 rfl (lv_at hl 0 rfl) ?_
  refine lv_iconst (v := 3) hx hb dX2_startsStatement_1 (by decide) ?_
  have kb_3 : bd 3 3 (3 : Int32) := ⟨by decide, by decide⟩
  refine lv_icmp_eq (tgt := 29) hx hb dX2_startsStatement_2 (by decide) (fun c_1 => ?_) (fun c_1 => ?_)
  · have fc_1 := eq_f c_1
    have b_2 : bd 3 3 x0_ := eqX fc_1 (bdT x0_) kb_3 (by decide)
    refine lv_iconst (v := 1) hx hb dX2_startsStatement_29 (by decide) ?_
    refine lv_goto (tgt := 34) hx hb dX2_startsStatement_30 (by decide) ?_
    subst hQ
    have kb_1 : bd 1 1 (1 : Int32) := ⟨by decide, by decide⟩
    exact W.zret (v := 1) hx hb hr (nar_z (bd_sub kb_1 (by decide) : bd 0 1 _).1 (bd_sub kb_1 (by decide) : bd 0 1 _).2) (fun t ht hW => ⟨⟨_, _, rfl, Or.inr (⟨rfl, (bd_sub b_2 (by decide)), trivial⟩), q3_of g hK ht hW⟩, g.2.2.1.F ht⟩) g.2.2.1.2.2 dX2_startsStatement_34
  · have fc_1 := neq_f c_1
    refine lv_iload_n hx hb dX2_startsStatement_5 rfl (lv_at hl 0 rfl) ?_
    refine lv_bipush (v := 11) hx hb dX2_startsStatement_6 (by decide) ?_
    have kb_11 : bd 11 11 (11 : Int32) := ⟨by decide, by decide⟩
    refine lv_icmp_eq (tgt := 29) hx hb dX2_startsStatement_8 (by decide) (fun c_3 => ?_) (fun c_3 => ?_)
    · have fc_3 := eq_f c_3
      have b_4 : bd 11 11 x0_ := eqX fc_3 (bdT x0_) kb_11 (by decide)
      refine lv_iconst (v := 1) hx hb dX2_startsStatement_29 (by decide) ?_
      refine lv_goto (tgt := 34) hx hb dX2_startsStatement_30 (by decide) ?_
      subst hQ
      have kb_1 : bd 1 1 (1 : Int32) := ⟨by decide, by decide⟩
      exact W.zret (v := 1) hx hb hr (nar_z (bd_sub kb_1 (by decide) : bd 0 1 _).1 (bd_sub kb_1 (by decide) : bd 0 1 _).2) (fun t ht hW => ⟨⟨_, _, rfl, Or.inr (⟨rfl, (bd_sub b_4 (by decide)), trivial⟩), q3_of g hK ht hW⟩, g.2.2.1.F ht⟩) g.2.2.1.2.2 dX2_startsStatement_34
    · have fc_3 := neq_f c_3
      refine lv_iload_n hx hb dX2_startsStatement_11 rfl (lv_at hl 0 rfl) ?_
      refine lv_bipush (v := 22) hx hb dX2_startsStatement_12 (by decide) ?_
      have kb_22 : bd 22 22 (22 : Int32) := ⟨by decide, by decide⟩
      refine lv_icmp_lt (tgt := 33) hx hb dX2_startsStatement_14 (by decide) (fun c_5 => ?_) (fun c_5 => ?_)
      · have fc_5 := lt_f c_5
        have b_6 : bd (-2147483648) 21 x0_ := ltL fc_5 (bdT x0_) kb_22 (by decide)
        refine lv_iconst (v := 0) hx hb dX2_startsStatement_33 (by decide) ?_
        subst hQ
        have kb_0 : bd 0 0 (0 : Int32) := ⟨by decide, by decide⟩
        exact W.zret (v := 0) hx hb hr (nar_z (bd_sub kb_0 (by decide) : bd 0 1 _).1 (bd_sub kb_0 (by decide) : bd 0 1 _).2) (fun t ht hW => ⟨⟨_, _, rfl, Or.inl ⟨rfl, trivial⟩, q3_of g hK ht hW⟩, g.2.2.1.F ht⟩) g.2.2.1.2.2 dX2_startsStatement_34
      · have fc_5 := nlt_f c_5
        have b_7 : bd 22 2147483647 x0_ := leR fc_5 kb_22 (bdT x0_) (by decide)
        refine lv_iload_n hx hb dX2_startsStatement_17 rfl (lv_at hl 0 rfl) ?_
        refine lv_bipush (v := 27) hx hb dX2_startsStatement_18 (by decide) ?_
        have kb_27 : bd 27 27 (27 : Int32) := ⟨by decide, by decide⟩
        refine lv_icmp_gt (tgt := 33) hx hb dX2_startsStatement_20 (by decide) (fun c_8 => ?_) (fun c_8 => ?_)
        · have fc_8 := lt_f c_8
          have b_9 : bd 28 2147483647 x0_ := ltR fc_8 kb_27 b_7 (by decide)
          refine lv_iconst (v := 0) hx hb dX2_startsStatement_33 (by decide) ?_
          subst hQ
          have kb_0 : bd 0 0 (0 : Int32) := ⟨by decide, by decide⟩
          exact W.zret (v := 0) hx hb hr (nar_z (bd_sub kb_0 (by decide) : bd 0 1 _).1 (bd_sub kb_0 (by decide) : bd 0 1 _).2) (fun t ht hW => ⟨⟨_, _, rfl, Or.inl ⟨rfl, trivial⟩, q3_of g hK ht hW⟩, g.2.2.1.F ht⟩) g.2.2.1.2.2 dX2_startsStatement_34
        · have fc_8 := nlt_f c_8
          have b_10 : bd 22 27 x0_ := leL fc_8 b_7 kb_27 (by decide)
          refine lv_iload_n hx hb dX2_startsStatement_23 rfl (lv_at hl 0 rfl) ?_
          refine lv_bipush (v := 24) hx hb dX2_startsStatement_24 (by decide) ?_
          have kb_24 : bd 24 24 (24 : Int32) := ⟨by decide, by decide⟩
          refine lv_icmp_eq (tgt := 33) hx hb dX2_startsStatement_26 (by decide) (fun c_11 => ?_) (fun c_11 => ?_)
          · have fc_11 := eq_f c_11
            have b_12 : bd 24 24 x0_ := eqX fc_11 b_10 kb_24 (by decide)
            refine lv_iconst (v := 0) hx hb dX2_startsStatement_33 (by decide) ?_
            subst hQ
            have kb_0 : bd 0 0 (0 : Int32) := ⟨by decide, by decide⟩
            exact W.zret (v := 0) hx hb hr (nar_z (bd_sub kb_0 (by decide) : bd 0 1 _).1 (bd_sub kb_0 (by decide) : bd 0 1 _).2) (fun t ht hW => ⟨⟨_, _, rfl, Or.inl ⟨rfl, trivial⟩, q3_of g hK ht hW⟩, g.2.2.1.F ht⟩) g.2.2.1.2.2 dX2_startsStatement_34
          · have fc_11 := neq_f c_11
            refine lv_iconst (v := 1) hx hb dX2_startsStatement_29 (by decide) ?_
            refine lv_goto (tgt := 34) hx hb dX2_startsStatement_30 (by decide) ?_
            subst hQ
            have kb_1 : bd 1 1 (1 : Int32) := ⟨by decide, by decide⟩
            exact W.zret (v := 1) hx hb hr (nar_z (bd_sub kb_1 (by decide) : bd 0 1 _).1 (bd_sub kb_1 (by decide) : bd 0 1 _).2) (fun t ht hW => ⟨⟨_, _, rfl, Or.inr (⟨rfl, (bd_sub b_10 (by decide)), trivial⟩), q3_of g hK ht hW⟩, g.2.2.1.F ht⟩) g.2.2.1.2.2 dX2_startsStatement_34
set_option maxHeartbeats 4000000 in
set_option maxRecDepth 100000 in
theorem r_X2_refuseStatement (l : Launch) (dC : Nat → ClassId) (dI : Nat → Nat → Nat) (L : List Nat) (kd : Nat → Nat) (tys : List (ClassId × FieldType)) (f0 : Nat → va_E) (sz : Nat) (hWT : WT L kd tys f0) (a0_ : Nat) (ma0_ : a0_ ∈ L) (ka0_ : kd a0_ = 2) (q0_ : Nat) (mq0_ : q0_ ∈ L) (kq0_ : kd q0_ = 8) (q1_ : Nat) (mq1_ : q1_ ∈ L) (kq1_ : kd q1_ = 5) (q2_ : Nat) (mq2_ : q2_ ∈ L) (kq2_ : kd q2_ = 7) (q3_ : Nat) (mq3_ : q3_ ∈ L) (kq3_ : kd q3_ = 9) (q4_ : Nat) (mq4_ : q4_ ∈ L) (kq4_ : kd q4_ = 9) (hfx : Fs L kd f0 [(2, 0, a0_, .ref q0_), (2, 1, a0_, .ref q1_), (2, 3, a0_, .ref q2_), (2, 4, a0_, .ref q3_), (5, 1, q1_, .ref q4_)]) : Met l yX2_refuseStatement (.code yX2_refuseStatement cX2_refuseStatement 5 none :: lw_g) ({ frames := 2, cells := 0, slots := 0, locals := 46 }) (va_Pc [.ref a0_] (P3 (dC, dI) L tys f0 sz)) (va_Qv (fun (f : Nat → va_E) => (∃ z1_ : Int32, bd 1 7 z1_ ∧ Fs L kd f [(8, 6, q0_, .int 1201), (8, 8, q0_, .int z1_)])) (Q3 (dC, dI) L kd tys [(8, 6), (8, 8), (8, 9)] [] f0 sz) (pA L sz)) 0 0 (pA L sz) := by
  refine Met.ofW (cc := cX2_refuseStatement) (maxL := 5) (ret := none) (by decide) rfl ?_
  intro p e s m args below meth c s₁ B hml hv
  obtain ⟨rfl, hsz, hP, hK, hD0⟩ := hv
  have hx := B.exec
  have hb := B.bytes
  have hr := B.returns
  have hts := atoms_spec (ws := (.code yX2_refuseStatement cX2_refuseStatement 5 none :: lw_g)) B.pre
  have hown : s.vm.findClass RX2 = some m.cls := findClass_of_methodNamed B.named
  have hlocks := B.notSynchronized
  subst hsz
  have g : G3 (dC, dI) L kd tys s f0 [(8, 6), (8, 8), (8, 9)] [] f0 s.heap [] [(2, 0, a0_, .ref q0_), (2, 1, a0_, .ref q1_), (2, 3, a0_, .ref q2_), (2, 4, a0_, .ref q3_), (5, 1, q1_, .ref q4_)] := G3.start hP hD0 hWT hfx
  have hl := lv_entry ([.ref a0_]) (n := 5) (Nat.le_of_ble_eq_true rfl)
  rw [lg_entry_eq]
  generalize (lg_sl ([.ref a0_]) ++ List.replicate (5 - (lg_sl ([.ref a0_])).length) Slot.unset).toArray = ls at hl ⊢
  have hl : lv_has ls 5 [(0, .ref a0_)] := hl
  refine W_q (fun Q hQ => ?_)
  refine lv_aload_n hx hb dX2_refuseStatement_0 rfl (lv_at hl 0 rfl) ?_
  refine g_getk (C := RX2) (T := TX2) (N := 16) hx hb hts (mc_ inX2) hown hK g rfl 0 (by decide) rfl (hts _ (List.mem_cons_of_mem _ t_416)) (fun _ h9 => h9) 0 rfl dX2_refuseStatement_1 ?_
  refine g_calli (va_runV (As := []) (rest := []) ⟨hx, hb, hml, hown, hts⟩ (r_X8_place l dC dI L kd tys f0 s.heap.size g.2.2.2.1 q0_ mq0_ kq0_) (cwV 0 hts (gV_ t_1110 t_1111 t_1112 t_184 t_1113) rfl rfl rfl (by decide +kernel) ⟨(Nat.le_of_ble_eq_true rfl), (Nat.le_of_ble_eq_true rfl)⟩) (pre3V g hK mq0_ kq0_ (by decide) (q := (RX8, TX8, 10)) rfl) rfl rfl hl.1 rfl (lv_room (Nat.le_of_ble_eq_true rfl)) dX2_refuseStatement_4 ⟨(Nat.le_of_ble_eq_true rfl), (Nat.le_of_ble_eq_true rfl)⟩) g hK (by decide) (by decide) (fx' := [(2, 0, a0_, .ref q0_), (2, 1, a0_, .ref q1_), (2, 3, a0_, .ref q2_), (2, 4, a0_, .ref q3_), (5, 1, q1_, .ref q4_)]) rfl (fun r_1 fr_1 H locs hp hMr_1 g => ?_)
  refine lv_istore_n (lv' := [(1, .int r_1), (0, .ref a0_)]) hx hb dX2_refuseStatement_7 rfl hl (by decide) rfl (fun ls hl => ?_)
  refine lv_aload_n hx hb dX2_refuseStatement_8 rfl (lv_at hl 1 rfl) ?_
  refine g_getk (C := RX2) (T := TX2) (N := 16) hx hb hts (mc_ inX2) hown hK g rfl 0 (by decide) rfl (hts _ (List.mem_cons_of_mem _ t_416)) (fun _ h9 => h9) 0 rfl dX2_refuseStatement_9 ?_
  refine g_calli (va_runV (As := []) (rest := []) ⟨hx, hb, hml, hown, hts⟩ (r_X8_kind l dC dI L kd tys fr_1 H.size g.2.2.2.1 q0_ mq0_ kq0_) (cwV 0 hts (gV_ t_1118 t_1119 t_1120 t_184 t_1121) rfl rfl rfl (by decide +kernel) ⟨(Nat.le_of_ble_eq_true rfl), (Nat.le_of_ble_eq_true rfl)⟩) (pre3V g hK mq0_ kq0_ (by decide) (q := (RX8, TX8, 10)) rfl) rfl rfl hl.1 rfl (lv_room (Nat.le_of_ble_eq_true rfl)) dX2_refuseStatement_12 ⟨(Nat.le_of_ble_eq_true rfl), (Nat.le_of_ble_eq_true rfl)⟩) g hK (by decide) (by decide) (fx' := [(2, 0, a0_, .ref q0_), (2, 1, a0_, .ref q1_), (2, 3, a0_, .ref q2_), (2, 4, a0_, .ref q3_), (5, 1, q1_, .ref q4_)]) rfl (fun r_2 fr_2 H locs hp hMr_2 g => ?_)
  refine lv_iconst (v := 3) hx hb dX2_refuseStatement_15 (by decide) ?_
  have kb_3 : bd 3 3 (3 : Int32) := ⟨by decide, by decide⟩
  refine lv_icmp_ne (tgt := 91) hx hb dX2_refuseStatement_16 (by decide) (fun c_3 => ?_) (fun c_3 => ?_)
  · have fc_3 := neq_f c_3
    refine lv_aload_n hx hb dX2_refuseStatement_91 rfl (lv_at hl 1 rfl) ?_
    refine g_getk (C := RX2) (T := TX2) (N := 16) hx hb hts (mc_ inX2) hown hK g rfl 0 (by decide) rfl (hts _ (List.mem_cons_of_mem _ t_416)) (fun _ h9 => h9) 0 rfl dX2_refuseStatement_92 ?_
    refine lv_iconst (v := 4) hx hb dX2_refuseStatement_95 (by decide) ?_
    refine lv_iload_n hx hb dX2_refuseStatement_96 rfl (lv_at hl 0 rfl) ?_
    have kb_4 : bd 4 4 (4 : Int32) := ⟨by decide, by decide⟩
    refine g_callv (va_runV (As := [.int 4, .int r_1]) (rest := []) ⟨hx, hb, hml, hown, hts⟩ (r_X8_fail l dC dI L kd tys fr_2 H.size g.2.2.2.1 q0_ mq0_ kq0_ 4 kb_4 r_1) (cwV 2 hts (gV_ t_1122 t_1107 t_1108 t_184 t_1109) rfl rfl rfl (by decide +kernel) ⟨(Nat.le_of_ble_eq_true rfl), (Nat.le_of_ble_eq_true rfl)⟩) (pre3V g hK mq0_ kq0_ (by decide) (q := (RX8, TX8, 10)) rfl) rfl rfl hl.1 rfl (lv_room (Nat.le_of_ble_eq_true rfl)) dX2_refuseStatement_97 ⟨(Nat.le_of_ble_eq_true rfl), (Nat.le_of_ble_eq_true rfl)⟩) g hK (by decide) (by decide) (fx' := [(2, 0, a0_, .ref q0_), (2, 1, a0_, .ref q1_), (2, 3, a0_, .ref q2_), (2, 4, a0_, .ref q3_), (5, 1, q1_, .ref q4_)]) rfl (fun fr_4 H locs hp hMr_4 g => ?_)
    obtain ⟨x_5, h_6, hF_7⟩ := hp
    have g := g.more hF_7
    subst hQ
    exact W.vret hx hb hr (fun t ht hW => ⟨⟨_, rfl, ⟨x_5, h_6, (g.fcts [0, 1] rfl)⟩, q3_of g hK ht hW⟩, g.2.2.1.F ht⟩) g.2.2.1.2.2 dX2_refuseStatement_100
  · have fc_3 := eq_f c_3
    have b_8 : bd 3 3 r_2 := eqX fc_3 (bdT r_2) kb_3 (by decide)
    refine lv_aload_n hx hb dX2_refuseStatement_19 rfl (lv_at hl 1 rfl) ?_
    refine g_getk (C := RX2) (T := TX2) (N := 16) hx hb hts (mc_ inX2) hown hK g rfl 0 (by decide) rfl (hts _ (List.mem_cons_of_mem _ t_416)) (fun _ h9 => h9) 0 rfl dX2_refuseStatement_20 ?_
    refine g_calll (va_runV (As := []) (rest := []) ⟨hx, hb, hml, hown, hts⟩ (r_X8_value l dC dI L kd tys fr_2 H.size g.2.2.2.1 q0_ mq0_ kq0_) (cwV 0 hts (gV_ t_1114 t_1115 t_1116 t_184 t_1117) rfl rfl rfl (by decide +kernel) ⟨(Nat.le_of_ble_eq_true rfl), (Nat.le_of_ble_eq_true rfl)⟩) (pre3V g hK mq0_ kq0_ (by decide) (q := (RX8, TX8, 10)) rfl) rfl rfl hl.1 rfl (lv_room (Nat.le_of_ble_eq_true rfl)) dX2_refuseStatement_23 ⟨(Nat.le_of_ble_eq_true rfl), (Nat.le_of_ble_eq_true rfl)⟩) g hK (by decide) (by decide) (fx' := [(2, 0, a0_, .ref q0_), (2, 1, a0_, .ref q1_), (2, 3, a0_, .ref q2_), (2, 4, a0_, .ref q3_), (5, 1, q1_, .ref q4_)]) rfl (fun r_9 fr_9 H locs hp hMr_9 g => ?_)
    refine lv_lstore_n (lv' := [(2, .long r_9), (1, .int r_1), (0, .ref a0_)]) hx hb dX2_refuseStatement_26 rfl hl (by decide) rfl (fun ls hl => ?_)
    refine lv_aload_n hx hb dX2_refuseStatement_27 rfl (lv_at hl 2 rfl) ?_
    refine g_getk (C := RX2) (T := TX2) (N := 16) hx hb hts (mc_ inX2) hown hK g rfl 0 (by decide) rfl (hts _ (List.mem_cons_of_mem _ t_416)) (fun _ h9 => h9) 0 rfl dX2_refuseStatement_28 ?_
    refine g_callv (va_runV (As := []) (rest := []) ⟨hx, hb, hml, hown, hts⟩ (r_X8_next l dC dI L kd tys fr_9 H.size g.2.2.2.1 q0_ mq0_ kq0_) (cwV 0 hts (gV_ t_1131 t_1103 t_1104 t_184 t_1105) rfl rfl rfl (by decide +kernel) ⟨(Nat.le_of_ble_eq_true rfl), (Nat.le_of_ble_eq_true rfl)⟩) (pre3V g hK mq0_ kq0_ (by decide) (q := (RX8, TX8, 10)) rfl) rfl rfl hl.1 rfl (lv_room (Nat.le_of_ble_eq_true rfl)) dX2_refuseStatement_31 ⟨(Nat.le_of_ble_eq_true rfl), (Nat.le_of_ble_eq_true rfl)⟩) g hK (by decide) (by decide) (fx' := [(2, 0, a0_, .ref q0_), (2, 1, a0_, .ref q1_), (2, 3, a0_, .ref q2_), (2, 4, a0_, .ref q3_), (5, 1, q1_, .ref q4_)]) rfl (fun fr_10 H locs hp hMr_10 g => ?_)
    obtain ⟨x_11, h_12, hF_13⟩ := hp
    have g := g.more hF_13
    refine lv_aload_n hx hb dX2_refuseStatement_34 rfl (lv_at hl 2 rfl) ?_
    refine g_getk (C := RX2) (T := TX2) (N := 16) hx hb hts (mc_ inX2) hown hK g rfl 0 (by decide) rfl (hts _ (List.mem_cons_of_mem _ t_416)) (fun _ h9 => h9) 1 rfl dX2_refuseStatement_35 ?_
    refine g_calli (va_runV (As := []) (rest := []) ⟨hx, hb, hml, hown, hts⟩ (r_X8_atBracket l dC dI L kd tys fr_10 H.size g.2.2.2.1 q0_ mq0_ kq0_) (cwV 0 hts (gV_ t_1358 t_1240 t_1241 t_184 t_1242) rfl rfl rfl (by decide +kernel) ⟨(Nat.le_of_ble_eq_true rfl), (Nat.le_of_ble_eq_true rfl)⟩) (pre3V g hK mq0_ kq0_ (by decide) (q := (RX8, TX8, 10)) rfl) rfl rfl hl.1 rfl (lv_room (Nat.le_of_ble_eq_true rfl)) dX2_refuseStatement_38 ⟨(Nat.le_of_ble_eq_true rfl), (Nat.le_of_ble_eq_true rfl)⟩) g hK (by decide) (by decide) (fx' := [(8, 6, q0_, .int x_11), (2, 0, a0_, .ref q0_), (2, 1, a0_, .ref q1_), (2, 3, a0_, .ref q2_), (2, 4, a0_, .ref q3_), (5, 1, q1_, .ref q4_)]) rfl (fun r_14 fr_14 H locs hp hMr_14 g => ?_)
    obtain ⟨h_15, -⟩ := hp
    have kb_0 : bd 0 0 (0 : Int32) := ⟨by decide, by decide⟩
    refine lv_if_eq (tgt := 59) hx hb dX2_refuseStatement_41 (by decide) (fun c_16 => ?_) (fun c_16 => ?_)
    · have fc_16 := eq_f c_16
      have b_17 : bd 0 0 r_14 := eqX fc_16 h_15 kb_0 (by decide)
      refine lv_aload_n hx hb dX2_refuseStatement_59 rfl (lv_at hl 2 rfl) ?_
      refine g_getk (C := RX2) (T := TX2) (N := 16) hx hb hts (mc_ inX2) hown hK g rfl 1 (by decide) rfl (hts _ (List.mem_cons_of_mem _ t_417)) (fun _ h9 => h9) 2 rfl dX2_refuseStatement_60 ?_
      refine lv_lload_n hx hb dX2_refuseStatement_63 rfl (lv_at hl 0 rfl) ?_
      refine g_calli (va_runV (As := [.long r_9]) (rest := []) ⟨hx, hb, hml, hown, hts⟩ (r_X5_placeNamed l dC dI L kd tys fr_14 H.size g.2.2.2.1 q1_ mq1_ kq1_ r_9 q4_ mq4_ kq4_ (g.fcts [5] rfl)) (cwV 1 hts (gV_ t_1317 t_1252 t_1253 t_189 t_1254) rfl rfl rfl (by decide +kernel) ⟨(Nat.le_of_ble_eq_true rfl), (Nat.le_of_ble_eq_true rfl)⟩) (pre3V g hK mq1_ kq1_ (by decide) (q := (RX5, TX5, 9)) rfl) rfl rfl hl.1 rfl (lv_room (Nat.le_of_ble_eq_true rfl)) dX2_refuseStatement_64 ⟨(Nat.le_of_ble_eq_true rfl), (Nat.le_of_ble_eq_true rfl)⟩) g hK (by decide) (by decide) (fx' := [(8, 6, q0_, .int x_11), (2, 0, a0_, .ref q0_), (2, 1, a0_, .ref q1_), (2, 3, a0_, .ref q2_), (2, 4, a0_, .ref q3_), (5, 1, q1_, .ref q4_)]) rfl (fun r_18 fr_18 H locs hp hMr_18 g => ?_)
      obtain ⟨h_19, -⟩ := hp
      refine lv_istore (lv' := [(4, .int r_18), (2, .long r_9), (1, .int r_1), (0, .ref a0_)]) hx hb dX2_refuseStatement_67 hl (by decide) rfl (fun ls hl => ?_)
      refine lv_aload_n hx hb dX2_refuseStatement_69 rfl (lv_at hl 3 rfl) ?_
      refine g_getk (C := RX2) (T := TX2) (N := 16) hx hb hts (mc_ inX2) hown hK g rfl 0 (by decide) rfl (hts _ (List.mem_cons_of_mem _ t_416)) (fun _ h9 => h9) 1 rfl dX2_refuseStatement_70 ?_
      refine lv_iload hx hb dX2_refuseStatement_73 (lv_at hl 0 rfl) ?_
      refine lv_iconst (v := (-1)) hx hb dX2_refuseStatement_75 (by decide) ?_
      have kb_m1 : bd (-1) (-1) ((-1) : Int32) := ⟨by decide, by decide⟩
      refine lv_icmp_ne (tgt := 83) hx hb dX2_refuseStatement_76 (by decide) (fun c_20 => ?_) (fun c_20 => ?_)
      · have fc_20 := neq_f c_20
        have b_21 : bd 0 26 r_18 := neX fc_20 h_19 kb_m1 (by decide)
        refine lv_iconst (v := 4) hx hb dX2_refuseStatement_83 (by decide) ?_
        refine lv_iload_n hx hb dX2_refuseStatement_84 rfl (lv_at hl 2 rfl) ?_
        have kb_4 : bd 4 4 (4 : Int32) := ⟨by decide, by decide⟩
        refine g_callv (va_runV (As := [.int 4, .int r_1]) (rest := []) ⟨hx, hb, hml, hown, hts⟩ (r_X8_fail l dC dI L kd tys fr_18 H.size g.2.2.2.1 q0_ mq0_ kq0_ 4 kb_4 r_1) (cwV 2 hts (gV_ t_1122 t_1107 t_1108 t_184 t_1109) rfl rfl rfl (by decide +kernel) ⟨(Nat.le_of_ble_eq_true rfl), (Nat.le_of_ble_eq_true rfl)⟩) (pre3V g hK mq0_ kq0_ (by decide) (q := (RX8, TX8, 10)) rfl) rfl rfl hl.1 rfl (lv_room (Nat.le_of_ble_eq_true rfl)) dX2_refuseStatement_85 ⟨(Nat.le_of_ble_eq_true rfl), (Nat.le_of_ble_eq_true rfl)⟩) g hK (by decide) (by decide) (fx' := [(2, 0, a0_, .ref q0_), (2, 1, a0_, .ref q1_), (2, 3, a0_, .ref q2_), (2, 4, a0_, .ref q3_), (5, 1, q1_, .ref q4_)]) rfl (fun fr_22 H locs hp hMr_22 g => ?_)
        obtain ⟨x_23, h_24, hF_25⟩ := hp
        have g := g.more hF_25
        refine lv_goto (tgt := 100) hx hb dX2_refuseStatement_88 (by decide) ?_
        subst hQ
        exact W.vret hx hb hr (fun t ht hW => ⟨⟨_, rfl, ⟨x_23, h_24, (g.fcts [0, 1] rfl)⟩, q3_of g hK ht hW⟩, g.2.2.1.F ht⟩) g.2.2.1.2.2 dX2_refuseStatement_100
      · have fc_20 := eq_f c_20
        have b_26 : bd (-1) (-1) r_18 := eqX fc_20 h_19 kb_m1 (by decide)
        refine lv_iconst (v := 2) hx hb dX2_refuseStatement_79 (by decide) ?_
        refine lv_goto (tgt := 84) hx hb dX2_refuseStatement_80 (by decide) ?_
        refine lv_iload_n hx hb dX2_refuseStatement_84 rfl (lv_at hl 2 rfl) ?_
        have kb_2 : bd 2 2 (2 : Int32) := ⟨by decide, by decide⟩
        refine g_callv (va_runV (As := [.int 2, .int r_1]) (rest := []) ⟨hx, hb, hml, hown, hts⟩ (r_X8_fail_3 l dC dI L kd tys fr_18 H.size g.2.2.2.1 q0_ mq0_ kq0_ 2 kb_2 r_1) (cwV 2 hts (gV_ t_1122 t_1107 t_1108 t_184 t_1109) rfl rfl rfl (by decide +kernel) ⟨(Nat.le_of_ble_eq_true rfl), (Nat.le_of_ble_eq_true rfl)⟩) (pre3V g hK mq0_ kq0_ (by decide) (q := (RX8, TX8, 10)) rfl) rfl rfl hl.1 rfl (lv_room (Nat.le_of_ble_eq_true rfl)) dX2_refuseStatement_85 ⟨(Nat.le_of_ble_eq_true rfl), (Nat.le_of_ble_eq_true rfl)⟩) g hK (by decide) (by decide) (fx' := [(2, 0, a0_, .ref q0_), (2, 1, a0_, .ref q1_), (2, 3, a0_, .ref q2_), (2, 4, a0_, .ref q3_), (5, 1, q1_, .ref q4_)]) rfl (fun fr_27 H locs hp hMr_27 g => ?_)
        obtain ⟨x_28, h_29, hF_30⟩ := hp
        have g := g.more hF_30
        refine lv_goto (tgt := 100) hx hb dX2_refuseStatement_88 (by decide) ?_
        subst hQ
        exact W.vret hx hb hr (fun t ht hW => ⟨⟨_, rfl, ⟨x_28, h_29, (g.fcts [0, 1] rfl)⟩, q3_of g hK ht hW⟩, g.2.2.1.F ht⟩) g.2.2.1.2.2 dX2_refuseStatement_100
    · have fc_16 := neq_f c_16
      have b_31 : bd 1 1 r_14 := neX fc_16 h_15 kb_0 (by decide)
      refine lv_aload_n hx hb dX2_refuseStatement_44 rfl (lv_at hl 2 rfl) ?_
      refine g_getk (C := RX2) (T := TX2) (N := 16) hx hb hts (mc_ inX2) hown hK g rfl 3 (by decide) rfl (hts _ (List.mem_cons_of_mem _ t_419)) (fun _ h9 => h9) 3 rfl dX2_refuseStatement_45 ?_
      refine lv_aload_n hx hb dX2_refuseStatement_48 rfl (lv_at hl 2 rfl) ?_
      refine g_getk (C := RX2) (T := TX2) (N := 16) hx hb hts (mc_ inX2) hown hK g rfl 4 (by decide) rfl (hts _ (List.mem_cons_of_mem _ t_420)) (fun _ h9 => h9) 4 rfl dX2_refuseStatement_49 ?_
      refine lv_lload_n hx hb dX2_refuseStatement_52 rfl (lv_at hl 0 rfl) ?_
      refine g_calli (va_runV (As := [.ref q3_, .long r_9]) (rest := []) ⟨hx, hb, hml, hown, hts⟩ (r_X7_memberNamed l dC dI L kd tys fr_14 H.size g.2.2.2.1 q2_ mq2_ kq2_ q3_ mq3_ kq3_ r_9) (cwV 2 hts (gV_ t_1306 t_1244 t_1245 t_191 t_1246) rfl rfl rfl (by decide +kernel) ⟨(Nat.le_of_ble_eq_true rfl), (Nat.le_of_ble_eq_true rfl)⟩) (pre3V g hK mq2_ kq2_ (by decide) (q := (RX7, TX7, 19)) rfl) rfl rfl hl.1 rfl (lv_room (Nat.le_of_ble_eq_true rfl)) dX2_refuseStatement_53 ⟨(Nat.le_of_ble_eq_true rfl), (Nat.le_of_ble_eq_true rfl)⟩) g hK (by decide) (by decide) (fx' := [(8, 6, q0_, .int x_11), (2, 0, a0_, .ref q0_), (2, 1, a0_, .ref q1_), (2, 3, a0_, .ref q2_), (2, 4, a0_, .ref q3_), (5, 1, q1_, .ref q4_)]) rfl (fun r_32 fr_32 H locs hp hMr_32 g => ?_)
      obtain ⟨h_33, -⟩ := hp
      refine lv_goto (tgt := 67) hx hb dX2_refuseStatement_56 (by decide) ?_
      refine lv_istore (lv' := [(4, .int r_32), (2, .long r_9), (1, .int r_1), (0, .ref a0_)]) hx hb dX2_refuseStatement_67 hl (by decide) rfl (fun ls hl => ?_)
      refine lv_aload_n hx hb dX2_refuseStatement_69 rfl (lv_at hl 3 rfl) ?_
      refine g_getk (C := RX2) (T := TX2) (N := 16) hx hb hts (mc_ inX2) hown hK g rfl 0 (by decide) rfl (hts _ (List.mem_cons_of_mem _ t_416)) (fun _ h9 => h9) 1 rfl dX2_refuseStatement_70 ?_
      refine lv_iload hx hb dX2_refuseStatement_73 (lv_at hl 0 rfl) ?_
      refine lv_iconst (v := (-1)) hx hb dX2_refuseStatement_75 (by decide) ?_
      have kb_m1 : bd (-1) (-1) ((-1) : Int32) := ⟨by decide, by decide⟩
      refine lv_icmp_ne (tgt := 83) hx hb dX2_refuseStatement_76 (by decide) (fun c_34 => ?_) (fun c_34 => ?_)
      · have fc_34 := neq_f c_34
        have b_35 : bd 0 11 r_32 := neX fc_34 h_33 kb_m1 (by decide)
        refine lv_iconst (v := 4) hx hb dX2_refuseStatement_83 (by decide) ?_
        refine lv_iload_n hx hb dX2_refuseStatement_84 rfl (lv_at hl 2 rfl) ?_
        have kb_4 : bd 4 4 (4 : Int32) := ⟨by decide, by decide⟩
        refine g_callv (va_runV (As := [.int 4, .int r_1]) (rest := []) ⟨hx, hb, hml, hown, hts⟩ (r_X8_fail l dC dI L kd tys fr_32 H.size g.2.2.2.1 q0_ mq0_ kq0_ 4 kb_4 r_1) (cwV 2 hts (gV_ t_1122 t_1107 t_1108 t_184 t_1109) rfl rfl rfl (by decide +kernel) ⟨(Nat.le_of_ble_eq_true rfl), (Nat.le_of_ble_eq_true rfl)⟩) (pre3V g hK mq0_ kq0_ (by decide) (q := (RX8, TX8, 10)) rfl) rfl rfl hl.1 rfl (lv_room (Nat.le_of_ble_eq_true rfl)) dX2_refuseStatement_85 ⟨(Nat.le_of_ble_eq_true rfl), (Nat.le_of_ble_eq_true rfl)⟩) g hK (by decide) (by decide) (fx' := [(2, 0, a0_, .ref q0_), (2, 1, a0_, .ref q1_), (2, 3, a0_, .ref q2_), (2, 4, a0_, .ref q3_), (5, 1, q1_, .ref q4_)]) rfl (fun fr_36 H locs hp hMr_36 g => ?_)
        obtain ⟨x_37, h_38, hF_39⟩ := hp
        have g := g.more hF_39
        refine lv_goto (tgt := 100) hx hb dX2_refuseStatement_88 (by decide) ?_
        subst hQ
        exact W.vret hx hb hr (fun t ht hW => ⟨⟨_, rfl, ⟨x_37, h_38, (g.fcts [0, 1] rfl)⟩, q3_of g hK ht hW⟩, g.2.2.1.F ht⟩) g.2.2.1.2.2 dX2_refuseStatement_100
      · have fc_34 := eq_f c_34
        have b_40 : bd (-1) (-1) r_32 := eqX fc_34 h_33 kb_m1 (by decide)
        refine lv_iconst (v := 2) hx hb dX2_refuseStatement_79 (by decide) ?_
        refine lv_goto (tgt := 84) hx hb dX2_refuseStatement_80 (by decide) ?_
        refine lv_iload_n hx hb dX2_refuseStatement_84 rfl (lv_at hl 2 rfl) ?_
        have kb_2 : bd 2 2 (2 : Int32) := ⟨by decide, by decide⟩
        refine g_callv (va_runV (As := [.int 2, .int r_1]) (rest := []) ⟨hx, hb, hml, hown, hts⟩ (r_X8_fail_3 l dC dI L kd tys fr_32 H.size g.2.2.2.1 q0_ mq0_ kq0_ 2 kb_2 r_1) (cwV 2 hts (gV_ t_1122 t_1107 t_1108 t_184 t_1109) rfl rfl rfl (by decide +kernel) ⟨(Nat.le_of_ble_eq_true rfl), (Nat.le_of_ble_eq_true rfl)⟩) (pre3V g hK mq0_ kq0_ (by decide) (q := (RX8, TX8, 10)) rfl) rfl rfl hl.1 rfl (lv_room (Nat.le_of_ble_eq_true rfl)) dX2_refuseStatement_85 ⟨(Nat.le_of_ble_eq_true rfl), (Nat.le_of_ble_eq_true rfl)⟩) g hK (by decide) (by decide) (fx' := [(2, 0, a0_, .ref q0_), (2, 1, a0_, .ref q1_), (2, 3, a0_, .ref q2_), (2, 4, a0_, .ref q3_), (5, 1, q1_, .ref q4_)]) rfl (fun fr_41 H locs hp hMr_41 g => ?_)
        obtain ⟨x_42, h_43, hF_44⟩ := hp
        have g := g.more hF_44
        refine lv_goto (tgt := 100) hx hb dX2_refuseStatement_88 (by decide) ?_
        subst hQ
        exact W.vret hx hb hr (fun t ht hW => ⟨⟨_, rfl, ⟨x_42, h_43, (g.fcts [0, 1] rfl)⟩, q3_of g hK ht hW⟩, g.2.2.1.F ht⟩) g.2.2.1.2.2 dX2_refuseStatement_100
set_option maxHeartbeats 4000000 in
set_option maxRecDepth 100000 in
theorem r_X7_addWord (l : Launch) (dC : Nat → ClassId) (dI : Nat → Nat → Nat) (L : List Nat) (kd : Nat → Nat) (tys : List (ClassId × FieldType)) (f0 : Nat → va_E) (sz : Nat) (hWT : WT L kd tys f0) (a0_ : Nat) (ma0_ : a0_ ∈ L) (ka0_ : kd a0_ = 7) (x1_ : Int64) : Met l yX7_addWord (.code yX7_addWord cX7_addWord 4 (some .int) :: lw_g) ({ frames := 1, cells := 0, slots := 0, locals := 13 }) (va_Pc [.ref a0_, .long x1_] (P3 (dC, dI) L tys f0 sz)) (va_Qi (fun (r : Int32) (f : Nat → va_E) => (bd 0 419 r ∧ ∃ z0_ : Int32, bd 1 420 z0_ ∧ Fs L kd f [(7, 17, a0_, .int z0_)])) (Q3 (dC, dI) L kd tys [(7, 17)] [147] f0 sz) (pA L sz)) 0 0 (pA L sz) := by
  refine Met.ofW (cc := cX7_addWord) (maxL := 4) (ret := (some .int)) (by decide) rfl ?_
  intro p e s m args below meth c s₁ B hml hv
  obtain ⟨rfl, hsz, hP, hK, hD0⟩ := hv
  have hx := B.exec
  have hb := B.bytes
  have hr := B.returns
  have hts := atoms_spec (ws := (.code yX7_addWord cX7_addWord 4 (some .int) :: lw_g)) B.pre
  have hown : s.vm.findClass RX7 = some m.cls := findClass_of_methodNamed B.named
  have hlocks := B.notSynchronized
  subst hsz
  have g : G3 (dC, dI) L kd tys s f0 [(7, 17)] [147] f0 s.heap [] [] := G3.start hP hD0 hWT Fs.nil
  have hl := lv_entry ([.ref a0_, .long x1_]) (n := 4) (Nat.le_of_ble_eq_true rfl)
  rw [lg_entry_eq]
  generalize (lg_sl ([.ref a0_, .long x1_]) ++ List.replicate (4 - (lg_sl ([.ref a0_, .long x1_])).length) Slot.unset).toArray = ls at hl ⊢
  have hl : lv_has ls 4 [(0, .ref a0_), (1, .long x1_)] := hl
  refine W_q (fun Q hQ => ?_)
  refine lv_aload_n hx hb dX7_addWord_0 rfl (lv_at hl 0 rfl) ?_
  refine g_geti (C := RX7) (T := TX7) (N := 19) hx hb hts (mc_ inX7) hown hK g ma0_ ka0_ (by decide) rfl 17 (by decide) rfl (hts _ (List.mem_cons_of_mem _ t_678)) (fun _ h9 => h9) rfl dX7_addWord_1 (fun x_1 bx_1 g => ?_)
  refine lv_sipush (v := 419) hx hb dX7_addWord_4 (by decide) ?_
  have kb_419 : bd 419 419 (419 : Int32) := ⟨by decide, by decide⟩
  refine va_mmin hx hb (hml.trans hl.1.symm) hown (hts _ (List.mem_cons_of_mem _ t_1177)) (hts _ (List.mem_cons_of_mem _ t_998)) (hts _ (List.mem_cons_of_mem _ t_204)) (hts _ (List.mem_cons_of_mem _ t_999)) (Nat.le_of_ble_eq_true rfl) (Nat.le_of_ble_eq_true rfl) (Nat.le_of_ble_eq_true rfl) (Nat.le_of_ble_eq_true rfl) dX7_addWord_7 ?_
  refine lv_topi (fun y_2 ey_2 => ?_)
  have ty_2 : y_2.toInt = min x_1.toInt (419 : Int32).toInt := by rw [ey_2]; exact mmin_ok _ _
  have b_3 : bd 0 419 y_2 := min_rg ty_2 bx_1 kb_419 (by decide)
  refine lv_istore_n (lv' := [(3, .int y_2), (0, .ref a0_), (1, .long x1_)]) hx hb dX7_addWord_10 rfl hl (by decide) rfl (fun ls hl => ?_)
  refine lv_aload_n hx hb dX7_addWord_11 rfl (lv_at hl 1 rfl) ?_
  refine g_getr (K := 147) (C := RX7) (T := TX7) (N := 19) hx hb hts (mc_ inX7) hown hK g ma0_ ka0_ (by decide) rfl 16 (by decide) rfl (hts _ (List.mem_cons_of_mem _ t_676)) (fun _ h9 => h9) rfl dX7_addWord_12 (fun a_4 ma_4 ka_4 g => ?_)
  refine lv_iload_n hx hb dX7_addWord_15 rfl (lv_at hl 0 rfl) ?_
  refine lv_lload_n hx hb dX7_addWord_16 rfl (lv_at hl 2 rfl) ?_
  refine g_last hx hb hK g ma_4 ka_4 (by decide) rfl (in_bd b_3 (by decide)) (by decide) dX7_addWord_17 (fun f H locs hM_5 g => ?_)
  refine lv_aload_n hx hb dX7_addWord_18 rfl (lv_at hl 1 rfl) ?_
  refine lv_iload_n hx hb dX7_addWord_19 rfl (lv_at hl 0 rfl) ?_
  refine lv_iconst (v := 1) hx hb dX7_addWord_20 (by decide) ?_
  have kb_1 : bd 1 1 (1 : Int32) := ⟨by decide, by decide⟩
  refine lv_iadd hx hb dX7_addWord_21 ?_
  refine lv_topi (fun y_6 ey_6 => ?_)
  have ty_6 := add_bd ey_6 b_3 kb_1 (by decide)
  have b_7 : bd 1 420 y_6 := add_rg ty_6 b_3 kb_1 (by decide)
  refine g_put (C := RX7) (T := TX7) (N := 19) hx hb hts (mc_ inX7) tyX7 tyX7_ok nmX7 hown hK g ma0_ ka0_ (by decide) rfl 17 (by decide) (hts _ (List.mem_cons_of_mem _ t_678)) (fun _ h9 => h9) rfl rfl (okV_i (bd_sub b_7 (by decide))) rfl rfl (by decide) (Or.inr (Or.inl (by decide))) (fx' := [(7, 16, a0_, .ref a_4)]) rfl dX7_addWord_22 (fun f H locs hM_8 g => ?_)
  refine lv_iload_n hx hb dX7_addWord_25 rfl (lv_at hl 0 rfl) ?_
  subst hQ
  exact W.iret (v := y_2) hx hb hr (fun t ht hW => ⟨⟨_, _, rfl, ⟨b_3, y_6, b_7, (g.fcts [0] rfl)⟩, q3_of g hK ht hW⟩, g.2.2.1.F ht⟩) g.2.2.1.2.2 dX7_addWord_26
set_option maxHeartbeats 4000000 in
set_option maxRecDepth 100000 in
theorem r_X2_readThrow (l : Launch) (dC : Nat → ClassId) (dI : Nat → Nat → Nat) (L : List Nat) (kd : Nat → Nat) (tys : List (ClassId × FieldType)) (f0 : Nat → va_E) (sz : Nat) (hWT : WT L kd tys f0) (a0_ : Nat) (ma0_ : a0_ ∈ L) (ka0_ : kd a0_ = 2) (q0_ : Nat) (mq0_ : q0_ ∈ L) (kq0_ : kd q0_ = 8) (q1_ : Nat) (mq1_ : q1_ ∈ L) (kq1_ : kd q1_ = 7) (hfx : Fs L kd f0 [(2, 0, a0_, .ref q0_), (2, 3, a0_, .ref q1_)]) : Met l yX2_readThrow (.code yX2_readThrow cX2_readThrow 1 none :: lw_g) ({ frames := 2, cells := 0, slots := 0, locals := 44 }) (va_Pc [.ref a0_] (P3 (dC, dI) L tys f0 sz)) (va_Qv (fun (f : Nat → va_E) => (∃ z0_ : Int32, bd 1201 1201 z0_ ∧ ∃ z1_ : Int32, bd 1 7 z1_ ∧ ∃ z2_ : Int32, bd 1 2000 z2_ ∧ ∃ z3_ : Int32, bd 1 420 z3_ ∧ Fs L kd f [(8, 6, q0_, .int z0_), (8, 8, q0_, .int z1_), (7, 6, q1_, .int z2_), (7, 17, q1_, .int z3_)]) ∨ (∃ z0_ : Int32, bd 1 1201 z0_ ∧ ∃ z1_ : Int32, bd 1 2000 z1_ ∧ ∃ z2_ : Int32, bd 1 420 z2_ ∧ Fs L kd f [(8, 6, q0_, .int z0_), (7, 6, q1_, .int z1_), (7, 17, q1_, .int z2_)])) (Q3 (dC, dI) L kd tys [(7, 6), (7, 17), (8, 6), (8, 8), (8, 9)] [138, 139, 147] f0 sz) (pA L sz)) 0 0 (pA L sz) := by
  refine Met.ofW (cc := cX2_readThrow) (maxL := 1) (ret := none) (by decide) rfl ?_
  intro p e s m args below meth c s₁ B hml hv
  obtain ⟨rfl, hsz, hP, hK, hD0⟩ := hv
  have hx := B.exec
  have hb := B.bytes
  have hr := B.returns
  have hts := atoms_spec (ws := (.code yX2_readThrow cX2_readThrow 1 none :: lw_g)) B.pre
  have hown : s.vm.findClass RX2 = some m.cls := findClass_of_methodNamed B.named
  have hlocks := B.notSynchronized
  subst hsz
  have g : G3 (dC, dI) L kd tys s f0 [(7, 6), (7, 17), (8, 6), (8, 8), (8, 9)] [138, 139, 147] f0 s.heap [] [(2, 0, a0_, .ref q0_), (2, 3, a0_, .ref q1_)] := G3.start hP hD0 hWT hfx
  have hl := lv_entry ([.ref a0_]) (n := 1) (Nat.le_of_ble_eq_true rfl)
  rw [lg_entry_eq]
  generalize (lg_sl ([.ref a0_]) ++ List.replicate (1 - (lg_sl ([.ref a0_])).length) Slot.unset).toArray = ls at hl ⊢
  have hl : lv_has ls 1 [(0, .ref a0_)] := hl
  refine W_q (fun Q hQ => ?_)
  refine lv_aload_n hx hb dX2_readThrow_0 rfl (lv_at hl 0 rfl) ?_
  refine g_getk (C := RX2) (T := TX2) (N := 16) hx hb hts (mc_ inX2) hown hK g rfl 0 (by decide) rfl (hts _ (List.mem_cons_of_mem _ t_416)) (fun _ h9 => h9) 0 rfl dX2_readThrow_1 ?_
  refine g_callv (va_runV (As := []) (rest := []) ⟨hx, hb, hml, hown, hts⟩ (r_X8_next l dC dI L kd tys f0 s.heap.size g.2.2.2.1 q0_ mq0_ kq0_) (cwV 0 hts (gV_ t_1131 t_1103 t_1104 t_184 t_1105) rfl rfl rfl (by decide +kernel) ⟨(Nat.le_of_ble_eq_true rfl), (Nat.le_of_ble_eq_true rfl)⟩) (pre3V g hK mq0_ kq0_ (by decide) (q := (RX8, TX8, 10)) rfl) rfl rfl hl.1 rfl (lv_room (Nat.le_of_ble_eq_true rfl)) dX2_readThrow_4 ⟨(Nat.le_of_ble_eq_true rfl), (Nat.le_of_ble_eq_true rfl)⟩) g hK (by decide) (by decide) (fx' := [(2, 0, a0_, .ref q0_), (2, 3, a0_, .ref q1_)]) rfl (fun fr_1 H locs hp hMr_1 g => ?_)
  obtain ⟨x_2, h_3, hF_4⟩ := hp
  have g := g.more hF_4
  refine lv_aload_n hx hb dX2_readThrow_7 rfl (lv_at hl 0 rfl) ?_
  refine g_getk (C := RX2) (T := TX2) (N := 16) hx hb hts (mc_ inX2) hown hK g rfl 3 (by decide) rfl (hts _ (List.mem_cons_of_mem _ t_419)) (fun _ h9 => h9) 2 rfl dX2_readThrow_8 ?_
  refine lv_bipush (v := 16) hx hb dX2_readThrow_11 (by decide) ?_
  refine lv_aload_n hx hb dX2_readThrow_13 rfl (lv_at hl 0 rfl) ?_
  refine g_getk (C := RX2) (T := TX2) (N := 16) hx hb hts (mc_ inX2) hown hK g rfl 3 (by decide) rfl (hts _ (List.mem_cons_of_mem _ t_419)) (fun _ h9 => h9) 2 rfl dX2_readThrow_14 ?_
  refine lv_aload_n hx hb dX2_readThrow_17 rfl (lv_at hl 0 rfl) ?_
  refine g_getk (C := RX2) (T := TX2) (N := 16) hx hb hts (mc_ inX2) hown hK g rfl 0 (by decide) rfl (hts _ (List.mem_cons_of_mem _ t_416)) (fun _ h9 => h9) 1 rfl dX2_readThrow_18 ?_
  refine g_calll (va_runV (As := []) (rest := [.ref q1_, .int 16, .ref q1_]) ⟨hx, hb, hml, hown, hts⟩ (r_X8_value l dC dI L kd tys fr_1 H.size g.2.2.2.1 q0_ mq0_ kq0_) (cwV 0 hts (gV_ t_1114 t_1115 t_1116 t_184 t_1117) rfl rfl rfl (by decide +kernel) ⟨(Nat.le_of_ble_eq_true rfl), (Nat.le_of_ble_eq_true rfl)⟩) (pre3V g hK mq0_ kq0_ (by decide) (q := (RX8, TX8, 10)) rfl) rfl rfl hl.1 rfl (lv_room (Nat.le_of_ble_eq_true rfl)) dX2_readThrow_21 ⟨(Nat.le_of_ble_eq_true rfl), (Nat.le_of_ble_eq_true rfl)⟩) g hK (by decide) (by decide) (fx' := [(8, 6, q0_, .int x_2), (2, 0, a0_, .ref q0_), (2, 3, a0_, .ref q1_)]) rfl (fun r_5 fr_5 H locs hp hMr_5 g => ?_)
  refine g_calli (va_runV (As := [.long r_5]) (rest := [.int 16, .ref q1_]) ⟨hx, hb, hml, hown, hts⟩ (r_X7_addWord l dC dI L kd tys fr_5 H.size g.2.2.2.1 q1_ mq1_ kq1_ r_5) (cwV 1 hts (gV_ t_1379 t_1380 t_1381 t_191 t_1382) rfl rfl rfl (by decide +kernel) ⟨(Nat.le_of_ble_eq_true rfl), (Nat.le_of_ble_eq_true rfl)⟩) (pre3V g hK mq1_ kq1_ (by decide) (q := (RX7, TX7, 19)) rfl) rfl rfl hl.1 rfl (lv_room (Nat.le_of_ble_eq_true rfl)) dX2_readThrow_24 ⟨(Nat.le_of_ble_eq_true rfl), (Nat.le_of_ble_eq_true rfl)⟩) g hK (by decide) (by decide) (fx' := [(8, 6, q0_, .int x_2), (2, 0, a0_, .ref q0_), (2, 3, a0_, .ref q1_)]) rfl (fun r_6 fr_6 H locs hp hMr_6 g => ?_)
  obtain ⟨h_7, x_8, h_9, hF_10⟩ := hp
  have g := g.more hF_10
  refine g_callv (va_runV (As := [.int 16, .int r_6]) (rest := []) ⟨hx, hb, hml, hown, hts⟩ (r_X7_emit l dC dI L kd tys fr_6 H.size g.2.2.2.1 q1_ mq1_ kq1_ 16 r_6) (cwV 2 hts (gV_ t_1301 t_1204 t_1205 t_191 t_1206) rfl rfl rfl (by decide +kernel) ⟨(Nat.le_of_ble_eq_true rfl), (Nat.le_of_ble_eq_true rfl)⟩) (pre3V g hK mq1_ kq1_ (by decide) (q := (RX7, TX7, 19)) rfl) rfl rfl hl.1 rfl (lv_room (Nat.le_of_ble_eq_true rfl)) dX2_readThrow_27 ⟨(Nat.le_of_ble_eq_true rfl), (Nat.le_of_ble_eq_true rfl)⟩) g hK (by decide) (by decide) (fx' := [(7, 17, q1_, .int x_8), (8, 6, q0_, .int x_2), (2, 0, a0_, .ref q0_), (2, 3, a0_, .ref q1_)]) rfl (fun fr_11 H locs hp hMr_11 g => ?_)
  obtain ⟨x_12, h_13, hF_14⟩ := hp
  have g := g.more hF_14
  refine lv_aload_n hx hb dX2_readThrow_30 rfl (lv_at hl 0 rfl) ?_
  refine g_getk (C := RX2) (T := TX2) (N := 16) hx hb hts (mc_ inX2) hown hK g rfl 0 (by decide) rfl (hts _ (List.mem_cons_of_mem _ t_416)) (fun _ h9 => h9) 3 rfl dX2_readThrow_31 ?_
  refine lv_iconst (v := 3) hx hb dX2_readThrow_34 (by decide) ?_
  refine g_callv (va_runV (As := [.int 3]) (rest := []) ⟨hx, hb, hml, hown, hts⟩ (r_X8_take l dC dI L kd tys fr_11 H.size g.2.2.2.1 q0_ mq0_ kq0_ 3) (cwV 1 hts (gV_ t_1098 t_1099 t_1100 t_184 t_1101) rfl rfl rfl (by decide +kernel) ⟨(Nat.le_of_ble_eq_true rfl), (Nat.le_of_ble_eq_true rfl)⟩) (pre3V g hK mq0_ kq0_ (by decide) (q := (RX8, TX8, 10)) rfl) rfl rfl hl.1 rfl (lv_room (Nat.le_of_ble_eq_true rfl)) dX2_readThrow_35 ⟨(Nat.le_of_ble_eq_true rfl), (Nat.le_of_ble_eq_true rfl)⟩) g hK (by decide) (by decide) (fx' := [(7, 6, q1_, .int x_12), (7, 17, q1_, .int x_8), (2, 0, a0_, .ref q0_), (2, 3, a0_, .ref q1_)]) rfl (fun fr_15 H locs hp hMr_15 g => ?_)
  rcases hp with ⟨x_16, h_17, hF_18⟩ | ⟨x_19, h_20, hF_21⟩
  · have g := g.more hF_18
    refine lv_aload_n hx hb dX2_readThrow_38 rfl (lv_at hl 0 rfl) ?_
    refine g_getk (C := RX2) (T := TX2) (N := 16) hx hb hts (mc_ inX2) hown hK g rfl 0 (by decide) rfl (hts _ (List.mem_cons_of_mem _ t_416)) (fun _ h9 => h9) 4 rfl dX2_readThrow_39 ?_
    refine lv_bipush (v := 59) hx hb dX2_readThrow_42 (by decide) ?_
    have kb_1201 : bd 1201 1201 (1201 : Int32) := ⟨by decide, by decide⟩
    refine g_callv (va_runV (As := [.int 59]) (rest := []) ⟨hx, hb, hml, hown, hts⟩ (r_X8_take_2 l dC dI L kd tys fr_15 H.size g.2.2.2.1 q0_ mq0_ kq0_ 59 1201 kb_1201 x_16 h_17 (g.fcts [0, 1] rfl)) (cwV 1 hts (gV_ t_1098 t_1099 t_1100 t_184 t_1101) rfl rfl rfl (by decide +kernel) ⟨(Nat.le_of_ble_eq_true rfl), (Nat.le_of_ble_eq_true rfl)⟩) (pre3V g hK mq0_ kq0_ (by decide) (q := (RX8, TX8, 10)) rfl) rfl rfl hl.1 rfl (lv_room (Nat.le_of_ble_eq_true rfl)) dX2_readThrow_44 ⟨(Nat.le_of_ble_eq_true rfl), (Nat.le_of_ble_eq_true rfl)⟩) g hK (by decide) (by decide) (fx' := [(8, 8, q0_, .int x_16), (7, 6, q1_, .int x_12), (7, 17, q1_, .int x_8), (2, 0, a0_, .ref q0_), (2, 3, a0_, .ref q1_)]) rfl (fun fr_22 H locs hp hMr_22 g => ?_)
    obtain ⟨x_23, h_24, hF_25⟩ := hp
    have g := g.more hF_25
    subst hQ
    exact W.vret hx hb hr (fun t ht hW => ⟨⟨_, rfl, Or.inl ⟨x_23, h_24, x_16, h_17, x_12, h_13, x_8, h_9, (g.fcts [0, 1, 2, 3] rfl)⟩, q3_of g hK ht hW⟩, g.2.2.1.F ht⟩) g.2.2.1.2.2 dX2_readThrow_47
  · have g := g.more hF_21
    refine lv_aload_n hx hb dX2_readThrow_38 rfl (lv_at hl 0 rfl) ?_
    refine g_getk (C := RX2) (T := TX2) (N := 16) hx hb hts (mc_ inX2) hown hK g rfl 0 (by decide) rfl (hts _ (List.mem_cons_of_mem _ t_416)) (fun _ h9 => h9) 3 rfl dX2_readThrow_39 ?_
    refine lv_bipush (v := 59) hx hb dX2_readThrow_42 (by decide) ?_
    refine g_callv (va_runV (As := [.int 59]) (rest := []) ⟨hx, hb, hml, hown, hts⟩ (r_X8_take l dC dI L kd tys fr_15 H.size g.2.2.2.1 q0_ mq0_ kq0_ 59) (cwV 1 hts (gV_ t_1098 t_1099 t_1100 t_184 t_1101) rfl rfl rfl (by decide +kernel) ⟨(Nat.le_of_ble_eq_true rfl), (Nat.le_of_ble_eq_true rfl)⟩) (pre3V g hK mq0_ kq0_ (by decide) (q := (RX8, TX8, 10)) rfl) rfl rfl hl.1 rfl (lv_room (Nat.le_of_ble_eq_true rfl)) dX2_readThrow_44 ⟨(Nat.le_of_ble_eq_true rfl), (Nat.le_of_ble_eq_true rfl)⟩) g hK (by decide) (by decide) (fx' := [(7, 6, q1_, .int x_12), (7, 17, q1_, .int x_8), (2, 0, a0_, .ref q0_), (2, 3, a0_, .ref q1_)]) rfl (fun fr_26 H locs hp hMr_26 g => ?_)
    rcases hp with ⟨x_27, h_28, hF_29⟩ | ⟨x_30, h_31, hF_32⟩
    · have g := g.more hF_29
      have kb_1201 : bd 1201 1201 (1201 : Int32) := ⟨by decide, by decide⟩
      subst hQ
      exact W.vret hx hb hr (fun t ht hW => ⟨⟨_, rfl, Or.inl ⟨1201, kb_1201, x_27, h_28, x_12, h_13, x_8, h_9, (g.fcts [0, 1, 2, 3] rfl)⟩, q3_of g hK ht hW⟩, g.2.2.1.F ht⟩) g.2.2.1.2.2 dX2_readThrow_47
    · have g := g.more hF_32
      subst hQ
      exact W.vret hx hb hr (fun t ht hW => ⟨⟨_, rfl, Or.inr (⟨x_30, h_31, x_12, h_13, x_8, h_9, (g.fcts [0, 1, 2] rfl)⟩), q3_of g hK ht hW⟩, g.2.2.1.F ht⟩) g.2.2.1.2.2 dX2_readThrow_47
set_option maxHeartbeats 4000000 in
set_option maxRecDepth 100000 in
theorem r_X2_findAbove (l : Launch) (dC : Nat → ClassId) (dI : Nat → Nat → Nat) (L : List Nat) (kd : Nat → Nat) (tys : List (ClassId × FieldType)) (f0 : Nat → va_E) (sz : Nat) (hWT : WT L kd tys f0) (a0_ : Nat) (ma0_ : a0_ ∈ L) (ka0_ : kd a0_ = 2) (q0_ : Nat) (mq0_ : q0_ ∈ L) (kq0_ : kd q0_ = 8) (q1_ : Nat) (mq1_ : q1_ ∈ L) (kq1_ : kd q1_ = 7) (q2_ : Nat) (mq2_ : q2_ ∈ L) (kq2_ : kd q2_ = 9) (hfx : Fs L kd f0 [(2, 0, a0_, .ref q0_), (2, 3, a0_, .ref q1_), (2, 4, a0_, .ref q2_)]) : Met l yX2_findAbove (.code yX2_findAbove cX2_findAbove 4 (some .boolean) :: lw_g) ({ frames := 2, cells := 0, slots := 0, locals := 44 }) (va_Pc [.ref a0_] (P3 (dC, dI) L tys f0 sz)) (va_Qi (fun (r : Int32) (f : Nat → va_E) => (r = 1 ∧ ∃ z1_ : Int32, bd 1 7 z1_ ∧ Fs L kd f [(8, 6, q0_, .int 1201), (8, 8, q0_, .int z1_)]) ∨ (r = 1 ∧ ∃ z0_ : Int32, bd 1 1201 z0_ ∧ ∃ z1_ : Int32, bd 0 3 z1_ ∧ ∃ z3_ : Int32, bd 1 8 z3_ ∧ ∃ z4_ : Int32, bd 0 7 z4_ ∧ Fs L kd f [(8, 6, q0_, .int z0_), (2, 14, a0_, .int z1_), (2, 12, a0_, .int 18), (7, 1, q1_, .int z3_), (9, 1, q2_, .int z4_)])) (Q3 (dC, dI) L kd tys [(2, 12), (2, 13), (2, 14), (8, 6), (8, 8), (8, 9)] [] f0 sz) (pA L sz)) 0 0 (pA L sz) := by
  refine Met.ofW (cc := cX2_findAbove) (maxL := 4) (ret := (some .boolean)) (by decide) rfl ?_
  intro p e s m args below meth c s₁ B hml hv
  obtain ⟨rfl, hsz, hP, hK, hD0⟩ := hv
  have hx := B.exec
  have hb := B.bytes
  have hr := B.returns
  have hts := atoms_spec (ws := (.code yX2_findAbove cX2_findAbove 4 (some .boolean) :: lw_g)) B.pre
  have hown : s.vm.findClass RX2 = some m.cls := findClass_of_methodNamed B.named
  have hlocks := B.notSynchronized
  subst hsz
  have g : G3 (dC, dI) L kd tys s f0 [(2, 12), (2, 13), (2, 14), (8, 6), (8, 8), (8, 9)] [] f0 s.heap [] [(2, 0, a0_, .ref q0_), (2, 3, a0_, .ref q1_), (2, 4, a0_, .ref q2_)] := G3.start hP hD0 hWT hfx
  have hl := lv_entry ([.ref a0_]) (n := 4) (Nat.le_of_ble_eq_true rfl)
  rw [lg_entry_eq]
  generalize (lg_sl ([.ref a0_]) ++ List.replicate (4 - (lg_sl ([.ref a0_])).length) Slot.unset).toArray = ls at hl ⊢
  have hl : lv_has ls 4 [(0, .ref a0_)] := hl
  refine W_q (fun Q hQ => ?_)
  refine lv_aload_n hx hb dX2_findAbove_0 rfl (lv_at hl 0 rfl) ?_
  refine g_getk (C := RX2) (T := TX2) (N := 16) hx hb hts (mc_ inX2) hown hK g rfl 0 (by decide) rfl (hts _ (List.mem_cons_of_mem _ t_416)) (fun _ h9 => h9) 0 rfl dX2_findAbove_1 ?_
  refine g_calli (va_runV (As := []) (rest := []) ⟨hx, hb, hml, hown, hts⟩ (r_X8_place l dC dI L kd tys f0 s.heap.size g.2.2.2.1 q0_ mq0_ kq0_) (cwV 0 hts (gV_ t_1110 t_1111 t_1112 t_184 t_1113) rfl rfl rfl (by decide +kernel) ⟨(Nat.le_of_ble_eq_true rfl), (Nat.le_of_ble_eq_true rfl)⟩) (pre3V g hK mq0_ kq0_ (by decide) (q := (RX8, TX8, 10)) rfl) rfl rfl hl.1 rfl (lv_room (Nat.le_of_ble_eq_true rfl)) dX2_findAbove_4 ⟨(Nat.le_of_ble_eq_true rfl), (Nat.le_of_ble_eq_true rfl)⟩) g hK (by decide) (by decide) (fx' := [(2, 0, a0_, .ref q0_), (2, 3, a0_, .ref q1_), (2, 4, a0_, .ref q2_)]) rfl (fun r_1 fr_1 H locs hp hMr_1 g => ?_)
  refine lv_istore_n (lv' := [(1, .int r_1), (0, .ref a0_)]) hx hb dX2_findAbove_7 rfl hl (by decide) rfl (fun ls hl => ?_)
  refine lv_aload_n hx hb dX2_findAbove_8 rfl (lv_at hl 1 rfl) ?_
  refine g_getk (C := RX2) (T := TX2) (N := 16) hx hb hts (mc_ inX2) hown hK g rfl 0 (by decide) rfl (hts _ (List.mem_cons_of_mem _ t_416)) (fun _ h9 => h9) 0 rfl dX2_findAbove_9 ?_
  refine g_callv (va_runV (As := []) (rest := []) ⟨hx, hb, hml, hown, hts⟩ (r_X8_next l dC dI L kd tys fr_1 H.size g.2.2.2.1 q0_ mq0_ kq0_) (cwV 0 hts (gV_ t_1131 t_1103 t_1104 t_184 t_1105) rfl rfl rfl (by decide +kernel) ⟨(Nat.le_of_ble_eq_true rfl), (Nat.le_of_ble_eq_true rfl)⟩) (pre3V g hK mq0_ kq0_ (by decide) (q := (RX8, TX8, 10)) rfl) rfl rfl hl.1 rfl (lv_room (Nat.le_of_ble_eq_true rfl)) dX2_findAbove_12 ⟨(Nat.le_of_ble_eq_true rfl), (Nat.le_of_ble_eq_true rfl)⟩) g hK (by decide) (by decide) (fx' := [(2, 0, a0_, .ref q0_), (2, 3, a0_, .ref q1_), (2, 4, a0_, .ref q2_)]) rfl (fun fr_2 H locs hp hMr_2 g => ?_)
  obtain ⟨x_3, h_4, hF_5⟩ := hp
  have g := g.more hF_5
  refine lv_aload_n hx hb dX2_findAbove_15 rfl (lv_at hl 1 rfl) ?_
  refine g_getk (C := RX2) (T := TX2) (N := 16) hx hb hts (mc_ inX2) hown hK g rfl 3 (by decide) rfl (hts _ (List.mem_cons_of_mem _ t_419)) (fun _ h9 => h9) 2 rfl dX2_findAbove_16 ?_
  refine lv_aload_n hx hb dX2_findAbove_19 rfl (lv_at hl 1 rfl) ?_
  refine g_getk (C := RX2) (T := TX2) (N := 16) hx hb hts (mc_ inX2) hown hK g rfl 4 (by decide) rfl (hts _ (List.mem_cons_of_mem _ t_420)) (fun _ h9 => h9) 3 rfl dX2_findAbove_20 ?_
  refine g_geti (C := RX9) (T := TX9) (N := 13) hx hb hts (mc_ inX9) hown hK g mq2_ kq2_ (by decide) rfl 1 (by decide) rfl (hts _ (List.mem_cons_of_mem _ t_484)) (fun _ h9 => h9) rfl dX2_findAbove_23 (fun x_6 bx_6 g => ?_)
  refine g_calli (va_runV (As := [.int x_6]) (rest := []) ⟨hx, hb, hml, hown, hts⟩ (r_X7_hasClass l dC dI L kd tys fr_2 H.size g.2.2.2.1 q1_ mq1_ kq1_ x_6) (cwV 1 hts (gV_ t_1387 t_1281 t_1282 t_191 t_1283) rfl rfl rfl (by decide +kernel) ⟨(Nat.le_of_ble_eq_true rfl), (Nat.le_of_ble_eq_true rfl)⟩) (pre3V g hK mq1_ kq1_ (by decide) (q := (RX7, TX7, 19)) rfl) rfl rfl hl.1 rfl (lv_room (Nat.le_of_ble_eq_true rfl)) dX2_findAbove_26 ⟨(Nat.le_of_ble_eq_true rfl), (Nat.le_of_ble_eq_true rfl)⟩) g hK (by decide) (by decide) (fx' := [(9, 1, q2_, .int x_6), (8, 6, q0_, .int x_3), (2, 0, a0_, .ref q0_), (2, 3, a0_, .ref q1_), (2, 4, a0_, .ref q2_)]) rfl (fun r_7 fr_7 H locs hp hMr_7 g => ?_)
  rcases hp with ⟨h_8, -⟩ | ⟨h_9, h_10, x_11, h_12, hF_13⟩
  · obtain rfl : r_7 = 0 := h_8
    refine lv_if_ne (tgt := 43) hx hb dX2_findAbove_29 (by decide) (fun c_ => absurd c_ (by decide)) (fun c_ => ?_)
    refine lv_aload_n hx hb dX2_findAbove_32 rfl (lv_at hl 1 rfl) ?_
    refine g_getk (C := RX2) (T := TX2) (N := 16) hx hb hts (mc_ inX2) hown hK g rfl 0 (by decide) rfl (hts _ (List.mem_cons_of_mem _ t_416)) (fun _ h9 => h9) 2 rfl dX2_findAbove_33 ?_
    refine lv_iconst (v := 5) hx hb dX2_findAbove_36 (by decide) ?_
    refine lv_iload_n hx hb dX2_findAbove_37 rfl (lv_at hl 0 rfl) ?_
    have kb_5 : bd 5 5 (5 : Int32) := ⟨by decide, by decide⟩
    refine g_callv (va_runV (As := [.int 5, .int r_1]) (rest := []) ⟨hx, hb, hml, hown, hts⟩ (r_X8_fail_2 l dC dI L kd tys fr_7 H.size g.2.2.2.1 q0_ mq0_ kq0_ 5 kb_5 r_1) (cwV 2 hts (gV_ t_1122 t_1107 t_1108 t_184 t_1109) rfl rfl rfl (by decide +kernel) ⟨(Nat.le_of_ble_eq_true rfl), (Nat.le_of_ble_eq_true rfl)⟩) (pre3V g hK mq0_ kq0_ (by decide) (q := (RX8, TX8, 10)) rfl) rfl rfl hl.1 rfl (lv_room (Nat.le_of_ble_eq_true rfl)) dX2_findAbove_38 ⟨(Nat.le_of_ble_eq_true rfl), (Nat.le_of_ble_eq_true rfl)⟩) g hK (by decide) (by decide) (fx' := [(9, 1, q2_, .int x_6), (2, 0, a0_, .ref q0_), (2, 3, a0_, .ref q1_), (2, 4, a0_, .ref q2_)]) rfl (fun fr_14 H locs hp hMr_14 g => ?_)
    obtain ⟨x_15, h_16, hF_17⟩ := hp
    have g := g.more hF_17
    refine lv_iconst (v := 1) hx hb dX2_findAbove_41 (by decide) ?_
    subst hQ
    have kb_1 : bd 1 1 (1 : Int32) := ⟨by decide, by decide⟩
    exact W.zret (v := 1) hx hb hr (nar_z (bd_sub kb_1 (by decide) : bd 0 1 _).1 (bd_sub kb_1 (by decide) : bd 0 1 _).2) (fun t ht hW => ⟨⟨_, _, rfl, Or.inl ⟨rfl, x_15, h_16, (g.fcts [0, 1] rfl)⟩, q3_of g hK ht hW⟩, g.2.2.1.F ht⟩) g.2.2.1.2.2 dX2_findAbove_42
  · obtain rfl : r_7 = 1 := h_9
    have b_18 : bd 0 7 x_6 := eqX rfl (bdT x_6) h_10 (by decide)
    have g := g.more hF_13
    refine lv_if_ne (tgt := 43) hx hb dX2_findAbove_29 (by decide) (fun c_ => ?_) (fun c_ => absurd c_ (by decide))
    refine lv_aload_n hx hb dX2_findAbove_43 rfl (lv_at hl 1 rfl) ?_
    refine g_getk (C := RX2) (T := TX2) (N := 16) hx hb hts (mc_ inX2) hown hK g rfl 3 (by decide) rfl (hts _ (List.mem_cons_of_mem _ t_419)) (fun _ h9 => h9) 4 rfl dX2_findAbove_44 ?_
    refine g_getr (K := 136) (C := RX7) (T := TX7) (N := 19) hx hb hts (mc_ inX7) hown hK g mq1_ kq1_ (by decide) rfl 0 (by decide) rfl (hts _ (List.mem_cons_of_mem _ t_621)) (fun _ h9 => h9) rfl dX2_findAbove_47 (fun a_19 ma_19 ka_19 g => ?_)
    refine lv_aload_n hx hb dX2_findAbove_50 rfl (lv_at hl 1 rfl) ?_
    refine g_getk (C := RX2) (T := TX2) (N := 16) hx hb hts (mc_ inX2) hown hK g rfl 4 (by decide) rfl (hts _ (List.mem_cons_of_mem _ t_420)) (fun _ h9 => h9) 6 rfl dX2_findAbove_51 ?_
    refine g_getk (C := RX9) (T := TX9) (N := 13) hx hb hts (mc_ inX9) hown hK g rfl 1 (by decide) rfl (hts _ (List.mem_cons_of_mem _ t_484)) (fun _ h9 => h9) 2 rfl dX2_findAbove_54 ?_
    refine g_aald hx hb hK g ma_19 ka_19 (by decide) rfl (by decide) (in_bd b_18 (by decide)) dX2_findAbove_57 (fun a_20 ma_20 ua_20 wa_20 => ?_)
    have ka_20 : kd a_20 = 9 := by omega
    refine lv_astore_n (lv' := [(2, .ref a_20), (1, .int r_1), (0, .ref a0_)]) hx hb dX2_findAbove_58 rfl hl (by decide) rfl (fun ls hl => ?_)
    refine lv_aload_n hx hb dX2_findAbove_59 rfl (lv_at hl 2 rfl) ?_
    refine g_getk (C := RX2) (T := TX2) (N := 16) hx hb hts (mc_ inX2) hown hK g rfl 0 (by decide) rfl (hts _ (List.mem_cons_of_mem _ t_416)) (fun _ h9 => h9) 4 rfl dX2_findAbove_60 ?_
    refine lv_bipush (v := 46) hx hb dX2_findAbove_63 (by decide) ?_
    refine g_callv (va_runV (As := [.int 46]) (rest := []) ⟨hx, hb, hml, hown, hts⟩ (r_X8_take l dC dI L kd tys fr_7 H.size g.2.2.2.1 q0_ mq0_ kq0_ 46) (cwV 1 hts (gV_ t_1098 t_1099 t_1100 t_184 t_1101) rfl rfl rfl (by decide +kernel) ⟨(Nat.le_of_ble_eq_true rfl), (Nat.le_of_ble_eq_true rfl)⟩) (pre3V g hK mq0_ kq0_ (by decide) (q := (RX8, TX8, 10)) rfl) rfl rfl hl.1 rfl (lv_room (Nat.le_of_ble_eq_true rfl)) dX2_findAbove_65 ⟨(Nat.le_of_ble_eq_true rfl), (Nat.le_of_ble_eq_true rfl)⟩) g hK (by decide) (by decide) (fx' := [(7, 0, q1_, .ref a_19), (7, 1, q1_, .int x_11), (9, 1, q2_, .int x_6), (2, 0, a0_, .ref q0_), (2, 3, a0_, .ref q1_), (2, 4, a0_, .ref q2_)]) rfl (fun fr_21 H locs hp hMr_21 g => ?_)
    rcases hp with ⟨x_22, h_23, hF_24⟩ | ⟨x_25, h_26, hF_27⟩
    · have g := g.more hF_24
      refine lv_aload_n hx hb dX2_findAbove_68 rfl (lv_at hl 2 rfl) ?_
      refine g_getk (C := RX2) (T := TX2) (N := 16) hx hb hts (mc_ inX2) hown hK g rfl 3 (by decide) rfl (hts _ (List.mem_cons_of_mem _ t_419)) (fun _ h9 => h9) 6 rfl dX2_findAbove_69 ?_
      refine lv_aload_n hx hb dX2_findAbove_72 rfl (lv_at hl 0 rfl) ?_
      refine lv_aload_n hx hb dX2_findAbove_73 rfl (lv_at hl 2 rfl) ?_
      refine g_getk (C := RX2) (T := TX2) (N := 16) hx hb hts (mc_ inX2) hown hK g rfl 0 (by decide) rfl (hts _ (List.mem_cons_of_mem _ t_416)) (fun _ h9 => h9) 5 rfl dX2_findAbove_74 ?_
      refine g_calll (va_runV (As := []) (rest := [.ref a_20, .ref q1_]) ⟨hx, hb, hml, hown, hts⟩ (r_X8_value l dC dI L kd tys fr_21 H.size g.2.2.2.1 q0_ mq0_ kq0_) (cwV 0 hts (gV_ t_1114 t_1115 t_1116 t_184 t_1117) rfl rfl rfl (by decide +kernel) ⟨(Nat.le_of_ble_eq_true rfl), (Nat.le_of_ble_eq_true rfl)⟩) (pre3V g hK mq0_ kq0_ (by decide) (q := (RX8, TX8, 10)) rfl) rfl rfl hl.1 rfl (lv_room (Nat.le_of_ble_eq_true rfl)) dX2_findAbove_77 ⟨(Nat.le_of_ble_eq_true rfl), (Nat.le_of_ble_eq_true rfl)⟩) g hK (by decide) (by decide) (fx' := [(8, 6, q0_, .int 1201), (8, 8, q0_, .int x_22), (7, 0, q1_, .ref a_19), (7, 1, q1_, .int x_11), (9, 1, q2_, .int x_6), (2, 0, a0_, .ref q0_), (2, 3, a0_, .ref q1_), (2, 4, a0_, .ref q2_)]) rfl (fun r_28 fr_28 H locs hp hMr_28 g => ?_)
      refine g_calli (va_runV (As := [.ref a_20, .long r_28]) (rest := []) ⟨hx, hb, hml, hown, hts⟩ (r_X7_memberNamed l dC dI L kd tys fr_28 H.size g.2.2.2.1 q1_ mq1_ kq1_ a_20 ma_20 ka_20 r_28) (cwV 2 hts (gV_ t_1306 t_1244 t_1245 t_191 t_1246) rfl rfl rfl (by decide +kernel) ⟨(Nat.le_of_ble_eq_true rfl), (Nat.le_of_ble_eq_true rfl)⟩) (pre3V g hK mq1_ kq1_ (by decide) (q := (RX7, TX7, 19)) rfl) rfl rfl hl.1 rfl (lv_room (Nat.le_of_ble_eq_true rfl)) dX2_findAbove_80 ⟨(Nat.le_of_ble_eq_true rfl), (Nat.le_of_ble_eq_true rfl)⟩) g hK (by decide) (by decide) (fx' := [(8, 6, q0_, .int 1201), (8, 8, q0_, .int x_22), (7, 0, q1_, .ref a_19), (7, 1, q1_, .int x_11), (9, 1, q2_, .int x_6), (2, 0, a0_, .ref q0_), (2, 3, a0_, .ref q1_), (2, 4, a0_, .ref q2_)]) rfl (fun r_29 fr_29 H locs hp hMr_29 g => ?_)
      obtain ⟨h_30, -⟩ := hp
      refine lv_istore_n (lv' := [(3, .int r_29), (2, .ref a_20), (1, .int r_1), (0, .ref a0_)]) hx hb dX2_findAbove_83 rfl hl (by decide) rfl (fun ls hl => ?_)
      refine lv_aload_n hx hb dX2_findAbove_84 rfl (lv_at hl 3 rfl) ?_
      refine g_getk (C := RX2) (T := TX2) (N := 16) hx hb hts (mc_ inX2) hown hK g rfl 0 (by decide) rfl (hts _ (List.mem_cons_of_mem _ t_416)) (fun _ h9 => h9) 5 rfl dX2_findAbove_85 ?_
      have kb_1201 : bd 1201 1201 (1201 : Int32) := ⟨by decide, by decide⟩
      refine g_calli (va_runV (As := []) (rest := []) ⟨hx, hb, hml, hown, hts⟩ (r_X8_kind_2 l dC dI L kd tys fr_29 H.size g.2.2.2.1 q0_ mq0_ kq0_ 1201 kb_1201 (g.fcts [0] rfl)) (cwV 0 hts (gV_ t_1118 t_1119 t_1120 t_184 t_1121) rfl rfl rfl (by decide +kernel) ⟨(Nat.le_of_ble_eq_true rfl), (Nat.le_of_ble_eq_true rfl)⟩) (pre3V g hK mq0_ kq0_ (by decide) (q := (RX8, TX8, 10)) rfl) rfl rfl hl.1 rfl (lv_room (Nat.le_of_ble_eq_true rfl)) dX2_findAbove_88 ⟨(Nat.le_of_ble_eq_true rfl), (Nat.le_of_ble_eq_true rfl)⟩) g hK (by decide) (by decide) (fx' := [(8, 6, q0_, .int 1201), (8, 8, q0_, .int x_22), (7, 0, q1_, .ref a_19), (7, 1, q1_, .int x_11), (9, 1, q2_, .int x_6), (2, 0, a0_, .ref q0_), (2, 3, a0_, .ref q1_), (2, 4, a0_, .ref q2_)]) rfl (fun r_31 fr_31 H locs hp hMr_31 g => ?_)
      obtain ⟨h_32, -⟩ := hp
      obtain rfl : r_31 = 0 := h_32
      refine lv_iconst (v := 3) hx hb dX2_findAbove_91 (by decide) ?_
      refine lv_icmp_eq (tgt := 113) hx hb dX2_findAbove_92 (by decide) (fun c_ => absurd c_ (by decide)) (fun c_ => ?_)
      refine lv_aload_n hx hb dX2_findAbove_95 rfl (lv_at hl 3 rfl) ?_
      refine g_getk (C := RX2) (T := TX2) (N := 16) hx hb hts (mc_ inX2) hown hK g rfl 0 (by decide) rfl (hts _ (List.mem_cons_of_mem _ t_416)) (fun _ h9 => h9) 5 rfl dX2_findAbove_96 ?_
      refine lv_iconst (v := 1) hx hb dX2_findAbove_99 (by decide) ?_
      refine lv_aload_n hx hb dX2_findAbove_100 rfl (lv_at hl 3 rfl) ?_
      refine g_getk (C := RX2) (T := TX2) (N := 16) hx hb hts (mc_ inX2) hown hK g rfl 0 (by decide) rfl (hts _ (List.mem_cons_of_mem _ t_416)) (fun _ h9 => h9) 5 rfl dX2_findAbove_101 ?_
      refine g_calli (va_runV (As := []) (rest := [.int 1, .ref q0_]) ⟨hx, hb, hml, hown, hts⟩ (r_X8_place l dC dI L kd tys fr_31 H.size g.2.2.2.1 q0_ mq0_ kq0_) (cwV 0 hts (gV_ t_1110 t_1111 t_1112 t_184 t_1113) rfl rfl rfl (by decide +kernel) ⟨(Nat.le_of_ble_eq_true rfl), (Nat.le_of_ble_eq_true rfl)⟩) (pre3V g hK mq0_ kq0_ (by decide) (q := (RX8, TX8, 10)) rfl) rfl rfl hl.1 rfl (lv_room (Nat.le_of_ble_eq_true rfl)) dX2_findAbove_104 ⟨(Nat.le_of_ble_eq_true rfl), (Nat.le_of_ble_eq_true rfl)⟩) g hK (by decide) (by decide) (fx' := [(8, 6, q0_, .int 1201), (8, 8, q0_, .int x_22), (7, 0, q1_, .ref a_19), (7, 1, q1_, .int x_11), (9, 1, q2_, .int x_6), (2, 0, a0_, .ref q0_), (2, 3, a0_, .ref q1_), (2, 4, a0_, .ref q2_)]) rfl (fun r_33 fr_33 H locs hp hMr_33 g => ?_)
      have kb_1 : bd 1 1 (1 : Int32) := ⟨by decide, by decide⟩
      refine g_callv (va_runV (As := [.int 1, .int r_33]) (rest := []) ⟨hx, hb, hml, hown, hts⟩ (r_X8_fail_8 l dC dI L kd tys fr_33 H.size g.2.2.2.1 q0_ mq0_ kq0_ 1 kb_1 r_33 x_22 h_23 (g.fcts [1] rfl)) (cwV 2 hts (gV_ t_1122 t_1107 t_1108 t_184 t_1109) rfl rfl rfl (by decide +kernel) ⟨(Nat.le_of_ble_eq_true rfl), (Nat.le_of_ble_eq_true rfl)⟩) (pre3V g hK mq0_ kq0_ (by decide) (q := (RX8, TX8, 10)) rfl) rfl rfl hl.1 rfl (lv_room (Nat.le_of_ble_eq_true rfl)) dX2_findAbove_107 ⟨(Nat.le_of_ble_eq_true rfl), (Nat.le_of_ble_eq_true rfl)⟩) g hK (by decide) (by decide) (fx' := [(8, 8, q0_, .int x_22), (7, 0, q1_, .ref a_19), (7, 1, q1_, .int x_11), (9, 1, q2_, .int x_6), (2, 0, a0_, .ref q0_), (2, 3, a0_, .ref q1_), (2, 4, a0_, .ref q2_)]) rfl (fun fr_34 H locs hp hMr_34 g => ?_)
      have hF_35 := hp
      have g := g.more hF_35
      refine lv_goto (tgt := 171) hx hb dX2_findAbove_110 (by decide) ?_
      refine lv_aload_n hx hb dX2_findAbove_171 rfl (lv_at hl 3 rfl) ?_
      refine g_getk (C := RX2) (T := TX2) (N := 16) hx hb hts (mc_ inX2) hown hK g rfl 0 (by decide) rfl (hts _ (List.mem_cons_of_mem _ t_416)) (fun _ h9 => h9) 5 rfl dX2_findAbove_172 ?_
      refine g_callv (va_runV (As := []) (rest := []) ⟨hx, hb, hml, hown, hts⟩ (r_X8_next_2 l dC dI L kd tys fr_34 H.size g.2.2.2.1 q0_ mq0_ kq0_ 1201 kb_1201 (g.fcts [0] rfl)) (cwV 0 hts (gV_ t_1131 t_1103 t_1104 t_184 t_1105) rfl rfl rfl (by decide +kernel) ⟨(Nat.le_of_ble_eq_true rfl), (Nat.le_of_ble_eq_true rfl)⟩) (pre3V g hK mq0_ kq0_ (by decide) (q := (RX8, TX8, 10)) rfl) rfl rfl hl.1 rfl (lv_room (Nat.le_of_ble_eq_true rfl)) dX2_findAbove_175 ⟨(Nat.le_of_ble_eq_true rfl), (Nat.le_of_ble_eq_true rfl)⟩) g hK (by decide) (by decide) (fx' := [(8, 6, q0_, .int 1201), (8, 8, q0_, .int x_22), (7, 0, q1_, .ref a_19), (7, 1, q1_, .int x_11), (9, 1, q2_, .int x_6), (2, 0, a0_, .ref q0_), (2, 3, a0_, .ref q1_), (2, 4, a0_, .ref q2_)]) rfl (fun fr_36 H locs hp hMr_36 g => ?_)
      refine lv_iconst (v := 1) hx hb dX2_findAbove_178 (by decide) ?_
      subst hQ
      exact W.zret (v := 1) hx hb hr (nar_z (bd_sub kb_1 (by decide) : bd 0 1 _).1 (bd_sub kb_1 (by decide) : bd 0 1 _).2) (fun t ht hW => ⟨⟨_, _, rfl, Or.inl ⟨rfl, x_22, h_23, (g.fcts [0, 1] rfl)⟩, q3_of g hK ht hW⟩, g.2.2.1.F ht⟩) g.2.2.1.2.2 dX2_findAbove_179
    · have g := g.more hF_27
      refine lv_aload_n hx hb dX2_findAbove_68 rfl (lv_at hl 2 rfl) ?_
      refine g_getk (C := RX2) (T := TX2) (N := 16) hx hb hts (mc_ inX2) hown hK g rfl 3 (by decide) rfl (hts _ (List.mem_cons_of_mem _ t_419)) (fun _ h9 => h9) 5 rfl dX2_findAbove_69 ?_
      refine lv_aload_n hx hb dX2_findAbove_72 rfl (lv_at hl 0 rfl) ?_
      refine lv_aload_n hx hb dX2_findAbove_73 rfl (lv_at hl 2 rfl) ?_
      refine g_getk (C := RX2) (T := TX2) (N := 16) hx hb hts (mc_ inX2) hown hK g rfl 0 (by decide) rfl (hts _ (List.mem_cons_of_mem _ t_416)) (fun _ h9 => h9) 4 rfl dX2_findAbove_74 ?_
      refine g_calll (va_runV (As := []) (rest := [.ref a_20, .ref q1_]) ⟨hx, hb, hml, hown, hts⟩ (r_X8_value l dC dI L kd tys fr_21 H.size g.2.2.2.1 q0_ mq0_ kq0_) (cwV 0 hts (gV_ t_1114 t_1115 t_1116 t_184 t_1117) rfl rfl rfl (by decide +kernel) ⟨(Nat.le_of_ble_eq_true rfl), (Nat.le_of_ble_eq_true rfl)⟩) (pre3V g hK mq0_ kq0_ (by decide) (q := (RX8, TX8, 10)) rfl) rfl rfl hl.1 rfl (lv_room (Nat.le_of_ble_eq_true rfl)) dX2_findAbove_77 ⟨(Nat.le_of_ble_eq_true rfl), (Nat.le_of_ble_eq_true rfl)⟩) g hK (by decide) (by decide) (fx' := [(8, 6, q0_, .int x_25), (7, 0, q1_, .ref a_19), (7, 1, q1_, .int x_11), (9, 1, q2_, .int x_6), (2, 0, a0_, .ref q0_), (2, 3, a0_, .ref q1_), (2, 4, a0_, .ref q2_)]) rfl (fun r_37 fr_37 H locs hp hMr_37 g => ?_)
      refine g_calli (va_runV (As := [.ref a_20, .long r_37]) (rest := []) ⟨hx, hb, hml, hown, hts⟩ (r_X7_memberNamed l dC dI L kd tys fr_37 H.size g.2.2.2.1 q1_ mq1_ kq1_ a_20 ma_20 ka_20 r_37) (cwV 2 hts (gV_ t_1306 t_1244 t_1245 t_191 t_1246) rfl rfl rfl (by decide +kernel) ⟨(Nat.le_of_ble_eq_true rfl), (Nat.le_of_ble_eq_true rfl)⟩) (pre3V g hK mq1_ kq1_ (by decide) (q := (RX7, TX7, 19)) rfl) rfl rfl hl.1 rfl (lv_room (Nat.le_of_ble_eq_true rfl)) dX2_findAbove_80 ⟨(Nat.le_of_ble_eq_true rfl), (Nat.le_of_ble_eq_true rfl)⟩) g hK (by decide) (by decide) (fx' := [(8, 6, q0_, .int x_25), (7, 0, q1_, .ref a_19), (7, 1, q1_, .int x_11), (9, 1, q2_, .int x_6), (2, 0, a0_, .ref q0_), (2, 3, a0_, .ref q1_), (2, 4, a0_, .ref q2_)]) rfl (fun r_38 fr_38 H locs hp hMr_38 g => ?_)
      obtain ⟨h_39, -⟩ := hp
      refine lv_istore_n (lv' := [(3, .int r_38), (2, .ref a_20), (1, .int r_1), (0, .ref a0_)]) hx hb dX2_findAbove_83 rfl hl (by decide) rfl (fun ls hl => ?_)
      refine lv_aload_n hx hb dX2_findAbove_84 rfl (lv_at hl 3 rfl) ?_
      refine g_getk (C := RX2) (T := TX2) (N := 16) hx hb hts (mc_ inX2) hown hK g rfl 0 (by decide) rfl (hts _ (List.mem_cons_of_mem _ t_416)) (fun _ h9 => h9) 4 rfl dX2_findAbove_85 ?_
      refine g_calli (va_runV (As := []) (rest := []) ⟨hx, hb, hml, hown, hts⟩ (r_X8_kind l dC dI L kd tys fr_38 H.size g.2.2.2.1 q0_ mq0_ kq0_) (cwV 0 hts (gV_ t_1118 t_1119 t_1120 t_184 t_1121) rfl rfl rfl (by decide +kernel) ⟨(Nat.le_of_ble_eq_true rfl), (Nat.le_of_ble_eq_true rfl)⟩) (pre3V g hK mq0_ kq0_ (by decide) (q := (RX8, TX8, 10)) rfl) rfl rfl hl.1 rfl (lv_room (Nat.le_of_ble_eq_true rfl)) dX2_findAbove_88 ⟨(Nat.le_of_ble_eq_true rfl), (Nat.le_of_ble_eq_true rfl)⟩) g hK (by decide) (by decide) (fx' := [(8, 6, q0_, .int x_25), (7, 0, q1_, .ref a_19), (7, 1, q1_, .int x_11), (9, 1, q2_, .int x_6), (2, 0, a0_, .ref q0_), (2, 3, a0_, .ref q1_), (2, 4, a0_, .ref q2_)]) rfl (fun r_40 fr_40 H locs hp hMr_40 g => ?_)
      refine lv_iconst (v := 3) hx hb dX2_findAbove_91 (by decide) ?_
      have kb_3 : bd 3 3 (3 : Int32) := ⟨by decide, by decide⟩
      refine lv_icmp_eq (tgt := 113) hx hb dX2_findAbove_92 (by decide) (fun c_41 => ?_) (fun c_41 => ?_)
      · have fc_41 := eq_f c_41
        have b_42 : bd 3 3 r_40 := eqX fc_41 (bdT r_40) kb_3 (by decide)
        refine lv_iload_n hx hb dX2_findAbove_113 rfl (lv_at hl 0 rfl) ?_
        refine lv_iconst (v := (-1)) hx hb dX2_findAbove_114 (by decide) ?_
        have kb_m1 : bd (-1) (-1) ((-1) : Int32) := ⟨by decide, by decide⟩
        refine lv_icmp_ne (tgt := 136) hx hb dX2_findAbove_115 (by decide) (fun c_43 => ?_) (fun c_43 => ?_)
        · have fc_43 := neq_f c_43
          have b_44 : bd 0 11 r_38 := neX fc_43 h_39 kb_m1 (by decide)
          refine lv_aload_n hx hb dX2_findAbove_136 rfl (lv_at hl 3 rfl) ?_
          refine lv_bipush (v := 18) hx hb dX2_findAbove_137 (by decide) ?_
          have kb_18 : bd 18 18 (18 : Int32) := ⟨by decide, by decide⟩
          refine g_put (C := RX2) (T := TX2) (N := 16) hx hb hts (mc_ inX2) tyX2 tyX2_ok nmX2 hown hK g ma0_ ka0_ (by decide) rfl 12 (by decide) (hts _ (List.mem_cons_of_mem _ t_428)) (fun _ h9 => h9) rfl rfl (okV_i (bd_sub kb_18 (by decide))) rfl rfl (by decide) (Or.inr (Or.inl (by decide))) (fx' := [(8, 6, q0_, .int x_25), (7, 0, q1_, .ref a_19), (7, 1, q1_, .int x_11), (9, 1, q2_, .int x_6), (2, 0, a0_, .ref q0_), (2, 3, a0_, .ref q1_), (2, 4, a0_, .ref q2_)]) rfl dX2_findAbove_139 (fun f H locs hM_45 g => ?_)
          refine lv_aload_n hx hb dX2_findAbove_142 rfl (lv_at hl 3 rfl) ?_
          refine lv_aload_n hx hb dX2_findAbove_143 rfl (lv_at hl 1 rfl) ?_
          refine g_getr (K := 156) (C := RX9) (T := TX9) (N := 13) hx hb hts (mc_ inX9) hown hK g ma_20 ka_20 (by decide) rfl 9 (by decide) rfl (hts _ (List.mem_cons_of_mem _ t_510)) (fun _ h9 => h9) rfl dX2_findAbove_144 (fun a_46 ma_46 ka_46 g => ?_)
          refine lv_iload_n hx hb dX2_findAbove_147 rfl (lv_at hl 0 rfl) ?_
          refine g_iald hx hb hK g ma_46 ka_46 (by decide) rfl (in_bd b_44 (by decide)) dX2_findAbove_148 (fun x_47 bx_47 cx_47 => ?_)
          refine g_put (C := RX2) (T := TX2) (N := 16) hx hb hts (mc_ inX2) tyX2 tyX2_ok nmX2 hown hK g ma0_ ka0_ (by decide) rfl 13 (by decide) (hts _ (List.mem_cons_of_mem _ t_429)) (fun _ h9 => h9) rfl rfl (okV_i bx_47) rfl rfl (by decide) (Or.inr (Or.inl (by decide))) (fx' := [(9, 9, a_20, .ref a_46), (2, 12, a0_, .int 18), (8, 6, q0_, .int x_25), (7, 0, q1_, .ref a_19), (7, 1, q1_, .int x_11), (9, 1, q2_, .int x_6), (2, 0, a0_, .ref q0_), (2, 3, a0_, .ref q1_), (2, 4, a0_, .ref q2_)]) rfl dX2_findAbove_149 (fun f H locs hM_48 g => ?_)
          refine lv_aload_n hx hb dX2_findAbove_152 rfl (lv_at hl 3 rfl) ?_
          refine lv_aload_n hx hb dX2_findAbove_153 rfl (lv_at hl 3 rfl) ?_
          refine g_getk (C := RX2) (T := TX2) (N := 16) hx hb hts (mc_ inX2) hown hK g rfl 3 (by decide) rfl (hts _ (List.mem_cons_of_mem _ t_419)) (fun _ h9 => h9) 8 rfl dX2_findAbove_154 ?_
          refine g_getr (K := 137) (C := RX7) (T := TX7) (N := 19) hx hb hts (mc_ inX7) hown hK g mq1_ kq1_ (by decide) rfl 2 (by decide) rfl (hts _ (List.mem_cons_of_mem _ t_630)) (fun _ h9 => h9) rfl dX2_findAbove_157 (fun a_49 ma_49 ka_49 g => ?_)
          refine lv_aload_n hx hb dX2_findAbove_160 rfl (lv_at hl 3 rfl) ?_
          refine g_getk (C := RX2) (T := TX2) (N := 16) hx hb hts (mc_ inX2) hown hK g rfl 13 (by decide) rfl (hts _ (List.mem_cons_of_mem _ t_429)) (fun _ h9 => h9) 1 rfl dX2_findAbove_161 ?_
          refine g_aald hx hb hK g ma_49 ka_49 (by decide) rfl (by decide) (in_bd bx_47 (by decide)) dX2_findAbove_164 (fun a_50 ma_50 ua_50 wa_50 => ?_)
          have ka_50 : kd a_50 = 6 := by omega
          refine g_geti (C := RX6) (T := TX6) (N := 13) hx hb hts (mc_ inX6) hown hK g ma_50 ka_50 (by decide) rfl 3 (by decide) rfl (hts _ (List.mem_cons_of_mem _ t_568)) (fun _ h9 => h9) rfl dX2_findAbove_165 (fun x_51 bx_51 g => ?_)
          refine g_put (C := RX2) (T := TX2) (N := 16) hx hb hts (mc_ inX2) tyX2 tyX2_ok nmX2 hown hK g ma0_ ka0_ (by decide) rfl 14 (by decide) (hts _ (List.mem_cons_of_mem _ t_430)) (fun _ h9 => h9) rfl rfl (okV_i (bd_sub bx_51 (by decide))) rfl rfl (by decide) (Or.inr (Or.inl (by decide))) (fx' := [(6, 3, a_50, .int x_51), (7, 2, q1_, .ref a_49), (2, 13, a0_, .int x_47), (9, 9, a_20, .ref a_46), (2, 12, a0_, .int 18), (8, 6, q0_, .int x_25), (7, 0, q1_, .ref a_19), (7, 1, q1_, .int x_11), (9, 1, q2_, .int x_6), (2, 0, a0_, .ref q0_), (2, 3, a0_, .ref q1_), (2, 4, a0_, .ref q2_)]) rfl dX2_findAbove_168 (fun f H locs hM_52 g => ?_)
          refine lv_aload_n hx hb dX2_findAbove_171 rfl (lv_at hl 3 rfl) ?_
          refine g_getk (C := RX2) (T := TX2) (N := 16) hx hb hts (mc_ inX2) hown hK g rfl 0 (by decide) rfl (hts _ (List.mem_cons_of_mem _ t_416)) (fun _ h9 => h9) 10 rfl dX2_findAbove_172 ?_
          refine g_callv (va_runV (As := []) (rest := []) ⟨hx, hb, hml, hown, hts⟩ (r_X8_next l dC dI L kd tys f H.size g.2.2.2.1 q0_ mq0_ kq0_) (cwV 0 hts (gV_ t_1131 t_1103 t_1104 t_184 t_1105) rfl rfl rfl (by decide +kernel) ⟨(Nat.le_of_ble_eq_true rfl), (Nat.le_of_ble_eq_true rfl)⟩) (pre3V g hK mq0_ kq0_ (by decide) (q := (RX8, TX8, 10)) rfl) rfl rfl hl.1 rfl (lv_room (Nat.le_of_ble_eq_true rfl)) dX2_findAbove_175 ⟨(Nat.le_of_ble_eq_true rfl), (Nat.le_of_ble_eq_true rfl)⟩) g hK (by decide) (by decide) (fx' := [(2, 14, a0_, .int x_51), (6, 3, a_50, .int x_51), (7, 2, q1_, .ref a_49), (2, 13, a0_, .int x_47), (9, 9, a_20, .ref a_46), (2, 12, a0_, .int 18), (7, 0, q1_, .ref a_19), (7, 1, q1_, .int x_11), (9, 1, q2_, .int x_6), (2, 0, a0_, .ref q0_), (2, 3, a0_, .ref q1_), (2, 4, a0_, .ref q2_)]) rfl (fun fr_53 H locs hp hMr_53 g => ?_)
          obtain ⟨x_54, h_55, hF_56⟩ := hp
          have g := g.more hF_56
          refine lv_iconst (v := 1) hx hb dX2_findAbove_178 (by decide) ?_
          subst hQ
          have kb_1 : bd 1 1 (1 : Int32) := ⟨by decide, by decide⟩
          exact W.zret (v := 1) hx hb hr (nar_z (bd_sub kb_1 (by decide) : bd 0 1 _).1 (bd_sub kb_1 (by decide) : bd 0 1 _).2) (fun t ht hW => ⟨⟨_, _, rfl, Or.inr (⟨rfl, x_54, h_55, x_51, bx_51, x_11, h_12, x_6, b_18, (g.fcts [0, 1, 6, 8, 9] rfl)⟩), q3_of g hK ht hW⟩, g.2.2.1.F ht⟩) g.2.2.1.2.2 dX2_findAbove_179
        · have fc_43 := eq_f c_43
          have b_57 : bd (-1) (-1) r_38 := eqX fc_43 h_39 kb_m1 (by decide)
          refine lv_aload_n hx hb dX2_findAbove_118 rfl (lv_at hl 3 rfl) ?_
          refine g_getk (C := RX2) (T := TX2) (N := 16) hx hb hts (mc_ inX2) hown hK g rfl 0 (by decide) rfl (hts _ (List.mem_cons_of_mem _ t_416)) (fun _ h9 => h9) 4 rfl dX2_findAbove_119 ?_
          refine lv_iconst (v := 2) hx hb dX2_findAbove_122 (by decide) ?_
          refine lv_aload_n hx hb dX2_findAbove_123 rfl (lv_at hl 3 rfl) ?_
          refine g_getk (C := RX2) (T := TX2) (N := 16) hx hb hts (mc_ inX2) hown hK g rfl 0 (by decide) rfl (hts _ (List.mem_cons_of_mem _ t_416)) (fun _ h9 => h9) 4 rfl dX2_findAbove_124 ?_
          refine g_calli (va_runV (As := []) (rest := [.int 2, .ref q0_]) ⟨hx, hb, hml, hown, hts⟩ (r_X8_place l dC dI L kd tys fr_40 H.size g.2.2.2.1 q0_ mq0_ kq0_) (cwV 0 hts (gV_ t_1110 t_1111 t_1112 t_184 t_1113) rfl rfl rfl (by decide +kernel) ⟨(Nat.le_of_ble_eq_true rfl), (Nat.le_of_ble_eq_true rfl)⟩) (pre3V g hK mq0_ kq0_ (by decide) (q := (RX8, TX8, 10)) rfl) rfl rfl hl.1 rfl (lv_room (Nat.le_of_ble_eq_true rfl)) dX2_findAbove_127 ⟨(Nat.le_of_ble_eq_true rfl), (Nat.le_of_ble_eq_true rfl)⟩) g hK (by decide) (by decide) (fx' := [(8, 6, q0_, .int x_25), (7, 0, q1_, .ref a_19), (7, 1, q1_, .int x_11), (9, 1, q2_, .int x_6), (2, 0, a0_, .ref q0_), (2, 3, a0_, .ref q1_), (2, 4, a0_, .ref q2_)]) rfl (fun r_58 fr_58 H locs hp hMr_58 g => ?_)
          have kb_2 : bd 2 2 (2 : Int32) := ⟨by decide, by decide⟩
          refine g_callv (va_runV (As := [.int 2, .int r_58]) (rest := []) ⟨hx, hb, hml, hown, hts⟩ (r_X8_fail_3 l dC dI L kd tys fr_58 H.size g.2.2.2.1 q0_ mq0_ kq0_ 2 kb_2 r_58) (cwV 2 hts (gV_ t_1122 t_1107 t_1108 t_184 t_1109) rfl rfl rfl (by decide +kernel) ⟨(Nat.le_of_ble_eq_true rfl), (Nat.le_of_ble_eq_true rfl)⟩) (pre3V g hK mq0_ kq0_ (by decide) (q := (RX8, TX8, 10)) rfl) rfl rfl hl.1 rfl (lv_room (Nat.le_of_ble_eq_true rfl)) dX2_findAbove_130 ⟨(Nat.le_of_ble_eq_true rfl), (Nat.le_of_ble_eq_true rfl)⟩) g hK (by decide) (by decide) (fx' := [(7, 0, q1_, .ref a_19), (7, 1, q1_, .int x_11), (9, 1, q2_, .int x_6), (2, 0, a0_, .ref q0_), (2, 3, a0_, .ref q1_), (2, 4, a0_, .ref q2_)]) rfl (fun fr_59 H locs hp hMr_59 g => ?_)
          obtain ⟨x_60, h_61, hF_62⟩ := hp
          have g := g.more hF_62
          refine lv_goto (tgt := 171) hx hb dX2_findAbove_133 (by decide) ?_
          refine lv_aload_n hx hb dX2_findAbove_171 rfl (lv_at hl 3 rfl) ?_
          refine g_getk (C := RX2) (T := TX2) (N := 16) hx hb hts (mc_ inX2) hown hK g rfl 0 (by decide) rfl (hts _ (List.mem_cons_of_mem _ t_416)) (fun _ h9 => h9) 5 rfl dX2_findAbove_172 ?_
          have kb_1201 : bd 1201 1201 (1201 : Int32) := ⟨by decide, by decide⟩
          refine g_callv (va_runV (As := []) (rest := []) ⟨hx, hb, hml, hown, hts⟩ (r_X8_next_2 l dC dI L kd tys fr_59 H.size g.2.2.2.1 q0_ mq0_ kq0_ 1201 kb_1201 (g.fcts [0] rfl)) (cwV 0 hts (gV_ t_1131 t_1103 t_1104 t_184 t_1105) rfl rfl rfl (by decide +kernel) ⟨(Nat.le_of_ble_eq_true rfl), (Nat.le_of_ble_eq_true rfl)⟩) (pre3V g hK mq0_ kq0_ (by decide) (q := (RX8, TX8, 10)) rfl) rfl rfl hl.1 rfl (lv_room (Nat.le_of_ble_eq_true rfl)) dX2_findAbove_175 ⟨(Nat.le_of_ble_eq_true rfl), (Nat.le_of_ble_eq_true rfl)⟩) g hK (by decide) (by decide) (fx' := [(8, 6, q0_, .int 1201), (8, 8, q0_, .int x_60), (7, 0, q1_, .ref a_19), (7, 1, q1_, .int x_11), (9, 1, q2_, .int x_6), (2, 0, a0_, .ref q0_), (2, 3, a0_, .ref q1_), (2, 4, a0_, .ref q2_)]) rfl (fun fr_63 H locs hp hMr_63 g => ?_)
          refine lv_iconst (v := 1) hx hb dX2_findAbove_178 (by decide) ?_
          subst hQ
          have kb_1 : bd 1 1 (1 : Int32) := ⟨by decide, by decide⟩
          exact W.zret (v := 1) hx hb hr (nar_z (bd_sub kb_1 (by decide) : bd 0 1 _).1 (bd_sub kb_1 (by decide) : bd 0 1 _).2) (fun t ht hW => ⟨⟨_, _, rfl, Or.inl ⟨rfl, x_60, h_61, (g.fcts [0, 1] rfl)⟩, q3_of g hK ht hW⟩, g.2.2.1.F ht⟩) g.2.2.1.2.2 dX2_findAbove_179
      · have fc_41 := neq_f c_41
        refine lv_aload_n hx hb dX2_findAbove_95 rfl (lv_at hl 3 rfl) ?_
        refine g_getk (C := RX2) (T := TX2) (N := 16) hx hb hts (mc_ inX2) hown hK g rfl 0 (by decide) rfl (hts _ (List.mem_cons_of_mem _ t_416)) (fun _ h9 => h9) 4 rfl dX2_findAbove_96 ?_
        refine lv_iconst (v := 1) hx hb dX2_findAbove_99 (by decide) ?_
        refine lv_aload_n hx hb dX2_findAbove_100 rfl (lv_at hl 3 rfl) ?_
        refine g_getk (C := RX2) (T := TX2) (N := 16) hx hb hts (mc_ inX2) hown hK g rfl 0 (by decide) rfl (hts _ (List.mem_cons_of_mem _ t_416)) (fun _ h9 => h9) 4 rfl dX2_findAbove_101 ?_
        refine g_calli (va_runV (As := []) (rest := [.int 1, .ref q0_]) ⟨hx, hb, hml, hown, hts⟩ (r_X8_place l dC dI L kd tys fr_40 H.size g.2.2.2.1 q0_ mq0_ kq0_) (cwV 0 hts (gV_ t_1110 t_1111 t_1112 t_184 t_1113) rfl rfl rfl (by decide +kernel) ⟨(Nat.le_of_ble_eq_true rfl), (Nat.le_of_ble_eq_true rfl)⟩) (pre3V g hK mq0_ kq0_ (by decide) (q := (RX8, TX8, 10)) rfl) rfl rfl hl.1 rfl (lv_room (Nat.le_of_ble_eq_true rfl)) dX2_findAbove_104 ⟨(Nat.le_of_ble_eq_true rfl), (Nat.le_of_ble_eq_true rfl)⟩) g hK (by decide) (by decide) (fx' := [(8, 6, q0_, .int x_25), (7, 0, q1_, .ref a_19), (7, 1, q1_, .int x_11), (9, 1, q2_, .int x_6), (2, 0, a0_, .ref q0_), (2, 3, a0_, .ref q1_), (2, 4, a0_, .ref q2_)]) rfl (fun r_64 fr_64 H locs hp hMr_64 g => ?_)
        have kb_1 : bd 1 1 (1 : Int32) := ⟨by decide, by decide⟩
        refine g_callv (va_runV (As := [.int 1, .int r_64]) (rest := []) ⟨hx, hb, hml, hown, hts⟩ (r_X8_fail_7 l dC dI L kd tys fr_64 H.size g.2.2.2.1 q0_ mq0_ kq0_ 1 kb_1 r_64) (cwV 2 hts (gV_ t_1122 t_1107 t_1108 t_184 t_1109) rfl rfl rfl (by decide +kernel) ⟨(Nat.le_of_ble_eq_true rfl), (Nat.le_of_ble_eq_true rfl)⟩) (pre3V g hK mq0_ kq0_ (by decide) (q := (RX8, TX8, 10)) rfl) rfl rfl hl.1 rfl (lv_room (Nat.le_of_ble_eq_true rfl)) dX2_findAbove_107 ⟨(Nat.le_of_ble_eq_true rfl), (Nat.le_of_ble_eq_true rfl)⟩) g hK (by decide) (by decide) (fx' := [(7, 0, q1_, .ref a_19), (7, 1, q1_, .int x_11), (9, 1, q2_, .int x_6), (2, 0, a0_, .ref q0_), (2, 3, a0_, .ref q1_), (2, 4, a0_, .ref q2_)]) rfl (fun fr_65 H locs hp hMr_65 g => ?_)
        obtain ⟨x_66, h_67, hF_68⟩ := hp
        have g := g.more hF_68
        refine lv_goto (tgt := 171) hx hb dX2_findAbove_110 (by decide) ?_
        refine lv_aload_n hx hb dX2_findAbove_171 rfl (lv_at hl 3 rfl) ?_
        refine g_getk (C := RX2) (T := TX2) (N := 16) hx hb hts (mc_ inX2) hown hK g rfl 0 (by decide) rfl (hts _ (List.mem_cons_of_mem _ t_416)) (fun _ h9 => h9) 5 rfl dX2_findAbove_172 ?_
        have kb_1201 : bd 1201 1201 (1201 : Int32) := ⟨by decide, by decide⟩
        refine g_callv (va_runV (As := []) (rest := []) ⟨hx, hb, hml, hown, hts⟩ (r_X8_next_2 l dC dI L kd tys fr_65 H.size g.2.2.2.1 q0_ mq0_ kq0_ 1201 kb_1201 (g.fcts [0] rfl)) (cwV 0 hts (gV_ t_1131 t_1103 t_1104 t_184 t_1105) rfl rfl rfl (by decide +kernel) ⟨(Nat.le_of_ble_eq_true rfl), (Nat.le_of_ble_eq_true rfl)⟩) (pre3V g hK mq0_ kq0_ (by decide) (q := (RX8, TX8, 10)) rfl) rfl rfl hl.1 rfl (lv_room (Nat.le_of_ble_eq_true rfl)) dX2_findAbove_175 ⟨(Nat.le_of_ble_eq_true rfl), (Nat.le_of_ble_eq_true rfl)⟩) g hK (by decide) (by decide) (fx' := [(8, 6, q0_, .int 1201), (8, 8, q0_, .int x_66), (7, 0, q1_, .ref a_19), (7, 1, q1_, .int x_11), (9, 1, q2_, .int x_6), (2, 0, a0_, .ref q0_), (2, 3, a0_, .ref q1_), (2, 4, a0_, .ref q2_)]) rfl (fun fr_69 H locs hp hMr_69 g => ?_)
        refine lv_iconst (v := 1) hx hb dX2_findAbove_178 (by decide) ?_
        subst hQ
        exact W.zret (v := 1) hx hb hr (nar_z (bd_sub kb_1 (by decide) : bd 0 1 _).1 (bd_sub kb_1 (by decide) : bd 0 1 _).2) (fun t ht hW => ⟨⟨_, _, rfl, Or.inl ⟨rfl, x_66, h_67, (g.fcts [0, 1] rfl)⟩, q3_of g hK ht hW⟩, g.2.2.1.F ht⟩) g.2.2.1.2.2 dX2_findAbove_179
