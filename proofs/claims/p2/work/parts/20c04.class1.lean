set_option maxHeartbeats 4000000 in
set_option maxRecDepth 100000 in
theorem r_X0_readAbove (l : Launch) (dC : Nat → ClassId) (dI : Nat → Nat → Nat) (L : List Nat) (kd : Nat → Nat) (tys : List (ClassId × FieldType)) (f0 : Nat → va_E) (sz : Nat) (hWT : WT L kd tys f0) (a0_ : Nat) (ma0_ : a0_ ∈ L) (ka0_ : kd a0_ = 0) (q0_ : Nat) (mq0_ : q0_ ∈ L) (kq0_ : kd q0_ = 8) (q1_ : Nat) (mq1_ : q1_ ∈ L) (kq1_ : kd q1_ = 5) (q2_ : Nat) (mq2_ : q2_ ∈ L) (kq2_ : kd q2_ = 7) (q3_ : Nat) (mq3_ : q3_ ∈ L) (kq3_ : kd q3_ = 9) (hfx : Fs L kd f0 [(0, 0, a0_, .ref q0_), (0, 1, a0_, .ref q1_), (0, 2, a0_, .ref q2_), (5, 1, q1_, .ref q3_)]) : Met l yX0_readAbove (.code yX0_readAbove cX0_readAbove 6 none :: lw_g) ({ frames := 2, cells := 0, slots := 0, locals := 50 }) (va_Pc [.ref a0_] (P3 (dC, dI) L tys f0 sz)) (va_Qv (fun (f : Nat → va_E) => (∃ z0_ : Int32, bd 1 1201 z0_ ∧ Fs L kd f [(8, 6, q0_, .int z0_)])) (Q3 (dC, dI) L kd tys [(0, 8), (0, 10), (0, 11), (0, 12), (7, 6), (7, 18), (8, 6), (8, 8), (8, 9)] [110, 111, 112, 113, 114, 115, 138, 139] f0 sz) (pA L sz)) 0 0 (pA L sz) := by
  refine Met.ofW (cc := cX0_readAbove) (maxL := 6) (ret := none) (by decide) rfl ?_
  intro p e s m args below meth c s₁ B hml hv
  obtain ⟨rfl, hsz, hP, hK, hD0⟩ := hv
  have hx := B.exec
  have hb := B.bytes
  have hr := B.returns
  have hts := atoms_spec (ws := (.code yX0_readAbove cX0_readAbove 6 none :: lw_g)) B.pre
  have hown : s.vm.findClass RX0 = some m.cls := findClass_of_methodNamed B.named
  have hlocks := B.notSynchronized
  subst hsz
  have g : G3 (dC, dI) L kd tys s f0 [(0, 8), (0, 10), (0, 11), (0, 12), (7, 6), (7, 18), (8, 6), (8, 8), (8, 9)] [110, 111, 112, 113, 114, 115, 138, 139] f0 s.heap [] [(0, 0, a0_, .ref q0_), (0, 1, a0_, .ref q1_), (0, 2, a0_, .ref q2_), (5, 1, q1_, .ref q3_)] := G3.start hP hD0 hWT hfx
  have hl := lv_entry ([.ref a0_]) (n := 6) (Nat.le_of_ble_eq_true rfl)
  rw [lg_entry_eq]
  generalize (lg_sl ([.ref a0_]) ++ List.replicate (6 - (lg_sl ([.ref a0_])).length) Slot.unset).toArray = ls at hl ⊢
  have hl : lv_has ls 6 [(0, .ref a0_)] := hl
  refine W_q (fun Q hQ => ?_)
  refine lv_aload_n hx hb dX0_readAbove_0 rfl (lv_at hl 0 rfl) ?_
  refine g_getk (C := RX0) (T := TX0) (N := 14) hx hb hts (mc_ inX0) hown hK g rfl 0 (by decide) rfl (hts _ (List.mem_cons_of_mem _ t_373)) (fun _ h9 => h9) 0 rfl dX0_readAbove_1 ?_
  refine g_calli (va_runV (As := []) (rest := []) ⟨hx, hb, hml, hown, hts⟩ (r_X8_place l dC dI L kd tys f0 s.heap.size g.2.2.2.1 q0_ mq0_ kq0_) (cwV 0 hts (gV_ t_1220 t_1111 t_1112 t_184 t_1113) rfl rfl rfl (by decide +kernel) ⟨(Nat.le_of_ble_eq_true rfl), (Nat.le_of_ble_eq_true rfl)⟩) (pre3V g hK mq0_ kq0_ (by decide) (q := (RX8, TX8, 10)) rfl) rfl rfl hl.1 rfl (lv_room (Nat.le_of_ble_eq_true rfl)) dX0_readAbove_4 ⟨(Nat.le_of_ble_eq_true rfl), (Nat.le_of_ble_eq_true rfl)⟩) g hK (by decide) (by decide) (fx' := [(0, 0, a0_, .ref q0_), (0, 1, a0_, .ref q1_), (0, 2, a0_, .ref q2_), (5, 1, q1_, .ref q3_)]) rfl (fun r_1 fr_1 H locs hp hMr_1 g => ?_)
  refine lv_istore_n (lv' := [(1, .int r_1), (0, .ref a0_)]) hx hb dX0_readAbove_7 rfl hl (by decide) rfl (fun ls hl => ?_)
  refine lv_aload_n hx hb dX0_readAbove_8 rfl (lv_at hl 1 rfl) ?_
  refine g_getk (C := RX0) (T := TX0) (N := 14) hx hb hts (mc_ inX0) hown hK g rfl 0 (by decide) rfl (hts _ (List.mem_cons_of_mem _ t_373)) (fun _ h9 => h9) 0 rfl dX0_readAbove_9 ?_
  refine g_callv (va_runV (As := []) (rest := []) ⟨hx, hb, hml, hown, hts⟩ (r_X8_next l dC dI L kd tys fr_1 H.size g.2.2.2.1 q0_ mq0_ kq0_) (cwV 0 hts (gV_ t_1225 t_1103 t_1104 t_184 t_1105) rfl rfl rfl (by decide +kernel) ⟨(Nat.le_of_ble_eq_true rfl), (Nat.le_of_ble_eq_true rfl)⟩) (pre3V g hK mq0_ kq0_ (by decide) (q := (RX8, TX8, 10)) rfl) rfl rfl hl.1 rfl (lv_room (Nat.le_of_ble_eq_true rfl)) dX0_readAbove_12 ⟨(Nat.le_of_ble_eq_true rfl), (Nat.le_of_ble_eq_true rfl)⟩) g hK (by decide) (by decide) (fx' := [(0, 0, a0_, .ref q0_), (0, 1, a0_, .ref q1_), (0, 2, a0_, .ref q2_), (5, 1, q1_, .ref q3_)]) rfl (fun fr_2 H locs hp hMr_2 g => ?_)
  obtain ⟨x_3, h_4, hF_5⟩ := hp
  have g := g.more hF_5
  refine lv_aload_n hx hb dX0_readAbove_15 rfl (lv_at hl 1 rfl) ?_
  refine g_getk (C := RX0) (T := TX0) (N := 14) hx hb hts (mc_ inX0) hown hK g rfl 2 (by decide) rfl (hts _ (List.mem_cons_of_mem _ t_375)) (fun _ h9 => h9) 3 rfl dX0_readAbove_16 ?_
  refine lv_aload_n hx hb dX0_readAbove_19 rfl (lv_at hl 1 rfl) ?_
  refine g_getk (C := RX0) (T := TX0) (N := 14) hx hb hts (mc_ inX0) hown hK g rfl 1 (by decide) rfl (hts _ (List.mem_cons_of_mem _ t_374)) (fun _ h9 => h9) 2 rfl dX0_readAbove_20 ?_
  refine g_getk (C := RX5) (T := TX5) (N := 9) hx hb hts (mc_ inX5) hown hK g rfl 1 (by decide) rfl (hts _ (List.mem_cons_of_mem _ t_332)) (fun _ h9 => h9) 4 rfl dX0_readAbove_23 ?_
  refine g_geti (C := RX9) (T := TX9) (N := 13) hx hb hts (mc_ inX9) hown hK g mq3_ kq3_ (by decide) rfl 1 (by decide) rfl (hts _ (List.mem_cons_of_mem _ t_482)) (fun _ h9 => h9) rfl dX0_readAbove_26 (fun x_6 bx_6 g => ?_)
  refine g_calli (va_runV (As := [.int x_6]) (rest := []) ⟨hx, hb, hml, hown, hts⟩ (r_X7_hasClass l dC dI L kd tys fr_2 H.size g.2.2.2.1 q2_ mq2_ kq2_ x_6) (cwV 1 hts (gV_ t_1280 t_1281 t_1282 t_191 t_1283) rfl rfl rfl (by decide +kernel) ⟨(Nat.le_of_ble_eq_true rfl), (Nat.le_of_ble_eq_true rfl)⟩) (pre3V g hK mq2_ kq2_ (by decide) (q := (RX7, TX7, 19)) rfl) rfl rfl hl.1 rfl (lv_room (Nat.le_of_ble_eq_true rfl)) dX0_readAbove_29 ⟨(Nat.le_of_ble_eq_true rfl), (Nat.le_of_ble_eq_true rfl)⟩) g hK (by decide) (by decide) (fx' := [(9, 1, q3_, .int x_6), (8, 6, q0_, .int x_3), (0, 0, a0_, .ref q0_), (0, 1, a0_, .ref q1_), (0, 2, a0_, .ref q2_), (5, 1, q1_, .ref q3_)]) rfl (fun r_7 fr_7 H locs hp hMr_7 g => ?_)
  rcases hp with ⟨h_8, -⟩ | ⟨h_9, h_10, x_11, h_12, hF_13⟩
  · obtain rfl : r_7 = 0 := h_8
    refine lv_if_ne (tgt := 45) hx hb dX0_readAbove_32 (by decide) (fun c_ => absurd c_ (by decide)) (fun c_ => ?_)
    refine lv_aload_n hx hb dX0_readAbove_35 rfl (lv_at hl 1 rfl) ?_
    refine g_getk (C := RX0) (T := TX0) (N := 14) hx hb hts (mc_ inX0) hown hK g rfl 0 (by decide) rfl (hts _ (List.mem_cons_of_mem _ t_373)) (fun _ h9 => h9) 2 rfl dX0_readAbove_36 ?_
    refine lv_iconst (v := 5) hx hb dX0_readAbove_39 (by decide) ?_
    refine lv_iload_n hx hb dX0_readAbove_40 rfl (lv_at hl 0 rfl) ?_
    have kb_5 : bd 5 5 (5 : Int32) := ⟨by decide, by decide⟩
    refine g_callv (va_runV (As := [.int 5, .int r_1]) (rest := []) ⟨hx, hb, hml, hown, hts⟩ (r_X8_fail_2 l dC dI L kd tys fr_7 H.size g.2.2.2.1 q0_ mq0_ kq0_ 5 kb_5 r_1 x_3 h_4 (g.fcts [1] rfl)) (cwV 2 hts (gV_ t_1215 t_1107 t_1108 t_184 t_1109) rfl rfl rfl (by decide +kernel) ⟨(Nat.le_of_ble_eq_true rfl), (Nat.le_of_ble_eq_true rfl)⟩) (pre3V g hK mq0_ kq0_ (by decide) (q := (RX8, TX8, 10)) rfl) rfl rfl hl.1 rfl (lv_room (Nat.le_of_ble_eq_true rfl)) dX0_readAbove_41 ⟨(Nat.le_of_ble_eq_true rfl), (Nat.le_of_ble_eq_true rfl)⟩) g hK (by decide) (by decide) (fx' := [(9, 1, q3_, .int x_6), (0, 0, a0_, .ref q0_), (0, 1, a0_, .ref q1_), (0, 2, a0_, .ref q2_), (5, 1, q1_, .ref q3_)]) rfl (fun fr_14 H locs hp hMr_14 g => ?_)
    obtain ⟨x_15, h_16, hF_17⟩ := hp
    have g := g.more hF_17
    have kb_1201 : bd 1201 1201 (1201 : Int32) := ⟨by decide, by decide⟩
    subst hQ
    exact W.vret hx hb hr (fun t ht hW => ⟨⟨_, rfl, ⟨1201, (bd_sub kb_1201 (by decide)), (g.fcts [0] rfl)⟩, q3_of g hK ht hW⟩, g.2.2.1.F ht⟩) g.2.2.1.2.2 dX0_readAbove_44
  · obtain rfl : r_7 = 1 := h_9
    have b_18 : bd 0 7 x_6 := eqX rfl (bdT x_6) h_10 (by decide)
    have g := g.more hF_13
    refine lv_if_ne (tgt := 45) hx hb dX0_readAbove_32 (by decide) (fun c_ => ?_) (fun c_ => absurd c_ (by decide))
    refine lv_aload_n hx hb dX0_readAbove_45 rfl (lv_at hl 1 rfl) ?_
    refine g_getk (C := RX0) (T := TX0) (N := 14) hx hb hts (mc_ inX0) hown hK g rfl 2 (by decide) rfl (hts _ (List.mem_cons_of_mem _ t_375)) (fun _ h9 => h9) 5 rfl dX0_readAbove_46 ?_
    refine g_getr (K := 136) (C := RX7) (T := TX7) (N := 19) hx hb hts (mc_ inX7) hown hK g mq2_ kq2_ (by decide) rfl 0 (by decide) rfl (hts _ (List.mem_cons_of_mem _ t_625)) (fun _ h9 => h9) rfl dX0_readAbove_49 (fun a_19 ma_19 ka_19 g => ?_)
    refine lv_aload_n hx hb dX0_readAbove_52 rfl (lv_at hl 1 rfl) ?_
    refine g_getk (C := RX0) (T := TX0) (N := 14) hx hb hts (mc_ inX0) hown hK g rfl 1 (by decide) rfl (hts _ (List.mem_cons_of_mem _ t_374)) (fun _ h9 => h9) 5 rfl dX0_readAbove_53 ?_
    refine g_getk (C := RX5) (T := TX5) (N := 9) hx hb hts (mc_ inX5) hown hK g rfl 1 (by decide) rfl (hts _ (List.mem_cons_of_mem _ t_332)) (fun _ h9 => h9) 7 rfl dX0_readAbove_56 ?_
    refine g_getk (C := RX9) (T := TX9) (N := 13) hx hb hts (mc_ inX9) hown hK g rfl 1 (by decide) rfl (hts _ (List.mem_cons_of_mem _ t_482)) (fun _ h9 => h9) 2 rfl dX0_readAbove_59 ?_
    refine g_aald hx hb hK g ma_19 ka_19 (by decide) rfl (by decide) (in_bd b_18 (by decide)) dX0_readAbove_62 (fun a_20 ma_20 ua_20 wa_20 => ?_)
    have ka_20 : kd a_20 = 9 := by omega
    refine lv_astore_n (lv' := [(2, .ref a_20), (1, .int r_1), (0, .ref a0_)]) hx hb dX0_readAbove_63 rfl hl (by decide) rfl (fun ls hl => ?_)
    refine lv_aload_n hx hb dX0_readAbove_64 rfl (lv_at hl 2 rfl) ?_
    refine g_getk (C := RX0) (T := TX0) (N := 14) hx hb hts (mc_ inX0) hown hK g rfl 0 (by decide) rfl (hts _ (List.mem_cons_of_mem _ t_373)) (fun _ h9 => h9) 4 rfl dX0_readAbove_65 ?_
    refine lv_bipush (v := 46) hx hb dX0_readAbove_68 (by decide) ?_
    refine g_callv (va_runV (As := [.int 46]) (rest := []) ⟨hx, hb, hml, hown, hts⟩ (r_X8_take l dC dI L kd tys fr_7 H.size g.2.2.2.1 q0_ mq0_ kq0_ 46) (cwV 1 hts (gV_ t_1284 t_1099 t_1100 t_184 t_1101) rfl rfl rfl (by decide +kernel) ⟨(Nat.le_of_ble_eq_true rfl), (Nat.le_of_ble_eq_true rfl)⟩) (pre3V g hK mq0_ kq0_ (by decide) (q := (RX8, TX8, 10)) rfl) rfl rfl hl.1 rfl (lv_room (Nat.le_of_ble_eq_true rfl)) dX0_readAbove_70 ⟨(Nat.le_of_ble_eq_true rfl), (Nat.le_of_ble_eq_true rfl)⟩) g hK (by decide) (by decide) (fx' := [(7, 0, q2_, .ref a_19), (7, 1, q2_, .int x_11), (9, 1, q3_, .int x_6), (0, 0, a0_, .ref q0_), (0, 1, a0_, .ref q1_), (0, 2, a0_, .ref q2_), (5, 1, q1_, .ref q3_)]) rfl (fun fr_21 H locs hp hMr_21 g => ?_)
    obtain ⟨x_22, h_23, hF_24⟩ := hp
    have g := g.more hF_24
    refine lv_aload_n hx hb dX0_readAbove_73 rfl (lv_at hl 2 rfl) ?_
    refine g_getk (C := RX0) (T := TX0) (N := 14) hx hb hts (mc_ inX0) hown hK g rfl 0 (by decide) rfl (hts _ (List.mem_cons_of_mem _ t_373)) (fun _ h9 => h9) 4 rfl dX0_readAbove_74 ?_
    refine g_calli (va_runV (As := []) (rest := []) ⟨hx, hb, hml, hown, hts⟩ (r_X8_place l dC dI L kd tys fr_21 H.size g.2.2.2.1 q0_ mq0_ kq0_) (cwV 0 hts (gV_ t_1220 t_1111 t_1112 t_184 t_1113) rfl rfl rfl (by decide +kernel) ⟨(Nat.le_of_ble_eq_true rfl), (Nat.le_of_ble_eq_true rfl)⟩) (pre3V g hK mq0_ kq0_ (by decide) (q := (RX8, TX8, 10)) rfl) rfl rfl hl.1 rfl (lv_room (Nat.le_of_ble_eq_true rfl)) dX0_readAbove_77 ⟨(Nat.le_of_ble_eq_true rfl), (Nat.le_of_ble_eq_true rfl)⟩) g hK (by decide) (by decide) (fx' := [(8, 6, q0_, .int x_22), (7, 0, q2_, .ref a_19), (7, 1, q2_, .int x_11), (9, 1, q3_, .int x_6), (0, 0, a0_, .ref q0_), (0, 1, a0_, .ref q1_), (0, 2, a0_, .ref q2_), (5, 1, q1_, .ref q3_)]) rfl (fun r_25 fr_25 H locs hp hMr_25 g => ?_)
    refine lv_istore_n (lv' := [(3, .int r_25), (2, .ref a_20), (1, .int r_1), (0, .ref a0_)]) hx hb dX0_readAbove_80 rfl hl (by decide) rfl (fun ls hl => ?_)
    refine lv_aload_n hx hb dX0_readAbove_81 rfl (lv_at hl 3 rfl) ?_
    refine g_getk (C := RX0) (T := TX0) (N := 14) hx hb hts (mc_ inX0) hown hK g rfl 0 (by decide) rfl (hts _ (List.mem_cons_of_mem _ t_373)) (fun _ h9 => h9) 4 rfl dX0_readAbove_82 ?_
    refine g_calli (va_runV (As := []) (rest := []) ⟨hx, hb, hml, hown, hts⟩ (r_X8_kind l dC dI L kd tys fr_25 H.size g.2.2.2.1 q0_ mq0_ kq0_) (cwV 0 hts (gV_ t_1186 t_1119 t_1120 t_184 t_1121) rfl rfl rfl (by decide +kernel) ⟨(Nat.le_of_ble_eq_true rfl), (Nat.le_of_ble_eq_true rfl)⟩) (pre3V g hK mq0_ kq0_ (by decide) (q := (RX8, TX8, 10)) rfl) rfl rfl hl.1 rfl (lv_room (Nat.le_of_ble_eq_true rfl)) dX0_readAbove_85 ⟨(Nat.le_of_ble_eq_true rfl), (Nat.le_of_ble_eq_true rfl)⟩) g hK (by decide) (by decide) (fx' := [(8, 6, q0_, .int x_22), (7, 0, q2_, .ref a_19), (7, 1, q2_, .int x_11), (9, 1, q3_, .int x_6), (0, 0, a0_, .ref q0_), (0, 1, a0_, .ref q1_), (0, 2, a0_, .ref q2_), (5, 1, q1_, .ref q3_)]) rfl (fun r_26 fr_26 H locs hp hMr_26 g => ?_)
    refine lv_iconst (v := 3) hx hb dX0_readAbove_88 (by decide) ?_
    have kb_3 : bd 3 3 (3 : Int32) := ⟨by decide, by decide⟩
    refine lv_icmp_eq (tgt := 102) hx hb dX0_readAbove_89 (by decide) (fun c_27 => ?_) (fun c_27 => ?_)
    · have fc_27 := eq_f c_27
      have b_28 : bd 3 3 r_26 := eqX fc_27 (bdT r_26) kb_3 (by decide)
      refine lv_aload_n hx hb dX0_readAbove_102 rfl (lv_at hl 3 rfl) ?_
      refine g_getk (C := RX0) (T := TX0) (N := 14) hx hb hts (mc_ inX0) hown hK g rfl 2 (by decide) rfl (hts _ (List.mem_cons_of_mem _ t_375)) (fun _ h9 => h9) 6 rfl dX0_readAbove_103 ?_
      refine lv_aload_n hx hb dX0_readAbove_106 rfl (lv_at hl 1 rfl) ?_
      refine lv_aload_n hx hb dX0_readAbove_107 rfl (lv_at hl 3 rfl) ?_
      refine g_getk (C := RX0) (T := TX0) (N := 14) hx hb hts (mc_ inX0) hown hK g rfl 0 (by decide) rfl (hts _ (List.mem_cons_of_mem _ t_373)) (fun _ h9 => h9) 4 rfl dX0_readAbove_108 ?_
      refine g_calll (va_runV (As := []) (rest := [.ref a_20, .ref q2_]) ⟨hx, hb, hml, hown, hts⟩ (r_X8_value l dC dI L kd tys fr_26 H.size g.2.2.2.1 q0_ mq0_ kq0_) (cwV 0 hts (gV_ t_1238 t_1115 t_1116 t_184 t_1117) rfl rfl rfl (by decide +kernel) ⟨(Nat.le_of_ble_eq_true rfl), (Nat.le_of_ble_eq_true rfl)⟩) (pre3V g hK mq0_ kq0_ (by decide) (q := (RX8, TX8, 10)) rfl) rfl rfl hl.1 rfl (lv_room (Nat.le_of_ble_eq_true rfl)) dX0_readAbove_111 ⟨(Nat.le_of_ble_eq_true rfl), (Nat.le_of_ble_eq_true rfl)⟩) g hK (by decide) (by decide) (fx' := [(8, 6, q0_, .int x_22), (7, 0, q2_, .ref a_19), (7, 1, q2_, .int x_11), (9, 1, q3_, .int x_6), (0, 0, a0_, .ref q0_), (0, 1, a0_, .ref q1_), (0, 2, a0_, .ref q2_), (5, 1, q1_, .ref q3_)]) rfl (fun r_29 fr_29 H locs hp hMr_29 g => ?_)
      refine g_calli (va_runV (As := [.ref a_20, .long r_29]) (rest := []) ⟨hx, hb, hml, hown, hts⟩ (r_X7_memberNamed l dC dI L kd tys fr_29 H.size g.2.2.2.1 q2_ mq2_ kq2_ a_20 ma_20 ka_20 r_29) (cwV 2 hts (gV_ t_1243 t_1244 t_1245 t_191 t_1246) rfl rfl rfl (by decide +kernel) ⟨(Nat.le_of_ble_eq_true rfl), (Nat.le_of_ble_eq_true rfl)⟩) (pre3V g hK mq2_ kq2_ (by decide) (q := (RX7, TX7, 19)) rfl) rfl rfl hl.1 rfl (lv_room (Nat.le_of_ble_eq_true rfl)) dX0_readAbove_114 ⟨(Nat.le_of_ble_eq_true rfl), (Nat.le_of_ble_eq_true rfl)⟩) g hK (by decide) (by decide) (fx' := [(8, 6, q0_, .int x_22), (7, 0, q2_, .ref a_19), (7, 1, q2_, .int x_11), (9, 1, q3_, .int x_6), (0, 0, a0_, .ref q0_), (0, 1, a0_, .ref q1_), (0, 2, a0_, .ref q2_), (5, 1, q1_, .ref q3_)]) rfl (fun r_30 fr_30 H locs hp hMr_30 g => ?_)
      obtain ⟨h_31, -⟩ := hp
      refine lv_istore (lv' := [(4, .int r_30), (3, .int r_25), (2, .ref a_20), (1, .int r_1), (0, .ref a0_)]) hx hb dX0_readAbove_117 hl (by decide) rfl (fun ls hl => ?_)
      refine lv_iload hx hb dX0_readAbove_119 (lv_at hl 0 rfl) ?_
      refine lv_iconst (v := (-1)) hx hb dX0_readAbove_121 (by decide) ?_
      have kb_m1 : bd (-1) (-1) ((-1) : Int32) := ⟨by decide, by decide⟩
      refine lv_icmp_ne (tgt := 135) hx hb dX0_readAbove_122 (by decide) (fun c_32 => ?_) (fun c_32 => ?_)
      · have fc_32 := neq_f c_32
        have b_33 : bd 0 11 r_30 := neX fc_32 h_31 kb_m1 (by decide)
        refine lv_aload_n hx hb dX0_readAbove_135 rfl (lv_at hl 4 rfl) ?_
        refine g_getk (C := RX0) (T := TX0) (N := 14) hx hb hts (mc_ inX0) hown hK g rfl 0 (by decide) rfl (hts _ (List.mem_cons_of_mem _ t_373)) (fun _ h9 => h9) 4 rfl dX0_readAbove_136 ?_
        refine g_callv (va_runV (As := []) (rest := []) ⟨hx, hb, hml, hown, hts⟩ (r_X8_next l dC dI L kd tys fr_30 H.size g.2.2.2.1 q0_ mq0_ kq0_) (cwV 0 hts (gV_ t_1225 t_1103 t_1104 t_184 t_1105) rfl rfl rfl (by decide +kernel) ⟨(Nat.le_of_ble_eq_true rfl), (Nat.le_of_ble_eq_true rfl)⟩) (pre3V g hK mq0_ kq0_ (by decide) (q := (RX8, TX8, 10)) rfl) rfl rfl hl.1 rfl (lv_room (Nat.le_of_ble_eq_true rfl)) dX0_readAbove_139 ⟨(Nat.le_of_ble_eq_true rfl), (Nat.le_of_ble_eq_true rfl)⟩) g hK (by decide) (by decide) (fx' := [(7, 0, q2_, .ref a_19), (7, 1, q2_, .int x_11), (9, 1, q3_, .int x_6), (0, 0, a0_, .ref q0_), (0, 1, a0_, .ref q1_), (0, 2, a0_, .ref q2_), (5, 1, q1_, .ref q3_)]) rfl (fun fr_34 H locs hp hMr_34 g => ?_)
        obtain ⟨x_35, h_36, hF_37⟩ := hp
        have g := g.more hF_37
        refine lv_aload_n hx hb dX0_readAbove_142 rfl (lv_at hl 2 rfl) ?_
        refine g_getr (K := 156) (C := RX9) (T := TX9) (N := 13) hx hb hts (mc_ inX9) hown hK g ma_20 ka_20 (by decide) rfl 9 (by decide) rfl (hts _ (List.mem_cons_of_mem _ t_508)) (fun _ h9 => h9) rfl dX0_readAbove_143 (fun a_38 ma_38 ka_38 g => ?_)
        refine lv_iload hx hb dX0_readAbove_146 (lv_at hl 0 rfl) ?_
        refine g_iald hx hb hK g ma_38 ka_38 (by decide) rfl (in_bd b_33 (by decide)) dX0_readAbove_148 (fun x_39 bx_39 cx_39 => ?_)
        refine lv_istore (lv' := [(5, .int x_39), (4, .int r_30), (3, .int r_25), (2, .ref a_20), (1, .int r_1), (0, .ref a0_)]) hx hb dX0_readAbove_149 hl (by decide) rfl (fun ls hl => ?_)
        refine lv_aload_n hx hb dX0_readAbove_151 rfl (lv_at hl 5 rfl) ?_
        refine g_getk (C := RX0) (T := TX0) (N := 14) hx hb hts (mc_ inX0) hown hK g rfl 1 (by decide) rfl (hts _ (List.mem_cons_of_mem _ t_374)) (fun _ h9 => h9) 6 rfl dX0_readAbove_152 ?_
        refine g_geti (C := RX5) (T := TX5) (N := 9) hx hb hts (mc_ inX5) hown hK g mq1_ kq1_ (by decide) rfl 7 (by decide) rfl (hts _ (List.mem_cons_of_mem _ t_343)) (fun _ h9 => h9) rfl dX0_readAbove_155 (fun x_40 bx_40 g => ?_)
        have kb_0 : bd 0 0 (0 : Int32) := ⟨by decide, by decide⟩
        refine lv_if_eq (tgt := 186) hx hb dX0_readAbove_158 (by decide) (fun c_41 => ?_) (fun c_41 => ?_)
        · have fc_41 := eq_f c_41
          have b_42 : bd 0 0 x_40 := eqX fc_41 bx_40 kb_0 (by decide)
          refine lv_aload_n hx hb dX0_readAbove_186 rfl (lv_at hl 5 rfl) ?_
          refine g_getk (C := RX0) (T := TX0) (N := 14) hx hb hts (mc_ inX0) hown hK g rfl 0 (by decide) rfl (hts _ (List.mem_cons_of_mem _ t_373)) (fun _ h9 => h9) 6 rfl dX0_readAbove_187 ?_
          refine g_calli (va_runV (As := []) (rest := []) ⟨hx, hb, hml, hown, hts⟩ (r_X8_kind l dC dI L kd tys fr_34 H.size g.2.2.2.1 q0_ mq0_ kq0_) (cwV 0 hts (gV_ t_1186 t_1119 t_1120 t_184 t_1121) rfl rfl rfl (by decide +kernel) ⟨(Nat.le_of_ble_eq_true rfl), (Nat.le_of_ble_eq_true rfl)⟩) (pre3V g hK mq0_ kq0_ (by decide) (q := (RX8, TX8, 10)) rfl) rfl rfl hl.1 rfl (lv_room (Nat.le_of_ble_eq_true rfl)) dX0_readAbove_190 ⟨(Nat.le_of_ble_eq_true rfl), (Nat.le_of_ble_eq_true rfl)⟩) g hK (by decide) (by decide) (fx' := [(5, 7, q1_, .int x_40), (9, 9, a_20, .ref a_38), (8, 6, q0_, .int x_35), (7, 0, q2_, .ref a_19), (7, 1, q2_, .int x_11), (9, 1, q3_, .int x_6), (0, 0, a0_, .ref q0_), (0, 1, a0_, .ref q1_), (0, 2, a0_, .ref q2_), (5, 1, q1_, .ref q3_)]) rfl (fun r_43 fr_43 H locs hp hMr_43 g => ?_)
          refine lv_bipush (v := 40) hx hb dX0_readAbove_193 (by decide) ?_
          have kb_40 : bd 40 40 (40 : Int32) := ⟨by decide, by decide⟩
          refine lv_icmp_eq (tgt := 214) hx hb dX0_readAbove_195 (by decide) (fun c_44 => ?_) (fun c_44 => ?_)
          · have fc_44 := eq_f c_44
            have b_45 : bd 40 40 r_43 := eqX fc_44 (bdT r_43) kb_40 (by decide)
            refine lv_aload_n hx hb dX0_readAbove_214 rfl (lv_at hl 5 rfl) ?_
            refine lv_iconst (v := 3) hx hb dX0_readAbove_215 (by decide) ?_
            refine lv_iload_n hx hb dX0_readAbove_216 rfl (lv_at hl 2 rfl) ?_
            refine lv_iload hx hb dX0_readAbove_217 (lv_at hl 0 rfl) ?_
            refine lv_aload_n hx hb dX0_readAbove_219 rfl (lv_at hl 5 rfl) ?_
            refine g_getk (C := RX0) (T := TX0) (N := 14) hx hb hts (mc_ inX0) hown hK g rfl 2 (by decide) rfl (hts _ (List.mem_cons_of_mem _ t_375)) (fun _ h9 => h9) 8 rfl dX0_readAbove_220 ?_
            refine g_getr (K := 137) (C := RX7) (T := TX7) (N := 19) hx hb hts (mc_ inX7) hown hK g mq2_ kq2_ (by decide) rfl 2 (by decide) rfl (hts _ (List.mem_cons_of_mem _ t_633)) (fun _ h9 => h9) rfl dX0_readAbove_223 (fun a_46 ma_46 ka_46 g => ?_)
            refine lv_iload hx hb dX0_readAbove_226 (lv_at hl 0 rfl) ?_
            refine g_aald hx hb hK g ma_46 ka_46 (by decide) rfl (by decide) (in_bd bx_39 (by decide)) dX0_readAbove_228 (fun a_47 ma_47 ua_47 wa_47 => ?_)
            have ka_47 : kd a_47 = 6 := by omega
            refine g_geti (C := RX6) (T := TX6) (N := 13) hx hb hts (mc_ inX6) hown hK g ma_47 ka_47 (by decide) rfl 3 (by decide) rfl (hts _ (List.mem_cons_of_mem _ t_564)) (fun _ h9 => h9) rfl dX0_readAbove_229 (fun x_48 bx_48 g => ?_)
            refine g_callv (va_runV (As := [.int 3, .int r_25, .int x_39, .int x_48]) (rest := []) ⟨hx, hb, hml, hown, hts⟩ (r_X0_openCall l dC dI L kd tys fr_43 H.size g.2.2.2.1 a0_ ma0_ ka0_ 3 r_25 x_39 x_48 q0_ mq0_ kq0_ q2_ mq2_ kq2_ (g.fcts [8, 10] rfl)) (cwV 4 hts (gV_ t_1247 t_1249 t_23 t_190 t_1250) rfl rfl rfl (by decide +kernel) ⟨(Nat.le_of_ble_eq_true rfl), (Nat.le_of_ble_eq_true rfl)⟩) (pre3V g hK ma0_ ka0_ (by decide) (q := (RX0, TX0, 14)) rfl) rfl rfl hl.1 rfl (lv_room (Nat.le_of_ble_eq_true rfl)) dX0_readAbove_232 ⟨(Nat.le_of_ble_eq_true rfl), (Nat.le_of_ble_eq_true rfl)⟩) g hK (by decide) (by decide) (fx' := [(6, 3, a_47, .int x_48), (7, 2, q2_, .ref a_46), (5, 7, q1_, .int x_40), (9, 9, a_20, .ref a_38), (7, 0, q2_, .ref a_19), (7, 1, q2_, .int x_11), (9, 1, q3_, .int x_6), (0, 0, a0_, .ref q0_), (0, 1, a0_, .ref q1_), (0, 2, a0_, .ref q2_), (5, 1, q1_, .ref q3_)]) rfl (fun fr_49 H locs hp hMr_49 g => ?_)
            obtain ⟨x_50, h_51, hF_52⟩ := hp
            have g := g.more hF_52
            subst hQ
            exact W.vret hx hb hr (fun t ht hW => ⟨⟨_, rfl, ⟨x_50, h_51, (g.fcts [0] rfl)⟩, q3_of g hK ht hW⟩, g.2.2.1.F ht⟩) g.2.2.1.2.2 dX0_readAbove_235
          · have fc_44 := neq_f c_44
            refine lv_aload_n hx hb dX0_readAbove_198 rfl (lv_at hl 5 rfl) ?_
            refine g_getk (C := RX0) (T := TX0) (N := 14) hx hb hts (mc_ inX0) hown hK g rfl 0 (by decide) rfl (hts _ (List.mem_cons_of_mem _ t_373)) (fun _ h9 => h9) 6 rfl dX0_readAbove_199 ?_
            refine lv_iconst (v := 1) hx hb dX0_readAbove_202 (by decide) ?_
            refine lv_aload_n hx hb dX0_readAbove_203 rfl (lv_at hl 5 rfl) ?_
            refine g_getk (C := RX0) (T := TX0) (N := 14) hx hb hts (mc_ inX0) hown hK g rfl 0 (by decide) rfl (hts _ (List.mem_cons_of_mem _ t_373)) (fun _ h9 => h9) 6 rfl dX0_readAbove_204 ?_
            refine g_calli (va_runV (As := []) (rest := [.int 1, .ref q0_]) ⟨hx, hb, hml, hown, hts⟩ (r_X8_place l dC dI L kd tys fr_43 H.size g.2.2.2.1 q0_ mq0_ kq0_) (cwV 0 hts (gV_ t_1220 t_1111 t_1112 t_184 t_1113) rfl rfl rfl (by decide +kernel) ⟨(Nat.le_of_ble_eq_true rfl), (Nat.le_of_ble_eq_true rfl)⟩) (pre3V g hK mq0_ kq0_ (by decide) (q := (RX8, TX8, 10)) rfl) rfl rfl hl.1 rfl (lv_room (Nat.le_of_ble_eq_true rfl)) dX0_readAbove_207 ⟨(Nat.le_of_ble_eq_true rfl), (Nat.le_of_ble_eq_true rfl)⟩) g hK (by decide) (by decide) (fx' := [(5, 7, q1_, .int x_40), (9, 9, a_20, .ref a_38), (8, 6, q0_, .int x_35), (7, 0, q2_, .ref a_19), (7, 1, q2_, .int x_11), (9, 1, q3_, .int x_6), (0, 0, a0_, .ref q0_), (0, 1, a0_, .ref q1_), (0, 2, a0_, .ref q2_), (5, 1, q1_, .ref q3_)]) rfl (fun r_53 fr_53 H locs hp hMr_53 g => ?_)
            have kb_1 : bd 1 1 (1 : Int32) := ⟨by decide, by decide⟩
            refine g_callv (va_runV (As := [.int 1, .int r_53]) (rest := []) ⟨hx, hb, hml, hown, hts⟩ (r_X8_fail_7 l dC dI L kd tys fr_53 H.size g.2.2.2.1 q0_ mq0_ kq0_ 1 kb_1 r_53 x_35 h_36 (g.fcts [2] rfl)) (cwV 2 hts (gV_ t_1215 t_1107 t_1108 t_184 t_1109) rfl rfl rfl (by decide +kernel) ⟨(Nat.le_of_ble_eq_true rfl), (Nat.le_of_ble_eq_true rfl)⟩) (pre3V g hK mq0_ kq0_ (by decide) (q := (RX8, TX8, 10)) rfl) rfl rfl hl.1 rfl (lv_room (Nat.le_of_ble_eq_true rfl)) dX0_readAbove_210 ⟨(Nat.le_of_ble_eq_true rfl), (Nat.le_of_ble_eq_true rfl)⟩) g hK (by decide) (by decide) (fx' := [(5, 7, q1_, .int x_40), (9, 9, a_20, .ref a_38), (7, 0, q2_, .ref a_19), (7, 1, q2_, .int x_11), (9, 1, q3_, .int x_6), (0, 0, a0_, .ref q0_), (0, 1, a0_, .ref q1_), (0, 2, a0_, .ref q2_), (5, 1, q1_, .ref q3_)]) rfl (fun fr_54 H locs hp hMr_54 g => ?_)
            obtain ⟨x_55, h_56, hF_57⟩ := hp
            have g := g.more hF_57
            have kb_1201 : bd 1201 1201 (1201 : Int32) := ⟨by decide, by decide⟩
            subst hQ
            exact W.vret hx hb hr (fun t ht hW => ⟨⟨_, rfl, ⟨1201, (bd_sub kb_1201 (by decide)), (g.fcts [0] rfl)⟩, q3_of g hK ht hW⟩, g.2.2.1.F ht⟩) g.2.2.1.2.2 dX0_readAbove_213
        · have fc_41 := neq_f c_41
          have b_58 : bd 1 1 x_40 := neX fc_41 bx_40 kb_0 (by decide)
          refine lv_aload_n hx hb dX0_readAbove_161 rfl (lv_at hl 5 rfl) ?_
          refine g_getk (C := RX0) (T := TX0) (N := 14) hx hb hts (mc_ inX0) hown hK g rfl 2 (by decide) rfl (hts _ (List.mem_cons_of_mem _ t_375)) (fun _ h9 => h9) 8 rfl dX0_readAbove_162 ?_
          refine g_getr (K := 137) (C := RX7) (T := TX7) (N := 19) hx hb hts (mc_ inX7) hown hK g mq2_ kq2_ (by decide) rfl 2 (by decide) rfl (hts _ (List.mem_cons_of_mem _ t_633)) (fun _ h9 => h9) rfl dX0_readAbove_165 (fun a_59 ma_59 ka_59 g => ?_)
          refine lv_iload hx hb dX0_readAbove_168 (lv_at hl 0 rfl) ?_
          refine g_aald hx hb hK g ma_59 ka_59 (by decide) rfl (by decide) (in_bd bx_39 (by decide)) dX0_readAbove_170 (fun a_60 ma_60 ua_60 wa_60 => ?_)
          have ka_60 : kd a_60 = 6 := by omega
          refine g_geti (C := RX6) (T := TX6) (N := 13) hx hb hts (mc_ inX6) hown hK g ma_60 ka_60 (by decide) rfl 6 (by decide) rfl (hts _ (List.mem_cons_of_mem _ t_577)) (fun _ h9 => h9) rfl dX0_readAbove_171 (fun x_61 bx_61 g => ?_)
          refine lv_if_ne (tgt := 186) hx hb dX0_readAbove_174 (by decide) (fun c_62 => ?_) (fun c_62 => ?_)
          · have fc_62 := neq_f c_62
            have b_63 : bd 1 1 x_61 := neX fc_62 bx_61 kb_0 (by decide)
            refine lv_aload_n hx hb dX0_readAbove_186 rfl (lv_at hl 5 rfl) ?_
            refine g_getk (C := RX0) (T := TX0) (N := 14) hx hb hts (mc_ inX0) hown hK g rfl 0 (by decide) rfl (hts _ (List.mem_cons_of_mem _ t_373)) (fun _ h9 => h9) 8 rfl dX0_readAbove_187 ?_
            refine g_calli (va_runV (As := []) (rest := []) ⟨hx, hb, hml, hown, hts⟩ (r_X8_kind l dC dI L kd tys fr_34 H.size g.2.2.2.1 q0_ mq0_ kq0_) (cwV 0 hts (gV_ t_1186 t_1119 t_1120 t_184 t_1121) rfl rfl rfl (by decide +kernel) ⟨(Nat.le_of_ble_eq_true rfl), (Nat.le_of_ble_eq_true rfl)⟩) (pre3V g hK mq0_ kq0_ (by decide) (q := (RX8, TX8, 10)) rfl) rfl rfl hl.1 rfl (lv_room (Nat.le_of_ble_eq_true rfl)) dX0_readAbove_190 ⟨(Nat.le_of_ble_eq_true rfl), (Nat.le_of_ble_eq_true rfl)⟩) g hK (by decide) (by decide) (fx' := [(6, 6, a_60, .int x_61), (7, 2, q2_, .ref a_59), (5, 7, q1_, .int x_40), (9, 9, a_20, .ref a_38), (8, 6, q0_, .int x_35), (7, 0, q2_, .ref a_19), (7, 1, q2_, .int x_11), (9, 1, q3_, .int x_6), (0, 0, a0_, .ref q0_), (0, 1, a0_, .ref q1_), (0, 2, a0_, .ref q2_), (5, 1, q1_, .ref q3_)]) rfl (fun r_64 fr_64 H locs hp hMr_64 g => ?_)
            refine lv_bipush (v := 40) hx hb dX0_readAbove_193 (by decide) ?_
            have kb_40 : bd 40 40 (40 : Int32) := ⟨by decide, by decide⟩
            refine lv_icmp_eq (tgt := 214) hx hb dX0_readAbove_195 (by decide) (fun c_65 => ?_) (fun c_65 => ?_)
            · have fc_65 := eq_f c_65
              have b_66 : bd 40 40 r_64 := eqX fc_65 (bdT r_64) kb_40 (by decide)
              refine lv_aload_n hx hb dX0_readAbove_214 rfl (lv_at hl 5 rfl) ?_
              refine lv_iconst (v := 3) hx hb dX0_readAbove_215 (by decide) ?_
              refine lv_iload_n hx hb dX0_readAbove_216 rfl (lv_at hl 2 rfl) ?_
              refine lv_iload hx hb dX0_readAbove_217 (lv_at hl 0 rfl) ?_
              refine lv_aload_n hx hb dX0_readAbove_219 rfl (lv_at hl 5 rfl) ?_
              refine g_getk (C := RX0) (T := TX0) (N := 14) hx hb hts (mc_ inX0) hown hK g rfl 2 (by decide) rfl (hts _ (List.mem_cons_of_mem _ t_375)) (fun _ h9 => h9) 10 rfl dX0_readAbove_220 ?_
              refine g_getk (C := RX7) (T := TX7) (N := 19) hx hb hts (mc_ inX7) hown hK g rfl 2 (by decide) rfl (hts _ (List.mem_cons_of_mem _ t_633)) (fun _ h9 => h9) 1 rfl dX0_readAbove_223 ?_
              refine lv_iload hx hb dX0_readAbove_226 (lv_at hl 0 rfl) ?_
              refine g_aald hx hb hK g ma_59 ka_59 (by decide) rfl (by decide) (in_bd bx_39 (by decide)) dX0_readAbove_228 (fun a_67 ma_67 ua_67 wa_67 => ?_)
              have ka_67 : kd a_67 = 6 := by omega
              refine g_geti (C := RX6) (T := TX6) (N := 13) hx hb hts (mc_ inX6) hown hK g ma_67 ka_67 (by decide) rfl 3 (by decide) rfl (hts _ (List.mem_cons_of_mem _ t_564)) (fun _ h9 => h9) rfl dX0_readAbove_229 (fun x_68 bx_68 g => ?_)
              refine g_callv (va_runV (As := [.int 3, .int r_25, .int x_39, .int x_68]) (rest := []) ⟨hx, hb, hml, hown, hts⟩ (r_X0_openCall l dC dI L kd tys fr_64 H.size g.2.2.2.1 a0_ ma0_ ka0_ 3 r_25 x_39 x_68 q0_ mq0_ kq0_ q2_ mq2_ kq2_ (g.fcts [9, 11] rfl)) (cwV 4 hts (gV_ t_1247 t_1249 t_23 t_190 t_1250) rfl rfl rfl (by decide +kernel) ⟨(Nat.le_of_ble_eq_true rfl), (Nat.le_of_ble_eq_true rfl)⟩) (pre3V g hK ma0_ ka0_ (by decide) (q := (RX0, TX0, 14)) rfl) rfl rfl hl.1 rfl (lv_room (Nat.le_of_ble_eq_true rfl)) dX0_readAbove_232 ⟨(Nat.le_of_ble_eq_true rfl), (Nat.le_of_ble_eq_true rfl)⟩) g hK (by decide) (by decide) (fx' := [(6, 3, a_67, .int x_68), (6, 6, a_60, .int x_61), (7, 2, q2_, .ref a_59), (5, 7, q1_, .int x_40), (9, 9, a_20, .ref a_38), (7, 0, q2_, .ref a_19), (7, 1, q2_, .int x_11), (9, 1, q3_, .int x_6), (0, 0, a0_, .ref q0_), (0, 1, a0_, .ref q1_), (0, 2, a0_, .ref q2_), (5, 1, q1_, .ref q3_)]) rfl (fun fr_69 H locs hp hMr_69 g => ?_)
              obtain ⟨x_70, h_71, hF_72⟩ := hp
              have g := g.more hF_72
              subst hQ
              exact W.vret hx hb hr (fun t ht hW => ⟨⟨_, rfl, ⟨x_70, h_71, (g.fcts [0] rfl)⟩, q3_of g hK ht hW⟩, g.2.2.1.F ht⟩) g.2.2.1.2.2 dX0_readAbove_235
            · have fc_65 := neq_f c_65
              refine lv_aload_n hx hb dX0_readAbove_198 rfl (lv_at hl 5 rfl) ?_
              refine g_getk (C := RX0) (T := TX0) (N := 14) hx hb hts (mc_ inX0) hown hK g rfl 0 (by decide) rfl (hts _ (List.mem_cons_of_mem _ t_373)) (fun _ h9 => h9) 8 rfl dX0_readAbove_199 ?_
              refine lv_iconst (v := 1) hx hb dX0_readAbove_202 (by decide) ?_
              refine lv_aload_n hx hb dX0_readAbove_203 rfl (lv_at hl 5 rfl) ?_
              refine g_getk (C := RX0) (T := TX0) (N := 14) hx hb hts (mc_ inX0) hown hK g rfl 0 (by decide) rfl (hts _ (List.mem_cons_of_mem _ t_373)) (fun _ h9 => h9) 8 rfl dX0_readAbove_204 ?_
              refine g_calli (va_runV (As := []) (rest := [.int 1, .ref q0_]) ⟨hx, hb, hml, hown, hts⟩ (r_X8_place l dC dI L kd tys fr_64 H.size g.2.2.2.1 q0_ mq0_ kq0_) (cwV 0 hts (gV_ t_1220 t_1111 t_1112 t_184 t_1113) rfl rfl rfl (by decide +kernel) ⟨(Nat.le_of_ble_eq_true rfl), (Nat.le_of_ble_eq_true rfl)⟩) (pre3V g hK mq0_ kq0_ (by decide) (q := (RX8, TX8, 10)) rfl) rfl rfl hl.1 rfl (lv_room (Nat.le_of_ble_eq_true rfl)) dX0_readAbove_207 ⟨(Nat.le_of_ble_eq_true rfl), (Nat.le_of_ble_eq_true rfl)⟩) g hK (by decide) (by decide) (fx' := [(6, 6, a_60, .int x_61), (7, 2, q2_, .ref a_59), (5, 7, q1_, .int x_40), (9, 9, a_20, .ref a_38), (8, 6, q0_, .int x_35), (7, 0, q2_, .ref a_19), (7, 1, q2_, .int x_11), (9, 1, q3_, .int x_6), (0, 0, a0_, .ref q0_), (0, 1, a0_, .ref q1_), (0, 2, a0_, .ref q2_), (5, 1, q1_, .ref q3_)]) rfl (fun r_73 fr_73 H locs hp hMr_73 g => ?_)
              have kb_1 : bd 1 1 (1 : Int32) := ⟨by decide, by decide⟩
              refine g_callv (va_runV (As := [.int 1, .int r_73]) (rest := []) ⟨hx, hb, hml, hown, hts⟩ (r_X8_fail_7 l dC dI L kd tys fr_73 H.size g.2.2.2.1 q0_ mq0_ kq0_ 1 kb_1 r_73 x_35 h_36 (g.fcts [4] rfl)) (cwV 2 hts (gV_ t_1215 t_1107 t_1108 t_184 t_1109) rfl rfl rfl (by decide +kernel) ⟨(Nat.le_of_ble_eq_true rfl), (Nat.le_of_ble_eq_true rfl)⟩) (pre3V g hK mq0_ kq0_ (by decide) (q := (RX8, TX8, 10)) rfl) rfl rfl hl.1 rfl (lv_room (Nat.le_of_ble_eq_true rfl)) dX0_readAbove_210 ⟨(Nat.le_of_ble_eq_true rfl), (Nat.le_of_ble_eq_true rfl)⟩) g hK (by decide) (by decide) (fx' := [(6, 6, a_60, .int x_61), (7, 2, q2_, .ref a_59), (5, 7, q1_, .int x_40), (9, 9, a_20, .ref a_38), (7, 0, q2_, .ref a_19), (7, 1, q2_, .int x_11), (9, 1, q3_, .int x_6), (0, 0, a0_, .ref q0_), (0, 1, a0_, .ref q1_), (0, 2, a0_, .ref q2_), (5, 1, q1_, .ref q3_)]) rfl (fun fr_74 H locs hp hMr_74 g => ?_)
              obtain ⟨x_75, h_76, hF_77⟩ := hp
              have g := g.more hF_77
              have kb_1201 : bd 1201 1201 (1201 : Int32) := ⟨by decide, by decide⟩
              subst hQ
              exact W.vret hx hb hr (fun t ht hW => ⟨⟨_, rfl, ⟨1201, (bd_sub kb_1201 (by decide)), (g.fcts [0] rfl)⟩, q3_of g hK ht hW⟩, g.2.2.1.F ht⟩) g.2.2.1.2.2 dX0_readAbove_213
          · have fc_62 := eq_f c_62
            have b_78 : bd 0 0 x_61 := eqX fc_62 bx_61 kb_0 (by decide)
            refine lv_aload_n hx hb dX0_readAbove_177 rfl (lv_at hl 5 rfl) ?_
            refine g_getk (C := RX0) (T := TX0) (N := 14) hx hb hts (mc_ inX0) hown hK g rfl 0 (by decide) rfl (hts _ (List.mem_cons_of_mem _ t_373)) (fun _ h9 => h9) 8 rfl dX0_readAbove_178 ?_
            refine lv_iconst (v := 5) hx hb dX0_readAbove_181 (by decide) ?_
            refine lv_iload_n hx hb dX0_readAbove_182 rfl (lv_at hl 2 rfl) ?_
            have kb_5 : bd 5 5 (5 : Int32) := ⟨by decide, by decide⟩
            refine g_callv (va_runV (As := [.int 5, .int r_25]) (rest := []) ⟨hx, hb, hml, hown, hts⟩ (r_X8_fail_2 l dC dI L kd tys fr_34 H.size g.2.2.2.1 q0_ mq0_ kq0_ 5 kb_5 r_25 x_35 h_36 (g.fcts [4] rfl)) (cwV 2 hts (gV_ t_1215 t_1107 t_1108 t_184 t_1109) rfl rfl rfl (by decide +kernel) ⟨(Nat.le_of_ble_eq_true rfl), (Nat.le_of_ble_eq_true rfl)⟩) (pre3V g hK mq0_ kq0_ (by decide) (q := (RX8, TX8, 10)) rfl) rfl rfl hl.1 rfl (lv_room (Nat.le_of_ble_eq_true rfl)) dX0_readAbove_183 ⟨(Nat.le_of_ble_eq_true rfl), (Nat.le_of_ble_eq_true rfl)⟩) g hK (by decide) (by decide) (fx' := [(6, 6, a_60, .int x_61), (7, 2, q2_, .ref a_59), (5, 7, q1_, .int x_40), (9, 9, a_20, .ref a_38), (7, 0, q2_, .ref a_19), (7, 1, q2_, .int x_11), (9, 1, q3_, .int x_6), (0, 0, a0_, .ref q0_), (0, 1, a0_, .ref q1_), (0, 2, a0_, .ref q2_), (5, 1, q1_, .ref q3_)]) rfl (fun fr_79 H locs hp hMr_79 g => ?_)
            obtain ⟨x_80, h_81, hF_82⟩ := hp
            have g := g.more hF_82
            refine lv_aload_n hx hb dX0_readAbove_186 rfl (lv_at hl 5 rfl) ?_
            refine g_getk (C := RX0) (T := TX0) (N := 14) hx hb hts (mc_ inX0) hown hK g rfl 0 (by decide) rfl (hts _ (List.mem_cons_of_mem _ t_373)) (fun _ h9 => h9) 9 rfl dX0_readAbove_187 ?_
            refine g_calli (va_runV (As := []) (rest := []) ⟨hx, hb, hml, hown, hts⟩ (r_X8_kind l dC dI L kd tys fr_79 H.size g.2.2.2.1 q0_ mq0_ kq0_) (cwV 0 hts (gV_ t_1186 t_1119 t_1120 t_184 t_1121) rfl rfl rfl (by decide +kernel) ⟨(Nat.le_of_ble_eq_true rfl), (Nat.le_of_ble_eq_true rfl)⟩) (pre3V g hK mq0_ kq0_ (by decide) (q := (RX8, TX8, 10)) rfl) rfl rfl hl.1 rfl (lv_room (Nat.le_of_ble_eq_true rfl)) dX0_readAbove_190 ⟨(Nat.le_of_ble_eq_true rfl), (Nat.le_of_ble_eq_true rfl)⟩) g hK (by decide) (by decide) (fx' := [(8, 6, q0_, .int 1201), (8, 8, q0_, .int x_80), (6, 6, a_60, .int x_61), (7, 2, q2_, .ref a_59), (5, 7, q1_, .int x_40), (9, 9, a_20, .ref a_38), (7, 0, q2_, .ref a_19), (7, 1, q2_, .int x_11), (9, 1, q3_, .int x_6), (0, 0, a0_, .ref q0_), (0, 1, a0_, .ref q1_), (0, 2, a0_, .ref q2_), (5, 1, q1_, .ref q3_)]) rfl (fun r_83 fr_83 H locs hp hMr_83 g => ?_)
            refine lv_bipush (v := 40) hx hb dX0_readAbove_193 (by decide) ?_
            have kb_40 : bd 40 40 (40 : Int32) := ⟨by decide, by decide⟩
            refine lv_icmp_eq (tgt := 214) hx hb dX0_readAbove_195 (by decide) (fun c_84 => ?_) (fun c_84 => ?_)
            · have fc_84 := eq_f c_84
              have b_85 : bd 40 40 r_83 := eqX fc_84 (bdT r_83) kb_40 (by decide)
              refine lv_aload_n hx hb dX0_readAbove_214 rfl (lv_at hl 5 rfl) ?_
              refine lv_iconst (v := 3) hx hb dX0_readAbove_215 (by decide) ?_
              refine lv_iload_n hx hb dX0_readAbove_216 rfl (lv_at hl 2 rfl) ?_
              refine lv_iload hx hb dX0_readAbove_217 (lv_at hl 0 rfl) ?_
              refine lv_aload_n hx hb dX0_readAbove_219 rfl (lv_at hl 5 rfl) ?_
              refine g_getk (C := RX0) (T := TX0) (N := 14) hx hb hts (mc_ inX0) hown hK g rfl 2 (by decide) rfl (hts _ (List.mem_cons_of_mem _ t_375)) (fun _ h9 => h9) 11 rfl dX0_readAbove_220 ?_
              refine g_getk (C := RX7) (T := TX7) (N := 19) hx hb hts (mc_ inX7) hown hK g rfl 2 (by decide) rfl (hts _ (List.mem_cons_of_mem _ t_633)) (fun _ h9 => h9) 3 rfl dX0_readAbove_223 ?_
              refine lv_iload hx hb dX0_readAbove_226 (lv_at hl 0 rfl) ?_
              refine g_aald hx hb hK g ma_59 ka_59 (by decide) rfl (by decide) (in_bd bx_39 (by decide)) dX0_readAbove_228 (fun a_86 ma_86 ua_86 wa_86 => ?_)
              have ka_86 : kd a_86 = 6 := by omega
              refine g_geti (C := RX6) (T := TX6) (N := 13) hx hb hts (mc_ inX6) hown hK g ma_86 ka_86 (by decide) rfl 3 (by decide) rfl (hts _ (List.mem_cons_of_mem _ t_564)) (fun _ h9 => h9) rfl dX0_readAbove_229 (fun x_87 bx_87 g => ?_)
              have gr_88 := g
              refine g_callv (va_runV (As := [.int 3, .int r_25, .int x_39, .int x_87]) (rest := []) ⟨hx, hb, hml, hown, hts⟩ (r_X0_openCall l dC dI L kd tys fr_83 H.size g.2.2.2.1 a0_ ma0_ ka0_ 3 r_25 x_39 x_87 q0_ mq0_ kq0_ q2_ mq2_ kq2_ (g.fcts [10, 12] rfl)) (cwV 4 hts (gV_ t_1247 t_1249 t_23 t_190 t_1250) rfl rfl rfl (by decide +kernel) ⟨(Nat.le_of_ble_eq_true rfl), (Nat.le_of_ble_eq_true rfl)⟩) (pre3V g hK ma0_ ka0_ (by decide) (q := (RX0, TX0, 14)) rfl) rfl rfl hl.1 rfl (lv_room (Nat.le_of_ble_eq_true rfl)) dX0_readAbove_232 ⟨(Nat.le_of_ble_eq_true rfl), (Nat.le_of_ble_eq_true rfl)⟩) g hK (by decide) (by decide) (fx' := [(6, 3, a_86, .int x_87), (6, 6, a_60, .int x_61), (7, 2, q2_, .ref a_59), (5, 7, q1_, .int x_40), (9, 9, a_20, .ref a_38), (7, 0, q2_, .ref a_19), (7, 1, q2_, .int x_11), (9, 1, q3_, .int x_6), (0, 0, a0_, .ref q0_), (0, 1, a0_, .ref q1_), (0, 2, a0_, .ref q2_), (5, 1, q1_, .ref q3_)]) rfl (fun fr_88 H locs hp hMr_88 g => ?_)
              obtain ⟨x_89, bx_89, hFx_89⟩ := stk2 gr_88.2.2.2.2.1 hMr_88 g (by decide) 2 rfl h_81 (by decide)
              have g := g.more hFx_89
              obtain ⟨x_90, h_91, hF_92⟩ := hp
              have g := g.more hF_92
              subst hQ
              exact W.vret hx hb hr (fun t ht hW => ⟨⟨_, rfl, ⟨x_90, h_91, (g.fcts [0] rfl)⟩, q3_of g hK ht hW⟩, g.2.2.1.F ht⟩) g.2.2.1.2.2 dX0_readAbove_235
            · have fc_84 := neq_f c_84
              refine lv_aload_n hx hb dX0_readAbove_198 rfl (lv_at hl 5 rfl) ?_
              refine g_getk (C := RX0) (T := TX0) (N := 14) hx hb hts (mc_ inX0) hown hK g rfl 0 (by decide) rfl (hts _ (List.mem_cons_of_mem _ t_373)) (fun _ h9 => h9) 9 rfl dX0_readAbove_199 ?_
              refine lv_iconst (v := 1) hx hb dX0_readAbove_202 (by decide) ?_
              refine lv_aload_n hx hb dX0_readAbove_203 rfl (lv_at hl 5 rfl) ?_
              refine g_getk (C := RX0) (T := TX0) (N := 14) hx hb hts (mc_ inX0) hown hK g rfl 0 (by decide) rfl (hts _ (List.mem_cons_of_mem _ t_373)) (fun _ h9 => h9) 9 rfl dX0_readAbove_204 ?_
              refine g_calli (va_runV (As := []) (rest := [.int 1, .ref q0_]) ⟨hx, hb, hml, hown, hts⟩ (r_X8_place l dC dI L kd tys fr_83 H.size g.2.2.2.1 q0_ mq0_ kq0_) (cwV 0 hts (gV_ t_1220 t_1111 t_1112 t_184 t_1113) rfl rfl rfl (by decide +kernel) ⟨(Nat.le_of_ble_eq_true rfl), (Nat.le_of_ble_eq_true rfl)⟩) (pre3V g hK mq0_ kq0_ (by decide) (q := (RX8, TX8, 10)) rfl) rfl rfl hl.1 rfl (lv_room (Nat.le_of_ble_eq_true rfl)) dX0_readAbove_207 ⟨(Nat.le_of_ble_eq_true rfl), (Nat.le_of_ble_eq_true rfl)⟩) g hK (by decide) (by decide) (fx' := [(8, 6, q0_, .int 1201), (8, 8, q0_, .int x_80), (6, 6, a_60, .int x_61), (7, 2, q2_, .ref a_59), (5, 7, q1_, .int x_40), (9, 9, a_20, .ref a_38), (7, 0, q2_, .ref a_19), (7, 1, q2_, .int x_11), (9, 1, q3_, .int x_6), (0, 0, a0_, .ref q0_), (0, 1, a0_, .ref q1_), (0, 2, a0_, .ref q2_), (5, 1, q1_, .ref q3_)]) rfl (fun r_93 fr_93 H locs hp hMr_93 g => ?_)
              have kb_1 : bd 1 1 (1 : Int32) := ⟨by decide, by decide⟩
              have kb_1201 : bd 1201 1201 (1201 : Int32) := ⟨by decide, by decide⟩
              refine g_callv (va_runV (As := [.int 1, .int r_93]) (rest := []) ⟨hx, hb, hml, hown, hts⟩ (r_X8_fail_8 l dC dI L kd tys fr_93 H.size g.2.2.2.1 q0_ mq0_ kq0_ 1 kb_1 r_93 1201 kb_1201 x_80 h_81 (g.fcts [0, 1] rfl)) (cwV 2 hts (gV_ t_1215 t_1107 t_1108 t_184 t_1109) rfl rfl rfl (by decide +kernel) ⟨(Nat.le_of_ble_eq_true rfl), (Nat.le_of_ble_eq_true rfl)⟩) (pre3V g hK mq0_ kq0_ (by decide) (q := (RX8, TX8, 10)) rfl) rfl rfl hl.1 rfl (lv_room (Nat.le_of_ble_eq_true rfl)) dX0_readAbove_210 ⟨(Nat.le_of_ble_eq_true rfl), (Nat.le_of_ble_eq_true rfl)⟩) g hK (by decide) (by decide) (fx' := [(8, 8, q0_, .int x_80), (6, 6, a_60, .int x_61), (7, 2, q2_, .ref a_59), (5, 7, q1_, .int x_40), (9, 9, a_20, .ref a_38), (7, 0, q2_, .ref a_19), (7, 1, q2_, .int x_11), (9, 1, q3_, .int x_6), (0, 0, a0_, .ref q0_), (0, 1, a0_, .ref q1_), (0, 2, a0_, .ref q2_), (5, 1, q1_, .ref q3_)]) rfl (fun fr_94 H locs hp hMr_94 g => ?_)
              have hF_95 := hp
              have g := g.more hF_95
              subst hQ
              exact W.vret hx hb hr (fun t ht hW => ⟨⟨_, rfl, ⟨1201, (bd_sub kb_1201 (by decide)), (g.fcts [0] rfl)⟩, q3_of g hK ht hW⟩, g.2.2.1.F ht⟩) g.2.2.1.2.2 dX0_readAbove_213
      · have fc_32 := eq_f c_32
        have b_96 : bd (-1) (-1) r_30 := eqX fc_32 h_31 kb_m1 (by decide)
        refine lv_aload_n hx hb dX0_readAbove_125 rfl (lv_at hl 4 rfl) ?_
        refine g_getk (C := RX0) (T := TX0) (N := 14) hx hb hts (mc_ inX0) hown hK g rfl 0 (by decide) rfl (hts _ (List.mem_cons_of_mem _ t_373)) (fun _ h9 => h9) 4 rfl dX0_readAbove_126 ?_
        refine lv_iconst (v := 2) hx hb dX0_readAbove_129 (by decide) ?_
        refine lv_iload_n hx hb dX0_readAbove_130 rfl (lv_at hl 1 rfl) ?_
        have kb_2 : bd 2 2 (2 : Int32) := ⟨by decide, by decide⟩
        refine g_callv (va_runV (As := [.int 2, .int r_25]) (rest := []) ⟨hx, hb, hml, hown, hts⟩ (r_X8_fail_3 l dC dI L kd tys fr_30 H.size g.2.2.2.1 q0_ mq0_ kq0_ 2 kb_2 r_25 x_22 h_23 (g.fcts [0] rfl)) (cwV 2 hts (gV_ t_1215 t_1107 t_1108 t_184 t_1109) rfl rfl rfl (by decide +kernel) ⟨(Nat.le_of_ble_eq_true rfl), (Nat.le_of_ble_eq_true rfl)⟩) (pre3V g hK mq0_ kq0_ (by decide) (q := (RX8, TX8, 10)) rfl) rfl rfl hl.1 rfl (lv_room (Nat.le_of_ble_eq_true rfl)) dX0_readAbove_131 ⟨(Nat.le_of_ble_eq_true rfl), (Nat.le_of_ble_eq_true rfl)⟩) g hK (by decide) (by decide) (fx' := [(7, 0, q2_, .ref a_19), (7, 1, q2_, .int x_11), (9, 1, q3_, .int x_6), (0, 0, a0_, .ref q0_), (0, 1, a0_, .ref q1_), (0, 2, a0_, .ref q2_), (5, 1, q1_, .ref q3_)]) rfl (fun fr_97 H locs hp hMr_97 g => ?_)
        obtain ⟨x_98, h_99, hF_100⟩ := hp
        have g := g.more hF_100
        have kb_1201 : bd 1201 1201 (1201 : Int32) := ⟨by decide, by decide⟩
        subst hQ
        exact W.vret hx hb hr (fun t ht hW => ⟨⟨_, rfl, ⟨1201, (bd_sub kb_1201 (by decide)), (g.fcts [0] rfl)⟩, q3_of g hK ht hW⟩, g.2.2.1.F ht⟩) g.2.2.1.2.2 dX0_readAbove_134
    · have fc_27 := neq_f c_27
      refine lv_aload_n hx hb dX0_readAbove_92 rfl (lv_at hl 3 rfl) ?_
      refine g_getk (C := RX0) (T := TX0) (N := 14) hx hb hts (mc_ inX0) hown hK g rfl 0 (by decide) rfl (hts _ (List.mem_cons_of_mem _ t_373)) (fun _ h9 => h9) 4 rfl dX0_readAbove_93 ?_
      refine lv_iconst (v := 1) hx hb dX0_readAbove_96 (by decide) ?_
      refine lv_iload_n hx hb dX0_readAbove_97 rfl (lv_at hl 0 rfl) ?_
      have kb_1 : bd 1 1 (1 : Int32) := ⟨by decide, by decide⟩
      refine g_callv (va_runV (As := [.int 1, .int r_25]) (rest := []) ⟨hx, hb, hml, hown, hts⟩ (r_X8_fail_7 l dC dI L kd tys fr_26 H.size g.2.2.2.1 q0_ mq0_ kq0_ 1 kb_1 r_25 x_22 h_23 (g.fcts [0] rfl)) (cwV 2 hts (gV_ t_1215 t_1107 t_1108 t_184 t_1109) rfl rfl rfl (by decide +kernel) ⟨(Nat.le_of_ble_eq_true rfl), (Nat.le_of_ble_eq_true rfl)⟩) (pre3V g hK mq0_ kq0_ (by decide) (q := (RX8, TX8, 10)) rfl) rfl rfl hl.1 rfl (lv_room (Nat.le_of_ble_eq_true rfl)) dX0_readAbove_98 ⟨(Nat.le_of_ble_eq_true rfl), (Nat.le_of_ble_eq_true rfl)⟩) g hK (by decide) (by decide) (fx' := [(7, 0, q2_, .ref a_19), (7, 1, q2_, .int x_11), (9, 1, q3_, .int x_6), (0, 0, a0_, .ref q0_), (0, 1, a0_, .ref q1_), (0, 2, a0_, .ref q2_), (5, 1, q1_, .ref q3_)]) rfl (fun fr_101 H locs hp hMr_101 g => ?_)
      obtain ⟨x_102, h_103, hF_104⟩ := hp
      have g := g.more hF_104
      have kb_1201 : bd 1201 1201 (1201 : Int32) := ⟨by decide, by decide⟩
      subst hQ
      exact W.vret hx hb hr (fun t ht hW => ⟨⟨_, rfl, ⟨1201, (bd_sub kb_1201 (by decide)), (g.fcts [0] rfl)⟩, q3_of g hK ht hW⟩, g.2.2.1.F ht⟩) g.2.2.1.2.2 dX0_readAbove_101
set_option maxHeartbeats 4000000 in
set_option maxRecDepth 100000 in
theorem r_X8_fail_9 (l : Launch) (dC : Nat → ClassId) (dI : Nat → Nat → Nat) (L : List Nat) (kd : Nat → Nat) (tys : List (ClassId × FieldType)) (f0 : Nat → va_E) (sz : Nat) (hWT : WT L kd tys f0) (a0_ : Nat) (ma0_ : a0_ ∈ L) (ka0_ : kd a0_ = 8) (x1_ : Int32) (bx1_ : bd 1 1 x1_) (x2_ : Int32) (y0_ : Int32) (by0_ : bd 1 1201 y0_) (y1_ : Int32) (by1_ : bd 1 7 y1_) (hfx : Fs L kd f0 [(8, 6, a0_, .int y0_), (8, 8, a0_, .int y1_)]) : Met l yX8_fail (.code yX8_fail cX8_fail 4 none :: lw_g) ({ frames := 0, cells := 0, slots := 0, locals := 0 }) (va_Pc [.ref a0_, .int x1_, .int x2_] (P3 (dC, dI) L tys f0 sz)) (va_Qv (fun (f : Nat → va_E) => (Fs L kd f [(8, 6, a0_, .int 1201)])) (Q3 (dC, dI) L kd tys [(8, 6)] [] f0 sz) (pA L sz)) 0 0 (pA L sz) := by
  refine Met.ofW (cc := cX8_fail) (maxL := 4) (ret := none) (by decide) rfl ?_
  intro p e s m args below meth c s₁ B hml hv
  obtain ⟨rfl, hsz, hP, hK, hD0⟩ := hv
  have hx := B.exec
  have hb := B.bytes
  have hr := B.returns
  have hts := atoms_spec (ws := (.code yX8_fail cX8_fail 4 none :: lw_g)) B.pre
  have hown : s.vm.findClass RX8 = some m.cls := findClass_of_methodNamed B.named
  have hlocks := B.notSynchronized
  subst hsz
  have g : G3 (dC, dI) L kd tys s f0 [(8, 6)] [] f0 s.heap [] [(8, 6, a0_, .int y0_), (8, 8, a0_, .int y1_)] := G3.start hP hD0 hWT hfx
  have hl := lv_entry ([.ref a0_, .int x1_, .int x2_]) (n := 4) (Nat.le_of_ble_eq_true rfl)
  rw [lg_entry_eq]
  generalize (lg_sl ([.ref a0_, .int x1_, .int x2_]) ++ List.replicate (4 - (lg_sl ([.ref a0_, .int x1_, .int x2_])).length) Slot.unset).toArray = ls at hl ⊢
  have hl : lv_has ls 4 [(0, .ref a0_), (1, .int x1_), (2, .int x2_)] := hl
  refine W_q (fun Q hQ => ?_)
  refine lv_aload_n hx hb dX8_fail_0 rfl (lv_at hl 0 rfl) ?_
  refine g_getk (C := RX8) (T := TX8) (N := 10) hx hb hts (mc_ inX8) hown hK g rfl 6 (by decide) rfl (hts _ (List.mem_cons_of_mem _ t_291)) (fun _ h9 => h9) 0 rfl dX8_fail_1 ?_
  refine lv_sipush (v := 1200) hx hb dX8_fail_4 (by decide) ?_
  have kb_1200 : bd 1200 1200 (1200 : Int32) := ⟨by decide, by decide⟩
  refine lv_icmp_le (tgt := 31) hx hb dX8_fail_7 (by decide) (fun c_1 => ?_) (fun c_1 => ?_)
  · have fc_1 := le_f c_1
    have b_2 : bd 1 1200 y0_ := leL fc_1 by0_ kb_1200 (by decide)
    refine lv_iconst (v := 0) hx hb dX8_fail_31 (by decide) ?_
    refine lv_istore_n (lv' := [(3, .int 0), (0, .ref a0_), (1, .int x1_), (2, .int x2_)]) hx hb dX8_fail_32 rfl hl (by decide) rfl (fun ls hl => ?_)
    refine lv_aload_n hx hb dX8_fail_33 rfl (lv_at hl 1 rfl) ?_
    refine g_getk (C := RX8) (T := TX8) (N := 10) hx hb hts (mc_ inX8) hown hK g rfl 8 (by decide) rfl (hts _ (List.mem_cons_of_mem _ t_295)) (fun _ h9 => h9) 1 rfl dX8_fail_34 ?_
    have kb_0 : bd 0 0 (0 : Int32) := ⟨by decide, by decide⟩
    refine lv_if_ne (tgt := 73) hx hb dX8_fail_37 (by decide) (fun c_3 => ?_) (fun c_3 => ?_)
    · have fc_3 := neq_f c_3
      refine lv_aload_n hx hb dX8_fail_73 rfl (lv_at hl 1 rfl) ?_
      refine lv_sipush (v := 1201) hx hb dX8_fail_74 (by decide) ?_
      have kb_1201 : bd 1201 1201 (1201 : Int32) := ⟨by decide, by decide⟩
      refine g_put (C := RX8) (T := TX8) (N := 10) hx hb hts (mc_ inX8) tyX8 tyX8_ok nmX8 hown hK g ma0_ ka0_ (by decide) rfl 6 (by decide) (hts _ (List.mem_cons_of_mem _ t_291)) (fun _ h9 => h9) rfl rfl (okV_i (bd_sub kb_1201 (by decide))) rfl rfl (by decide) (Or.inr (Or.inl (by decide))) (fx' := [(8, 8, a0_, .int y1_)]) rfl dX8_fail_77 (fun f H locs hM_4 g => ?_)
      subst hQ
      exact W.vret hx hb hr (fun t ht hW => ⟨⟨_, rfl, (g.fcts [0] rfl), q3_of g hK ht hW⟩, g.2.2.1.F ht⟩) g.2.2.1.2.2 dX8_fail_80
    · have fc_3 := eq_f c_3
      have b_5 : bd 1 0 y1_ := eqX fc_3 by1_ kb_0 (by decide)
      exact bd_no b_5 (by decide)
  · have fc_1 := nle_f c_1
    have b_6 : bd 1201 1201 y0_ := ltR fc_1 kb_1200 by0_ (by decide)
    refine lv_iload_n hx hb dX8_fail_10 rfl (lv_at hl 1 rfl) ?_
    refine lv_iconst (v := 4) hx hb dX8_fail_11 (by decide) ?_
    have kb_4 : bd 4 4 (4 : Int32) := ⟨by decide, by decide⟩
    refine lv_icmp_gt (tgt := 27) hx hb dX8_fail_12 (by decide) (fun c_7 => ?_) (fun c_7 => ?_)
    · have fc_7 := lt_f c_7
      have b_8 : bd 4 0 (4 : Int32) := ltL fc_7 kb_4 bx1_ (by decide)
      exact bd_no (eqX rfl b_8 kb_4 (lo := 4) (hi := 0) (by decide)) (by decide)
    · have fc_7 := nlt_f c_7
      refine lv_iload_n hx hb dX8_fail_15 rfl (lv_at hl 2 rfl) ?_
      refine lv_aload_n hx hb dX8_fail_16 rfl (lv_at hl 0 rfl) ?_
      refine g_getr (K := 149) (C := RX8) (T := TX8) (N := 10) hx hb hts (mc_ inX8) hown hK g ma0_ ka0_ (by decide) rfl 1 (by decide) rfl (hts _ (List.mem_cons_of_mem _ t_286)) (fun _ h9 => h9) rfl dX8_fail_17 (fun a_9 ma_9 ka_9 g => ?_)
      refine lv_sipush (v := 1200) hx hb dX8_fail_20 (by decide) ?_
      refine g_iald hx hb hK g ma_9 ka_9 (by decide) rfl (by unfold vp_in; decide) dX8_fail_23 (fun x_10 bx_10 cx_10 => ?_)
      refine lv_icmp_eq (tgt := 31) hx hb dX8_fail_24 (by decide) (fun c_11 => ?_) (fun c_11 => ?_)
      · have fc_11 := eq_f c_11
        refine lv_iconst (v := 0) hx hb dX8_fail_31 (by decide) ?_
        refine lv_istore_n (lv' := [(3, .int 0), (0, .ref a0_), (1, .int x1_), (2, .int x2_)]) hx hb dX8_fail_32 rfl hl (by decide) rfl (fun ls hl => ?_)
        refine lv_aload_n hx hb dX8_fail_33 rfl (lv_at hl 1 rfl) ?_
        refine g_getk (C := RX8) (T := TX8) (N := 10) hx hb hts (mc_ inX8) hown hK g rfl 8 (by decide) rfl (hts _ (List.mem_cons_of_mem _ t_295)) (fun _ h9 => h9) 2 rfl dX8_fail_34 ?_
        have kb_0 : bd 0 0 (0 : Int32) := ⟨by decide, by decide⟩
        refine lv_if_ne (tgt := 73) hx hb dX8_fail_37 (by decide) (fun c_12 => ?_) (fun c_12 => ?_)
        · have fc_12 := neq_f c_12
          refine lv_aload_n hx hb dX8_fail_73 rfl (lv_at hl 1 rfl) ?_
          refine lv_sipush (v := 1201) hx hb dX8_fail_74 (by decide) ?_
          have kb_1201 : bd 1201 1201 (1201 : Int32) := ⟨by decide, by decide⟩
          refine g_put (C := RX8) (T := TX8) (N := 10) hx hb hts (mc_ inX8) tyX8 tyX8_ok nmX8 hown hK g ma0_ ka0_ (by decide) rfl 6 (by decide) (hts _ (List.mem_cons_of_mem _ t_291)) (fun _ h9 => h9) rfl rfl (okV_i (bd_sub kb_1201 (by decide))) rfl rfl (by decide) (Or.inr (Or.inl (by decide))) (fx' := [(8, 1, a0_, .ref a_9), (8, 8, a0_, .int y1_)]) rfl dX8_fail_77 (fun f H locs hM_13 g => ?_)
          subst hQ
          exact W.vret hx hb hr (fun t ht hW => ⟨⟨_, rfl, (g.fcts [0] rfl), q3_of g hK ht hW⟩, g.2.2.1.F ht⟩) g.2.2.1.2.2 dX8_fail_80
        · have fc_12 := eq_f c_12
          have b_14 : bd 1 0 y1_ := eqX fc_12 by1_ kb_0 (by decide)
          exact bd_no b_14 (by decide)
      · have fc_11 := neq_f c_11
        refine lv_iconst (v := 1) hx hb dX8_fail_27 (by decide) ?_
        refine lv_goto (tgt := 32) hx hb dX8_fail_28 (by decide) ?_
        refine lv_istore_n (lv' := [(3, .int 1), (0, .ref a0_), (1, .int x1_), (2, .int x2_)]) hx hb dX8_fail_32 rfl hl (by decide) rfl (fun ls hl => ?_)
        refine lv_aload_n hx hb dX8_fail_33 rfl (lv_at hl 1 rfl) ?_
        refine g_getk (C := RX8) (T := TX8) (N := 10) hx hb hts (mc_ inX8) hown hK g rfl 8 (by decide) rfl (hts _ (List.mem_cons_of_mem _ t_295)) (fun _ h9 => h9) 2 rfl dX8_fail_34 ?_
        have kb_0 : bd 0 0 (0 : Int32) := ⟨by decide, by decide⟩
        refine lv_if_ne (tgt := 73) hx hb dX8_fail_37 (by decide) (fun c_15 => ?_) (fun c_15 => ?_)
        · have fc_15 := neq_f c_15
          refine lv_aload_n hx hb dX8_fail_73 rfl (lv_at hl 1 rfl) ?_
          refine lv_sipush (v := 1201) hx hb dX8_fail_74 (by decide) ?_
          have kb_1201 : bd 1201 1201 (1201 : Int32) := ⟨by decide, by decide⟩
          refine g_put (C := RX8) (T := TX8) (N := 10) hx hb hts (mc_ inX8) tyX8 tyX8_ok nmX8 hown hK g ma0_ ka0_ (by decide) rfl 6 (by decide) (hts _ (List.mem_cons_of_mem _ t_291)) (fun _ h9 => h9) rfl rfl (okV_i (bd_sub kb_1201 (by decide))) rfl rfl (by decide) (Or.inr (Or.inl (by decide))) (fx' := [(8, 1, a0_, .ref a_9), (8, 8, a0_, .int y1_)]) rfl dX8_fail_77 (fun f H locs hM_16 g => ?_)
          subst hQ
          exact W.vret hx hb hr (fun t ht hW => ⟨⟨_, rfl, (g.fcts [0] rfl), q3_of g hK ht hW⟩, g.2.2.1.F ht⟩) g.2.2.1.2.2 dX8_fail_80
        · have fc_15 := eq_f c_15
          have b_17 : bd 1 0 y1_ := eqX fc_15 by1_ kb_0 (by decide)
          exact bd_no b_17 (by decide)
set_option maxHeartbeats 4000000 in
set_option maxRecDepth 100000 in
theorem r_X0_takeBracket (l : Launch) (dC : Nat → ClassId) (dI : Nat → Nat → Nat) (L : List Nat) (kd : Nat → Nat) (tys : List (ClassId × FieldType)) (f0 : Nat → va_E) (sz : Nat) (hWT : WT L kd tys f0) (a0_ : Nat) (ma0_ : a0_ ∈ L) (ka0_ : kd a0_ = 0) (q0_ : Nat) (mq0_ : q0_ ∈ L) (kq0_ : kd q0_ = 8) (hfx : Fs L kd f0 [(0, 0, a0_, .ref q0_)]) : Met l yX0_takeBracket (.code yX0_takeBracket cX0_takeBracket 1 none :: lw_g) ({ frames := 1, cells := 0, slots := 0, locals := 23 }) (va_Pc [.ref a0_] (P3 (dC, dI) L tys f0 sz)) (va_Qv (fun (f : Nat → va_E) => (∃ z0_ : Int32, bd 1 1201 z0_ ∧ Fs L kd f [(8, 6, q0_, .int z0_)])) (Q3 (dC, dI) L kd tys [(8, 6), (8, 8), (8, 9)] [] f0 sz) (pA L sz)) 0 0 (pA L sz) := by
  refine Met.ofW (cc := cX0_takeBracket) (maxL := 1) (ret := none) (by decide) rfl ?_
  intro p e s m args below meth c s₁ B hml hv
  obtain ⟨rfl, hsz, hP, hK, hD0⟩ := hv
  have hx := B.exec
  have hb := B.bytes
  have hr := B.returns
  have hts := atoms_spec (ws := (.code yX0_takeBracket cX0_takeBracket 1 none :: lw_g)) B.pre
  have hown : s.vm.findClass RX0 = some m.cls := findClass_of_methodNamed B.named
  have hlocks := B.notSynchronized
  subst hsz
  have g : G3 (dC, dI) L kd tys s f0 [(8, 6), (8, 8), (8, 9)] [] f0 s.heap [] [(0, 0, a0_, .ref q0_)] := G3.start hP hD0 hWT hfx
  have hl := lv_entry ([.ref a0_]) (n := 1) (Nat.le_of_ble_eq_true rfl)
  rw [lg_entry_eq]
  generalize (lg_sl ([.ref a0_]) ++ List.replicate (1 - (lg_sl ([.ref a0_])).length) Slot.unset).toArray = ls at hl ⊢
  have hl : lv_has ls 1 [(0, .ref a0_)] := hl
  refine W_q (fun Q hQ => ?_)
  refine lv_aload_n hx hb dX0_takeBracket_0 rfl (lv_at hl 0 rfl) ?_
  refine g_getk (C := RX0) (T := TX0) (N := 14) hx hb hts (mc_ inX0) hown hK g rfl 0 (by decide) rfl (hts _ (List.mem_cons_of_mem _ t_373)) (fun _ h9 => h9) 0 rfl dX0_takeBracket_1 ?_
  refine g_calli (va_runV (As := []) (rest := []) ⟨hx, hb, hml, hown, hts⟩ (r_X8_kind l dC dI L kd tys f0 s.heap.size g.2.2.2.1 q0_ mq0_ kq0_) (cwV 0 hts (gV_ t_1186 t_1119 t_1120 t_184 t_1121) rfl rfl rfl (by decide +kernel) ⟨(Nat.le_of_ble_eq_true rfl), (Nat.le_of_ble_eq_true rfl)⟩) (pre3V g hK mq0_ kq0_ (by decide) (q := (RX8, TX8, 10)) rfl) rfl rfl hl.1 rfl (lv_room (Nat.le_of_ble_eq_true rfl)) dX0_takeBracket_4 ⟨(Nat.le_of_ble_eq_true rfl), (Nat.le_of_ble_eq_true rfl)⟩) g hK (by decide) (by decide) (fx' := [(0, 0, a0_, .ref q0_)]) rfl (fun r_1 fr_1 H locs hp hMr_1 g => ?_)
  refine lv_bipush (v := 40) hx hb dX0_takeBracket_7 (by decide) ?_
  have kb_40 : bd 40 40 (40 : Int32) := ⟨by decide, by decide⟩
  refine lv_icmp_eq (tgt := 30) hx hb dX0_takeBracket_9 (by decide) (fun c_2 => ?_) (fun c_2 => ?_)
  · have fc_2 := eq_f c_2
    have b_3 : bd 40 40 r_1 := eqX fc_2 (bdT r_1) kb_40 (by decide)
    refine lv_aload_n hx hb dX0_takeBracket_30 rfl (lv_at hl 0 rfl) ?_
    refine g_geti (C := RX0) (T := TX0) (N := 14) hx hb hts (mc_ inX0) hown hK g ma0_ ka0_ (by decide) rfl 11 (by decide) rfl (hts _ (List.mem_cons_of_mem _ t_384)) (fun _ h9 => h9) rfl dX0_takeBracket_31 (fun x_4 bx_4 g => ?_)
    refine lv_bipush (v := 40) hx hb dX0_takeBracket_34 (by decide) ?_
    refine lv_icmp_lt (tgt := 54) hx hb dX0_takeBracket_36 (by decide) (fun c_5 => ?_) (fun c_5 => ?_)
    · have fc_5 := lt_f c_5
      have b_6 : bd (-2147483648) 39 x_4 := ltL fc_5 (bdT x_4) kb_40 (by decide)
      refine lv_aload_n hx hb dX0_takeBracket_54 rfl (lv_at hl 0 rfl) ?_
      refine g_getk (C := RX0) (T := TX0) (N := 14) hx hb hts (mc_ inX0) hown hK g rfl 0 (by decide) rfl (hts _ (List.mem_cons_of_mem _ t_373)) (fun _ h9 => h9) 1 rfl dX0_takeBracket_55 ?_
      refine g_callv (va_runV (As := []) (rest := []) ⟨hx, hb, hml, hown, hts⟩ (r_X8_next l dC dI L kd tys fr_1 H.size g.2.2.2.1 q0_ mq0_ kq0_) (cwV 0 hts (gV_ t_1225 t_1103 t_1104 t_184 t_1105) rfl rfl rfl (by decide +kernel) ⟨(Nat.le_of_ble_eq_true rfl), (Nat.le_of_ble_eq_true rfl)⟩) (pre3V g hK mq0_ kq0_ (by decide) (q := (RX8, TX8, 10)) rfl) rfl rfl hl.1 rfl (lv_room (Nat.le_of_ble_eq_true rfl)) dX0_takeBracket_58 ⟨(Nat.le_of_ble_eq_true rfl), (Nat.le_of_ble_eq_true rfl)⟩) g hK (by decide) (by decide) (fx' := [(0, 11, a0_, .int x_4), (0, 0, a0_, .ref q0_)]) rfl (fun fr_7 H locs hp hMr_7 g => ?_)
      obtain ⟨x_8, h_9, hF_10⟩ := hp
      have g := g.more hF_10
      refine lv_aload_n hx hb dX0_takeBracket_61 rfl (lv_at hl 0 rfl) ?_
      refine g_getk (C := RX0) (T := TX0) (N := 14) hx hb hts (mc_ inX0) hown hK g rfl 0 (by decide) rfl (hts _ (List.mem_cons_of_mem _ t_373)) (fun _ h9 => h9) 2 rfl dX0_takeBracket_62 ?_
      refine g_calli (va_runV (As := []) (rest := []) ⟨hx, hb, hml, hown, hts⟩ (r_X8_kind l dC dI L kd tys fr_7 H.size g.2.2.2.1 q0_ mq0_ kq0_) (cwV 0 hts (gV_ t_1186 t_1119 t_1120 t_184 t_1121) rfl rfl rfl (by decide +kernel) ⟨(Nat.le_of_ble_eq_true rfl), (Nat.le_of_ble_eq_true rfl)⟩) (pre3V g hK mq0_ kq0_ (by decide) (q := (RX8, TX8, 10)) rfl) rfl rfl hl.1 rfl (lv_room (Nat.le_of_ble_eq_true rfl)) dX0_takeBracket_65 ⟨(Nat.le_of_ble_eq_true rfl), (Nat.le_of_ble_eq_true rfl)⟩) g hK (by decide) (by decide) (fx' := [(8, 6, q0_, .int x_8), (0, 11, a0_, .int x_4), (0, 0, a0_, .ref q0_)]) rfl (fun r_11 fr_11 H locs hp hMr_11 g => ?_)
      refine lv_iconst (v := 3) hx hb dX0_takeBracket_68 (by decide) ?_
      have kb_3 : bd 3 3 (3 : Int32) := ⟨by decide, by decide⟩
      refine lv_icmp_eq (tgt := 87) hx hb dX0_takeBracket_69 (by decide) (fun c_12 => ?_) (fun c_12 => ?_)
      · have fc_12 := eq_f c_12
        have b_13 : bd 3 3 r_11 := eqX fc_12 (bdT r_11) kb_3 (by decide)
        subst hQ
        exact W.vret hx hb hr (fun t ht hW => ⟨⟨_, rfl, ⟨x_8, h_9, (g.fcts [0] rfl)⟩, q3_of g hK ht hW⟩, g.2.2.1.F ht⟩) g.2.2.1.2.2 dX0_takeBracket_87
      · have fc_12 := neq_f c_12
        refine lv_aload_n hx hb dX0_takeBracket_72 rfl (lv_at hl 0 rfl) ?_
        refine g_getk (C := RX0) (T := TX0) (N := 14) hx hb hts (mc_ inX0) hown hK g rfl 0 (by decide) rfl (hts _ (List.mem_cons_of_mem _ t_373)) (fun _ h9 => h9) 2 rfl dX0_takeBracket_73 ?_
        refine lv_iconst (v := 1) hx hb dX0_takeBracket_76 (by decide) ?_
        refine lv_aload_n hx hb dX0_takeBracket_77 rfl (lv_at hl 0 rfl) ?_
        refine g_getk (C := RX0) (T := TX0) (N := 14) hx hb hts (mc_ inX0) hown hK g rfl 0 (by decide) rfl (hts _ (List.mem_cons_of_mem _ t_373)) (fun _ h9 => h9) 2 rfl dX0_takeBracket_78 ?_
        refine g_calli (va_runV (As := []) (rest := [.int 1, .ref q0_]) ⟨hx, hb, hml, hown, hts⟩ (r_X8_place l dC dI L kd tys fr_11 H.size g.2.2.2.1 q0_ mq0_ kq0_) (cwV 0 hts (gV_ t_1220 t_1111 t_1112 t_184 t_1113) rfl rfl rfl (by decide +kernel) ⟨(Nat.le_of_ble_eq_true rfl), (Nat.le_of_ble_eq_true rfl)⟩) (pre3V g hK mq0_ kq0_ (by decide) (q := (RX8, TX8, 10)) rfl) rfl rfl hl.1 rfl (lv_room (Nat.le_of_ble_eq_true rfl)) dX0_takeBracket_81 ⟨(Nat.le_of_ble_eq_true rfl), (Nat.le_of_ble_eq_true rfl)⟩) g hK (by decide) (by decide) (fx' := [(8, 6, q0_, .int x_8), (0, 11, a0_, .int x_4), (0, 0, a0_, .ref q0_)]) rfl (fun r_14 fr_14 H locs hp hMr_14 g => ?_)
        have kb_1 : bd 1 1 (1 : Int32) := ⟨by decide, by decide⟩
        refine g_callv (va_runV (As := [.int 1, .int r_14]) (rest := []) ⟨hx, hb, hml, hown, hts⟩ (r_X8_fail_7 l dC dI L kd tys fr_14 H.size g.2.2.2.1 q0_ mq0_ kq0_ 1 kb_1 r_14 x_8 h_9 (g.fcts [0] rfl)) (cwV 2 hts (gV_ t_1215 t_1107 t_1108 t_184 t_1109) rfl rfl rfl (by decide +kernel) ⟨(Nat.le_of_ble_eq_true rfl), (Nat.le_of_ble_eq_true rfl)⟩) (pre3V g hK mq0_ kq0_ (by decide) (q := (RX8, TX8, 10)) rfl) rfl rfl hl.1 rfl (lv_room (Nat.le_of_ble_eq_true rfl)) dX0_takeBracket_84 ⟨(Nat.le_of_ble_eq_true rfl), (Nat.le_of_ble_eq_true rfl)⟩) g hK (by decide) (by decide) (fx' := [(0, 11, a0_, .int x_4), (0, 0, a0_, .ref q0_)]) rfl (fun fr_15 H locs hp hMr_15 g => ?_)
        obtain ⟨x_16, h_17, hF_18⟩ := hp
        have g := g.more hF_18
        have kb_1201 : bd 1201 1201 (1201 : Int32) := ⟨by decide, by decide⟩
        subst hQ
        exact W.vret hx hb hr (fun t ht hW => ⟨⟨_, rfl, ⟨1201, (bd_sub kb_1201 (by decide)), (g.fcts [0] rfl)⟩, q3_of g hK ht hW⟩, g.2.2.1.F ht⟩) g.2.2.1.2.2 dX0_takeBracket_87
    · have fc_5 := nlt_f c_5
      have b_19 : bd 40 2147483647 x_4 := leR fc_5 kb_40 (bdT x_4) (by decide)
      refine lv_aload_n hx hb dX0_takeBracket_39 rfl (lv_at hl 0 rfl) ?_
      refine g_getk (C := RX0) (T := TX0) (N := 14) hx hb hts (mc_ inX0) hown hK g rfl 0 (by decide) rfl (hts _ (List.mem_cons_of_mem _ t_373)) (fun _ h9 => h9) 1 rfl dX0_takeBracket_40 ?_
      refine lv_iconst (v := 4) hx hb dX0_takeBracket_43 (by decide) ?_
      refine lv_aload_n hx hb dX0_takeBracket_44 rfl (lv_at hl 0 rfl) ?_
      refine g_getk (C := RX0) (T := TX0) (N := 14) hx hb hts (mc_ inX0) hown hK g rfl 0 (by decide) rfl (hts _ (List.mem_cons_of_mem _ t_373)) (fun _ h9 => h9) 1 rfl dX0_takeBracket_45 ?_
      refine g_calli (va_runV (As := []) (rest := [.int 4, .ref q0_]) ⟨hx, hb, hml, hown, hts⟩ (r_X8_place l dC dI L kd tys fr_1 H.size g.2.2.2.1 q0_ mq0_ kq0_) (cwV 0 hts (gV_ t_1220 t_1111 t_1112 t_184 t_1113) rfl rfl rfl (by decide +kernel) ⟨(Nat.le_of_ble_eq_true rfl), (Nat.le_of_ble_eq_true rfl)⟩) (pre3V g hK mq0_ kq0_ (by decide) (q := (RX8, TX8, 10)) rfl) rfl rfl hl.1 rfl (lv_room (Nat.le_of_ble_eq_true rfl)) dX0_takeBracket_48 ⟨(Nat.le_of_ble_eq_true rfl), (Nat.le_of_ble_eq_true rfl)⟩) g hK (by decide) (by decide) (fx' := [(0, 11, a0_, .int x_4), (0, 0, a0_, .ref q0_)]) rfl (fun r_20 fr_20 H locs hp hMr_20 g => ?_)
      have kb_4 : bd 4 4 (4 : Int32) := ⟨by decide, by decide⟩
      refine g_callv (va_runV (As := [.int 4, .int r_20]) (rest := []) ⟨hx, hb, hml, hown, hts⟩ (r_X8_fail l dC dI L kd tys fr_20 H.size g.2.2.2.1 q0_ mq0_ kq0_ 4 kb_4 r_20) (cwV 2 hts (gV_ t_1215 t_1107 t_1108 t_184 t_1109) rfl rfl rfl (by decide +kernel) ⟨(Nat.le_of_ble_eq_true rfl), (Nat.le_of_ble_eq_true rfl)⟩) (pre3V g hK mq0_ kq0_ (by decide) (q := (RX8, TX8, 10)) rfl) rfl rfl hl.1 rfl (lv_room (Nat.le_of_ble_eq_true rfl)) dX0_takeBracket_51 ⟨(Nat.le_of_ble_eq_true rfl), (Nat.le_of_ble_eq_true rfl)⟩) g hK (by decide) (by decide) (fx' := [(0, 11, a0_, .int x_4), (0, 0, a0_, .ref q0_)]) rfl (fun fr_21 H locs hp hMr_21 g => ?_)
      obtain ⟨x_22, h_23, hF_24⟩ := hp
      have g := g.more hF_24
      refine lv_aload_n hx hb dX0_takeBracket_54 rfl (lv_at hl 0 rfl) ?_
      refine g_getk (C := RX0) (T := TX0) (N := 14) hx hb hts (mc_ inX0) hown hK g rfl 0 (by decide) rfl (hts _ (List.mem_cons_of_mem _ t_373)) (fun _ h9 => h9) 3 rfl dX0_takeBracket_55 ?_
      refine g_callv (va_runV (As := []) (rest := []) ⟨hx, hb, hml, hown, hts⟩ (r_X8_next l dC dI L kd tys fr_21 H.size g.2.2.2.1 q0_ mq0_ kq0_) (cwV 0 hts (gV_ t_1225 t_1103 t_1104 t_184 t_1105) rfl rfl rfl (by decide +kernel) ⟨(Nat.le_of_ble_eq_true rfl), (Nat.le_of_ble_eq_true rfl)⟩) (pre3V g hK mq0_ kq0_ (by decide) (q := (RX8, TX8, 10)) rfl) rfl rfl hl.1 rfl (lv_room (Nat.le_of_ble_eq_true rfl)) dX0_takeBracket_58 ⟨(Nat.le_of_ble_eq_true rfl), (Nat.le_of_ble_eq_true rfl)⟩) g hK (by decide) (by decide) (fx' := [(8, 8, q0_, .int x_22), (0, 11, a0_, .int x_4), (0, 0, a0_, .ref q0_)]) rfl (fun fr_25 H locs hp hMr_25 g => ?_)
      obtain ⟨x_26, h_27, hF_28⟩ := hp
      have g := g.more hF_28
      refine lv_aload_n hx hb dX0_takeBracket_61 rfl (lv_at hl 0 rfl) ?_
      refine g_getk (C := RX0) (T := TX0) (N := 14) hx hb hts (mc_ inX0) hown hK g rfl 0 (by decide) rfl (hts _ (List.mem_cons_of_mem _ t_373)) (fun _ h9 => h9) 3 rfl dX0_takeBracket_62 ?_
      refine g_calli (va_runV (As := []) (rest := []) ⟨hx, hb, hml, hown, hts⟩ (r_X8_kind l dC dI L kd tys fr_25 H.size g.2.2.2.1 q0_ mq0_ kq0_) (cwV 0 hts (gV_ t_1186 t_1119 t_1120 t_184 t_1121) rfl rfl rfl (by decide +kernel) ⟨(Nat.le_of_ble_eq_true rfl), (Nat.le_of_ble_eq_true rfl)⟩) (pre3V g hK mq0_ kq0_ (by decide) (q := (RX8, TX8, 10)) rfl) rfl rfl hl.1 rfl (lv_room (Nat.le_of_ble_eq_true rfl)) dX0_takeBracket_65 ⟨(Nat.le_of_ble_eq_true rfl), (Nat.le_of_ble_eq_true rfl)⟩) g hK (by decide) (by decide) (fx' := [(8, 6, q0_, .int x_26), (8, 8, q0_, .int x_22), (0, 11, a0_, .int x_4), (0, 0, a0_, .ref q0_)]) rfl (fun r_29 fr_29 H locs hp hMr_29 g => ?_)
      refine lv_iconst (v := 3) hx hb dX0_takeBracket_68 (by decide) ?_
      have kb_3 : bd 3 3 (3 : Int32) := ⟨by decide, by decide⟩
      refine lv_icmp_eq (tgt := 87) hx hb dX0_takeBracket_69 (by decide) (fun c_30 => ?_) (fun c_30 => ?_)
      · have fc_30 := eq_f c_30
        have b_31 : bd 3 3 r_29 := eqX fc_30 (bdT r_29) kb_3 (by decide)
        subst hQ
        exact W.vret hx hb hr (fun t ht hW => ⟨⟨_, rfl, ⟨x_26, h_27, (g.fcts [0] rfl)⟩, q3_of g hK ht hW⟩, g.2.2.1.F ht⟩) g.2.2.1.2.2 dX0_takeBracket_87
      · have fc_30 := neq_f c_30
        refine lv_aload_n hx hb dX0_takeBracket_72 rfl (lv_at hl 0 rfl) ?_
        refine g_getk (C := RX0) (T := TX0) (N := 14) hx hb hts (mc_ inX0) hown hK g rfl 0 (by decide) rfl (hts _ (List.mem_cons_of_mem _ t_373)) (fun _ h9 => h9) 3 rfl dX0_takeBracket_73 ?_
        refine lv_iconst (v := 1) hx hb dX0_takeBracket_76 (by decide) ?_
        refine lv_aload_n hx hb dX0_takeBracket_77 rfl (lv_at hl 0 rfl) ?_
        refine g_getk (C := RX0) (T := TX0) (N := 14) hx hb hts (mc_ inX0) hown hK g rfl 0 (by decide) rfl (hts _ (List.mem_cons_of_mem _ t_373)) (fun _ h9 => h9) 3 rfl dX0_takeBracket_78 ?_
        refine g_calli (va_runV (As := []) (rest := [.int 1, .ref q0_]) ⟨hx, hb, hml, hown, hts⟩ (r_X8_place l dC dI L kd tys fr_29 H.size g.2.2.2.1 q0_ mq0_ kq0_) (cwV 0 hts (gV_ t_1220 t_1111 t_1112 t_184 t_1113) rfl rfl rfl (by decide +kernel) ⟨(Nat.le_of_ble_eq_true rfl), (Nat.le_of_ble_eq_true rfl)⟩) (pre3V g hK mq0_ kq0_ (by decide) (q := (RX8, TX8, 10)) rfl) rfl rfl hl.1 rfl (lv_room (Nat.le_of_ble_eq_true rfl)) dX0_takeBracket_81 ⟨(Nat.le_of_ble_eq_true rfl), (Nat.le_of_ble_eq_true rfl)⟩) g hK (by decide) (by decide) (fx' := [(8, 6, q0_, .int x_26), (8, 8, q0_, .int x_22), (0, 11, a0_, .int x_4), (0, 0, a0_, .ref q0_)]) rfl (fun r_32 fr_32 H locs hp hMr_32 g => ?_)
        have kb_1 : bd 1 1 (1 : Int32) := ⟨by decide, by decide⟩
        refine g_callv (va_runV (As := [.int 1, .int r_32]) (rest := []) ⟨hx, hb, hml, hown, hts⟩ (r_X8_fail_9 l dC dI L kd tys fr_32 H.size g.2.2.2.1 q0_ mq0_ kq0_ 1 kb_1 r_32 x_26 h_27 x_22 h_23 (g.fcts [0, 1] rfl)) (cwV 2 hts (gV_ t_1215 t_1107 t_1108 t_184 t_1109) rfl rfl rfl (by decide +kernel) ⟨(Nat.le_of_ble_eq_true rfl), (Nat.le_of_ble_eq_true rfl)⟩) (pre3V g hK mq0_ kq0_ (by decide) (q := (RX8, TX8, 10)) rfl) rfl rfl hl.1 rfl (lv_room (Nat.le_of_ble_eq_true rfl)) dX0_takeBracket_84 ⟨(Nat.le_of_ble_eq_true rfl), (Nat.le_of_ble_eq_true rfl)⟩) g hK (by decide) (by decide) (fx' := [(8, 8, q0_, .int x_22), (0, 11, a0_, .int x_4), (0, 0, a0_, .ref q0_)]) rfl (fun fr_33 H locs hp hMr_33 g => ?_)
        have hF_34 := hp
        have g := g.more hF_34
        have kb_1201 : bd 1201 1201 (1201 : Int32) := ⟨by decide, by decide⟩
        subst hQ
        exact W.vret hx hb hr (fun t ht hW => ⟨⟨_, rfl, ⟨1201, (bd_sub kb_1201 (by decide)), (g.fcts [0] rfl)⟩, q3_of g hK ht hW⟩, g.2.2.1.F ht⟩) g.2.2.1.2.2 dX0_takeBracket_87
  · have fc_2 := neq_f c_2
    refine lv_aload_n hx hb dX0_takeBracket_12 rfl (lv_at hl 0 rfl) ?_
    refine g_getk (C := RX0) (T := TX0) (N := 14) hx hb hts (mc_ inX0) hown hK g rfl 0 (by decide) rfl (hts _ (List.mem_cons_of_mem _ t_373)) (fun _ h9 => h9) 0 rfl dX0_takeBracket_13 ?_
    refine lv_iconst (v := 1) hx hb dX0_takeBracket_16 (by decide) ?_
    refine lv_aload_n hx hb dX0_takeBracket_17 rfl (lv_at hl 0 rfl) ?_
    refine g_getk (C := RX0) (T := TX0) (N := 14) hx hb hts (mc_ inX0) hown hK g rfl 0 (by decide) rfl (hts _ (List.mem_cons_of_mem _ t_373)) (fun _ h9 => h9) 0 rfl dX0_takeBracket_18 ?_
    refine g_calli (va_runV (As := []) (rest := [.int 1, .ref q0_]) ⟨hx, hb, hml, hown, hts⟩ (r_X8_place l dC dI L kd tys fr_1 H.size g.2.2.2.1 q0_ mq0_ kq0_) (cwV 0 hts (gV_ t_1220 t_1111 t_1112 t_184 t_1113) rfl rfl rfl (by decide +kernel) ⟨(Nat.le_of_ble_eq_true rfl), (Nat.le_of_ble_eq_true rfl)⟩) (pre3V g hK mq0_ kq0_ (by decide) (q := (RX8, TX8, 10)) rfl) rfl rfl hl.1 rfl (lv_room (Nat.le_of_ble_eq_true rfl)) dX0_takeBracket_21 ⟨(Nat.le_of_ble_eq_true rfl), (Nat.le_of_ble_eq_true rfl)⟩) g hK (by decide) (by decide) (fx' := [(0, 0, a0_, .ref q0_)]) rfl (fun r_35 fr_35 H locs hp hMr_35 g => ?_)
    have kb_1 : bd 1 1 (1 : Int32) := ⟨by decide, by decide⟩
    refine g_callv (va_runV (As := [.int 1, .int r_35]) (rest := []) ⟨hx, hb, hml, hown, hts⟩ (r_X8_fail_6 l dC dI L kd tys fr_35 H.size g.2.2.2.1 q0_ mq0_ kq0_ 1 kb_1 r_35) (cwV 2 hts (gV_ t_1215 t_1107 t_1108 t_184 t_1109) rfl rfl rfl (by decide +kernel) ⟨(Nat.le_of_ble_eq_true rfl), (Nat.le_of_ble_eq_true rfl)⟩) (pre3V g hK mq0_ kq0_ (by decide) (q := (RX8, TX8, 10)) rfl) rfl rfl hl.1 rfl (lv_room (Nat.le_of_ble_eq_true rfl)) dX0_takeBracket_24 ⟨(Nat.le_of_ble_eq_true rfl), (Nat.le_of_ble_eq_true rfl)⟩) g hK (by decide) (by decide) (fx' := [(0, 0, a0_, .ref q0_)]) rfl (fun fr_36 H locs hp hMr_36 g => ?_)
    obtain ⟨x_37, h_38, hF_39⟩ := hp
    have g := g.more hF_39
    refine lv_goto (tgt := 54) hx hb dX0_takeBracket_27 (by decide) ?_
    refine lv_aload_n hx hb dX0_takeBracket_54 rfl (lv_at hl 0 rfl) ?_
    refine g_getk (C := RX0) (T := TX0) (N := 14) hx hb hts (mc_ inX0) hown hK g rfl 0 (by decide) rfl (hts _ (List.mem_cons_of_mem _ t_373)) (fun _ h9 => h9) 2 rfl dX0_takeBracket_55 ?_
    refine g_callv (va_runV (As := []) (rest := []) ⟨hx, hb, hml, hown, hts⟩ (r_X8_next l dC dI L kd tys fr_36 H.size g.2.2.2.1 q0_ mq0_ kq0_) (cwV 0 hts (gV_ t_1225 t_1103 t_1104 t_184 t_1105) rfl rfl rfl (by decide +kernel) ⟨(Nat.le_of_ble_eq_true rfl), (Nat.le_of_ble_eq_true rfl)⟩) (pre3V g hK mq0_ kq0_ (by decide) (q := (RX8, TX8, 10)) rfl) rfl rfl hl.1 rfl (lv_room (Nat.le_of_ble_eq_true rfl)) dX0_takeBracket_58 ⟨(Nat.le_of_ble_eq_true rfl), (Nat.le_of_ble_eq_true rfl)⟩) g hK (by decide) (by decide) (fx' := [(8, 8, q0_, .int x_37), (0, 0, a0_, .ref q0_)]) rfl (fun fr_40 H locs hp hMr_40 g => ?_)
    obtain ⟨x_41, h_42, hF_43⟩ := hp
    have g := g.more hF_43
    refine lv_aload_n hx hb dX0_takeBracket_61 rfl (lv_at hl 0 rfl) ?_
    refine g_getk (C := RX0) (T := TX0) (N := 14) hx hb hts (mc_ inX0) hown hK g rfl 0 (by decide) rfl (hts _ (List.mem_cons_of_mem _ t_373)) (fun _ h9 => h9) 2 rfl dX0_takeBracket_62 ?_
    refine g_calli (va_runV (As := []) (rest := []) ⟨hx, hb, hml, hown, hts⟩ (r_X8_kind l dC dI L kd tys fr_40 H.size g.2.2.2.1 q0_ mq0_ kq0_) (cwV 0 hts (gV_ t_1186 t_1119 t_1120 t_184 t_1121) rfl rfl rfl (by decide +kernel) ⟨(Nat.le_of_ble_eq_true rfl), (Nat.le_of_ble_eq_true rfl)⟩) (pre3V g hK mq0_ kq0_ (by decide) (q := (RX8, TX8, 10)) rfl) rfl rfl hl.1 rfl (lv_room (Nat.le_of_ble_eq_true rfl)) dX0_takeBracket_65 ⟨(Nat.le_of_ble_eq_true rfl), (Nat.le_of_ble_eq_true rfl)⟩) g hK (by decide) (by decide) (fx' := [(8, 6, q0_, .int x_41), (8, 8, q0_, .int x_37), (0, 0, a0_, .ref q0_)]) rfl (fun r_44 fr_44 H locs hp hMr_44 g => ?_)
    refine lv_iconst (v := 3) hx hb dX0_takeBracket_68 (by decide) ?_
    have kb_3 : bd 3 3 (3 : Int32) := ⟨by decide, by decide⟩
    refine lv_icmp_eq (tgt := 87) hx hb dX0_takeBracket_69 (by decide) (fun c_45 => ?_) (fun c_45 => ?_)
    · have fc_45 := eq_f c_45
      have b_46 : bd 3 3 r_44 := eqX fc_45 (bdT r_44) kb_3 (by decide)
      subst hQ
      exact W.vret hx hb hr (fun t ht hW => ⟨⟨_, rfl, ⟨x_41, h_42, (g.fcts [0] rfl)⟩, q3_of g hK ht hW⟩, g.2.2.1.F ht⟩) g.2.2.1.2.2 dX0_takeBracket_87
    · have fc_45 := neq_f c_45
      refine lv_aload_n hx hb dX0_takeBracket_72 rfl (lv_at hl 0 rfl) ?_
      refine g_getk (C := RX0) (T := TX0) (N := 14) hx hb hts (mc_ inX0) hown hK g rfl 0 (by decide) rfl (hts _ (List.mem_cons_of_mem _ t_373)) (fun _ h9 => h9) 2 rfl dX0_takeBracket_73 ?_
      refine lv_iconst (v := 1) hx hb dX0_takeBracket_76 (by decide) ?_
      refine lv_aload_n hx hb dX0_takeBracket_77 rfl (lv_at hl 0 rfl) ?_
      refine g_getk (C := RX0) (T := TX0) (N := 14) hx hb hts (mc_ inX0) hown hK g rfl 0 (by decide) rfl (hts _ (List.mem_cons_of_mem _ t_373)) (fun _ h9 => h9) 2 rfl dX0_takeBracket_78 ?_
      refine g_calli (va_runV (As := []) (rest := [.int 1, .ref q0_]) ⟨hx, hb, hml, hown, hts⟩ (r_X8_place l dC dI L kd tys fr_44 H.size g.2.2.2.1 q0_ mq0_ kq0_) (cwV 0 hts (gV_ t_1220 t_1111 t_1112 t_184 t_1113) rfl rfl rfl (by decide +kernel) ⟨(Nat.le_of_ble_eq_true rfl), (Nat.le_of_ble_eq_true rfl)⟩) (pre3V g hK mq0_ kq0_ (by decide) (q := (RX8, TX8, 10)) rfl) rfl rfl hl.1 rfl (lv_room (Nat.le_of_ble_eq_true rfl)) dX0_takeBracket_81 ⟨(Nat.le_of_ble_eq_true rfl), (Nat.le_of_ble_eq_true rfl)⟩) g hK (by decide) (by decide) (fx' := [(8, 6, q0_, .int x_41), (8, 8, q0_, .int x_37), (0, 0, a0_, .ref q0_)]) rfl (fun r_47 fr_47 H locs hp hMr_47 g => ?_)
      refine g_callv (va_runV (As := [.int 1, .int r_47]) (rest := []) ⟨hx, hb, hml, hown, hts⟩ (r_X8_fail_9 l dC dI L kd tys fr_47 H.size g.2.2.2.1 q0_ mq0_ kq0_ 1 kb_1 r_47 x_41 h_42 x_37 h_38 (g.fcts [0, 1] rfl)) (cwV 2 hts (gV_ t_1215 t_1107 t_1108 t_184 t_1109) rfl rfl rfl (by decide +kernel) ⟨(Nat.le_of_ble_eq_true rfl), (Nat.le_of_ble_eq_true rfl)⟩) (pre3V g hK mq0_ kq0_ (by decide) (q := (RX8, TX8, 10)) rfl) rfl rfl hl.1 rfl (lv_room (Nat.le_of_ble_eq_true rfl)) dX0_takeBracket_84 ⟨(Nat.le_of_ble_eq_true rfl), (Nat.le_of_ble_eq_true rfl)⟩) g hK (by decide) (by decide) (fx' := [(8, 8, q0_, .int x_37), (0, 0, a0_, .ref q0_)]) rfl (fun fr_48 H locs hp hMr_48 g => ?_)
      have hF_49 := hp
      have g := g.more hF_49
      have kb_1201 : bd 1201 1201 (1201 : Int32) := ⟨by decide, by decide⟩
      subst hQ
      exact W.vret hx hb hr (fun t ht hW => ⟨⟨_, rfl, ⟨1201, (bd_sub kb_1201 (by decide)), (g.fcts [0] rfl)⟩, q3_of g hK ht hW⟩, g.2.2.1.F ht⟩) g.2.2.1.2.2 dX0_takeBracket_87
set_option maxHeartbeats 4000000 in
set_option maxRecDepth 100000 in
theorem r_X0_readSize (l : Launch) (dC : Nat → ClassId) (dI : Nat → Nat → Nat) (L : List Nat) (kd : Nat → Nat) (tys : List (ClassId × FieldType)) (f0 : Nat → va_E) (sz : Nat) (hWT : WT L kd tys f0) (a0_ : Nat) (ma0_ : a0_ ∈ L) (ka0_ : kd a0_ = 0) (q0_ : Nat) (mq0_ : q0_ ∈ L) (kq0_ : kd q0_ = 8) (q1_ : Nat) (mq1_ : q1_ ∈ L) (kq1_ : kd q1_ = 5) (q2_ : Nat) (mq2_ : q2_ ∈ L) (kq2_ : kd q2_ = 7) (q3_ : Nat) (mq3_ : q3_ ∈ L) (kq3_ : kd q3_ = 9) (hfx : Fs L kd f0 [(0, 0, a0_, .ref q0_), (0, 1, a0_, .ref q1_), (0, 2, a0_, .ref q2_), (5, 1, q1_, .ref q3_)]) : Met l yX0_readSize (.code yX0_readSize cX0_readSize 3 none :: lw_g) ({ frames := 2, cells := 0, slots := 0, locals := 46 }) (va_Pc [.ref a0_] (P3 (dC, dI) L tys f0 sz)) (va_Qv (fun (f : Nat → va_E) => (∃ z0_ : Int32, bd 1 1201 z0_ ∧ Fs L kd f [(8, 6, q0_, .int z0_)])) (Q3 (dC, dI) L kd tys [(0, 10), (0, 12), (7, 6), (7, 18), (8, 6), (8, 8), (8, 9)] [115, 138, 139] f0 sz) (pA L sz)) 0 0 (pA L sz) := by
  refine Met.ofW (cc := cX0_readSize) (maxL := 3) (ret := none) (by decide) rfl ?_
  intro p e s m args below meth c s₁ B hml hv
  obtain ⟨rfl, hsz, hP, hK, hD0⟩ := hv
  have hx := B.exec
  have hb := B.bytes
  have hr := B.returns
  have hts := atoms_spec (ws := (.code yX0_readSize cX0_readSize 3 none :: lw_g)) B.pre
  have hown : s.vm.findClass RX0 = some m.cls := findClass_of_methodNamed B.named
  have hlocks := B.notSynchronized
  subst hsz
  have g : G3 (dC, dI) L kd tys s f0 [(0, 10), (0, 12), (7, 6), (7, 18), (8, 6), (8, 8), (8, 9)] [115, 138, 139] f0 s.heap [] [(0, 0, a0_, .ref q0_), (0, 1, a0_, .ref q1_), (0, 2, a0_, .ref q2_), (5, 1, q1_, .ref q3_)] := G3.start hP hD0 hWT hfx
  have hl := lv_entry ([.ref a0_]) (n := 3) (Nat.le_of_ble_eq_true rfl)
  rw [lg_entry_eq]
  generalize (lg_sl ([.ref a0_]) ++ List.replicate (3 - (lg_sl ([.ref a0_])).length) Slot.unset).toArray = ls at hl ⊢
  have hl : lv_has ls 3 [(0, .ref a0_)] := hl
  refine W_q (fun Q hQ => ?_)
  refine lv_aload_n hx hb dX0_readSize_0 rfl (lv_at hl 0 rfl) ?_
  refine g_getk (C := RX0) (T := TX0) (N := 14) hx hb hts (mc_ inX0) hown hK g rfl 0 (by decide) rfl (hts _ (List.mem_cons_of_mem _ t_373)) (fun _ h9 => h9) 0 rfl dX0_readSize_1 ?_
  refine g_callv (va_runV (As := []) (rest := []) ⟨hx, hb, hml, hown, hts⟩ (r_X8_next l dC dI L kd tys f0 s.heap.size g.2.2.2.1 q0_ mq0_ kq0_) (cwV 0 hts (gV_ t_1225 t_1103 t_1104 t_184 t_1105) rfl rfl rfl (by decide +kernel) ⟨(Nat.le_of_ble_eq_true rfl), (Nat.le_of_ble_eq_true rfl)⟩) (pre3V g hK mq0_ kq0_ (by decide) (q := (RX8, TX8, 10)) rfl) rfl rfl hl.1 rfl (lv_room (Nat.le_of_ble_eq_true rfl)) dX0_readSize_4 ⟨(Nat.le_of_ble_eq_true rfl), (Nat.le_of_ble_eq_true rfl)⟩) g hK (by decide) (by decide) (fx' := [(0, 0, a0_, .ref q0_), (0, 1, a0_, .ref q1_), (0, 2, a0_, .ref q2_), (5, 1, q1_, .ref q3_)]) rfl (fun fr_1 H locs hp hMr_1 g => ?_)
  obtain ⟨x_2, h_3, hF_4⟩ := hp
  have g := g.more hF_4
  refine lv_aload_n hx hb dX0_readSize_7 rfl (lv_at hl 0 rfl) ?_
  refine g_callv (va_runV (As := []) (rest := []) ⟨hx, hb, hml, hown, hts⟩ (r_X0_takeBracket l dC dI L kd tys fr_1 H.size g.2.2.2.1 a0_ ma0_ ka0_ q0_ mq0_ kq0_ (g.fcts [1] rfl)) (cwV 0 hts (gV_ t_1289 t_1291 t_29 t_190 t_1292) rfl rfl rfl (by decide +kernel) ⟨(Nat.le_of_ble_eq_true rfl), (Nat.le_of_ble_eq_true rfl)⟩) (pre3V g hK ma0_ ka0_ (by decide) (q := (RX0, TX0, 14)) rfl) rfl rfl hl.1 rfl (lv_room (Nat.le_of_ble_eq_true rfl)) dX0_readSize_8 ⟨(Nat.le_of_ble_eq_true rfl), (Nat.le_of_ble_eq_true rfl)⟩) g hK (by decide) (by decide) (fx' := [(0, 0, a0_, .ref q0_), (0, 1, a0_, .ref q1_), (0, 2, a0_, .ref q2_), (5, 1, q1_, .ref q3_)]) rfl (fun fr_5 H locs hp hMr_5 g => ?_)
  obtain ⟨x_6, h_7, hF_8⟩ := hp
  have g := g.more hF_8
  refine lv_aload_n hx hb dX0_readSize_11 rfl (lv_at hl 0 rfl) ?_
  refine g_getk (C := RX0) (T := TX0) (N := 14) hx hb hts (mc_ inX0) hown hK g rfl 0 (by decide) rfl (hts _ (List.mem_cons_of_mem _ t_373)) (fun _ h9 => h9) 1 rfl dX0_readSize_12 ?_
  refine g_calli (va_runV (As := []) (rest := []) ⟨hx, hb, hml, hown, hts⟩ (r_X8_place l dC dI L kd tys fr_5 H.size g.2.2.2.1 q0_ mq0_ kq0_) (cwV 0 hts (gV_ t_1220 t_1111 t_1112 t_184 t_1113) rfl rfl rfl (by decide +kernel) ⟨(Nat.le_of_ble_eq_true rfl), (Nat.le_of_ble_eq_true rfl)⟩) (pre3V g hK mq0_ kq0_ (by decide) (q := (RX8, TX8, 10)) rfl) rfl rfl hl.1 rfl (lv_room (Nat.le_of_ble_eq_true rfl)) dX0_readSize_15 ⟨(Nat.le_of_ble_eq_true rfl), (Nat.le_of_ble_eq_true rfl)⟩) g hK (by decide) (by decide) (fx' := [(8, 6, q0_, .int x_6), (0, 0, a0_, .ref q0_), (0, 1, a0_, .ref q1_), (0, 2, a0_, .ref q2_), (5, 1, q1_, .ref q3_)]) rfl (fun r_9 fr_9 H locs hp hMr_9 g => ?_)
  refine lv_istore_n (lv' := [(1, .int r_9), (0, .ref a0_)]) hx hb dX0_readSize_18 rfl hl (by decide) rfl (fun ls hl => ?_)
  refine lv_aload_n hx hb dX0_readSize_19 rfl (lv_at hl 1 rfl) ?_
  refine g_getk (C := RX0) (T := TX0) (N := 14) hx hb hts (mc_ inX0) hown hK g rfl 1 (by decide) rfl (hts _ (List.mem_cons_of_mem _ t_374)) (fun _ h9 => h9) 2 rfl dX0_readSize_20 ?_
  refine lv_aload_n hx hb dX0_readSize_23 rfl (lv_at hl 1 rfl) ?_
  refine g_getk (C := RX0) (T := TX0) (N := 14) hx hb hts (mc_ inX0) hown hK g rfl 0 (by decide) rfl (hts _ (List.mem_cons_of_mem _ t_373)) (fun _ h9 => h9) 1 rfl dX0_readSize_24 ?_
  refine g_calll (va_runV (As := []) (rest := [.ref q1_]) ⟨hx, hb, hml, hown, hts⟩ (r_X8_value l dC dI L kd tys fr_9 H.size g.2.2.2.1 q0_ mq0_ kq0_) (cwV 0 hts (gV_ t_1238 t_1115 t_1116 t_184 t_1117) rfl rfl rfl (by decide +kernel) ⟨(Nat.le_of_ble_eq_true rfl), (Nat.le_of_ble_eq_true rfl)⟩) (pre3V g hK mq0_ kq0_ (by decide) (q := (RX8, TX8, 10)) rfl) rfl rfl hl.1 rfl (lv_room (Nat.le_of_ble_eq_true rfl)) dX0_readSize_27 ⟨(Nat.le_of_ble_eq_true rfl), (Nat.le_of_ble_eq_true rfl)⟩) g hK (by decide) (by decide) (fx' := [(8, 6, q0_, .int x_6), (0, 0, a0_, .ref q0_), (0, 1, a0_, .ref q1_), (0, 2, a0_, .ref q2_), (5, 1, q1_, .ref q3_)]) rfl (fun r_10 fr_10 H locs hp hMr_10 g => ?_)
  refine g_calli (va_runV (As := [.long r_10]) (rest := []) ⟨hx, hb, hml, hown, hts⟩ (r_X5_placeNamed l dC dI L kd tys fr_10 H.size g.2.2.2.1 q1_ mq1_ kq1_ r_10 q3_ mq3_ kq3_ (g.fcts [4] rfl)) (cwV 1 hts (gV_ t_1251 t_1252 t_1253 t_189 t_1254) rfl rfl rfl (by decide +kernel) ⟨(Nat.le_of_ble_eq_true rfl), (Nat.le_of_ble_eq_true rfl)⟩) (pre3V g hK mq1_ kq1_ (by decide) (q := (RX5, TX5, 9)) rfl) rfl rfl hl.1 rfl (lv_room (Nat.le_of_ble_eq_true rfl)) dX0_readSize_30 ⟨(Nat.le_of_ble_eq_true rfl), (Nat.le_of_ble_eq_true rfl)⟩) g hK (by decide) (by decide) (fx' := [(8, 6, q0_, .int x_6), (0, 0, a0_, .ref q0_), (0, 1, a0_, .ref q1_), (0, 2, a0_, .ref q2_), (5, 1, q1_, .ref q3_)]) rfl (fun r_11 fr_11 H locs hp hMr_11 g => ?_)
  obtain ⟨h_12, -⟩ := hp
  refine lv_istore_n (lv' := [(2, .int r_11), (1, .int r_9), (0, .ref a0_)]) hx hb dX0_readSize_33 rfl hl (by decide) rfl (fun ls hl => ?_)
  refine lv_iload_n hx hb dX0_readSize_34 rfl (lv_at hl 0 rfl) ?_
  refine lv_iconst (v := (-1)) hx hb dX0_readSize_35 (by decide) ?_
  have kb_m1 : bd (-1) (-1) ((-1) : Int32) := ⟨by decide, by decide⟩
  refine lv_icmp_ne (tgt := 49) hx hb dX0_readSize_36 (by decide) (fun c_13 => ?_) (fun c_13 => ?_)
  · have fc_13 := neq_f c_13
    have b_14 : bd 0 26 r_11 := neX fc_13 h_12 kb_m1 (by decide)
    refine lv_aload_n hx hb dX0_readSize_49 rfl (lv_at hl 2 rfl) ?_
    refine g_getk (C := RX0) (T := TX0) (N := 14) hx hb hts (mc_ inX0) hown hK g rfl 0 (by decide) rfl (hts _ (List.mem_cons_of_mem _ t_373)) (fun _ h9 => h9) 1 rfl dX0_readSize_50 ?_
    refine g_callv (va_runV (As := []) (rest := []) ⟨hx, hb, hml, hown, hts⟩ (r_X8_next l dC dI L kd tys fr_11 H.size g.2.2.2.1 q0_ mq0_ kq0_) (cwV 0 hts (gV_ t_1225 t_1103 t_1104 t_184 t_1105) rfl rfl rfl (by decide +kernel) ⟨(Nat.le_of_ble_eq_true rfl), (Nat.le_of_ble_eq_true rfl)⟩) (pre3V g hK mq0_ kq0_ (by decide) (q := (RX8, TX8, 10)) rfl) rfl rfl hl.1 rfl (lv_room (Nat.le_of_ble_eq_true rfl)) dX0_readSize_53 ⟨(Nat.le_of_ble_eq_true rfl), (Nat.le_of_ble_eq_true rfl)⟩) g hK (by decide) (by decide) (fx' := [(0, 0, a0_, .ref q0_), (0, 1, a0_, .ref q1_), (0, 2, a0_, .ref q2_), (5, 1, q1_, .ref q3_)]) rfl (fun fr_15 H locs hp hMr_15 g => ?_)
    obtain ⟨x_16, h_17, hF_18⟩ := hp
    have g := g.more hF_18
    refine lv_aload_n hx hb dX0_readSize_56 rfl (lv_at hl 2 rfl) ?_
    refine g_getk (C := RX0) (T := TX0) (N := 14) hx hb hts (mc_ inX0) hown hK g rfl 1 (by decide) rfl (hts _ (List.mem_cons_of_mem _ t_374)) (fun _ h9 => h9) 2 rfl dX0_readSize_57 ?_
    refine g_getk (C := RX5) (T := TX5) (N := 9) hx hb hts (mc_ inX5) hown hK g rfl 1 (by decide) rfl (hts _ (List.mem_cons_of_mem _ t_332)) (fun _ h9 => h9) 4 rfl dX0_readSize_60 ?_
    refine lv_iload_n hx hb dX0_readSize_63 rfl (lv_at hl 0 rfl) ?_
    refine g_calli (va_runV (As := [.int r_11]) (rest := []) ⟨hx, hb, hml, hown, hts⟩ (r_X9_isRow l dC dI L kd tys fr_15 H.size g.2.2.2.1 q3_ mq3_ kq3_ r_11) (cwV 1 hts (gV_ t_1256 t_1257 t_1258 t_192 t_1259) rfl rfl rfl (by decide +kernel) ⟨(Nat.le_of_ble_eq_true rfl), (Nat.le_of_ble_eq_true rfl)⟩) (pre3V g hK mq3_ kq3_ (by decide) (q := (RX9, TX9, 13)) rfl) rfl rfl hl.1 rfl (lv_room (Nat.le_of_ble_eq_true rfl)) dX0_readSize_64 ⟨(Nat.le_of_ble_eq_true rfl), (Nat.le_of_ble_eq_true rfl)⟩) g hK (by decide) (by decide) (fx' := [(8, 6, q0_, .int x_16), (0, 0, a0_, .ref q0_), (0, 1, a0_, .ref q1_), (0, 2, a0_, .ref q2_), (5, 1, q1_, .ref q3_)]) rfl (fun r_19 fr_19 H locs hp hMr_19 g => ?_)
    rcases hp with ⟨h_20, -⟩ | ⟨h_21, h_22, x_23, h_24, hF_25⟩
    · obtain rfl : r_19 = 0 := h_20
      refine lv_if_ne (tgt := 80) hx hb dX0_readSize_67 (by decide) (fun c_ => absurd c_ (by decide)) (fun c_ => ?_)
      refine lv_aload_n hx hb dX0_readSize_70 rfl (lv_at hl 2 rfl) ?_
      refine g_getk (C := RX0) (T := TX0) (N := 14) hx hb hts (mc_ inX0) hown hK g rfl 0 (by decide) rfl (hts _ (List.mem_cons_of_mem _ t_373)) (fun _ h9 => h9) 1 rfl dX0_readSize_71 ?_
      refine lv_iconst (v := 5) hx hb dX0_readSize_74 (by decide) ?_
      refine lv_iload_n hx hb dX0_readSize_75 rfl (lv_at hl 1 rfl) ?_
      have kb_5 : bd 5 5 (5 : Int32) := ⟨by decide, by decide⟩
      refine g_callv (va_runV (As := [.int 5, .int r_9]) (rest := []) ⟨hx, hb, hml, hown, hts⟩ (r_X8_fail_2 l dC dI L kd tys fr_19 H.size g.2.2.2.1 q0_ mq0_ kq0_ 5 kb_5 r_9 x_16 h_17 (g.fcts [0] rfl)) (cwV 2 hts (gV_ t_1215 t_1107 t_1108 t_184 t_1109) rfl rfl rfl (by decide +kernel) ⟨(Nat.le_of_ble_eq_true rfl), (Nat.le_of_ble_eq_true rfl)⟩) (pre3V g hK mq0_ kq0_ (by decide) (q := (RX8, TX8, 10)) rfl) rfl rfl hl.1 rfl (lv_room (Nat.le_of_ble_eq_true rfl)) dX0_readSize_76 ⟨(Nat.le_of_ble_eq_true rfl), (Nat.le_of_ble_eq_true rfl)⟩) g hK (by decide) (by decide) (fx' := [(0, 0, a0_, .ref q0_), (0, 1, a0_, .ref q1_), (0, 2, a0_, .ref q2_), (5, 1, q1_, .ref q3_)]) rfl (fun fr_26 H locs hp hMr_26 g => ?_)
      obtain ⟨x_27, h_28, hF_29⟩ := hp
      have g := g.more hF_29
      have kb_1201 : bd 1201 1201 (1201 : Int32) := ⟨by decide, by decide⟩
      subst hQ
      exact W.vret hx hb hr (fun t ht hW => ⟨⟨_, rfl, ⟨1201, (bd_sub kb_1201 (by decide)), (g.fcts [0] rfl)⟩, q3_of g hK ht hW⟩, g.2.2.1.F ht⟩) g.2.2.1.2.2 dX0_readSize_79
    · obtain rfl : r_19 = 1 := h_21
      have b_30 : bd 0 9 r_11 := eqX rfl b_14 h_22 (by decide)
      have g := g.more hF_25
      refine lv_if_ne (tgt := 80) hx hb dX0_readSize_67 (by decide) (fun c_ => ?_) (fun c_ => absurd c_ (by decide))
      refine lv_aload_n hx hb dX0_readSize_80 rfl (lv_at hl 2 rfl) ?_
      refine g_getk (C := RX0) (T := TX0) (N := 14) hx hb hts (mc_ inX0) hown hK g rfl 0 (by decide) rfl (hts _ (List.mem_cons_of_mem _ t_373)) (fun _ h9 => h9) 2 rfl dX0_readSize_81 ?_
      refine lv_bipush (v := 41) hx hb dX0_readSize_84 (by decide) ?_
      refine g_callv (va_runV (As := [.int 41]) (rest := []) ⟨hx, hb, hml, hown, hts⟩ (r_X8_take l dC dI L kd tys fr_19 H.size g.2.2.2.1 q0_ mq0_ kq0_ 41) (cwV 1 hts (gV_ t_1284 t_1099 t_1100 t_184 t_1101) rfl rfl rfl (by decide +kernel) ⟨(Nat.le_of_ble_eq_true rfl), (Nat.le_of_ble_eq_true rfl)⟩) (pre3V g hK mq0_ kq0_ (by decide) (q := (RX8, TX8, 10)) rfl) rfl rfl hl.1 rfl (lv_room (Nat.le_of_ble_eq_true rfl)) dX0_readSize_86 ⟨(Nat.le_of_ble_eq_true rfl), (Nat.le_of_ble_eq_true rfl)⟩) g hK (by decide) (by decide) (fx' := [(9, 2, q3_, .int x_23), (0, 0, a0_, .ref q0_), (0, 1, a0_, .ref q1_), (0, 2, a0_, .ref q2_), (5, 1, q1_, .ref q3_)]) rfl (fun fr_31 H locs hp hMr_31 g => ?_)
      obtain ⟨x_32, h_33, hF_34⟩ := hp
      have g := g.more hF_34
      refine lv_aload_n hx hb dX0_readSize_89 rfl (lv_at hl 2 rfl) ?_
      refine g_getk (C := RX0) (T := TX0) (N := 14) hx hb hts (mc_ inX0) hown hK g rfl 2 (by decide) rfl (hts _ (List.mem_cons_of_mem _ t_375)) (fun _ h9 => h9) 4 rfl dX0_readSize_90 ?_
      refine lv_iconst (v := 1) hx hb dX0_readSize_93 (by decide) ?_
      refine lv_aload_n hx hb dX0_readSize_94 rfl (lv_at hl 2 rfl) ?_
      refine g_getk (C := RX0) (T := TX0) (N := 14) hx hb hts (mc_ inX0) hown hK g rfl 1 (by decide) rfl (hts _ (List.mem_cons_of_mem _ t_374)) (fun _ h9 => h9) 3 rfl dX0_readSize_95 ?_
      refine g_getk (C := RX5) (T := TX5) (N := 9) hx hb hts (mc_ inX5) hown hK g rfl 1 (by decide) rfl (hts _ (List.mem_cons_of_mem _ t_332)) (fun _ h9 => h9) 5 rfl dX0_readSize_98 ?_
      refine g_getr (K := 154) (C := RX9) (T := TX9) (N := 13) hx hb hts (mc_ inX9) hown hK g mq3_ kq3_ (by decide) rfl 5 (by decide) rfl (hts _ (List.mem_cons_of_mem _ t_491)) (fun _ h9 => h9) rfl dX0_readSize_101 (fun a_35 ma_35 ka_35 g => ?_)
      refine lv_iload_n hx hb dX0_readSize_104 rfl (lv_at hl 0 rfl) ?_
      refine g_iald hx hb hK g ma_35 ka_35 (by decide) rfl (in_bd b_30 (by decide)) dX0_readSize_105 (fun x_36 bx_36 cx_36 => ?_)
      refine g_callv (va_runV (As := [.int 1, .int x_36]) (rest := []) ⟨hx, hb, hml, hown, hts⟩ (r_X7_emit l dC dI L kd tys fr_31 H.size g.2.2.2.1 q2_ mq2_ kq2_ 1 x_36) (cwV 2 hts (gV_ t_1203 t_1204 t_1205 t_191 t_1206) rfl rfl rfl (by decide +kernel) ⟨(Nat.le_of_ble_eq_true rfl), (Nat.le_of_ble_eq_true rfl)⟩) (pre3V g hK mq2_ kq2_ (by decide) (q := (RX7, TX7, 19)) rfl) rfl rfl hl.1 rfl (lv_room (Nat.le_of_ble_eq_true rfl)) dX0_readSize_106 ⟨(Nat.le_of_ble_eq_true rfl), (Nat.le_of_ble_eq_true rfl)⟩) g hK (by decide) (by decide) (fx' := [(9, 5, q3_, .ref a_35), (8, 6, q0_, .int x_32), (9, 2, q3_, .int x_23), (0, 0, a0_, .ref q0_), (0, 1, a0_, .ref q1_), (0, 2, a0_, .ref q2_), (5, 1, q1_, .ref q3_)]) rfl (fun fr_37 H locs hp hMr_37 g => ?_)
      obtain ⟨x_38, h_39, hF_40⟩ := hp
      have g := g.more hF_40
      refine lv_aload_n hx hb dX0_readSize_109 rfl (lv_at hl 2 rfl) ?_
      refine g_getk (C := RX0) (T := TX0) (N := 14) hx hb hts (mc_ inX0) hown hK g rfl 2 (by decide) rfl (hts _ (List.mem_cons_of_mem _ t_375)) (fun _ h9 => h9) 6 rfl dX0_readSize_110 ?_
      refine lv_dup hx hb dX0_readSize_113 rfl ?_
      refine g_geti (C := RX7) (T := TX7) (N := 19) hx hb hts (mc_ inX7) hown hK g mq2_ kq2_ (by decide) rfl 18 (by decide) rfl (hts _ (List.mem_cons_of_mem _ t_681)) (fun _ h9 => h9) rfl dX0_readSize_114 (fun x_41 bx_41 g => ?_)
      refine lv_iconst (v := 1) hx hb dX0_readSize_117 (by decide) ?_
      have kb_1 : bd 1 1 (1 : Int32) := ⟨by decide, by decide⟩
      refine lv_iadd hx hb dX0_readSize_118 ?_
      refine lv_topi (fun y_42 ey_42 => ?_)
      refine g_put (C := RX7) (T := TX7) (N := 19) hx hb hts (mc_ inX7) tyX7 tyX7_ok nmX7 hown hK g mq2_ kq2_ (by decide) rfl 18 (by decide) (hts _ (List.mem_cons_of_mem _ t_681)) (fun _ h9 => h9) rfl rfl (okV_i (bdT y_42)) rfl rfl (by decide) (Or.inr (Or.inl (by decide))) (fx' := [(7, 6, q2_, .int x_38), (9, 5, q3_, .ref a_35), (8, 6, q0_, .int x_32), (9, 2, q3_, .int x_23), (0, 0, a0_, .ref q0_), (0, 1, a0_, .ref q1_), (0, 2, a0_, .ref q2_), (5, 1, q1_, .ref q3_)]) rfl dX0_readSize_119 (fun f H locs hM_43 g => ?_)
      refine lv_aload_n hx hb dX0_readSize_122 rfl (lv_at hl 2 rfl) ?_
      refine lv_iconst (v := 1) hx hb dX0_readSize_123 (by decide) ?_
      refine g_callv (va_runV (As := [.int 1]) (rest := []) ⟨hx, hb, hml, hown, hts⟩ (r_X0_addWhole l dC dI L kd tys f H.size g.2.2.2.1 a0_ ma0_ ka0_ 1) (cwV 1 hts (gV_ t_1211 t_1213 t_17 t_190 t_1214) rfl rfl rfl (by decide +kernel) ⟨(Nat.le_of_ble_eq_true rfl), (Nat.le_of_ble_eq_true rfl)⟩) (pre3V g hK ma0_ ka0_ (by decide) (q := (RX0, TX0, 14)) rfl) rfl rfl hl.1 rfl (lv_room (Nat.le_of_ble_eq_true rfl)) dX0_readSize_124 ⟨(Nat.le_of_ble_eq_true rfl), (Nat.le_of_ble_eq_true rfl)⟩) g hK (by decide) (by decide) (fx' := [(7, 18, q2_, .int y_42), (7, 6, q2_, .int x_38), (9, 5, q3_, .ref a_35), (8, 6, q0_, .int x_32), (9, 2, q3_, .int x_23), (0, 0, a0_, .ref q0_), (0, 1, a0_, .ref q1_), (0, 2, a0_, .ref q2_), (5, 1, q1_, .ref q3_)]) rfl (fun fr_44 H locs hp hMr_44 g => ?_)
      obtain ⟨x_45, h_46, hF_47⟩ := hp
      have g := g.more hF_47
      subst hQ
      exact W.vret hx hb hr (fun t ht hW => ⟨⟨_, rfl, ⟨x_32, h_33, (g.fcts [5] rfl)⟩, q3_of g hK ht hW⟩, g.2.2.1.F ht⟩) g.2.2.1.2.2 dX0_readSize_127
  · have fc_13 := eq_f c_13
    have b_48 : bd (-1) (-1) r_11 := eqX fc_13 h_12 kb_m1 (by decide)
    refine lv_aload_n hx hb dX0_readSize_39 rfl (lv_at hl 2 rfl) ?_
    refine g_getk (C := RX0) (T := TX0) (N := 14) hx hb hts (mc_ inX0) hown hK g rfl 0 (by decide) rfl (hts _ (List.mem_cons_of_mem _ t_373)) (fun _ h9 => h9) 1 rfl dX0_readSize_40 ?_
    refine lv_iconst (v := 2) hx hb dX0_readSize_43 (by decide) ?_
    refine lv_iload_n hx hb dX0_readSize_44 rfl (lv_at hl 1 rfl) ?_
    have kb_2 : bd 2 2 (2 : Int32) := ⟨by decide, by decide⟩
    refine g_callv (va_runV (As := [.int 2, .int r_9]) (rest := []) ⟨hx, hb, hml, hown, hts⟩ (r_X8_fail_3 l dC dI L kd tys fr_11 H.size g.2.2.2.1 q0_ mq0_ kq0_ 2 kb_2 r_9 x_6 h_7 (g.fcts [0] rfl)) (cwV 2 hts (gV_ t_1215 t_1107 t_1108 t_184 t_1109) rfl rfl rfl (by decide +kernel) ⟨(Nat.le_of_ble_eq_true rfl), (Nat.le_of_ble_eq_true rfl)⟩) (pre3V g hK mq0_ kq0_ (by decide) (q := (RX8, TX8, 10)) rfl) rfl rfl hl.1 rfl (lv_room (Nat.le_of_ble_eq_true rfl)) dX0_readSize_45 ⟨(Nat.le_of_ble_eq_true rfl), (Nat.le_of_ble_eq_true rfl)⟩) g hK (by decide) (by decide) (fx' := [(0, 0, a0_, .ref q0_), (0, 1, a0_, .ref q1_), (0, 2, a0_, .ref q2_), (5, 1, q1_, .ref q3_)]) rfl (fun fr_49 H locs hp hMr_49 g => ?_)
    obtain ⟨x_50, h_51, hF_52⟩ := hp
    have g := g.more hF_52
    have kb_1201 : bd 1201 1201 (1201 : Int32) := ⟨by decide, by decide⟩
    subst hQ
    exact W.vret hx hb hr (fun t ht hW => ⟨⟨_, rfl, ⟨1201, (bd_sub kb_1201 (by decide)), (g.fcts [0] rfl)⟩, q3_of g hK ht hW⟩, g.2.2.1.F ht⟩) g.2.2.1.2.2 dX0_readSize_48
