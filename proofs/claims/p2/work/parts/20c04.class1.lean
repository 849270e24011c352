set_option maxHeartbeats 4000000 in
set_option maxRecDepth 100000 in
theorem r_X0_readAbove (l : Launch) (dC : Nat → ClassId) (dI : Nat → Nat → Nat) (L : List Nat) (kd : Nat → Nat) (tys : List (ClassId × FieldType)) (f0 : Nat → va_E) (sz : Nat) (hWT : WT L kd tys f0) (a0_ : Nat) (ma0_ : a0_ ∈ L) (ka0_ : kd a0_ = 0) (q0_ : Nat) (mq0_ : q0_ ∈ L) (kq0_ : kd q0_ = 8) (q1_ : Nat) (mq1_ : q1_ ∈ L) (kq1_ : kd q1_ = 5) (q2_ : Nat) (mq2_ : q2_ ∈ L) (kq2_ : kd q2_ = 7) (q3_ : Nat) (mq3_ : q3_ ∈ L) (kq3_ : kd q3_ = 9) (hfx : Fs L kd f0 [(0, 0, a0_, .ref q0_), (0, 1, a0_, .ref q1_), (0, 2, a0_, .ref q2_), (5, 1, q1_, .ref q3_)]) : Met l yX0_readAbove (.code yX0_readAbove cX0_readAbove 6 none :: lw_g) ({ frames := 2, cells := 0, slots := 0, locals := 50 }) (va_Pc [.ref a0_] (P3 (dC, dI) L tys f0 sz)) (va_Qv (fun (f : Nat → va_E) => (∃ z1_ : Int32, bd 1 7 z1_ ∧ Fs L kd f [(8, 6, q0_, .int 1201), (8, 8, q0_, .int z1_)]) ∨ (∃ z0_ : Int32, bd (-2147483648) 40 z0_ ∧ ∃ z1_ : Int32, bd 1 1201 z1_ ∧ ∃ z2_ : Int32, bd 1 8 z2_ ∧ ∃ z3_ : Int32, bd 0 7 z3_ ∧ Fs L kd f [(0, 11, a0_, .int z0_), (8, 6, q0_, .int z1_), (7, 1, q2_, .int z2_), (9, 1, q3_, .int z3_)])) (Q3 (dC, dI) L kd tys [(0, 8), (0, 10), (0, 11), (0, 12), (7, 6), (7, 18), (8, 6), (8, 8), (8, 9)] [110, 111, 112, 113, 114, 115, 138, 139] f0 sz) (pA L sz)) 0 0 (pA L sz) := by
  refine Met.ofW (cc := cX0_readAbove) (maxL := 6) (ret := none) (by decide) rfl ?_
  intro p e s m args below meth c s₁ B hml hv
  obtain ⟨rfl, hsz, hP, hK, hD0⟩ := hv
  have hx := B.exec
  have hb := B.bytes
  have hr := B.returns
  have hts := atoms_spec (ws := (.code yX0_readAbove cX0_readAbove 6 none :: lw_g)) B.pre
  have hown : s.vm.findClass RX0 = some m.cls := findClass_of_methodNamed B.named
  have hlocks := B.notSynchronized
  subst hsz
  have g : G3 (dC, dI) L kd tys s f0 [(0, 8), (0, 10), (0, 11), (0, 12), (7, 6), (7, 18), (8, 6), (8, 8), (8, 9)] [110, 111, 112, 113, 114, 115, 138, 139] f0 s.heap [] [(0, 0, a0_, .ref q0_), (0, 1, a0_, .ref q1_), (0, 2, a0_, .ref q2_), (5, 1, q1_, .ref q3_)] := G3.start hP hD0 hWT hfx
  have hl := lv_entry ([.ref a0_]) (n := 6) (Nat.le_of_ble_eq_true rfl)
  rw [lg_entry_eq]
  generalize (lg_sl ([.ref a0_]) ++ List.replicate (6 - (lg_sl ([.ref a0_])).length) Slot.unset).toArray = ls at hl ⊢
  have hl : lv_has ls 6 [(0, .ref a0_)] := hl
  refine W_q (fun Q hQ => ?_)
  refine lv_aload_n hx hb dX0_readAbove_0 rfl (lv_at hl 0 rfl) ?_
  refine g_getk (C := RX0) (T := TX0) (N := 14) hx hb hts (mc_ inX0) hown hK g rfl 0 (by decide) rfl (hts _ (List.mem_cons_of_mem _ t_373)) (fun _ h9 => h9) 0 rfl dX0_readAbove_1 ?_
  refine g_calli (va_runV (As := []) (rest := []) ⟨hx, hb, hml, hown, hts⟩ (r_X8_place l dC dI L kd tys f0 s.heap.size g.2.2.2.1 q0_ mq0_ kq0_) (cwV 0 hts (gV_ t_1220 t_1111 t_1112 t_184 t_1113) rfl rfl rfl (by decide +kernel) ⟨(Nat.le_of_ble_eq_true rfl), (Nat.le_of_ble_eq_true rfl)⟩) (pre3V g hK mq0_ kq0_ (by decide) (q := (RX8, TX8, 10)) rfl) rfl rfl hl.1 rfl (lv_room (Nat.le_of_ble_eq_true rfl)) dX0_readAbove_4 ⟨(Nat.le_of_ble_eq_true rfl), (Nat.le_of_ble_eq_true rfl)⟩) g hK (by decide) (by decide) (fx' := [(0, 0, a0_, .ref q0_), (0, 1, a0_, .ref q1_), (0, 2, a0_, .ref q2_), (5, 1, q1_, .ref q3_)]) rfl (fun r_1 fr_1 H locs hp hMr_1 g => ?_)
  refine lv_istore_n (lv' := [(1, .int r_1), (0, .ref a0_)]) hx hb dX0_readAbove_7 rfl hl (by decide) rfl (fun ls hl => ?_)
  refine lv_aload_n hx hb dX0_readAbove_8 rfl (lv_at hl 1 rfl) ?_
  refine g_getk (C := RX0) (T := TX0) (N := 14) hx hb hts (mc_ inX0) hown hK g rfl 0 (by decide) rfl (hts _ (List.mem_cons_of_mem _ t_373)) (fun _ h9 => h9) 0 rfl dX0_readAbove_9 ?_
  refine g_callv (va_runV (As := []) (rest := []) ⟨hx, hb, hml, hown, hts⟩ (r_X8_next l dC dI L kd tys fr_1 H.size g.2.2.2.1 q0_ mq0_ kq0_) (cwV 0 hts (gV_ t_1225 t_1103 t_1104 t_184 t_1105) rfl rfl rfl (by decide +kernel) ⟨(Nat.le_of_ble_eq_true rfl), (Nat.le_of_ble_eq_true rfl)⟩) (pre3V g hK mq0_ kq0_ (by decide) (q := (RX8, TX8, 10)) rfl) rfl rfl hl.1 rfl (lv_room (Nat.le_of_ble_eq_true rfl)) dX0_readAbove_12 ⟨(Nat.le_of_ble_eq_true rfl), (Nat.le_of_ble_eq_true rfl)⟩) g hK (by decide) (by decide) (fx' := [(0, 0, a0_, .ref q0_), (0, 1, a0_, .ref q1_), (0, 2, a0_, .ref q2_), (5, 1, q1_, .ref q3_)]) rfl (fun fr_2 H locs hp hMr_2 g => ?_)
  obtain ⟨x_3, h_4, hF_5⟩ := hp
  have g := g.more hF_5
  refine lv_aload_n hx hb dX0_readAbove_15 rfl (lv_at hl 1 rfl) ?_
  refine g_getk (C := RX0) (T := TX0) (N := 14) hx hb hts (mc_ inX0) hown hK g rfl 2 (by decide) rfl (hts _ (List.mem_cons_of_mem _ t_375)) (fun _ h9 => h9) 3 rfl dX0_readAbove_16 ?_
  refine lv_aload_n hx hb dX0_readAbove_19 rfl (lv_at hl 1 rfl) ?_
  refine g_getk (C := RX0) (T := TX0) (N := 14) hx hb hts (mc_ inX0) hown hK g rfl 1 (by decide) rfl (hts _ (List.mem_cons_of_mem _ t_374)) (fun _ h9 => h9) 2 rfl dX0_readAbove_20 ?_
  refine g_getk (C := RX5) (T := TX5) (N := 9) hx hb hts (mc_ inX5) hown hK g rfl 1 (by decide) rfl (hts _ (List.mem_cons_of_mem _ t_332)) (fun _ h9 => h9) 4 rfl dX0_readAbove_23 ?_
  refine g_geti (C := RX9) (T := TX9) (N := 13) hx hb hts (mc_ inX9) hown hK g mq3_ kq3_ (by decide) rfl 1 (by decide) rfl (hts _ (List.mem_cons_of_mem _ t_482)) (fun _ h9 => h9) rfl dX0_readAbove_26 (fun x_6 bx_6 g => ?_)
  refine g_calli (va_runV (As := [.int x_6]) (rest := []) ⟨hx, hb, hml, hown, hts⟩ (r_X7_hasClass l dC dI L kd tys fr_2 H.size g.2.2.2.1 q2_ mq2_ kq2_ x_6) (cwV 1 hts (gV_ t_1280 t_1281 t_1282 t_191 t_1283) rfl rfl rfl (by decide +kernel) ⟨(Nat.le_of_ble_eq_true rfl), (Nat.le_of_ble_eq_true rfl)⟩) (pre3V g hK mq2_ kq2_ (by decide) (q := (RX7, TX7, 19)) rfl) rfl rfl hl.1 rfl (lv_room (Nat.le_of_ble_eq_true rfl)) dX0_readAbove_29 ⟨(Nat.le_of_ble_eq_true rfl), (Nat.le_of_ble_eq_true rfl)⟩) g hK (by decide) (by decide) (fx' := [(9, 1, q3_, .int x_6), (8, 6, q0_, .int x_3), (0, 0, a0_, .ref q0_), (0, 1, a0_, .ref q1_), (0, 2, a0_, .ref q2_), (5, 1, q1_, .ref q3_)]) rfl (fun r_7 fr_7 H locs hp hMr_7 g => ?_)
  rcases hp with ⟨h_8, -⟩ | ⟨h_9, h_10, x_11, h_12, hF_13⟩
  · obtain rfl : r_7 = 0 := h_8
    refine lv_if_ne (tgt := 45) hx hb dX0_readAbove_32 (by decide) (fun c_ => absurd c_ (by decide)) (fun c_ => ?_)
    refine lv_aload_n hx hb dX0_readAbove_35 rfl (lv_at hl 1 rfl) ?_
    refine g_getk (C := RX0) (T := TX0) (N := 14) hx hb hts (mc_ inX0) hown hK g rfl 0 (by decide) rfl (hts _ (List.mem_cons_of_mem _ t_373)) (fun _ h9 => h9) 2 rfl dX0_readAbove_36 ?_
    refine lv_iconst (v := 5) hx hb dX0_readAbove_39 (by decide) ?_
    refine lv_iload_n hx hb dX0_readAbove_40 rfl (lv_at hl 0 rfl) ?_
    have kb_5 : bd 5 5 (5 : Int32) := ⟨by decide, by decide⟩
    refine g_callv (va_runV (As := [.int 5, .int r_1]) (rest := []) ⟨hx, hb, hml, hown, hts⟩ (r_X8_fail_2 l dC dI L kd tys fr_7 H.size g.2.2.2.1 q0_ mq0_ kq0_ 5 kb_5 r_1) (cwV 2 hts (gV_ t_1215 t_1107 t_1108 t_184 t_1109) rfl rfl rfl (by decide +kernel) ⟨(Nat.le_of_ble_eq_true rfl), (Nat.le_of_ble_eq_true rfl)⟩) (pre3V g hK mq0_ kq0_ (by decide) (q := (RX8, TX8, 10)) rfl) rfl rfl hl.1 rfl (lv_room (Nat.le_of_ble_eq_true rfl)) dX0_readAbove_41 ⟨(Nat.le_of_ble_eq_true rfl), (Nat.le_of_ble_eq_true rfl)⟩) g hK (by decide) (by decide) (fx' := [(9, 1, q3_, .int x_6), (0, 0, a0_, .ref q0_), (0, 1, a0_, .ref q1_), (0, 2, a0_, .ref q2_), (5, 1, q1_, .ref q3_)]) rfl (fun fr_14 H locs hp hMr_14 g => ?_)
    obtain ⟨x_15, h_16, hF_17⟩ := hp
    have g := g.more hF_17
    subst hQ
    exact W.vret hx hb hr (fun t ht hW => ⟨⟨_, rfl, Or.inl ⟨x_15, h_16, (g.fcts [0, 1] rfl)⟩, q3_of g hK ht hW⟩, g.2.2.1.F ht⟩) g.2.2.1.2.2 dX0_readAbove_44
  · obtain rfl : r_7 = 1 := h_9
    have b_18 : bd 0 7 x_6 := eqX rfl (bdT x_6) h_10 (by decide)
    have g := g.more hF_13
    refine lv_if_ne (tgt := 45) hx hb dX0_readAbove_32 (by decide) (fun c_ => ?_) (fun c_ => absurd c_ (by decide))
    refine lv_aload_n hx hb dX0_readAbove_45 rfl (lv_at hl 1 rfl) ?_
    refine g_getk (C := RX0) (T := TX0) (N := 14) hx hb hts (mc_ inX0) hown hK g rfl 2 (by decide) rfl (hts _ (List.mem_cons_of_mem _ t_375)) (fun _ h9 => h9) 5 rfl dX0_readAbove_46 ?_
    refine g_getr (K := 136) (C := RX7) (T := TX7) (N := 19) hx hb hts (mc_ inX7) hown hK g mq2_ kq2_ (by decide) rfl 0 (by decide) rfl (hts _ (List.mem_cons_of_mem _ t_625)) (fun _ h9 => h9) rfl dX0_readAbove_49 (fun a_19 ma_19 ka_19 g => ?_)
    refine lv_aload_n hx hb dX0_readAbove_52 rfl (lv_at hl 1 rfl) ?_
    refine g_getk (C := RX0) (T := TX0) (N := 14) hx hb hts (mc_ inX0) hown hK g rfl 1 (by decide) rfl (hts _ (List.mem_cons_of_mem _ t_374)) (fun _ h9 => h9) 5 rfl dX0_readAbove_53 ?_
    refine g_getk (C := RX5) (T := TX5) (N := 9) hx hb hts (mc_ inX5) hown hK g rfl 1 (by decide) rfl (hts _ (List.mem_cons_of_mem _ t_332)) (fun _ h9 => h9) 7 rfl dX0_readAbove_56 ?_
    refine g_getk (C := RX9) (T := TX9) (N := 13) hx hb hts (mc_ inX9) hown hK g rfl 1 (by decide) rfl (hts _ (List.mem_cons_of_mem _ t_482)) (fun _ h9 => h9) 2 rfl dX0_readAbove_59 ?_
    refine g_aald hx hb hK g ma_19 ka_19 (by decide) rfl (by decide) (in_bd b_18 (by decide)) dX0_readAbove_62 (fun a_20 ma_20 ua_20 wa_20 => ?_)
    have ka_20 : kd a_20 = 9 := by omega
    refine lv_astore_n (lv' := [(2, .ref a_20), (1, .int r_1), (0, .ref a0_)]) hx hb dX0_readAbove_63 rfl hl (by decide) rfl (fun ls hl => ?_)
    refine lv_aload_n hx hb dX0_readAbove_64 rfl (lv_at hl 2 rfl) ?_
    refine g_getk (C := RX0) (T := TX0) (N := 14) hx hb hts (mc_ inX0) hown hK g rfl 0 (by decide) rfl (hts _ (List.mem_cons_of_mem _ t_373)) (fun _ h9 => h9) 4 rfl dX0_readAbove_65 ?_
    refine lv_bipush (v := 46) hx hb dX0_readAbove_68 (by decide) ?_
    refine g_callv (va_runV (As := [.int 46]) (rest := []) ⟨hx, hb, hml, hown, hts⟩ (r_X8_take l dC dI L kd tys fr_7 H.size g.2.2.2.1 q0_ mq0_ kq0_ 46) (cwV 1 hts (gV_ t_1284 t_1099 t_1100 t_184 t_1101) rfl rfl rfl (by decide +kernel) ⟨(Nat.le_of_ble_eq_true rfl), (Nat.le_of_ble_eq_true rfl)⟩) (pre3V g hK mq0_ kq0_ (by decide) (q := (RX8, TX8, 10)) rfl) rfl rfl hl.1 rfl (lv_room (Nat.le_of_ble_eq_true rfl)) dX0_readAbove_70 ⟨(Nat.le_of_ble_eq_true rfl), (Nat.le_of_ble_eq_true rfl)⟩) g hK (by decide) (by decide) (fx' := [(7, 0, q2_, .ref a_19), (7, 1, q2_, .int x_11), (9, 1, q3_, .int x_6), (0, 0, a0_, .ref q0_), (0, 1, a0_, .ref q1_), (0, 2, a0_, .ref q2_), (5, 1, q1_, .ref q3_)]) rfl (fun fr_21 H locs hp hMr_21 g => ?_)
    rcases hp with ⟨x_22, h_23, hF_24⟩ | ⟨x_25, h_26, hF_27⟩
    · have g := g.more hF_24
      refine lv_aload_n hx hb dX0_readAbove_73 rfl (lv_at hl 2 rfl) ?_
      refine g_getk (C := RX0) (T := TX0) (N := 14) hx hb hts (mc_ inX0) hown hK g rfl 0 (by decide) rfl (hts _ (List.mem_cons_of_mem _ t_373)) (fun _ h9 => h9) 5 rfl dX0_readAbove_74 ?_
      refine g_calli (va_runV (As := []) (rest := []) ⟨hx, hb, hml, hown, hts⟩ (r_X8_place l dC dI L kd tys fr_21 H.size g.2.2.2.1 q0_ mq0_ kq0_) (cwV 0 hts (gV_ t_1220 t_1111 t_1112 t_184 t_1113) rfl rfl rfl (by decide +kernel) ⟨(Nat.le_of_ble_eq_true rfl), (Nat.le_of_ble_eq_true rfl)⟩) (pre3V g hK mq0_ kq0_ (by decide) (q := (RX8, TX8, 10)) rfl) rfl rfl hl.1 rfl (lv_room (Nat.le_of_ble_eq_true rfl)) dX0_readAbove_77 ⟨(Nat.le_of_ble_eq_true rfl), (Nat.le_of_ble_eq_true rfl)⟩) g hK (by decide) (by decide) (fx' := [(8, 6, q0_, .int 1201), (8, 8, q0_, .int x_22), (7, 0, q2_, .ref a_19), (7, 1, q2_, .int x_11), (9, 1, q3_, .int x_6), (0, 0, a0_, .ref q0_), (0, 1, a0_, .ref q1_), (0, 2, a0_, .ref q2_), (5, 1, q1_, .ref q3_)]) rfl (fun r_28 fr_28 H locs hp hMr_28 g => ?_)
      refine lv_istore_n (lv' := [(3, .int r_28), (2, .ref a_20), (1, .int r_1), (0, .ref a0_)]) hx hb dX0_readAbove_80 rfl hl (by decide) rfl (fun ls hl => ?_)
      refine lv_aload_n hx hb dX0_readAbove_81 rfl (lv_at hl 3 rfl) ?_
      refine g_getk (C := RX0) (T := TX0) (N := 14) hx hb hts (mc_ inX0) hown hK g rfl 0 (by decide) rfl (hts _ (List.mem_cons_of_mem _ t_373)) (fun _ h9 => h9) 5 rfl dX0_readAbove_82 ?_
      have kb_1201 : bd 1201 1201 (1201 : Int32) := ⟨by decide, by decide⟩
      refine g_calli (va_runV (As := []) (rest := []) ⟨hx, hb, hml, hown, hts⟩ (r_X8_kind_2 l dC dI L kd tys fr_28 H.size g.2.2.2.1 q0_ mq0_ kq0_ 1201 kb_1201 (g.fcts [0] rfl)) (cwV 0 hts (gV_ t_1186 t_1119 t_1120 t_184 t_1121) rfl rfl rfl (by decide +kernel) ⟨(Nat.le_of_ble_eq_true rfl), (Nat.le_of_ble_eq_true rfl)⟩) (pre3V g hK mq0_ kq0_ (by decide) (q := (RX8, TX8, 10)) rfl) rfl rfl hl.1 rfl (lv_room (Nat.le_of_ble_eq_true rfl)) dX0_readAbove_85 ⟨(Nat.le_of_ble_eq_true rfl), (Nat.le_of_ble_eq_true rfl)⟩) g hK (by decide) (by decide) (fx' := [(8, 6, q0_, .int 1201), (8, 8, q0_, .int x_22), (7, 0, q2_, .ref a_19), (7, 1, q2_, .int x_11), (9, 1, q3_, .int x_6), (0, 0, a0_, .ref q0_), (0, 1, a0_, .ref q1_), (0, 2, a0_, .ref q2_), (5, 1, q1_, .ref q3_)]) rfl (fun r_29 fr_29 H locs hp hMr_29 g => ?_)
      obtain ⟨h_30, -⟩ := hp
      obtain rfl : r_29 = 0 := h_30
      refine lv_iconst (v := 3) hx hb dX0_readAbove_88 (by decide) ?_
      refine lv_icmp_eq (tgt := 102) hx hb dX0_readAbove_89 (by decide) (fun c_ => absurd c_ (by decide)) (fun c_ => ?_)
      refine lv_aload_n hx hb dX0_readAbove_92 rfl (lv_at hl 3 rfl) ?_
      refine g_getk (C := RX0) (T := TX0) (N := 14) hx hb hts (mc_ inX0) hown hK g rfl 0 (by decide) rfl (hts _ (List.mem_cons_of_mem _ t_373)) (fun _ h9 => h9) 5 rfl dX0_readAbove_93 ?_
      refine lv_iconst (v := 1) hx hb dX0_readAbove_96 (by decide) ?_
      refine lv_iload_n hx hb dX0_readAbove_97 rfl (lv_at hl 0 rfl) ?_
      have kb_1 : bd 1 1 (1 : Int32) := ⟨by decide, by decide⟩
      refine g_callv (va_runV (As := [.int 1, .int r_28]) (rest := []) ⟨hx, hb, hml, hown, hts⟩ (r_X8_fail_8 l dC dI L kd tys fr_29 H.size g.2.2.2.1 q0_ mq0_ kq0_ 1 kb_1 r_28 x_22 h_23 (g.fcts [1] rfl)) (cwV 2 hts (gV_ t_1215 t_1107 t_1108 t_184 t_1109) rfl rfl rfl (by decide +kernel) ⟨(Nat.le_of_ble_eq_true rfl), (Nat.le_of_ble_eq_true rfl)⟩) (pre3V g hK mq0_ kq0_ (by decide) (q := (RX8, TX8, 10)) rfl) rfl rfl hl.1 rfl (lv_room (Nat.le_of_ble_eq_true rfl)) dX0_readAbove_98 ⟨(Nat.le_of_ble_eq_true rfl), (Nat.le_of_ble_eq_true rfl)⟩) g hK (by decide) (by decide) (fx' := [(8, 8, q0_, .int x_22), (7, 0, q2_, .ref a_19), (7, 1, q2_, .int x_11), (9, 1, q3_, .int x_6), (0, 0, a0_, .ref q0_), (0, 1, a0_, .ref q1_), (0, 2, a0_, .ref q2_), (5, 1, q1_, .ref q3_)]) rfl (fun fr_31 H locs hp hMr_31 g => ?_)
      have hF_32 := hp
      have g := g.more hF_32
      subst hQ
      exact W.vret hx hb hr (fun t ht hW => ⟨⟨_, rfl, Or.inl ⟨x_22, h_23, (g.fcts [0, 1] rfl)⟩, q3_of g hK ht hW⟩, g.2.2.1.F ht⟩) g.2.2.1.2.2 dX0_readAbove_101
    · have g := g.more hF_27
      refine lv_aload_n hx hb dX0_readAbove_73 rfl (lv_at hl 2 rfl) ?_
      refine g_getk (C := RX0) (T := TX0) (N := 14) hx hb hts (mc_ inX0) hown hK g rfl 0 (by decide) rfl (hts _ (List.mem_cons_of_mem _ t_373)) (fun _ h9 => h9) 4 rfl dX0_readAbove_74 ?_
      refine g_calli (va_runV (As := []) (rest := []) ⟨hx, hb, hml, hown, hts⟩ (r_X8_place l dC dI L kd tys fr_21 H.size g.2.2.2.1 q0_ mq0_ kq0_) (cwV 0 hts (gV_ t_1220 t_1111 t_1112 t_184 t_1113) rfl rfl rfl (by decide +kernel) ⟨(Nat.le_of_ble_eq_true rfl), (Nat.le_of_ble_eq_true rfl)⟩) (pre3V g hK mq0_ kq0_ (by decide) (q := (RX8, TX8, 10)) rfl) rfl rfl hl.1 rfl (lv_room (Nat.le_of_ble_eq_true rfl)) dX0_readAbove_77 ⟨(Nat.le_of_ble_eq_true rfl), (Nat.le_of_ble_eq_true rfl)⟩) g hK (by decide) (by decide) (fx' := [(8, 6, q0_, .int x_25), (7, 0, q2_, .ref a_19), (7, 1, q2_, .int x_11), (9, 1, q3_, .int x_6), (0, 0, a0_, .ref q0_), (0, 1, a0_, .ref q1_), (0, 2, a0_, .ref q2_), (5, 1, q1_, .ref q3_)]) rfl (fun r_33 fr_33 H locs hp hMr_33 g => ?_)
      refine lv_istore_n (lv' := [(3, .int r_33), (2, .ref a_20), (1, .int r_1), (0, .ref a0_)]) hx hb dX0_readAbove_80 rfl hl (by decide) rfl (fun ls hl => ?_)
      refine lv_aload_n hx hb dX0_readAbove_81 rfl (lv_at hl 3 rfl) ?_
      refine g_getk (C := RX0) (T := TX0) (N := 14) hx hb hts (mc_ inX0) hown hK g rfl 0 (by decide) rfl (hts _ (List.mem_cons_of_mem _ t_373)) (fun _ h9 => h9) 4 rfl dX0_readAbove_82 ?_
      refine g_calli (va_runV (As := []) (rest := []) ⟨hx, hb, hml, hown, hts⟩ (r_X8_kind l dC dI L kd tys fr_33 H.size g.2.2.2.1 q0_ mq0_ kq0_) (cwV 0 hts (gV_ t_1186 t_1119 t_1120 t_184 t_1121) rfl rfl rfl (by decide +kernel) ⟨(Nat.le_of_ble_eq_true rfl), (Nat.le_of_ble_eq_true rfl)⟩) (pre3V g hK mq0_ kq0_ (by decide) (q := (RX8, TX8, 10)) rfl) rfl rfl hl.1 rfl (lv_room (Nat.le_of_ble_eq_true rfl)) dX0_readAbove_85 ⟨(Nat.le_of_ble_eq_true rfl), (Nat.le_of_ble_eq_true rfl)⟩) g hK (by decide) (by decide) (fx' := [(8, 6, q0_, .int x_25), (7, 0, q2_, .ref a_19), (7, 1, q2_, .int x_11), (9, 1, q3_, .int x_6), (0, 0, a0_, .ref q0_), (0, 1, a0_, .ref q1_), (0, 2, a0_, .ref q2_), (5, 1, q1_, .ref q3_)]) rfl (fun r_34 fr_34 H locs hp hMr_34 g => ?_)
      refine lv_iconst (v := 3) hx hb dX0_readAbove_88 (by decide) ?_
      have kb_3 : bd 3 3 (3 : Int32) := ⟨by decide, by decide⟩
      refine lv_icmp_eq (tgt := 102) hx hb dX0_readAbove_89 (by decide) (fun c_35 => ?_) (fun c_35 => ?_)
      · have fc_35 := eq_f c_35
        have b_36 : bd 3 3 r_34 := eqX fc_35 (bdT r_34) kb_3 (by decide)
        refine lv_aload_n hx hb dX0_readAbove_102 rfl (lv_at hl 3 rfl) ?_
        refine g_getk (C := RX0) (T := TX0) (N := 14) hx hb hts (mc_ inX0) hown hK g rfl 2 (by decide) rfl (hts _ (List.mem_cons_of_mem _ t_375)) (fun _ h9 => h9) 6 rfl dX0_readAbove_103 ?_
        refine lv_aload_n hx hb dX0_readAbove_106 rfl (lv_at hl 1 rfl) ?_
        refine lv_aload_n hx hb dX0_readAbove_107 rfl (lv_at hl 3 rfl) ?_
        refine g_getk (C := RX0) (T := TX0) (N := 14) hx hb hts (mc_ inX0) hown hK g rfl 0 (by decide) rfl (hts _ (List.mem_cons_of_mem _ t_373)) (fun _ h9 => h9) 4 rfl dX0_readAbove_108 ?_
        refine g_calll (va_runV (As := []) (rest := [.ref a_20, .ref q2_]) ⟨hx, hb, hml, hown, hts⟩ (r_X8_value l dC dI L kd tys fr_34 H.size g.2.2.2.1 q0_ mq0_ kq0_) (cwV 0 hts (gV_ t_1238 t_1115 t_1116 t_184 t_1117) rfl rfl rfl (by decide +kernel) ⟨(Nat.le_of_ble_eq_true rfl), (Nat.le_of_ble_eq_true rfl)⟩) (pre3V g hK mq0_ kq0_ (by decide) (q := (RX8, TX8, 10)) rfl) rfl rfl hl.1 rfl (lv_room (Nat.le_of_ble_eq_true rfl)) dX0_readAbove_111 ⟨(Nat.le_of_ble_eq_true rfl), (Nat.le_of_ble_eq_true rfl)⟩) g hK (by decide) (by decide) (fx' := [(8, 6, q0_, .int x_25), (7, 0, q2_, .ref a_19), (7, 1, q2_, .int x_11), (9, 1, q3_, .int x_6), (0, 0, a0_, .ref q0_), (0, 1, a0_, .ref q1_), (0, 2, a0_, .ref q2_), (5, 1, q1_, .ref q3_)]) rfl (fun r_37 fr_37 H locs hp hMr_37 g => ?_)
        refine g_calli (va_runV (As := [.ref a_20, .long r_37]) (rest := []) ⟨hx, hb, hml, hown, hts⟩ (r_X7_memberNamed l dC dI L kd tys fr_37 H.size g.2.2.2.1 q2_ mq2_ kq2_ a_20 ma_20 ka_20 r_37) (cwV 2 hts (gV_ t_1243 t_1244 t_1245 t_191 t_1246) rfl rfl rfl (by decide +kernel) ⟨(Nat.le_of_ble_eq_true rfl), (Nat.le_of_ble_eq_true rfl)⟩) (pre3V g hK mq2_ kq2_ (by decide) (q := (RX7, TX7, 19)) rfl) rfl rfl hl.1 rfl (lv_room (Nat.le_of_ble_eq_true rfl)) dX0_readAbove_114 ⟨(Nat.le_of_ble_eq_true rfl), (Nat.le_of_ble_eq_true rfl)⟩) g hK (by decide) (by decide) (fx' := [(8, 6, q0_, .int x_25), (7, 0, q2_, .ref a_19), (7, 1, q2_, .int x_11), (9, 1, q3_, .int x_6), (0, 0, a0_, .ref q0_), (0, 1, a0_, .ref q1_), (0, 2, a0_, .ref q2_), (5, 1, q1_, .ref q3_)]) rfl (fun r_38 fr_38 H locs hp hMr_38 g => ?_)
        obtain ⟨h_39, -⟩ := hp
        refine lv_istore (lv' := [(4, .int r_38), (3, .int r_33), (2, .ref a_20), (1, .int r_1), (0, .ref a0_)]) hx hb dX0_readAbove_117 hl (by decide) rfl (fun ls hl => ?_)
        refine lv_iload hx hb dX0_readAbove_119 (lv_at hl 0 rfl) ?_
        refine lv_iconst (v := (-1)) hx hb dX0_readAbove_121 (by decide) ?_
        have kb_m1 : bd (-1) (-1) ((-1) : Int32) := ⟨by decide, by decide⟩
        refine lv_icmp_ne (tgt := 135) hx hb dX0_readAbove_122 (by decide) (fun c_40 => ?_) (fun c_40 => ?_)
        · have fc_40 := neq_f c_40
          have b_41 : bd 0 11 r_38 := neX fc_40 h_39 kb_m1 (by decide)
          refine lv_aload_n hx hb dX0_readAbove_135 rfl (lv_at hl 4 rfl) ?_
          refine g_getk (C := RX0) (T := TX0) (N := 14) hx hb hts (mc_ inX0) hown hK g rfl 0 (by decide) rfl (hts _ (List.mem_cons_of_mem _ t_373)) (fun _ h9 => h9) 4 rfl dX0_readAbove_136 ?_
          refine g_callv (va_runV (As := []) (rest := []) ⟨hx, hb, hml, hown, hts⟩ (r_X8_next l dC dI L kd tys fr_38 H.size g.2.2.2.1 q0_ mq0_ kq0_) (cwV 0 hts (gV_ t_1225 t_1103 t_1104 t_184 t_1105) rfl rfl rfl (by decide +kernel) ⟨(Nat.le_of_ble_eq_true rfl), (Nat.le_of_ble_eq_true rfl)⟩) (pre3V g hK mq0_ kq0_ (by decide) (q := (RX8, TX8, 10)) rfl) rfl rfl hl.1 rfl (lv_room (Nat.le_of_ble_eq_true rfl)) dX0_readAbove_139 ⟨(Nat.le_of_ble_eq_true rfl), (Nat.le_of_ble_eq_true rfl)⟩) g hK (by decide) (by decide) (fx' := [(7, 0, q2_, .ref a_19), (7, 1, q2_, .int x_11), (9, 1, q3_, .int x_6), (0, 0, a0_, .ref q0_), (0, 1, a0_, .ref q1_), (0, 2, a0_, .ref q2_), (5, 1, q1_, .ref q3_)]) rfl (fun fr_42 H locs hp hMr_42 g => ?_)
          obtain ⟨x_43, h_44, hF_45⟩ := hp
          have g := g.more hF_45
          refine lv_aload_n hx hb dX0_readAbove_142 rfl (lv_at hl 2 rfl) ?_
          refine g_getr (K := 156) (C := RX9) (T := TX9) (N := 13) hx hb hts (mc_ inX9) hown hK g ma_20 ka_20 (by decide) rfl 9 (by decide) rfl (hts _ (List.mem_cons_of_mem _ t_508)) (fun _ h9 => h9) rfl dX0_readAbove_143 (fun a_46 ma_46 ka_46 g => ?_)
          refine lv_iload hx hb dX0_readAbove_146 (lv_at hl 0 rfl) ?_
          refine g_iald hx hb hK g ma_46 ka_46 (by decide) rfl (in_bd b_41 (by decide)) dX0_readAbove_148 (fun x_47 bx_47 cx_47 => ?_)
          refine lv_istore (lv' := [(5, .int x_47), (4, .int r_38), (3, .int r_33), (2, .ref a_20), (1, .int r_1), (0, .ref a0_)]) hx hb dX0_readAbove_149 hl (by decide) rfl (fun ls hl => ?_)
          refine lv_aload_n hx hb dX0_readAbove_151 rfl (lv_at hl 5 rfl) ?_
          refine g_getk (C := RX0) (T := TX0) (N := 14) hx hb hts (mc_ inX0) hown hK g rfl 1 (by decide) rfl (hts _ (List.mem_cons_of_mem _ t_374)) (fun _ h9 => h9) 6 rfl dX0_readAbove_152 ?_
          refine g_geti (C := RX5) (T := TX5) (N := 9) hx hb hts (mc_ inX5) hown hK g mq1_ kq1_ (by decide) rfl 7 (by decide) rfl (hts _ (List.mem_cons_of_mem _ t_343)) (fun _ h9 => h9) rfl dX0_readAbove_155 (fun x_48 bx_48 g => ?_)
          have kb_0 : bd 0 0 (0 : Int32) := ⟨by decide, by decide⟩
          refine lv_if_eq (tgt := 186) hx hb dX0_readAbove_158 (by decide) (fun c_49 => ?_) (fun c_49 => ?_)
          · have fc_49 := eq_f c_49
            have b_50 : bd 0 0 x_48 := eqX fc_49 bx_48 kb_0 (by decide)
            refine lv_aload_n hx hb dX0_readAbove_186 rfl (lv_at hl 5 rfl) ?_
            refine g_getk (C := RX0) (T := TX0) (N := 14) hx hb hts (mc_ inX0) hown hK g rfl 0 (by decide) rfl (hts _ (List.mem_cons_of_mem _ t_373)) (fun _ h9 => h9) 6 rfl dX0_readAbove_187 ?_
            refine g_calli (va_runV (As := []) (rest := []) ⟨hx, hb, hml, hown, hts⟩ (r_X8_kind l dC dI L kd tys fr_42 H.size g.2.2.2.1 q0_ mq0_ kq0_) (cwV 0 hts (gV_ t_1186 t_1119 t_1120 t_184 t_1121) rfl rfl rfl (by decide +kernel) ⟨(Nat.le_of_ble_eq_true rfl), (Nat.le_of_ble_eq_true rfl)⟩) (pre3V g hK mq0_ kq0_ (by decide) (q := (RX8, TX8, 10)) rfl) rfl rfl hl.1 rfl (lv_room (Nat.le_of_ble_eq_true rfl)) dX0_readAbove_190 ⟨(Nat.le_of_ble_eq_true rfl), (Nat.le_of_ble_eq_true rfl)⟩) g hK (by decide) (by decide) (fx' := [(5, 7, q1_, .int x_48), (9, 9, a_20, .ref a_46), (8, 6, q0_, .int x_43), (7, 0, q2_, .ref a_19), (7, 1, q2_, .int x_11), (9, 1, q3_, .int x_6), (0, 0, a0_, .ref q0_), (0, 1, a0_, .ref q1_), (0, 2, a0_, .ref q2_), (5, 1, q1_, .ref q3_)]) rfl (fun r_51 fr_51 H locs hp hMr_51 g => ?_)
            refine lv_bipush (v := 40) hx hb dX0_readAbove_193 (by decide) ?_
            have kb_40 : bd 40 40 (40 : Int32) := ⟨by decide, by decide⟩
            refine lv_icmp_eq (tgt := 214) hx hb dX0_readAbove_195 (by decide) (fun c_52 => ?_) (fun c_52 => ?_)
            · have fc_52 := eq_f c_52
              have b_53 : bd 40 40 r_51 := eqX fc_52 (bdT r_51) kb_40 (by decide)
              refine lv_aload_n hx hb dX0_readAbove_214 rfl (lv_at hl 5 rfl) ?_
              refine lv_iconst (v := 3) hx hb dX0_readAbove_215 (by decide) ?_
              refine lv_iload_n hx hb dX0_readAbove_216 rfl (lv_at hl 2 rfl) ?_
              refine lv_iload hx hb dX0_readAbove_217 (lv_at hl 0 rfl) ?_
              refine lv_aload_n hx hb dX0_readAbove_219 rfl (lv_at hl 5 rfl) ?_
              refine g_getk (C := RX0) (T := TX0) (N := 14) hx hb hts (mc_ inX0) hown hK g rfl 2 (by decide) rfl (hts _ (List.mem_cons_of_mem _ t_375)) (fun _ h9 => h9) 8 rfl dX0_readAbove_220 ?_
              refine g_getr (K := 137) (C := RX7) (T := TX7) (N := 19) hx hb hts (mc_ inX7) hown hK g mq2_ kq2_ (by decide) rfl 2 (by decide) rfl (hts _ (List.mem_cons_of_mem _ t_633)) (fun _ h9 => h9) rfl dX0_readAbove_223 (fun a_54 ma_54 ka_54 g => ?_)
              refine lv_iload hx hb dX0_readAbove_226 (lv_at hl 0 rfl) ?_
              refine g_aald hx hb hK g ma_54 ka_54 (by decide) rfl (by decide) (in_bd bx_47 (by decide)) dX0_readAbove_228 (fun a_55 ma_55 ua_55 wa_55 => ?_)
              have ka_55 : kd a_55 = 6 := by omega
              refine g_geti (C := RX6) (T := TX6) (N := 13) hx hb hts (mc_ inX6) hown hK g ma_55 ka_55 (by decide) rfl 3 (by decide) rfl (hts _ (List.mem_cons_of_mem _ t_564)) (fun _ h9 => h9) rfl dX0_readAbove_229 (fun x_56 bx_56 g => ?_)
              refine g_callv (va_runV (As := [.int 3, .int r_33, .int x_47, .int x_56]) (rest := []) ⟨hx, hb, hml, hown, hts⟩ (r_X0_openCall l dC dI L kd tys fr_51 H.size g.2.2.2.1 a0_ ma0_ ka0_ 3 r_33 x_47 x_56 q0_ mq0_ kq0_ q2_ mq2_ kq2_ (g.fcts [8, 10] rfl)) (cwV 4 hts (gV_ t_1247 t_1249 t_23 t_190 t_1250) rfl rfl rfl (by decide +kernel) ⟨(Nat.le_of_ble_eq_true rfl), (Nat.le_of_ble_eq_true rfl)⟩) (pre3V g hK ma0_ ka0_ (by decide) (q := (RX0, TX0, 14)) rfl) rfl rfl hl.1 rfl (lv_room (Nat.le_of_ble_eq_true rfl)) dX0_readAbove_232 ⟨(Nat.le_of_ble_eq_true rfl), (Nat.le_of_ble_eq_true rfl)⟩) g hK (by decide) (by decide) (fx' := [(6, 3, a_55, .int x_56), (7, 2, q2_, .ref a_54), (5, 7, q1_, .int x_48), (9, 9, a_20, .ref a_46), (7, 0, q2_, .ref a_19), (7, 1, q2_, .int x_11), (9, 1, q3_, .int x_6), (0, 0, a0_, .ref q0_), (0, 1, a0_, .ref q1_), (0, 2, a0_, .ref q2_), (5, 1, q1_, .ref q3_)]) rfl (fun fr_57 H locs hp hMr_57 g => ?_)
              rcases hp with ⟨x_58, h_59, hF_60⟩ | ⟨x_61, h_62, x_63, h_64, hF_65⟩
              · have g := g.more hF_60
                subst hQ
                exact W.vret hx hb hr (fun t ht hW => ⟨⟨_, rfl, Or.inl ⟨x_58, h_59, (g.fcts [0, 1] rfl)⟩, q3_of g hK ht hW⟩, g.2.2.1.F ht⟩) g.2.2.1.2.2 dX0_readAbove_235
              · have g := g.more hF_65
                subst hQ
                exact W.vret hx hb hr (fun t ht hW => ⟨⟨_, rfl, Or.inr (⟨x_61, h_62, x_63, h_64, x_11, h_12, x_6, b_18, (g.fcts [0, 1, 7, 8] rfl)⟩), q3_of g hK ht hW⟩, g.2.2.1.F ht⟩) g.2.2.1.2.2 dX0_readAbove_235
            · have fc_52 := neq_f c_52
              refine lv_aload_n hx hb dX0_readAbove_198 rfl (lv_at hl 5 rfl) ?_
              refine g_getk (C := RX0) (T := TX0) (N := 14) hx hb hts (mc_ inX0) hown hK g rfl 0 (by decide) rfl (hts _ (List.mem_cons_of_mem _ t_373)) (fun _ h9 => h9) 6 rfl dX0_readAbove_199 ?_
              refine lv_iconst (v := 1) hx hb dX0_readAbove_202 (by decide) ?_
              refine lv_aload_n hx hb dX0_readAbove_203 rfl (lv_at hl 5 rfl) ?_
              refine g_getk (C := RX0) (T := TX0) (N := 14) hx hb hts (mc_ inX0) hown hK g rfl 0 (by decide) rfl (hts _ (List.mem_cons_of_mem _ t_373)) (fun _ h9 => h9) 6 rfl dX0_readAbove_204 ?_
              refine g_calli (va_runV (As := []) (rest := [.int 1, .ref q0_]) ⟨hx, hb, hml, hown, hts⟩ (r_X8_place l dC dI L kd tys fr_51 H.size g.2.2.2.1 q0_ mq0_ kq0_) (cwV 0 hts (gV_ t_1220 t_1111 t_1112 t_184 t_1113) rfl rfl rfl (by decide +kernel) ⟨(Nat.le_of_ble_eq_true rfl), (Nat.le_of_ble_eq_true rfl)⟩) (pre3V g hK mq0_ kq0_ (by decide) (q := (RX8, TX8, 10)) rfl) rfl rfl hl.1 rfl (lv_room (Nat.le_of_ble_eq_true rfl)) dX0_readAbove_207 ⟨(Nat.le_of_ble_eq_true rfl), (Nat.le_of_ble_eq_true rfl)⟩) g hK (by decide) (by decide) (fx' := [(5, 7, q1_, .int x_48), (9, 9, a_20, .ref a_46), (8, 6, q0_, .int x_43), (7, 0, q2_, .ref a_19), (7, 1, q2_, .int x_11), (9, 1, q3_, .int x_6), (0, 0, a0_, .ref q0_), (0, 1, a0_, .ref q1_), (0, 2, a0_, .ref q2_), (5, 1, q1_, .ref q3_)]) rfl (fun r_66 fr_66 H locs hp hMr_66 g => ?_)
              have kb_1 : bd 1 1 (1 : Int32) := ⟨by decide, by decide⟩
              refine g_callv (va_runV (As := [.int 1, .int r_66]) (rest := []) ⟨hx, hb, hml, hown, hts⟩ (r_X8_fail_7 l dC dI L kd tys fr_66 H.size g.2.2.2.1 q0_ mq0_ kq0_ 1 kb_1 r_66) (cwV 2 hts (gV_ t_1215 t_1107 t_1108 t_184 t_1109) rfl rfl rfl (by decide +kernel) ⟨(Nat.le_of_ble_eq_true rfl), (Nat.le_of_ble_eq_true rfl)⟩) (pre3V g hK mq0_ kq0_ (by decide) (q := (RX8, TX8, 10)) rfl) rfl rfl hl.1 rfl (lv_room (Nat.le_of_ble_eq_true rfl)) dX0_readAbove_210 ⟨(Nat.le_of_ble_eq_true rfl), (Nat.le_of_ble_eq_true rfl)⟩) g hK (by decide) (by decide) (fx' := [(5, 7, q1_, .int x_48), (9, 9, a_20, .ref a_46), (7, 0, q2_, .ref a_19), (7, 1, q2_, .int x_11), (9, 1, q3_, .int x_6), (0, 0, a0_, .ref q0_), (0, 1, a0_, .ref q1_), (0, 2, a0_, .ref q2_), (5, 1, q1_, .ref q3_)]) rfl (fun fr_67 H locs hp hMr_67 g => ?_)
              obtain ⟨x_68, h_69, hF_70⟩ := hp
              have g := g.more hF_70
              subst hQ
              exact W.vret hx hb hr (fun t ht hW => ⟨⟨_, rfl, Or.inl ⟨x_68, h_69, (g.fcts [0, 1] rfl)⟩, q3_of g hK ht hW⟩, g.2.2.1.F ht⟩) g.2.2.1.2.2 dX0_readAbove_213
          · have fc_49 := neq_f c_49
            have b_71 : bd 1 1 x_48 := neX fc_49 bx_48 kb_0 (by decide)
            refine lv_aload_n hx hb dX0_readAbove_161 rfl (lv_at hl 5 rfl) ?_
            refine g_getk (C := RX0) (T := TX0) (N := 14) hx hb hts (mc_ inX0) hown hK g rfl 2 (by decide) rfl (hts _ (List.mem_cons_of_mem _ t_375)) (fun _ h9 => h9) 8 rfl dX0_readAbove_162 ?_
            refine g_getr (K := 137) (C := RX7) (T := TX7) (N := 19) hx hb hts (mc_ inX7) hown hK g mq2_ kq2_ (by decide) rfl 2 (by decide) rfl (hts _ (List.mem_cons_of_mem _ t_633)) (fun _ h9 => h9) rfl dX0_readAbove_165 (fun a_72 ma_72 ka_72 g => ?_)
            refine lv_iload hx hb dX0_readAbove_168 (lv_at hl 0 rfl) ?_
            refine g_aald hx hb hK g ma_72 ka_72 (by decide) rfl (by decide) (in_bd bx_47 (by decide)) dX0_readAbove_170 (fun a_73 ma_73 ua_73 wa_73 => ?_)
            have ka_73 : kd a_73 = 6 := by omega
            refine g_geti (C := RX6) (T := TX6) (N := 13) hx hb hts (mc_ inX6) hown hK g ma_73 ka_73 (by decide) rfl 6 (by decide) rfl (hts _ (List.mem_cons_of_mem _ t_577)) (fun _ h9 => h9) rfl dX0_readAbove_171 (fun x_74 bx_74 g => ?_)
            refine lv_if_ne (tgt := 186) hx hb dX0_readAbove_174 (by decide) (fun c_75 => ?_) (fun c_75 => ?_)
            · have fc_75 := neq_f c_75
              have b_76 : bd 1 1 x_74 := neX fc_75 bx_74 kb_0 (by decide)
              refine lv_aload_n hx hb dX0_readAbove_186 rfl (lv_at hl 5 rfl) ?_
              refine g_getk (C := RX0) (T := TX0) (N := 14) hx hb hts (mc_ inX0) hown hK g rfl 0 (by decide) rfl (hts _ (List.mem_cons_of_mem _ t_373)) (fun _ h9 => h9) 8 rfl dX0_readAbove_187 ?_
              refine g_calli (va_runV (As := []) (rest := []) ⟨hx, hb, hml, hown, hts⟩ (r_X8_kind l dC dI L kd tys fr_42 H.size g.2.2.2.1 q0_ mq0_ kq0_) (cwV 0 hts (gV_ t_1186 t_1119 t_1120 t_184 t_1121) rfl rfl rfl (by decide +kernel) ⟨(Nat.le_of_ble_eq_true rfl), (Nat.le_of_ble_eq_true rfl)⟩) (pre3V g hK mq0_ kq0_ (by decide) (q := (RX8, TX8, 10)) rfl) rfl rfl hl.1 rfl (lv_room (Nat.le_of_ble_eq_true rfl)) dX0_readAbove_190 ⟨(Nat.le_of_ble_eq_true rfl), (Nat.le_of_ble_eq_true rfl)⟩) g hK (by decide) (by decide) (fx' := [(6, 6, a_73, .int x_74), (7, 2, q2_, .ref a_72), (5, 7, q1_, .int x_48), (9, 9, a_20, .ref a_46), (8, 6, q0_, .int x_43), (7, 0, q2_, .ref a_19), (7, 1, q2_, .int x_11), (9, 1, q3_, .int x_6), (0, 0, a0_, .ref q0_), (0, 1, a0_, .ref q1_), (0, 2, a0_, .ref q2_), (5, 1, q1_, .ref q3_)]) rfl (fun r_77 fr_77 H locs hp hMr_77 g => ?_)
              refine lv_bipush (v := 40) hx hb dX0_readAbove_193 (by decide) ?_
              have kb_40 : bd 40 40 (40 : Int32) := ⟨by decide, by decide⟩
              refine lv_icmp_eq (tgt := 214) hx hb dX0_readAbove_195 (by decide) (fun c_78 => ?_) (fun c_78 => ?_)
              · have fc_78 := eq_f c_78
                have b_79 : bd 40 40 r_77 := eqX fc_78 (bdT r_77) kb_40 (by decide)
                refine lv_aload_n hx hb dX0_readAbove_214 rfl (lv_at hl 5 rfl) ?_
                refine lv_iconst (v := 3) hx hb dX0_readAbove_215 (by decide) ?_
                refine lv_iload_n hx hb dX0_readAbove_216 rfl (lv_at hl 2 rfl) ?_
                refine lv_iload hx hb dX0_readAbove_217 (lv_at hl 0 rfl) ?_
                refine lv_aload_n hx hb dX0_readAbove_219 rfl (lv_at hl 5 rfl) ?_
                refine g_getk (C := RX0) (T := TX0) (N := 14) hx hb hts (mc_ inX0) hown hK g rfl 2 (by decide) rfl (hts _ (List.mem_cons_of_mem _ t_375)) (fun _ h9 => h9) 10 rfl dX0_readAbove_220 ?_
                refine g_getk (C := RX7) (T := TX7) (N := 19) hx hb hts (mc_ inX7) hown hK g rfl 2 (by decide) rfl (hts _ (List.mem_cons_of_mem _ t_633)) (fun _ h9 => h9) 1 rfl dX0_readAbove_223 ?_
                refine lv_iload hx hb dX0_readAbove_226 (lv_at hl 0 rfl) ?_
                refine g_aald hx hb hK g ma_72 ka_72 (by decide) rfl (by decide) (in_bd bx_47 (by decide)) dX0_readAbove_228 (fun a_80 ma_80 ua_80 wa_80 => ?_)
                have ka_80 : kd a_80 = 6 := by omega
                refine g_geti (C := RX6) (T := TX6) (N := 13) hx hb hts (mc_ inX6) hown hK g ma_80 ka_80 (by decide) rfl 3 (by decide) rfl (hts _ (List.mem_cons_of_mem _ t_564)) (fun _ h9 => h9) rfl dX0_readAbove_229 (fun x_81 bx_81 g => ?_)
                refine g_callv (va_runV (As := [.int 3, .int r_33, .int x_47, .int x_81]) (rest := []) ⟨hx, hb, hml, hown, hts⟩ (r_X0_openCall l dC dI L kd tys fr_77 H.size g.2.2.2.1 a0_ ma0_ ka0_ 3 r_33 x_47 x_81 q0_ mq0_ kq0_ q2_ mq2_ kq2_ (g.fcts [9, 11] rfl)) (cwV 4 hts (gV_ t_1247 t_1249 t_23 t_190 t_1250) rfl rfl rfl (by decide +kernel) ⟨(Nat.le_of_ble_eq_true rfl), (Nat.le_of_ble_eq_true rfl)⟩) (pre3V g hK ma0_ ka0_ (by decide) (q := (RX0, TX0, 14)) rfl) rfl rfl hl.1 rfl (lv_room (Nat.le_of_ble_eq_true rfl)) dX0_readAbove_232 ⟨(Nat.le_of_ble_eq_true rfl), (Nat.le_of_ble_eq_true rfl)⟩) g hK (by decide) (by decide) (fx' := [(6, 3, a_80, .int x_81), (6, 6, a_73, .int x_74), (7, 2, q2_, .ref a_72), (5, 7, q1_, .int x_48), (9, 9, a_20, .ref a_46), (7, 0, q2_, .ref a_19), (7, 1, q2_, .int x_11), (9, 1, q3_, .int x_6), (0, 0, a0_, .ref q0_), (0, 1, a0_, .ref q1_), (0, 2, a0_, .ref q2_), (5, 1, q1_, .ref q3_)]) rfl (fun fr_82 H locs hp hMr_82 g => ?_)
                rcases hp with ⟨x_83, h_84, hF_85⟩ | ⟨x_86, h_87, x_88, h_89, hF_90⟩
                · have g := g.more hF_85
                  subst hQ
                  exact W.vret hx hb hr (fun t ht hW => ⟨⟨_, rfl, Or.inl ⟨x_83, h_84, (g.fcts [0, 1] rfl)⟩, q3_of g hK ht hW⟩, g.2.2.1.F ht⟩) g.2.2.1.2.2 dX0_readAbove_235
                · have g := g.more hF_90
                  subst hQ
                  exact W.vret hx hb hr (fun t ht hW => ⟨⟨_, rfl, Or.inr (⟨x_86, h_87, x_88, h_89, x_11, h_12, x_6, b_18, (g.fcts [0, 1, 8, 9] rfl)⟩), q3_of g hK ht hW⟩, g.2.2.1.F ht⟩) g.2.2.1.2.2 dX0_readAbove_235
              · have fc_78 := neq_f c_78
                refine lv_aload_n hx hb dX0_readAbove_198 rfl (lv_at hl 5 rfl) ?_
                refine g_getk (C := RX0) (T := TX0) (N := 14) hx hb hts (mc_ inX0) hown hK g rfl 0 (by decide) rfl (hts _ (List.mem_cons_of_mem _ t_373)) (fun _ h9 => h9) 8 rfl dX0_readAbove_199 ?_
                refine lv_iconst (v := 1) hx hb dX0_readAbove_202 (by decide) ?_
                refine lv_aload_n hx hb dX0_readAbove_203 rfl (lv_at hl 5 rfl) ?_
                refine g_getk (C := RX0) (T := TX0) (N := 14) hx hb hts (mc_ inX0) hown hK g rfl 0 (by decide) rfl (hts _ (List.mem_cons_of_mem _ t_373)) (fun _ h9 => h9) 8 rfl dX0_readAbove_204 ?_
                refine g_calli (va_runV (As := []) (rest := [.int 1, .ref q0_]) ⟨hx, hb, hml, hown, hts⟩ (r_X8_place l dC dI L kd tys fr_77 H.size g.2.2.2.1 q0_ mq0_ kq0_) (cwV 0 hts (gV_ t_1220 t_1111 t_1112 t_184 t_1113) rfl rfl rfl (by decide +kernel) ⟨(Nat.le_of_ble_eq_true rfl), (Nat.le_of_ble_eq_true rfl)⟩) (pre3V g hK mq0_ kq0_ (by decide) (q := (RX8, TX8, 10)) rfl) rfl rfl hl.1 rfl (lv_room (Nat.le_of_ble_eq_true rfl)) dX0_readAbove_207 ⟨(Nat.le_of_ble_eq_true rfl), (Nat.le_of_ble_eq_true rfl)⟩) g hK (by decide) (by decide) (fx' := [(6, 6, a_73, .int x_74), (7, 2, q2_, .ref a_72), (5, 7, q1_, .int x_48), (9, 9, a_20, .ref a_46), (8, 6, q0_, .int x_43), (7, 0, q2_, .ref a_19), (7, 1, q2_, .int x_11), (9, 1, q3_, .int x_6), (0, 0, a0_, .ref q0_), (0, 1, a0_, .ref q1_), (0, 2, a0_, .ref q2_), (5, 1, q1_, .ref q3_)]) rfl (fun r_91 fr_91 H locs hp hMr_91 g => ?_)
                have kb_1 : bd 1 1 (1 : Int32) := ⟨by decide, by decide⟩
                refine g_callv (va_runV (As := [.int 1, .int r_91]) (rest := []) ⟨hx, hb, hml, hown, hts⟩ (r_X8_fail_7 l dC dI L kd tys fr_91 H.size g.2.2.2.1 q0_ mq0_ kq0_ 1 kb_1 r_91) (cwV 2 hts (gV_ t_1215 t_1107 t_1108 t_184 t_1109) rfl rfl rfl (by decide +kernel) ⟨(Nat.le_of_ble_eq_true rfl), (Nat.le_of_ble_eq_true rfl)⟩) (pre3V g hK mq0_ kq0_ (by decide) (q := (RX8, TX8, 10)) rfl) rfl rfl hl.1 rfl (lv_room (Nat.le_of_ble_eq_true rfl)) dX0_readAbove_210 ⟨(Nat.le_of_ble_eq_true rfl), (Nat.le_of_ble_eq_true rfl)⟩) g hK (by decide) (by decide) (fx' := [(6, 6, a_73, .int x_74), (7, 2, q2_, .ref a_72), (5, 7, q1_, .int x_48), (9, 9, a_20, .ref a_46), (7, 0, q2_, .ref a_19), (7, 1, q2_, .int x_11), (9, 1, q3_, .int x_6), (0, 0, a0_, .ref q0_), (0, 1, a0_, .ref q1_), (0, 2, a0_, .ref q2_), (5, 1, q1_, .ref q3_)]) rfl (fun fr_92 H locs hp hMr_92 g => ?_)
                obtain ⟨x_93, h_94, hF_95⟩ := hp
                have g := g.more hF_95
                subst hQ
                exact W.vret hx hb hr (fun t ht hW => ⟨⟨_, rfl, Or.inl ⟨x_93, h_94, (g.fcts [0, 1] rfl)⟩, q3_of g hK ht hW⟩, g.2.2.1.F ht⟩) g.2.2.1.2.2 dX0_readAbove_213
            · have fc_75 := eq_f c_75
              have b_96 : bd 0 0 x_74 := eqX fc_75 bx_74 kb_0 (by decide)
              refine lv_aload_n hx hb dX0_readAbove_177 rfl (lv_at hl 5 rfl) ?_
              refine g_getk (C := RX0) (T := TX0) (N := 14) hx hb hts (mc_ inX0) hown hK g rfl 0 (by decide) rfl (hts _ (List.mem_cons_of_mem _ t_373)) (fun _ h9 => h9) 8 rfl dX0_readAbove_178 ?_
              refine lv_iconst (v := 5) hx hb dX0_readAbove_181 (by decide) ?_
              refine lv_iload_n hx hb dX0_readAbove_182 rfl (lv_at hl 2 rfl) ?_
              have kb_5 : bd 5 5 (5 : Int32) := ⟨by decide, by decide⟩
              refine g_callv (va_runV (As := [.int 5, .int r_33]) (rest := []) ⟨hx, hb, hml, hown, hts⟩ (r_X8_fail_2 l dC dI L kd tys fr_42 H.size g.2.2.2.1 q0_ mq0_ kq0_ 5 kb_5 r_33) (cwV 2 hts (gV_ t_1215 t_1107 t_1108 t_184 t_1109) rfl rfl rfl (by decide +kernel) ⟨(Nat.le_of_ble_eq_true rfl), (Nat.le_of_ble_eq_true rfl)⟩) (pre3V g hK mq0_ kq0_ (by decide) (q := (RX8, TX8, 10)) rfl) rfl rfl hl.1 rfl (lv_room (Nat.le_of_ble_eq_true rfl)) dX0_readAbove_183 ⟨(Nat.le_of_ble_eq_true rfl), (Nat.le_of_ble_eq_true rfl)⟩) g hK (by decide) (by decide) (fx' := [(6, 6, a_73, .int x_74), (7, 2, q2_, .ref a_72), (5, 7, q1_, .int x_48), (9, 9, a_20, .ref a_46), (7, 0, q2_, .ref a_19), (7, 1, q2_, .int x_11), (9, 1, q3_, .int x_6), (0, 0, a0_, .ref q0_), (0, 1, a0_, .ref q1_), (0, 2, a0_, .ref q2_), (5, 1, q1_, .ref q3_)]) rfl (fun fr_97 H locs hp hMr_97 g => ?_)
              obtain ⟨x_98, h_99, hF_100⟩ := hp
              have g := g.more hF_100
              refine lv_aload_n hx hb dX0_readAbove_186 rfl (lv_at hl 5 rfl) ?_
              refine g_getk (C := RX0) (T := TX0) (N := 14) hx hb hts (mc_ inX0) hown hK g rfl 0 (by decide) rfl (hts _ (List.mem_cons_of_mem _ t_373)) (fun _ h9 => h9) 9 rfl dX0_readAbove_187 ?_
              have kb_1201 : bd 1201 1201 (1201 : Int32) := ⟨by decide, by decide⟩
              refine g_calli (va_runV (As := []) (rest := []) ⟨hx, hb, hml, hown, hts⟩ (r_X8_kind_2 l dC dI L kd tys fr_97 H.size g.2.2.2.1 q0_ mq0_ kq0_ 1201 kb_1201 (g.fcts [0] rfl)) (cwV 0 hts (gV_ t_1186 t_1119 t_1120 t_184 t_1121) rfl rfl rfl (by decide +kernel) ⟨(Nat.le_of_ble_eq_true rfl), (Nat.le_of_ble_eq_true rfl)⟩) (pre3V g hK mq0_ kq0_ (by decide) (q := (RX8, TX8, 10)) rfl) rfl rfl hl.1 rfl (lv_room (Nat.le_of_ble_eq_true rfl)) dX0_readAbove_190 ⟨(Nat.le_of_ble_eq_true rfl), (Nat.le_of_ble_eq_true rfl)⟩) g hK (by decide) (by decide) (fx' := [(8, 6, q0_, .int 1201), (8, 8, q0_, .int x_98), (6, 6, a_73, .int x_74), (7, 2, q2_, .ref a_72), (5, 7, q1_, .int x_48), (9, 9, a_20, .ref a_46), (7, 0, q2_, .ref a_19), (7, 1, q2_, .int x_11), (9, 1, q3_, .int x_6), (0, 0, a0_, .ref q0_), (0, 1, a0_, .ref q1_), (0, 2, a0_, .ref q2_), (5, 1, q1_, .ref q3_)]) rfl (fun r_101 fr_101 H locs hp hMr_101 g => ?_)
              obtain ⟨h_102, -⟩ := hp
              obtain rfl : r_101 = 0 := h_102
              refine lv_bipush (v := 40) hx hb dX0_readAbove_193 (by decide) ?_
              refine lv_icmp_eq (tgt := 214) hx hb dX0_readAbove_195 (by decide) (fun c_ => absurd c_ (by decide)) (fun c_ => ?_)
              refine lv_aload_n hx hb dX0_readAbove_198 rfl (lv_at hl 5 rfl) ?_
              refine g_getk (C := RX0) (T := TX0) (N := 14) hx hb hts (mc_ inX0) hown hK g rfl 0 (by decide) rfl (hts _ (List.mem_cons_of_mem _ t_373)) (fun _ h9 => h9) 9 rfl dX0_readAbove_199 ?_
              refine lv_iconst (v := 1) hx hb dX0_readAbove_202 (by decide) ?_
              refine lv_aload_n hx hb dX0_readAbove_203 rfl (lv_at hl 5 rfl) ?_
              refine g_getk (C := RX0) (T := TX0) (N := 14) hx hb hts (mc_ inX0) hown hK g rfl 0 (by decide) rfl (hts _ (List.mem_cons_of_mem _ t_373)) (fun _ h9 => h9) 9 rfl dX0_readAbove_204 ?_
              refine g_calli (va_runV (As := []) (rest := [.int 1, .ref q0_]) ⟨hx, hb, hml, hown, hts⟩ (r_X8_place l dC dI L kd tys fr_101 H.size g.2.2.2.1 q0_ mq0_ kq0_) (cwV 0 hts (gV_ t_1220 t_1111 t_1112 t_184 t_1113) rfl rfl rfl (by decide +kernel) ⟨(Nat.le_of_ble_eq_true rfl), (Nat.le_of_ble_eq_true rfl)⟩) (pre3V g hK mq0_ kq0_ (by decide) (q := (RX8, TX8, 10)) rfl) rfl rfl hl.1 rfl (lv_room (Nat.le_of_ble_eq_true rfl)) dX0_readAbove_207 ⟨(Nat.le_of_ble_eq_true rfl), (Nat.le_of_ble_eq_true rfl)⟩) g hK (by decide) (by decide) (fx' := [(8, 6, q0_, .int 1201), (8, 8, q0_, .int x_98), (6, 6, a_73, .int x_74), (7, 2, q2_, .ref a_72), (5, 7, q1_, .int x_48), (9, 9, a_20, .ref a_46), (7, 0, q2_, .ref a_19), (7, 1, q2_, .int x_11), (9, 1, q3_, .int x_6), (0, 0, a0_, .ref q0_), (0, 1, a0_, .ref q1_), (0, 2, a0_, .ref q2_), (5, 1, q1_, .ref q3_)]) rfl (fun r_103 fr_103 H locs hp hMr_103 g => ?_)
              have kb_1 : bd 1 1 (1 : Int32) := ⟨by decide, by decide⟩
              refine g_callv (va_runV (As := [.int 1, .int r_103]) (rest := []) ⟨hx, hb, hml, hown, hts⟩ (r_X8_fail_8 l dC dI L kd tys fr_103 H.size g.2.2.2.1 q0_ mq0_ kq0_ 1 kb_1 r_103 x_98 h_99 (g.fcts [1] rfl)) (cwV 2 hts (gV_ t_1215 t_1107 t_1108 t_184 t_1109) rfl rfl rfl (by decide +kernel) ⟨(Nat.le_of_ble_eq_true rfl), (Nat.le_of_ble_eq_true rfl)⟩) (pre3V g hK mq0_ kq0_ (by decide) (q := (RX8, TX8, 10)) rfl) rfl rfl hl.1 rfl (lv_room (Nat.le_of_ble_eq_true rfl)) dX0_readAbove_210 ⟨(Nat.le_of_ble_eq_true rfl), (Nat.le_of_ble_eq_true rfl)⟩) g hK (by decide) (by decide) (fx' := [(8, 8, q0_, .int x_98), (6, 6, a_73, .int x_74), (7, 2, q2_, .ref a_72), (5, 7, q1_, .int x_48), (9, 9, a_20, .ref a_46), (7, 0, q2_, .ref a_19), (7, 1, q2_, .int x_11), (9, 1, q3_, .int x_6), (0, 0, a0_, .ref q0_), (0, 1, a0_, .ref q1_), (0, 2, a0_, .ref q2_), (5, 1, q1_, .ref q3_)]) rfl (fun fr_104 H locs hp hMr_104 g => ?_)
              have hF_105 := hp
              have g := g.more hF_105
              subst hQ
              exact W.vret hx hb hr (fun t ht hW => ⟨⟨_, rfl, Or.inl ⟨x_98, h_99, (g.fcts [0, 1] rfl)⟩, q3_of g hK ht hW⟩, g.2.2.1.F ht⟩) g.2.2.1.2.2 dX0_readAbove_213
        · have fc_40 := eq_f c_40
          have b_106 : bd (-1) (-1) r_38 := eqX fc_40 h_39 kb_m1 (by decide)
          refine lv_aload_n hx hb dX0_readAbove_125 rfl (lv_at hl 4 rfl) ?_
          refine g_getk (C := RX0) (T := TX0) (N := 14) hx hb hts (mc_ inX0) hown hK g rfl 0 (by decide) rfl (hts _ (List.mem_cons_of_mem _ t_373)) (fun _ h9 => h9) 4 rfl dX0_readAbove_126 ?_
          refine lv_iconst (v := 2) hx hb dX0_readAbove_129 (by decide) ?_
          refine lv_iload_n hx hb dX0_readAbove_130 rfl (lv_at hl 1 rfl) ?_
          have kb_2 : bd 2 2 (2 : Int32) := ⟨by decide, by decide⟩
          refine g_callv (va_runV (As := [.int 2, .int r_33]) (rest := []) ⟨hx, hb, hml, hown, hts⟩ (r_X8_fail_3 l dC dI L kd tys fr_38 H.size g.2.2.2.1 q0_ mq0_ kq0_ 2 kb_2 r_33) (cwV 2 hts (gV_ t_1215 t_1107 t_1108 t_184 t_1109) rfl rfl rfl (by decide +kernel) ⟨(Nat.le_of_ble_eq_true rfl), (Nat.le_of_ble_eq_true rfl)⟩) (pre3V g hK mq0_ kq0_ (by decide) (q := (RX8, TX8, 10)) rfl) rfl rfl hl.1 rfl (lv_room (Nat.le_of_ble_eq_true rfl)) dX0_readAbove_131 ⟨(Nat.le_of_ble_eq_true rfl), (Nat.le_of_ble_eq_true rfl)⟩) g hK (by decide) (by decide) (fx' := [(7, 0, q2_, .ref a_19), (7, 1, q2_, .int x_11), (9, 1, q3_, .int x_6), (0, 0, a0_, .ref q0_), (0, 1, a0_, .ref q1_), (0, 2, a0_, .ref q2_), (5, 1, q1_, .ref q3_)]) rfl (fun fr_107 H locs hp hMr_107 g => ?_)
          obtain ⟨x_108, h_109, hF_110⟩ := hp
          have g := g.more hF_110
          subst hQ
          exact W.vret hx hb hr (fun t ht hW => ⟨⟨_, rfl, Or.inl ⟨x_108, h_109, (g.fcts [0, 1] rfl)⟩, q3_of g hK ht hW⟩, g.2.2.1.F ht⟩) g.2.2.1.2.2 dX0_readAbove_134
      · have fc_35 := neq_f c_35
        refine lv_aload_n hx hb dX0_readAbove_92 rfl (lv_at hl 3 rfl) ?_
        refine g_getk (C := RX0) (T := TX0) (N := 14) hx hb hts (mc_ inX0) hown hK g rfl 0 (by decide) rfl (hts _ (List.mem_cons_of_mem _ t_373)) (fun _ h9 => h9) 4 rfl dX0_readAbove_93 ?_
        refine lv_iconst (v := 1) hx hb dX0_readAbove_96 (by decide) ?_
        refine lv_iload_n hx hb dX0_readAbove_97 rfl (lv_at hl 0 rfl) ?_
        have kb_1 : bd 1 1 (1 : Int32) := ⟨by decide, by decide⟩
        refine g_callv (va_runV (As := [.int 1, .int r_33]) (rest := []) ⟨hx, hb, hml, hown, hts⟩ (r_X8_fail_7 l dC dI L kd tys fr_34 H.size g.2.2.2.1 q0_ mq0_ kq0_ 1 kb_1 r_33) (cwV 2 hts (gV_ t_1215 t_1107 t_1108 t_184 t_1109) rfl rfl rfl (by decide +kernel) ⟨(Nat.le_of_ble_eq_true rfl), (Nat.le_of_ble_eq_true rfl)⟩) (pre3V g hK mq0_ kq0_ (by decide) (q := (RX8, TX8, 10)) rfl) rfl rfl hl.1 rfl (lv_room (Nat.le_of_ble_eq_true rfl)) dX0_readAbove_98 ⟨(Nat.le_of_ble_eq_true rfl), (Nat.le_of_ble_eq_true rfl)⟩) g hK (by decide) (by decide) (fx' := [(7, 0, q2_, .ref a_19), (7, 1, q2_, .int x_11), (9, 1, q3_, .int x_6), (0, 0, a0_, .ref q0_), (0, 1, a0_, .ref q1_), (0, 2, a0_, .ref q2_), (5, 1, q1_, .ref q3_)]) rfl (fun fr_111 H locs hp hMr_111 g => ?_)
        obtain ⟨x_112, h_113, hF_114⟩ := hp
        have g := g.more hF_114
        subst hQ
        exact W.vret hx hb hr (fun t ht hW => ⟨⟨_, rfl, Or.inl ⟨x_112, h_113, (g.fcts [0, 1] rfl)⟩, q3_of g hK ht hW⟩, g.2.2.1.F ht⟩) g.2.2.1.2.2 dX0_readAbove_101
set_option maxHeartbeats 4000000 in
set_option maxRecDepth 100000 in
theorem r_X0_takeBracket (l : Launch) (dC : Nat → ClassId) (dI : Nat → Nat → Nat) (L : List Nat) (kd : Nat → Nat) (tys : List (ClassId × FieldType)) (f0 : Nat → va_E) (sz : Nat) (hWT : WT L kd tys f0) (a0_ : Nat) (ma0_ : a0_ ∈ L) (ka0_ : kd a0_ = 0) (q0_ : Nat) (mq0_ : q0_ ∈ L) (kq0_ : kd q0_ = 8) (hfx : Fs L kd f0 [(0, 0, a0_, .ref q0_)]) : Met l yX0_takeBracket (.code yX0_takeBracket cX0_takeBracket 1 none :: lw_g) ({ frames := 1, cells := 0, slots := 0, locals := 23 }) (va_Pc [.ref a0_] (P3 (dC, dI) L tys f0 sz)) (va_Qv (fun (f : Nat → va_E) => (∃ z1_ : Int32, bd 1 7 z1_ ∧ Fs L kd f [(8, 6, q0_, .int 1201), (8, 8, q0_, .int z1_)]) ∨ (∃ z0_ : Int32, bd 1 1201 z0_ ∧ ∃ z1_ : Int32, bd (-2147483648) 39 z1_ ∧ Fs L kd f [(8, 6, q0_, .int z0_), (0, 11, a0_, .int z1_)])) (Q3 (dC, dI) L kd tys [(8, 6), (8, 8), (8, 9)] [] f0 sz) (pA L sz)) 0 0 (pA L sz) := by
  refine Met.ofW (cc := cX0_takeBracket) (maxL := 1) (ret := none) (by decide) rfl ?_
  intro p e s m args below meth c s₁ B hml hv
  obtain ⟨rfl, hsz, hP, hK, hD0⟩ := hv
  have hx := B.exec
  have hb := B.bytes
  have hr := B.returns
  have hts := atoms_spec (ws := (.code yX0_takeBracket cX0_takeBracket 1 none :: lw_g)) B.pre
  have hown : s.vm.findClass RX0 = some m.cls := findClass_of_methodNamed B.named
  have hlocks := B.notSynchronized
  subst hsz
  have g : G3 (dC, dI) L kd tys s f0 [(8, 6), (8, 8), (8, 9)] [] f0 s.heap [] [(0, 0, a0_, .ref q0_)] := G3.start hP hD0 hWT hfx
  have hl := lv_entry ([.ref a0_]) (n := 1) (Nat.le_of_ble_eq_true rfl)
  rw [lg_entry_eq]
  generalize (lg_sl ([.ref a0_]) ++ List.replicate (1 - (lg_sl ([.ref a0_])).length) Slot.unset).toArray = ls at hl ⊢
  have hl : lv_has ls 1 [(0, .ref a0_)] := hl
  refine W_q (fun Q hQ => ?_)
  refine lv_aload_n hx hb dX0_takeBracket_0 rfl (lv_at hl 0 rfl) ?_
  refine g_getk (C := RX0) (T := TX0) (N := 14) hx hb hts (mc_ inX0) hown hK g rfl 0 (by decide) rfl (hts _ (List.mem_cons_of_mem _ t_373)) (fun _ h9 => h9) 0 rfl dX0_takeBracket_1 ?_
  refine g_calli (va_runV (As := []) (rest := []) ⟨hx, hb, hml, hown, hts⟩ (r_X8_kind l dC dI L kd tys f0 s.heap.size g.2.2.2.1 q0_ mq0_ kq0_) (cwV 0 hts (gV_ t_1186 t_1119 t_1120 t_184 t_1121) rfl rfl rfl (by decide +kernel) ⟨(Nat.le_of_ble_eq_true rfl), (Nat.le_of_ble_eq_true rfl)⟩) (pre3V g hK mq0_ kq0_ (by decide) (q := (RX8, TX8, 10)) rfl) rfl rfl hl.1 rfl (lv_room (Nat.le_of_ble_eq_true rfl)) dX0_takeBracket_4 ⟨(Nat.le_of_ble_eq_true rfl), (Nat.le_of_ble_eq_true rfl)⟩) g hK (by decide) (by decide) (fx' := [(0, 0, a0_, .ref q0_)]) rfl (fun r_1 fr_1 H locs hp hMr_1 g => ?_)
  refine lv_bipush (v := 40) hx hb dX0_takeBracket_7 (by decide) ?_
  have kb_40 : bd 40 40 (40 : Int32) := ⟨by decide, by decide⟩
  refine lv_icmp_eq (tgt := 30) hx hb dX0_takeBracket_9 (by decide) (fun c_2 => ?_) (fun c_2 => ?_)
  · have fc_2 := eq_f c_2
    have b_3 : bd 40 40 r_1 := eqX fc_2 (bdT r_1) kb_40 (by decide)
    refine lv_aload_n hx hb dX0_takeBracket_30 rfl (lv_at hl 0 rfl) ?_
    refine g_geti (C := RX0) (T := TX0) (N := 14) hx hb hts (mc_ inX0) hown hK g ma0_ ka0_ (by decide) rfl 11 (by decide) rfl (hts _ (List.mem_cons_of_mem _ t_384)) (fun _ h9 => h9) rfl dX0_takeBracket_31 (fun x_4 bx_4 g => ?_)
    refine lv_bipush (v := 40) hx hb dX0_takeBracket_34 (by decide) ?_
    refine lv_icmp_lt (tgt := 54) hx hb dX0_takeBracket_36 (by decide) (fun c_5 => ?_) (fun c_5 => ?_)
    · have fc_5 := lt_f c_5
      have b_6 : bd (-2147483648) 39 x_4 := ltL fc_5 (bdT x_4) kb_40 (by decide)
      refine lv_aload_n hx hb dX0_takeBracket_54 rfl (lv_at hl 0 rfl) ?_
      refine g_getk (C := RX0) (T := TX0) (N := 14) hx hb hts (mc_ inX0) hown hK g rfl 0 (by decide) rfl (hts _ (List.mem_cons_of_mem _ t_373)) (fun _ h9 => h9) 1 rfl dX0_takeBracket_55 ?_
      refine g_callv (va_runV (As := []) (rest := []) ⟨hx, hb, hml, hown, hts⟩ (r_X8_next l dC dI L kd tys fr_1 H.size g.2.2.2.1 q0_ mq0_ kq0_) (cwV 0 hts (gV_ t_1225 t_1103 t_1104 t_184 t_1105) rfl rfl rfl (by decide +kernel) ⟨(Nat.le_of_ble_eq_true rfl), (Nat.le_of_ble_eq_true rfl)⟩) (pre3V g hK mq0_ kq0_ (by decide) (q := (RX8, TX8, 10)) rfl) rfl rfl hl.1 rfl (lv_room (Nat.le_of_ble_eq_true rfl)) dX0_takeBracket_58 ⟨(Nat.le_of_ble_eq_true rfl), (Nat.le_of_ble_eq_true rfl)⟩) g hK (by decide) (by decide) (fx' := [(0, 11, a0_, .int x_4), (0, 0, a0_, .ref q0_)]) rfl (fun fr_7 H locs hp hMr_7 g => ?_)
      obtain ⟨x_8, h_9, hF_10⟩ := hp
      have g := g.more hF_10
      refine lv_aload_n hx hb dX0_takeBracket_61 rfl (lv_at hl 0 rfl) ?_
      refine g_getk (C := RX0) (T := TX0) (N := 14) hx hb hts (mc_ inX0) hown hK g rfl 0 (by decide) rfl (hts _ (List.mem_cons_of_mem _ t_373)) (fun _ h9 => h9) 2 rfl dX0_takeBracket_62 ?_
      refine g_calli (va_runV (As := []) (rest := []) ⟨hx, hb, hml, hown, hts⟩ (r_X8_kind l dC dI L kd tys fr_7 H.size g.2.2.2.1 q0_ mq0_ kq0_) (cwV 0 hts (gV_ t_1186 t_1119 t_1120 t_184 t_1121) rfl rfl rfl (by decide +kernel) ⟨(Nat.le_of_ble_eq_true rfl), (Nat.le_of_ble_eq_true rfl)⟩) (pre3V g hK mq0_ kq0_ (by decide) (q := (RX8, TX8, 10)) rfl) rfl rfl hl.1 rfl (lv_room (Nat.le_of_ble_eq_true rfl)) dX0_takeBracket_65 ⟨(Nat.le_of_ble_eq_true rfl), (Nat.le_of_ble_eq_true rfl)⟩) g hK (by decide) (by decide) (fx' := [(8, 6, q0_, .int x_8), (0, 11, a0_, .int x_4), (0, 0, a0_, .ref q0_)]) rfl (fun r_11 fr_11 H locs hp hMr_11 g => ?_)
      refine lv_iconst (v := 3) hx hb dX0_takeBracket_68 (by decide) ?_
      have kb_3 : bd 3 3 (3 : Int32) := ⟨by decide, by decide⟩
      refine lv_icmp_eq (tgt := 87) hx hb dX0_takeBracket_69 (by decide) (fun c_12 => ?_) (fun c_12 => ?_)
      · have fc_12 := eq_f c_12
        have b_13 : bd 3 3 r_11 := eqX fc_12 (bdT r_11) kb_3 (by decide)
        subst hQ
        exact W.vret hx hb hr (fun t ht hW => ⟨⟨_, rfl, Or.inr (⟨x_8, h_9, x_4, b_6, (g.fcts [0, 1] rfl)⟩), q3_of g hK ht hW⟩, g.2.2.1.F ht⟩) g.2.2.1.2.2 dX0_takeBracket_87
      · have fc_12 := neq_f c_12
        refine lv_aload_n hx hb dX0_takeBracket_72 rfl (lv_at hl 0 rfl) ?_
        refine g_getk (C := RX0) (T := TX0) (N := 14) hx hb hts (mc_ inX0) hown hK g rfl 0 (by decide) rfl (hts _ (List.mem_cons_of_mem _ t_373)) (fun _ h9 => h9) 2 rfl dX0_takeBracket_73 ?_
        refine lv_iconst (v := 1) hx hb dX0_takeBracket_76 (by decide) ?_
        refine lv_aload_n hx hb dX0_takeBracket_77 rfl (lv_at hl 0 rfl) ?_
        refine g_getk (C := RX0) (T := TX0) (N := 14) hx hb hts (mc_ inX0) hown hK g rfl 0 (by decide) rfl (hts _ (List.mem_cons_of_mem _ t_373)) (fun _ h9 => h9) 2 rfl dX0_takeBracket_78 ?_
        refine g_calli (va_runV (As := []) (rest := [.int 1, .ref q0_]) ⟨hx, hb, hml, hown, hts⟩ (r_X8_place l dC dI L kd tys fr_11 H.size g.2.2.2.1 q0_ mq0_ kq0_) (cwV 0 hts (gV_ t_1220 t_1111 t_1112 t_184 t_1113) rfl rfl rfl (by decide +kernel) ⟨(Nat.le_of_ble_eq_true rfl), (Nat.le_of_ble_eq_true rfl)⟩) (pre3V g hK mq0_ kq0_ (by decide) (q := (RX8, TX8, 10)) rfl) rfl rfl hl.1 rfl (lv_room (Nat.le_of_ble_eq_true rfl)) dX0_takeBracket_81 ⟨(Nat.le_of_ble_eq_true rfl), (Nat.le_of_ble_eq_true rfl)⟩) g hK (by decide) (by decide) (fx' := [(8, 6, q0_, .int x_8), (0, 11, a0_, .int x_4), (0, 0, a0_, .ref q0_)]) rfl (fun r_14 fr_14 H locs hp hMr_14 g => ?_)
        have kb_1 : bd 1 1 (1 : Int32) := ⟨by decide, by decide⟩
        refine g_callv (va_runV (As := [.int 1, .int r_14]) (rest := []) ⟨hx, hb, hml, hown, hts⟩ (r_X8_fail_7 l dC dI L kd tys fr_14 H.size g.2.2.2.1 q0_ mq0_ kq0_ 1 kb_1 r_14) (cwV 2 hts (gV_ t_1215 t_1107 t_1108 t_184 t_1109) rfl rfl rfl (by decide +kernel) ⟨(Nat.le_of_ble_eq_true rfl), (Nat.le_of_ble_eq_true rfl)⟩) (pre3V g hK mq0_ kq0_ (by decide) (q := (RX8, TX8, 10)) rfl) rfl rfl hl.1 rfl (lv_room (Nat.le_of_ble_eq_true rfl)) dX0_takeBracket_84 ⟨(Nat.le_of_ble_eq_true rfl), (Nat.le_of_ble_eq_true rfl)⟩) g hK (by decide) (by decide) (fx' := [(0, 11, a0_, .int x_4), (0, 0, a0_, .ref q0_)]) rfl (fun fr_15 H locs hp hMr_15 g => ?_)
        obtain ⟨x_16, h_17, hF_18⟩ := hp
        have g := g.more hF_18
        subst hQ
        exact W.vret hx hb hr (fun t ht hW => ⟨⟨_, rfl, Or.inl ⟨x_16, h_17, (g.fcts [0, 1] rfl)⟩, q3_of g hK ht hW⟩, g.2.2.1.F ht⟩) g.2.2.1.2.2 dX0_takeBracket_87
    · have fc_5 := nlt_f c_5
      have b_19 : bd 40 2147483647 x_4 := leR fc_5 kb_40 (bdT x_4) (by decide)
      refine lv_aload_n hx hb dX0_takeBracket_39 rfl (lv_at hl 0 rfl) ?_
      refine g_getk (C := RX0) (T := TX0) (N := 14) hx hb hts (mc_ inX0) hown hK g rfl 0 (by decide) rfl (hts _ (List.mem_cons_of_mem _ t_373)) (fun _ h9 => h9) 1 rfl dX0_takeBracket_40 ?_
      refine lv_iconst (v := 4) hx hb dX0_takeBracket_43 (by decide) ?_
      refine lv_aload_n hx hb dX0_takeBracket_44 rfl (lv_at hl 0 rfl) ?_
      refine g_getk (C := RX0) (T := TX0) (N := 14) hx hb hts (mc_ inX0) hown hK g rfl 0 (by decide) rfl (hts _ (List.mem_cons_of_mem _ t_373)) (fun _ h9 => h9) 1 rfl dX0_takeBracket_45 ?_
      refine g_calli (va_runV (As := []) (rest := [.int 4, .ref q0_]) ⟨hx, hb, hml, hown, hts⟩ (r_X8_place l dC dI L kd tys fr_1 H.size g.2.2.2.1 q0_ mq0_ kq0_) (cwV 0 hts (gV_ t_1220 t_1111 t_1112 t_184 t_1113) rfl rfl rfl (by decide +kernel) ⟨(Nat.le_of_ble_eq_true rfl), (Nat.le_of_ble_eq_true rfl)⟩) (pre3V g hK mq0_ kq0_ (by decide) (q := (RX8, TX8, 10)) rfl) rfl rfl hl.1 rfl (lv_room (Nat.le_of_ble_eq_true rfl)) dX0_takeBracket_48 ⟨(Nat.le_of_ble_eq_true rfl), (Nat.le_of_ble_eq_true rfl)⟩) g hK (by decide) (by decide) (fx' := [(0, 11, a0_, .int x_4), (0, 0, a0_, .ref q0_)]) rfl (fun r_20 fr_20 H locs hp hMr_20 g => ?_)
      have kb_4 : bd 4 4 (4 : Int32) := ⟨by decide, by decide⟩
      refine g_callv (va_runV (As := [.int 4, .int r_20]) (rest := []) ⟨hx, hb, hml, hown, hts⟩ (r_X8_fail l dC dI L kd tys fr_20 H.size g.2.2.2.1 q0_ mq0_ kq0_ 4 kb_4 r_20) (cwV 2 hts (gV_ t_1215 t_1107 t_1108 t_184 t_1109) rfl rfl rfl (by decide +kernel) ⟨(Nat.le_of_ble_eq_true rfl), (Nat.le_of_ble_eq_true rfl)⟩) (pre3V g hK mq0_ kq0_ (by decide) (q := (RX8, TX8, 10)) rfl) rfl rfl hl.1 rfl (lv_room (Nat.le_of_ble_eq_true rfl)) dX0_takeBracket_51 ⟨(Nat.le_of_ble_eq_true rfl), (Nat.le_of_ble_eq_true rfl)⟩) g hK (by decide) (by decide) (fx' := [(0, 11, a0_, .int x_4), (0, 0, a0_, .ref q0_)]) rfl (fun fr_21 H locs hp hMr_21 g => ?_)
      obtain ⟨x_22, h_23, hF_24⟩ := hp
      have g := g.more hF_24
      refine lv_aload_n hx hb dX0_takeBracket_54 rfl (lv_at hl 0 rfl) ?_
      refine g_getk (C := RX0) (T := TX0) (N := 14) hx hb hts (mc_ inX0) hown hK g rfl 0 (by decide) rfl (hts _ (List.mem_cons_of_mem _ t_373)) (fun _ h9 => h9) 3 rfl dX0_takeBracket_55 ?_
      have kb_1201 : bd 1201 1201 (1201 : Int32) := ⟨by decide, by decide⟩
      refine g_callv (va_runV (As := []) (rest := []) ⟨hx, hb, hml, hown, hts⟩ (r_X8_next_2 l dC dI L kd tys fr_21 H.size g.2.2.2.1 q0_ mq0_ kq0_ 1201 kb_1201 (g.fcts [0] rfl)) (cwV 0 hts (gV_ t_1225 t_1103 t_1104 t_184 t_1105) rfl rfl rfl (by decide +kernel) ⟨(Nat.le_of_ble_eq_true rfl), (Nat.le_of_ble_eq_true rfl)⟩) (pre3V g hK mq0_ kq0_ (by decide) (q := (RX8, TX8, 10)) rfl) rfl rfl hl.1 rfl (lv_room (Nat.le_of_ble_eq_true rfl)) dX0_takeBracket_58 ⟨(Nat.le_of_ble_eq_true rfl), (Nat.le_of_ble_eq_true rfl)⟩) g hK (by decide) (by decide) (fx' := [(8, 6, q0_, .int 1201), (8, 8, q0_, .int x_22), (0, 11, a0_, .int x_4), (0, 0, a0_, .ref q0_)]) rfl (fun fr_25 H locs hp hMr_25 g => ?_)
      refine lv_aload_n hx hb dX0_takeBracket_61 rfl (lv_at hl 0 rfl) ?_
      refine g_getk (C := RX0) (T := TX0) (N := 14) hx hb hts (mc_ inX0) hown hK g rfl 0 (by decide) rfl (hts _ (List.mem_cons_of_mem _ t_373)) (fun _ h9 => h9) 3 rfl dX0_takeBracket_62 ?_
      refine g_calli (va_runV (As := []) (rest := []) ⟨hx, hb, hml, hown, hts⟩ (r_X8_kind_2 l dC dI L kd tys fr_25 H.size g.2.2.2.1 q0_ mq0_ kq0_ 1201 kb_1201 (g.fcts [0] rfl)) (cwV 0 hts (gV_ t_1186 t_1119 t_1120 t_184 t_1121) rfl rfl rfl (by decide +kernel) ⟨(Nat.le_of_ble_eq_true rfl), (Nat.le_of_ble_eq_true rfl)⟩) (pre3V g hK mq0_ kq0_ (by decide) (q := (RX8, TX8, 10)) rfl) rfl rfl hl.1 rfl (lv_room (Nat.le_of_ble_eq_true rfl)) dX0_takeBracket_65 ⟨(Nat.le_of_ble_eq_true rfl), (Nat.le_of_ble_eq_true rfl)⟩) g hK (by decide) (by decide) (fx' := [(8, 6, q0_, .int 1201), (8, 8, q0_, .int x_22), (0, 11, a0_, .int x_4), (0, 0, a0_, .ref q0_)]) rfl (fun r_26 fr_26 H locs hp hMr_26 g => ?_)
      obtain ⟨h_27, -⟩ := hp
      obtain rfl : r_26 = 0 := h_27
      refine lv_iconst (v := 3) hx hb dX0_takeBracket_68 (by decide) ?_
      refine lv_icmp_eq (tgt := 87) hx hb dX0_takeBracket_69 (by decide) (fun c_ => absurd c_ (by decide)) (fun c_ => ?_)
      refine lv_aload_n hx hb dX0_takeBracket_72 rfl (lv_at hl 0 rfl) ?_
      refine g_getk (C := RX0) (T := TX0) (N := 14) hx hb hts (mc_ inX0) hown hK g rfl 0 (by decide) rfl (hts _ (List.mem_cons_of_mem _ t_373)) (fun _ h9 => h9) 3 rfl dX0_takeBracket_73 ?_
      refine lv_iconst (v := 1) hx hb dX0_takeBracket_76 (by decide) ?_
      refine lv_aload_n hx hb dX0_takeBracket_77 rfl (lv_at hl 0 rfl) ?_
      refine g_getk (C := RX0) (T := TX0) (N := 14) hx hb hts (mc_ inX0) hown hK g rfl 0 (by decide) rfl (hts _ (List.mem_cons_of_mem _ t_373)) (fun _ h9 => h9) 3 rfl dX0_takeBracket_78 ?_
      refine g_calli (va_runV (As := []) (rest := [.int 1, .ref q0_]) ⟨hx, hb, hml, hown, hts⟩ (r_X8_place l dC dI L kd tys fr_26 H.size g.2.2.2.1 q0_ mq0_ kq0_) (cwV 0 hts (gV_ t_1220 t_1111 t_1112 t_184 t_1113) rfl rfl rfl (by decide +kernel) ⟨(Nat.le_of_ble_eq_true rfl), (Nat.le_of_ble_eq_true rfl)⟩) (pre3V g hK mq0_ kq0_ (by decide) (q := (RX8, TX8, 10)) rfl) rfl rfl hl.1 rfl (lv_room (Nat.le_of_ble_eq_true rfl)) dX0_takeBracket_81 ⟨(Nat.le_of_ble_eq_true rfl), (Nat.le_of_ble_eq_true rfl)⟩) g hK (by decide) (by decide) (fx' := [(8, 6, q0_, .int 1201), (8, 8, q0_, .int x_22), (0, 11, a0_, .int x_4), (0, 0, a0_, .ref q0_)]) rfl (fun r_28 fr_28 H locs hp hMr_28 g => ?_)
      have kb_1 : bd 1 1 (1 : Int32) := ⟨by decide, by decide⟩
      refine g_callv (va_runV (As := [.int 1, .int r_28]) (rest := []) ⟨hx, hb, hml, hown, hts⟩ (r_X8_fail_8 l dC dI L kd tys fr_28 H.size g.2.2.2.1 q0_ mq0_ kq0_ 1 kb_1 r_28 x_22 h_23 (g.fcts [1] rfl)) (cwV 2 hts (gV_ t_1215 t_1107 t_1108 t_184 t_1109) rfl rfl rfl (by decide +kernel) ⟨(Nat.le_of_ble_eq_true rfl), (Nat.le_of_ble_eq_true rfl)⟩) (pre3V g hK mq0_ kq0_ (by decide) (q := (RX8, TX8, 10)) rfl) rfl rfl hl.1 rfl (lv_room (Nat.le_of_ble_eq_true rfl)) dX0_takeBracket_84 ⟨(Nat.le_of_ble_eq_true rfl), (Nat.le_of_ble_eq_true rfl)⟩) g hK (by decide) (by decide) (fx' := [(8, 8, q0_, .int x_22), (0, 11, a0_, .int x_4), (0, 0, a0_, .ref q0_)]) rfl (fun fr_29 H locs hp hMr_29 g => ?_)
      have hF_30 := hp
      have g := g.more hF_30
      subst hQ
      exact W.vret hx hb hr (fun t ht hW => ⟨⟨_, rfl, Or.inl ⟨x_22, h_23, (g.fcts [0, 1] rfl)⟩, q3_of g hK ht hW⟩, g.2.2.1.F ht⟩) g.2.2.1.2.2 dX0_takeBracket_87
  · have fc_2 := neq_f c_2
    refine lv_aload_n hx hb dX0_takeBracket_12 rfl (lv_at hl 0 rfl) ?_
    refine g_getk (C := RX0) (T := TX0) (N := 14) hx hb hts (mc_ inX0) hown hK g rfl 0 (by decide) rfl (hts _ (List.mem_cons_of_mem _ t_373)) (fun _ h9 => h9) 0 rfl dX0_takeBracket_13 ?_
    refine lv_iconst (v := 1) hx hb dX0_takeBracket_16 (by decide) ?_
    refine lv_aload_n hx hb dX0_takeBracket_17 rfl (lv_at hl 0 rfl) ?_
    refine g_getk (C := RX0) (T := TX0) (N := 14) hx hb hts (mc_ inX0) hown hK g rfl 0 (by decide) rfl (hts _ (List.mem_cons_of_mem _ t_373)) (fun _ h9 => h9) 0 rfl dX0_takeBracket_18 ?_
    refine g_calli (va_runV (As := []) (rest := [.int 1, .ref q0_]) ⟨hx, hb, hml, hown, hts⟩ (r_X8_place l dC dI L kd tys fr_1 H.size g.2.2.2.1 q0_ mq0_ kq0_) (cwV 0 hts (gV_ t_1220 t_1111 t_1112 t_184 t_1113) rfl rfl rfl (by decide +kernel) ⟨(Nat.le_of_ble_eq_true rfl), (Nat.le_of_ble_eq_true rfl)⟩) (pre3V g hK mq0_ kq0_ (by decide) (q := (RX8, TX8, 10)) rfl) rfl rfl hl.1 rfl (lv_room (Nat.le_of_ble_eq_true rfl)) dX0_takeBracket_21 ⟨(Nat.le_of_ble_eq_true rfl), (Nat.le_of_ble_eq_true rfl)⟩) g hK (by decide) (by decide) (fx' := [(0, 0, a0_, .ref q0_)]) rfl (fun r_31 fr_31 H locs hp hMr_31 g => ?_)
    have kb_1 : bd 1 1 (1 : Int32) := ⟨by decide, by decide⟩
    refine g_callv (va_runV (As := [.int 1, .int r_31]) (rest := []) ⟨hx, hb, hml, hown, hts⟩ (r_X8_fail_7 l dC dI L kd tys fr_31 H.size g.2.2.2.1 q0_ mq0_ kq0_ 1 kb_1 r_31) (cwV 2 hts (gV_ t_1215 t_1107 t_1108 t_184 t_1109) rfl rfl rfl (by decide +kernel) ⟨(Nat.le_of_ble_eq_true rfl), (Nat.le_of_ble_eq_true rfl)⟩) (pre3V g hK mq0_ kq0_ (by decide) (q := (RX8, TX8, 10)) rfl) rfl rfl hl.1 rfl (lv_room (Nat.le_of_ble_eq_true rfl)) dX0_takeBracket_24 ⟨(Nat.le_of_ble_eq_true rfl), (Nat.le_of_ble_eq_true rfl)⟩) g hK (by decide) (by decide) (fx' := [(0, 0, a0_, .ref q0_)]) rfl (fun fr_32 H locs hp hMr_32 g => ?_)
    obtain ⟨x_33, h_34, hF_35⟩ := hp
    have g := g.more hF_35
    refine lv_goto (tgt := 54) hx hb dX0_takeBracket_27 (by decide) ?_
    refine lv_aload_n hx hb dX0_takeBracket_54 rfl (lv_at hl 0 rfl) ?_
    refine g_getk (C := RX0) (T := TX0) (N := 14) hx hb hts (mc_ inX0) hown hK g rfl 0 (by decide) rfl (hts _ (List.mem_cons_of_mem _ t_373)) (fun _ h9 => h9) 2 rfl dX0_takeBracket_55 ?_
    have kb_1201 : bd 1201 1201 (1201 : Int32) := ⟨by decide, by decide⟩
    refine g_callv (va_runV (As := []) (rest := []) ⟨hx, hb, hml, hown, hts⟩ (r_X8_next_2 l dC dI L kd tys fr_32 H.size g.2.2.2.1 q0_ mq0_ kq0_ 1201 kb_1201 (g.fcts [0] rfl)) (cwV 0 hts (gV_ t_1225 t_1103 t_1104 t_184 t_1105) rfl rfl rfl (by decide +kernel) ⟨(Nat.le_of_ble_eq_true rfl), (Nat.le_of_ble_eq_true rfl)⟩) (pre3V g hK mq0_ kq0_ (by decide) (q := (RX8, TX8, 10)) rfl) rfl rfl hl.1 rfl (lv_room (Nat.le_of_ble_eq_true rfl)) dX0_takeBracket_58 ⟨(Nat.le_of_ble_eq_true rfl), (Nat.le_of_ble_eq_true rfl)⟩) g hK (by decide) (by decide) (fx' := [(8, 6, q0_, .int 1201), (8, 8, q0_, .int x_33), (0, 0, a0_, .ref q0_)]) rfl (fun fr_36 H locs hp hMr_36 g => ?_)
    refine lv_aload_n hx hb dX0_takeBracket_61 rfl (lv_at hl 0 rfl) ?_
    refine g_getk (C := RX0) (T := TX0) (N := 14) hx hb hts (mc_ inX0) hown hK g rfl 0 (by decide) rfl (hts _ (List.mem_cons_of_mem _ t_373)) (fun _ h9 => h9) 2 rfl dX0_takeBracket_62 ?_
    refine g_calli (va_runV (As := []) (rest := []) ⟨hx, hb, hml, hown, hts⟩ (r_X8_kind_2 l dC dI L kd tys fr_36 H.size g.2.2.2.1 q0_ mq0_ kq0_ 1201 kb_1201 (g.fcts [0] rfl)) (cwV 0 hts (gV_ t_1186 t_1119 t_1120 t_184 t_1121) rfl rfl rfl (by decide +kernel) ⟨(Nat.le_of_ble_eq_true rfl), (Nat.le_of_ble_eq_true rfl)⟩) (pre3V g hK mq0_ kq0_ (by decide) (q := (RX8, TX8, 10)) rfl) rfl rfl hl.1 rfl (lv_room (Nat.le_of_ble_eq_true rfl)) dX0_takeBracket_65 ⟨(Nat.le_of_ble_eq_true rfl), (Nat.le_of_ble_eq_true rfl)⟩) g hK (by decide) (by decide) (fx' := [(8, 6, q0_, .int 1201), (8, 8, q0_, .int x_33), (0, 0, a0_, .ref q0_)]) rfl (fun r_37 fr_37 H locs hp hMr_37 g => ?_)
    obtain ⟨h_38, -⟩ := hp
    obtain rfl : r_37 = 0 := h_38
    refine lv_iconst (v := 3) hx hb dX0_takeBracket_68 (by decide) ?_
    refine lv_icmp_eq (tgt := 87) hx hb dX0_takeBracket_69 (by decide) (fun c_ => absurd c_ (by decide)) (fun c_ => ?_)
    refine lv_aload_n hx hb dX0_takeBracket_72 rfl (lv_at hl 0 rfl) ?_
    refine g_getk (C := RX0) (T := TX0) (N := 14) hx hb hts (mc_ inX0) hown hK g rfl 0 (by decide) rfl (hts _ (List.mem_cons_of_mem _ t_373)) (fun _ h9 => h9) 2 rfl dX0_takeBracket_73 ?_
    refine lv_iconst (v := 1) hx hb dX0_takeBracket_76 (by decide) ?_
    refine lv_aload_n hx hb dX0_takeBracket_77 rfl (lv_at hl 0 rfl) ?_
    refine g_getk (C := RX0) (T := TX0) (N := 14) hx hb hts (mc_ inX0) hown hK g rfl 0 (by decide) rfl (hts _ (List.mem_cons_of_mem _ t_373)) (fun _ h9 => h9) 2 rfl dX0_takeBracket_78 ?_
    refine g_calli (va_runV (As := []) (rest := [.int 1, .ref q0_]) ⟨hx, hb, hml, hown, hts⟩ (r_X8_place l dC dI L kd tys fr_37 H.size g.2.2.2.1 q0_ mq0_ kq0_) (cwV 0 hts (gV_ t_1220 t_1111 t_1112 t_184 t_1113) rfl rfl rfl (by decide +kernel) ⟨(Nat.le_of_ble_eq_true rfl), (Nat.le_of_ble_eq_true rfl)⟩) (pre3V g hK mq0_ kq0_ (by decide) (q := (RX8, TX8, 10)) rfl) rfl rfl hl.1 rfl (lv_room (Nat.le_of_ble_eq_true rfl)) dX0_takeBracket_81 ⟨(Nat.le_of_ble_eq_true rfl), (Nat.le_of_ble_eq_true rfl)⟩) g hK (by decide) (by decide) (fx' := [(8, 6, q0_, .int 1201), (8, 8, q0_, .int x_33), (0, 0, a0_, .ref q0_)]) rfl (fun r_39 fr_39 H locs hp hMr_39 g => ?_)
    refine g_callv (va_runV (As := [.int 1, .int r_39]) (rest := []) ⟨hx, hb, hml, hown, hts⟩ (r_X8_fail_8 l dC dI L kd tys fr_39 H.size g.2.2.2.1 q0_ mq0_ kq0_ 1 kb_1 r_39 x_33 h_34 (g.fcts [1] rfl)) (cwV 2 hts (gV_ t_1215 t_1107 t_1108 t_184 t_1109) rfl rfl rfl (by decide +kernel) ⟨(Nat.le_of_ble_eq_true rfl), (Nat.le_of_ble_eq_true rfl)⟩) (pre3V g hK mq0_ kq0_ (by decide) (q := (RX8, TX8, 10)) rfl) rfl rfl hl.1 rfl (lv_room (Nat.le_of_ble_eq_true rfl)) dX0_takeBracket_84 ⟨(Nat.le_of_ble_eq_true rfl), (Nat.le_of_ble_eq_true rfl)⟩) g hK (by decide) (by decide) (fx' := [(8, 8, q0_, .int x_33), (0, 0, a0_, .ref q0_)]) rfl (fun fr_40 H locs hp hMr_40 g => ?_)
    have hF_41 := hp
    have g := g.more hF_41
    subst hQ
    exact W.vret hx hb hr (fun t ht hW => ⟨⟨_, rfl, Or.inl ⟨x_33, h_34, (g.fcts [0, 1] rfl)⟩, q3_of g hK ht hW⟩, g.2.2.1.F ht⟩) g.2.2.1.2.2 dX0_takeBracket_87
set_option maxHeartbeats 4000000 in
set_option maxRecDepth 100000 in
theorem r_X8_fail_9 (l : Launch) (dC : Nat → ClassId) (dI : Nat → Nat → Nat) (L : List Nat) (kd : Nat → Nat) (tys : List (ClassId × FieldType)) (f0 : Nat → va_E) (sz : Nat) (hWT : WT L kd tys f0) (a0_ : Nat) (ma0_ : a0_ ∈ L) (ka0_ : kd a0_ = 8) (x1_ : Int32) (bx1_ : bd 5 5 x1_) (x2_ : Int32) (y0_ : Int32) (by0_ : bd 1 7 y0_) (hfx : Fs L kd f0 [(8, 8, a0_, .int y0_)]) : Met l yX8_fail (.code yX8_fail cX8_fail 4 none :: lw_g) ({ frames := 0, cells := 0, slots := 0, locals := 0 }) (va_Pc [.ref a0_, .int x1_, .int x2_] (P3 (dC, dI) L tys f0 sz)) (va_Qv (fun (f : Nat → va_E) => (Fs L kd f [(8, 6, a0_, .int 1201)])) (Q3 (dC, dI) L kd tys [(8, 6)] [] f0 sz) (pA L sz)) 0 0 (pA L sz) := by
  refine Met.ofW (cc := cX8_fail) (maxL := 4) (ret := none) (by decide) rfl ?_
  intro p e s m args below meth c s₁ B hml hv
  obtain ⟨rfl, hsz, hP, hK, hD0⟩ := hv
  have hx := B.exec
  have hb := B.bytes
  have hr := B.returns
  have hts := atoms_spec (ws := (.code yX8_fail cX8_fail 4 none :: lw_g)) B.pre
  have hown : s.vm.findClass RX8 = some m.cls := findClass_of_methodNamed B.named
  have hlocks := B.notSynchronized
  subst hsz
  have g : G3 (dC, dI) L kd tys s f0 [(8, 6)] [] f0 s.heap [] [(8, 8, a0_, .int y0_)] := G3.start hP hD0 hWT hfx
  have hl := lv_entry ([.ref a0_, .int x1_, .int x2_]) (n := 4) (Nat.le_of_ble_eq_true rfl)
  rw [lg_entry_eq]
  generalize (lg_sl ([.ref a0_, .int x1_, .int x2_]) ++ List.replicate (4 - (lg_sl ([.ref a0_, .int x1_, .int x2_])).length) Slot.unset).toArray = ls at hl ⊢
  have hl : lv_has ls 4 [(0, .ref a0_), (1, .int x1_), (2, .int x2_)] := hl
  refine W_q (fun Q hQ => ?_)
  refine lv_aload_n hx hb dX8_fail_0 rfl (lv_at hl 0 rfl) ?_
  refine g_geti (C := RX8) (T := TX8) (N := 10) hx hb hts (mc_ inX8) hown hK g ma0_ ka0_ (by decide) rfl 6 (by decide) rfl (hts _ (List.mem_cons_of_mem _ t_291)) (fun _ h9 => h9) rfl dX8_fail_1 (fun x_1 bx_1 g => ?_)
  refine lv_sipush (v := 1200) hx hb dX8_fail_4 (by decide) ?_
  have kb_1200 : bd 1200 1200 (1200 : Int32) := ⟨by decide, by decide⟩
  refine lv_icmp_le (tgt := 31) hx hb dX8_fail_7 (by decide) (fun c_2 => ?_) (fun c_2 => ?_)
  · have fc_2 := le_f c_2
    have b_3 : bd 0 1200 x_1 := leL fc_2 bx_1 kb_1200 (by decide)
    refine lv_iconst (v := 0) hx hb dX8_fail_31 (by decide) ?_
    refine lv_istore_n (lv' := [(3, .int 0), (0, .ref a0_), (1, .int x1_), (2, .int x2_)]) hx hb dX8_fail_32 rfl hl (by decide) rfl (fun ls hl => ?_)
    refine lv_aload_n hx hb dX8_fail_33 rfl (lv_at hl 1 rfl) ?_
    refine g_getk (C := RX8) (T := TX8) (N := 10) hx hb hts (mc_ inX8) hown hK g rfl 8 (by decide) rfl (hts _ (List.mem_cons_of_mem _ t_295)) (fun _ h9 => h9) 1 rfl dX8_fail_34 ?_
    have kb_0 : bd 0 0 (0 : Int32) := ⟨by decide, by decide⟩
    refine lv_if_ne (tgt := 73) hx hb dX8_fail_37 (by decide) (fun c_4 => ?_) (fun c_4 => ?_)
    · have fc_4 := neq_f c_4
      refine lv_aload_n hx hb dX8_fail_73 rfl (lv_at hl 1 rfl) ?_
      refine lv_sipush (v := 1201) hx hb dX8_fail_74 (by decide) ?_
      have kb_1201 : bd 1201 1201 (1201 : Int32) := ⟨by decide, by decide⟩
      refine g_put (C := RX8) (T := TX8) (N := 10) hx hb hts (mc_ inX8) tyX8 tyX8_ok nmX8 hown hK g ma0_ ka0_ (by decide) rfl 6 (by decide) (hts _ (List.mem_cons_of_mem _ t_291)) (fun _ h9 => h9) rfl rfl (okV_i (bd_sub kb_1201 (by decide))) rfl rfl (by decide) (Or.inr (Or.inl (by decide))) (fx' := [(8, 8, a0_, .int y0_)]) rfl dX8_fail_77 (fun f H locs hM_5 g => ?_)
      subst hQ
      exact W.vret hx hb hr (fun t ht hW => ⟨⟨_, rfl, (g.fcts [0] rfl), q3_of g hK ht hW⟩, g.2.2.1.F ht⟩) g.2.2.1.2.2 dX8_fail_80
    · have fc_4 := eq_f c_4
      have b_6 : bd 1 0 y0_ := eqX fc_4 by0_ kb_0 (by decide)
      exact bd_no b_6 (by decide)
  · have fc_2 := nle_f c_2
    have b_7 : bd 1201 1201 x_1 := ltR fc_2 kb_1200 bx_1 (by decide)
    refine lv_iload_n hx hb dX8_fail_10 rfl (lv_at hl 1 rfl) ?_
    refine lv_iconst (v := 4) hx hb dX8_fail_11 (by decide) ?_
    have kb_4 : bd 4 4 (4 : Int32) := ⟨by decide, by decide⟩
    refine lv_icmp_gt (tgt := 27) hx hb dX8_fail_12 (by decide) (fun c_8 => ?_) (fun c_8 => ?_)
    · have fc_8 := lt_f c_8
      refine lv_iconst (v := 1) hx hb dX8_fail_27 (by decide) ?_
      refine lv_goto (tgt := 32) hx hb dX8_fail_28 (by decide) ?_
      refine lv_istore_n (lv' := [(3, .int 1), (0, .ref a0_), (1, .int x1_), (2, .int x2_)]) hx hb dX8_fail_32 rfl hl (by decide) rfl (fun ls hl => ?_)
      refine lv_aload_n hx hb dX8_fail_33 rfl (lv_at hl 1 rfl) ?_
      refine g_getk (C := RX8) (T := TX8) (N := 10) hx hb hts (mc_ inX8) hown hK g rfl 8 (by decide) rfl (hts _ (List.mem_cons_of_mem _ t_295)) (fun _ h9 => h9) 1 rfl dX8_fail_34 ?_
      have kb_0 : bd 0 0 (0 : Int32) := ⟨by decide, by decide⟩
      refine lv_if_ne (tgt := 73) hx hb dX8_fail_37 (by decide) (fun c_9 => ?_) (fun c_9 => ?_)
      · have fc_9 := neq_f c_9
        refine lv_aload_n hx hb dX8_fail_73 rfl (lv_at hl 1 rfl) ?_
        refine lv_sipush (v := 1201) hx hb dX8_fail_74 (by decide) ?_
        have kb_1201 : bd 1201 1201 (1201 : Int32) := ⟨by decide, by decide⟩
        refine g_put (C := RX8) (T := TX8) (N := 10) hx hb hts (mc_ inX8) tyX8 tyX8_ok nmX8 hown hK g ma0_ ka0_ (by decide) rfl 6 (by decide) (hts _ (List.mem_cons_of_mem _ t_291)) (fun _ h9 => h9) rfl rfl (okV_i (bd_sub kb_1201 (by decide))) rfl rfl (by decide) (Or.inr (Or.inl (by decide))) (fx' := [(8, 8, a0_, .int y0_)]) rfl dX8_fail_77 (fun f H locs hM_10 g => ?_)
        subst hQ
        exact W.vret hx hb hr (fun t ht hW => ⟨⟨_, rfl, (g.fcts [0] rfl), q3_of g hK ht hW⟩, g.2.2.1.F ht⟩) g.2.2.1.2.2 dX8_fail_80
      · have fc_9 := eq_f c_9
        have b_11 : bd 1 0 y0_ := eqX fc_9 by0_ kb_0 (by decide)
        exact bd_no b_11 (by decide)
    · have fc_8 := nlt_f c_8
      have b_12 : bd 5 4 x1_ := leL fc_8 bx1_ kb_4 (by decide)
      exact bd_no b_12 (by decide)
set_option maxHeartbeats 4000000 in
set_option maxRecDepth 100000 in
theorem r_X8_take_2 (l : Launch) (dC : Nat → ClassId) (dI : Nat → Nat → Nat) (L : List Nat) (kd : Nat → Nat) (tys : List (ClassId × FieldType)) (f0 : Nat → va_E) (sz : Nat) (hWT : WT L kd tys f0) (a0_ : Nat) (ma0_ : a0_ ∈ L) (ka0_ : kd a0_ = 8) (x1_ : Int32) (y0_ : Int32) (by0_ : bd 1201 1201 y0_) (y1_ : Int32) (by1_ : bd 1 7 y1_) (hfx : Fs L kd f0 [(8, 6, a0_, .int y0_), (8, 8, a0_, .int y1_)]) : Met l yX8_take (.code yX8_take cX8_take 2 none :: lw_g) ({ frames := 1, cells := 0, slots := 0, locals := 23 }) (va_Pc [.ref a0_, .int x1_] (P3 (dC, dI) L tys f0 sz)) (va_Qv (fun (f : Nat → va_E) => (∃ z0_ : Int32, bd 1201 1201 z0_ ∧ Fs L kd f [(8, 6, a0_, .int z0_)])) (Q3 (dC, dI) L kd tys [(8, 6)] [] f0 sz) (pA L sz)) 0 0 (pA L sz) := by
  refine Met.ofW (cc := cX8_take) (maxL := 2) (ret := none) (by decide) rfl ?_
  intro p e s m args below meth c s₁ B hml hv
  obtain ⟨rfl, hsz, hP, hK, hD0⟩ := hv
  have hx := B.exec
  have hb := B.bytes
  have hr := B.returns
  have hts := atoms_spec (ws := (.code yX8_take cX8_take 2 none :: lw_g)) B.pre
  have hown : s.vm.findClass RX8 = some m.cls := findClass_of_methodNamed B.named
  have hlocks := B.notSynchronized
  subst hsz
  have g : G3 (dC, dI) L kd tys s f0 [(8, 6)] [] f0 s.heap [] [(8, 6, a0_, .int y0_), (8, 8, a0_, .int y1_)] := G3.start hP hD0 hWT hfx
  have hl := lv_entry ([.ref a0_, .int x1_]) (n := 2) (Nat.le_of_ble_eq_true rfl)
  rw [lg_entry_eq]
  generalize (lg_sl ([.ref a0_, .int x1_]) ++ List.replicate (2 - (lg_sl ([.ref a0_, .int x1_])).length) Slot.unset).toArray = ls at hl ⊢
  have hl : lv_has ls 2 [(0, .ref a0_), (1, .int x1_)] := hl
  refine W_q (fun Q hQ => ?_)
  refine lv_aload_n hx hb dX8_take_0 rfl (lv_at hl 0 rfl) ?_
  refine g_getr (K := 148) (C := RX8) (T := TX8) (N := 10) hx hb hts (mc_ inX8) hown hK g ma0_ ka0_ (by decide) rfl 0 (by decide) rfl (hts _ (List.mem_cons_of_mem _ t_285)) (fun _ h9 => h9) rfl dX8_take_1 (fun a_1 ma_1 ka_1 g => ?_)
  refine lv_aload_n hx hb dX8_take_4 rfl (lv_at hl 0 rfl) ?_
  refine g_getk (C := RX8) (T := TX8) (N := 10) hx hb hts (mc_ inX8) hown hK g rfl 6 (by decide) rfl (hts _ (List.mem_cons_of_mem _ t_291)) (fun _ h9 => h9) 1 rfl dX8_take_5 ?_
  refine g_kald hx hb hK g ma_1 ka_1 (by decide) rfl (in_bd by0_ (by decide)) dX8_take_8 (fun x_2 bx_2 cx_2 zx_2 => ?_)
  obtain rfl : x_2 = 0 := zx_2 by0_
  refine lv_iload_n hx hb dX8_take_9 rfl (lv_at hl 1 rfl) ?_
  have kb_0 : bd 0 0 (0 : Int32) := ⟨by decide, by decide⟩
  refine lv_icmp_ne (tgt := 20) hx hb dX8_take_10 (by decide) (fun c_3 => ?_) (fun c_3 => ?_)
  · have fc_3 := neq_f c_3
    refine lv_aload_n hx hb dX8_take_20 rfl (lv_at hl 0 rfl) ?_
    refine lv_iconst (v := 1) hx hb dX8_take_21 (by decide) ?_
    refine lv_aload_n hx hb dX8_take_22 rfl (lv_at hl 0 rfl) ?_
    refine g_getr (K := 149) (C := RX8) (T := TX8) (N := 10) hx hb hts (mc_ inX8) hown hK g ma0_ ka0_ (by decide) rfl 1 (by decide) rfl (hts _ (List.mem_cons_of_mem _ t_286)) (fun _ h9 => h9) rfl dX8_take_23 (fun a_4 ma_4 ka_4 g => ?_)
    refine lv_aload_n hx hb dX8_take_26 rfl (lv_at hl 0 rfl) ?_
    refine g_getk (C := RX8) (T := TX8) (N := 10) hx hb hts (mc_ inX8) hown hK g rfl 6 (by decide) rfl (hts _ (List.mem_cons_of_mem _ t_291)) (fun _ h9 => h9) 2 rfl dX8_take_27 ?_
    refine g_iald hx hb hK g ma_4 ka_4 (by decide) rfl (in_bd by0_ (by decide)) dX8_take_30 (fun x_5 bx_5 cx_5 => ?_)
    have kb_1 : bd 1 1 (1 : Int32) := ⟨by decide, by decide⟩
    refine g_callv (va_runV (As := [.int 1, .int x_5]) (rest := []) ⟨hx, hb, hml, hown, hts⟩ (r_X8_fail_8 l dC dI L kd tys f0 s.heap.size g.2.2.2.1 a0_ ma0_ ka0_ 1 kb_1 x_5 y1_ by1_ (g.fcts [3] rfl)) (cwV 2 hts (gV_ t_1106 t_1107 t_1108 t_184 t_1109) rfl rfl rfl (by decide +kernel) ⟨(Nat.le_of_ble_eq_true rfl), (Nat.le_of_ble_eq_true rfl)⟩) (pre3V g hK ma0_ ka0_ (by decide) (q := (RX8, TX8, 10)) rfl) rfl rfl hl.1 rfl (lv_room (Nat.le_of_ble_eq_true rfl)) dX8_take_31 ⟨(Nat.le_of_ble_eq_true rfl), (Nat.le_of_ble_eq_true rfl)⟩) g hK (by decide) (by decide) (fx' := [(8, 1, a0_, .ref a_4), (8, 0, a0_, .ref a_1), (8, 8, a0_, .int y1_)]) rfl (fun fr_6 H locs hp hMr_6 g => ?_)
    have hF_7 := hp
    have g := g.more hF_7
    have kb_1201 : bd 1201 1201 (1201 : Int32) := ⟨by decide, by decide⟩
    subst hQ
    exact W.vret hx hb hr (fun t ht hW => ⟨⟨_, rfl, ⟨1201, kb_1201, (g.fcts [0] rfl)⟩, q3_of g hK ht hW⟩, g.2.2.1.F ht⟩) g.2.2.1.2.2 dX8_take_34
  · have fc_3 := eq_f c_3
    have b_8 : bd 0 0 x1_ := eqX fc_3.symm (bdT x1_) kb_0 (by decide)
    refine lv_aload_n hx hb dX8_take_13 rfl (lv_at hl 0 rfl) ?_
    refine g_callv (va_runV (As := []) (rest := []) ⟨hx, hb, hml, hown, hts⟩ (r_X8_next_2 l dC dI L kd tys f0 s.heap.size g.2.2.2.1 a0_ ma0_ ka0_ y0_ by0_ (g.fcts [1] rfl)) (cwV 0 hts (gV_ t_1102 t_1103 t_1104 t_184 t_1105) rfl rfl rfl (by decide +kernel) ⟨(Nat.le_of_ble_eq_true rfl), (Nat.le_of_ble_eq_true rfl)⟩) (pre3V g hK ma0_ ka0_ (by decide) (q := (RX8, TX8, 10)) rfl) rfl rfl hl.1 rfl (lv_room (Nat.le_of_ble_eq_true rfl)) dX8_take_14 ⟨(Nat.le_of_ble_eq_true rfl), (Nat.le_of_ble_eq_true rfl)⟩) g hK (by decide) (by decide) (fx' := [(8, 0, a0_, .ref a_1), (8, 6, a0_, .int y0_), (8, 8, a0_, .int y1_)]) rfl (fun fr_9 H locs hp hMr_9 g => ?_)
    refine lv_goto (tgt := 34) hx hb dX8_take_17 (by decide) ?_
    subst hQ
    exact W.vret hx hb hr (fun t ht hW => ⟨⟨_, rfl, ⟨y0_, by0_, (g.fcts [1] rfl)⟩, q3_of g hK ht hW⟩, g.2.2.1.F ht⟩) g.2.2.1.2.2 dX8_take_34
set_option maxHeartbeats 4000000 in
set_option maxRecDepth 100000 in
theorem r_X8_fail_10 (l : Launch) (dC : Nat → ClassId) (dI : Nat → Nat → Nat) (L : List Nat) (kd : Nat → Nat) (tys : List (ClassId × FieldType)) (f0 : Nat → va_E) (sz : Nat) (hWT : WT L kd tys f0) (a0_ : Nat) (ma0_ : a0_ ∈ L) (ka0_ : kd a0_ = 8) (x1_ : Int32) (bx1_ : bd 2 2 x1_) (x2_ : Int32) (y0_ : Int32) (by0_ : bd 1 7 y0_) (hfx : Fs L kd f0 [(8, 8, a0_, .int y0_)]) : Met l yX8_fail (.code yX8_fail cX8_fail 4 none :: lw_g) ({ frames := 0, cells := 0, slots := 0, locals := 0 }) (va_Pc [.ref a0_, .int x1_, .int x2_] (P3 (dC, dI) L tys f0 sz)) (va_Qv (fun (f : Nat → va_E) => (Fs L kd f [(8, 6, a0_, .int 1201)])) (Q3 (dC, dI) L kd tys [(8, 6)] [] f0 sz) (pA L sz)) 0 0 (pA L sz) := by
  refine Met.ofW (cc := cX8_fail) (maxL := 4) (ret := none) (by decide) rfl ?_
  intro p e s m args below meth c s₁ B hml hv
  obtain ⟨rfl, hsz, hP, hK, hD0⟩ := hv
  have hx := B.exec
  have hb := B.bytes
  have hr := B.returns
  have hts := atoms_spec (ws := (.code yX8_fail cX8_fail 4 none :: lw_g)) B.pre
  have hown : s.vm.findClass RX8 = some m.cls := findClass_of_methodNamed B.named
  have hlocks := B.notSynchronized
  subst hsz
  have g : G3 (dC, dI) L kd tys s f0 [(8, 6)] [] f0 s.heap [] [(8, 8, a0_, .int y0_)] := G3.start hP hD0 hWT hfx
  have hl := lv_entry ([.ref a0_, .int x1_, .int x2_]) (n := 4) (Nat.le_of_ble_eq_true rfl)
  rw [lg_entry_eq]
  generalize (lg_sl ([.ref a0_, .int x1_, .int x2_]) ++ List.replicate (4 - (lg_sl ([.ref a0_, .int x1_, .int x2_])).length) Slot.unset).toArray = ls at hl ⊢
  have hl : lv_has ls 4 [(0, .ref a0_), (1, .int x1_), (2, .int x2_)] := hl
  refine W_q (fun Q hQ => ?_)
  refine lv_aload_n hx hb dX8_fail_0 rfl (lv_at hl 0 rfl) ?_
  refine g_geti (C := RX8) (T := TX8) (N := 10) hx hb hts (mc_ inX8) hown hK g ma0_ ka0_ (by decide) rfl 6 (by decide) rfl (hts _ (List.mem_cons_of_mem _ t_291)) (fun _ h9 => h9) rfl dX8_fail_1 (fun x_1 bx_1 g => ?_)
  refine lv_sipush (v := 1200) hx hb dX8_fail_4 (by decide) ?_
  have kb_1200 : bd 1200 1200 (1200 : Int32) := ⟨by decide, by decide⟩
  refine lv_icmp_le (tgt := 31) hx hb dX8_fail_7 (by decide) (fun c_2 => ?_) (fun c_2 => ?_)
  · have fc_2 := le_f c_2
    have b_3 : bd 0 1200 x_1 := leL fc_2 bx_1 kb_1200 (by decide)
    refine lv_iconst (v := 0) hx hb dX8_fail_31 (by decide) ?_
    refine lv_istore_n (lv' := [(3, .int 0), (0, .ref a0_), (1, .int x1_), (2, .int x2_)]) hx hb dX8_fail_32 rfl hl (by decide) rfl (fun ls hl => ?_)
    refine lv_aload_n hx hb dX8_fail_33 rfl (lv_at hl 1 rfl) ?_
    refine g_getk (C := RX8) (T := TX8) (N := 10) hx hb hts (mc_ inX8) hown hK g rfl 8 (by decide) rfl (hts _ (List.mem_cons_of_mem _ t_295)) (fun _ h9 => h9) 1 rfl dX8_fail_34 ?_
    have kb_0 : bd 0 0 (0 : Int32) := ⟨by decide, by decide⟩
    refine lv_if_ne (tgt := 73) hx hb dX8_fail_37 (by decide) (fun c_4 => ?_) (fun c_4 => ?_)
    · have fc_4 := neq_f c_4
      refine lv_aload_n hx hb dX8_fail_73 rfl (lv_at hl 1 rfl) ?_
      refine lv_sipush (v := 1201) hx hb dX8_fail_74 (by decide) ?_
      have kb_1201 : bd 1201 1201 (1201 : Int32) := ⟨by decide, by decide⟩
      refine g_put (C := RX8) (T := TX8) (N := 10) hx hb hts (mc_ inX8) tyX8 tyX8_ok nmX8 hown hK g ma0_ ka0_ (by decide) rfl 6 (by decide) (hts _ (List.mem_cons_of_mem _ t_291)) (fun _ h9 => h9) rfl rfl (okV_i (bd_sub kb_1201 (by decide))) rfl rfl (by decide) (Or.inr (Or.inl (by decide))) (fx' := [(8, 8, a0_, .int y0_)]) rfl dX8_fail_77 (fun f H locs hM_5 g => ?_)
      subst hQ
      exact W.vret hx hb hr (fun t ht hW => ⟨⟨_, rfl, (g.fcts [0] rfl), q3_of g hK ht hW⟩, g.2.2.1.F ht⟩) g.2.2.1.2.2 dX8_fail_80
    · have fc_4 := eq_f c_4
      have b_6 : bd 1 0 y0_ := eqX fc_4 by0_ kb_0 (by decide)
      exact bd_no b_6 (by decide)
  · have fc_2 := nle_f c_2
    have b_7 : bd 1201 1201 x_1 := ltR fc_2 kb_1200 bx_1 (by decide)
    refine lv_iload_n hx hb dX8_fail_10 rfl (lv_at hl 1 rfl) ?_
    refine lv_iconst (v := 4) hx hb dX8_fail_11 (by decide) ?_
    have kb_4 : bd 4 4 (4 : Int32) := ⟨by decide, by decide⟩
    refine lv_icmp_gt (tgt := 27) hx hb dX8_fail_12 (by decide) (fun c_8 => ?_) (fun c_8 => ?_)
    · have fc_8 := lt_f c_8
      have b_9 : bd 4 1 (4 : Int32) := ltL fc_8 kb_4 bx1_ (by decide)
      exact bd_no (eqX rfl b_9 kb_4 (lo := 4) (hi := 1) (by decide)) (by decide)
    · have fc_8 := nlt_f c_8
      refine lv_iload_n hx hb dX8_fail_15 rfl (lv_at hl 2 rfl) ?_
      refine lv_aload_n hx hb dX8_fail_16 rfl (lv_at hl 0 rfl) ?_
      refine g_getr (K := 149) (C := RX8) (T := TX8) (N := 10) hx hb hts (mc_ inX8) hown hK g ma0_ ka0_ (by decide) rfl 1 (by decide) rfl (hts _ (List.mem_cons_of_mem _ t_286)) (fun _ h9 => h9) rfl dX8_fail_17 (fun a_10 ma_10 ka_10 g => ?_)
      refine lv_sipush (v := 1200) hx hb dX8_fail_20 (by decide) ?_
      refine g_iald hx hb hK g ma_10 ka_10 (by decide) rfl (by unfold vp_in; decide) dX8_fail_23 (fun x_11 bx_11 cx_11 => ?_)
      refine lv_icmp_eq (tgt := 31) hx hb dX8_fail_24 (by decide) (fun c_12 => ?_) (fun c_12 => ?_)
      · have fc_12 := eq_f c_12
        refine lv_iconst (v := 0) hx hb dX8_fail_31 (by decide) ?_
        refine lv_istore_n (lv' := [(3, .int 0), (0, .ref a0_), (1, .int x1_), (2, .int x2_)]) hx hb dX8_fail_32 rfl hl (by decide) rfl (fun ls hl => ?_)
        refine lv_aload_n hx hb dX8_fail_33 rfl (lv_at hl 1 rfl) ?_
        refine g_getk (C := RX8) (T := TX8) (N := 10) hx hb hts (mc_ inX8) hown hK g rfl 8 (by decide) rfl (hts _ (List.mem_cons_of_mem _ t_295)) (fun _ h9 => h9) 2 rfl dX8_fail_34 ?_
        have kb_0 : bd 0 0 (0 : Int32) := ⟨by decide, by decide⟩
        refine lv_if_ne (tgt := 73) hx hb dX8_fail_37 (by decide) (fun c_13 => ?_) (fun c_13 => ?_)
        · have fc_13 := neq_f c_13
          refine lv_aload_n hx hb dX8_fail_73 rfl (lv_at hl 1 rfl) ?_
          refine lv_sipush (v := 1201) hx hb dX8_fail_74 (by decide) ?_
          have kb_1201 : bd 1201 1201 (1201 : Int32) := ⟨by decide, by decide⟩
          refine g_put (C := RX8) (T := TX8) (N := 10) hx hb hts (mc_ inX8) tyX8 tyX8_ok nmX8 hown hK g ma0_ ka0_ (by decide) rfl 6 (by decide) (hts _ (List.mem_cons_of_mem _ t_291)) (fun _ h9 => h9) rfl rfl (okV_i (bd_sub kb_1201 (by decide))) rfl rfl (by decide) (Or.inr (Or.inl (by decide))) (fx' := [(8, 1, a0_, .ref a_10), (8, 8, a0_, .int y0_)]) rfl dX8_fail_77 (fun f H locs hM_14 g => ?_)
          subst hQ
          exact W.vret hx hb hr (fun t ht hW => ⟨⟨_, rfl, (g.fcts [0] rfl), q3_of g hK ht hW⟩, g.2.2.1.F ht⟩) g.2.2.1.2.2 dX8_fail_80
        · have fc_13 := eq_f c_13
          have b_15 : bd 1 0 y0_ := eqX fc_13 by0_ kb_0 (by decide)
          exact bd_no b_15 (by decide)
      · have fc_12 := neq_f c_12
        refine lv_iconst (v := 1) hx hb dX8_fail_27 (by decide) ?_
        refine lv_goto (tgt := 32) hx hb dX8_fail_28 (by decide) ?_
        refine lv_istore_n (lv' := [(3, .int 1), (0, .ref a0_), (1, .int x1_), (2, .int x2_)]) hx hb dX8_fail_32 rfl hl (by decide) rfl (fun ls hl => ?_)
        refine lv_aload_n hx hb dX8_fail_33 rfl (lv_at hl 1 rfl) ?_
        refine g_getk (C := RX8) (T := TX8) (N := 10) hx hb hts (mc_ inX8) hown hK g rfl 8 (by decide) rfl (hts _ (List.mem_cons_of_mem _ t_295)) (fun _ h9 => h9) 2 rfl dX8_fail_34 ?_
        have kb_0 : bd 0 0 (0 : Int32) := ⟨by decide, by decide⟩
        refine lv_if_ne (tgt := 73) hx hb dX8_fail_37 (by decide) (fun c_16 => ?_) (fun c_16 => ?_)
        · have fc_16 := neq_f c_16
          refine lv_aload_n hx hb dX8_fail_73 rfl (lv_at hl 1 rfl) ?_
          refine lv_sipush (v := 1201) hx hb dX8_fail_74 (by decide) ?_
          have kb_1201 : bd 1201 1201 (1201 : Int32) := ⟨by decide, by decide⟩
          refine g_put (C := RX8) (T := TX8) (N := 10) hx hb hts (mc_ inX8) tyX8 tyX8_ok nmX8 hown hK g ma0_ ka0_ (by decide) rfl 6 (by decide) (hts _ (List.mem_cons_of_mem _ t_291)) (fun _ h9 => h9) rfl rfl (okV_i (bd_sub kb_1201 (by decide))) rfl rfl (by decide) (Or.inr (Or.inl (by decide))) (fx' := [(8, 1, a0_, .ref a_10), (8, 8, a0_, .int y0_)]) rfl dX8_fail_77 (fun f H locs hM_17 g => ?_)
          subst hQ
          exact W.vret hx hb hr (fun t ht hW => ⟨⟨_, rfl, (g.fcts [0] rfl), q3_of g hK ht hW⟩, g.2.2.1.F ht⟩) g.2.2.1.2.2 dX8_fail_80
        · have fc_16 := eq_f c_16
          have b_18 : bd 1 0 y0_ := eqX fc_16 by0_ kb_0 (by decide)
          exact bd_no b_18 (by decide)
