set_option maxHeartbeats 4000000 in
set_option maxRecDepth 100000 in
theorem r_X2_findAbove (l : Launch) (dC : Nat → ClassId) (dI : Nat → Nat → Nat) (L : List Nat) (kd : Nat → Nat) (tys : List (ClassId × FieldType)) (f0 : Nat → va_E) (sz : Nat) (hWT : WT L kd tys f0) (a0_ : Nat) (ma0_ : a0_ ∈ L) (ka0_ : kd a0_ = 2) (q0_ : Nat) (mq0_ : q0_ ∈ L) (kq0_ : kd q0_ = 8) (q1_ : Nat) (mq1_ : q1_ ∈ L) (kq1_ : kd q1_ = 7) (q2_ : Nat) (mq2_ : q2_ ∈ L) (kq2_ : kd q2_ = 9) (hfx : Fs L kd f0 [(2, 0, a0_, .ref q0_), (2, 3, a0_, .ref q1_), (2, 4, a0_, .ref q2_)]) : Met l yX2_findAbove (.code yX2_findAbove cX2_findAbove 4 (some .boolean) :: lw_g) ({ frames := 2, cells := 0, slots := 0, locals := 44 }) (va_Pc [.ref a0_] (P3 (dC, dI) L tys f0 sz)) (va_Qi (fun (r : Int32) (f : Nat → va_E) => (r = 1 ∧ ∃ z0_ : Int32, bd 1 1201 z0_ ∧ Fs L kd f [(8, 6, q0_, .int z0_)])) (Q3 (dC, dI) L kd tys [(2, 12), (2, 13), (2, 14), (8, 6), (8, 8), (8, 9)] [] f0 sz) (pA L sz)) 0 0 (pA L sz) := by
  refine Met.ofW (cc := cX2_findAbove) (maxL := 4) (ret := (some .boolean)) (by decide) rfl ?_
  intro p e s m args below meth c s₁ B hml hv
  obtain ⟨rfl, hsz, hP, hK, hD0⟩ := hv
  have hx := B.exec
  have hb := B.bytes
  have hr := B.returns
  have hts := atoms_spec (ws := (.code yX2_findAbove cX2_findAbove 4 (some .boolean) :: lw_g)) B.pre
  have hown : s.vm.findClass RX2 = some m.cls := findClass_of_methodNamed B.named
  have hlocks := B.notSynchronized
  subst hsz
  have g : G3 (dC, dI) L kd tys s f0 [(2, 12), (2, 13), (2, 14), (8, 6), (8, 8), (8, 9)] [] f0 s.heap [] [(2, 0, a0_, .ref q0_), (2, 3, a0_, .ref q1_), (2, 4, a0_, .ref q2_)] := G3.start hP hD0 hWT hfx
  have hl := lv_entry ([.ref a0_]) (n := 4) (Nat.le_of_ble_eq_true rfl)
  rw [lg_entry_eq]
  generalize (lg_sl ([.ref a0_]) ++ List.replicate (4 - (lg_sl ([.ref a0_])).length) Slot.unset).toArray = ls at hl ⊢
  have hl : lv_has ls 4 [(0, .ref a0_)] := hl
  refine W_q (fun Q hQ => ?_)
  refine lv_aload_n hx hb dX2_findAbove_0 rfl (lv_at hl 0 rfl) ?_
  refine g_getk (C := RX2) (T := TX2) (N := 16) hx hb hts (mc_ inX2) hown hK g rfl 0 (by decide) rfl (hts _ (List.mem_cons_of_mem _ t_416)) (fun _ h9 => h9) 0 rfl dX2_findAbove_1 ?_
  refine g_calli (va_runV (As := []) (rest := []) ⟨hx, hb, hml, hown, hts⟩ (r_X8_place l dC dI L kd tys f0 s.heap.size g.2.2.2.1 q0_ mq0_ kq0_) (cwV 0 hts (gV_ t_1110 t_1111 t_1112 t_184 t_1113) rfl rfl rfl (by decide +kernel) ⟨(Nat.le_of_ble_eq_true rfl), (Nat.le_of_ble_eq_true rfl)⟩) (pre3V g hK mq0_ kq0_ (by decide) (q := (RX8, TX8, 10)) rfl) rfl rfl hl.1 rfl (lv_room (Nat.le_of_ble_eq_true rfl)) dX2_findAbove_4 ⟨(Nat.le_of_ble_eq_true rfl), (Nat.le_of_ble_eq_true rfl)⟩) g hK (by decide) (by decide) (fx' := [(2, 0, a0_, .ref q0_), (2, 3, a0_, .ref q1_), (2, 4, a0_, .ref q2_)]) rfl (fun r_1 fr_1 H locs hp hMr_1 g => ?_)
  refine lv_istore_n (lv' := [(1, .int r_1), (0, .ref a0_)]) hx hb dX2_findAbove_7 rfl hl (by decide) rfl (fun ls hl => ?_)
  refine lv_aload_n hx hb dX2_findAbove_8 rfl (lv_at hl 1 rfl) ?_
  refine g_getk (C := RX2) (T := TX2) (N := 16) hx hb hts (mc_ inX2) hown hK g rfl 0 (by decide) rfl (hts _ (List.mem_cons_of_mem _ t_416)) (fun _ h9 => h9) 0 rfl dX2_findAbove_9 ?_
  refine g_callv (va_runV (As := []) (rest := []) ⟨hx, hb, hml, hown, hts⟩ (r_X8_next l dC dI L kd tys fr_1 H.size g.2.2.2.1 q0_ mq0_ kq0_) (cwV 0 hts (gV_ t_1131 t_1103 t_1104 t_184 t_1105) rfl rfl rfl (by decide +kernel) ⟨(Nat.le_of_ble_eq_true rfl), (Nat.le_of_ble_eq_true rfl)⟩) (pre3V g hK mq0_ kq0_ (by decide) (q := (RX8, TX8, 10)) rfl) rfl rfl hl.1 rfl (lv_room (Nat.le_of_ble_eq_true rfl)) dX2_findAbove_12 ⟨(Nat.le_of_ble_eq_true rfl), (Nat.le_of_ble_eq_true rfl)⟩) g hK (by decide) (by decide) (fx' := [(2, 0, a0_, .ref q0_), (2, 3, a0_, .ref q1_), (2, 4, a0_, .ref q2_)]) rfl (fun fr_2 H locs hp hMr_2 g => ?_)
  obtain ⟨x_3, h_4, hF_5⟩ := hp
  have g := g.more hF_5
  refine lv_aload_n hx hb dX2_findAbove_15 rfl (lv_at hl 1 rfl) ?_
  refine g_getk (C := RX2) (T := TX2) (N := 16) hx hb hts (mc_ inX2) hown hK g rfl 3 (by decide) rfl (hts _ (List.mem_cons_of_mem _ t_419)) (fun _ h9 => h9) 2 rfl dX2_findAbove_16 ?_
  refine lv_aload_n hx hb dX2_findAbove_19 rfl (lv_at hl 1 rfl) ?_
  refine g_getk (C := RX2) (T := TX2) (N := 16) hx hb hts (mc_ inX2) hown hK g rfl 4 (by decide) rfl (hts _ (List.mem_cons_of_mem _ t_420)) (fun _ h9 => h9) 3 rfl dX2_findAbove_20 ?_
  refine g_geti (C := RX9) (T := TX9) (N := 13) hx hb hts (mc_ inX9) hown hK g mq2_ kq2_ (by decide) rfl 1 (by decide) rfl (hts _ (List.mem_cons_of_mem _ t_484)) (fun _ h9 => h9) rfl dX2_findAbove_23 (fun x_6 bx_6 g => ?_)
  refine g_calli (va_runV (As := [.int x_6]) (rest := []) ⟨hx, hb, hml, hown, hts⟩ (r_X7_hasClass l dC dI L kd tys fr_2 H.size g.2.2.2.1 q1_ mq1_ kq1_ x_6) (cwV 1 hts (gV_ t_1387 t_1281 t_1282 t_191 t_1283) rfl rfl rfl (by decide +kernel) ⟨(Nat.le_of_ble_eq_true rfl), (Nat.le_of_ble_eq_true rfl)⟩) (pre3V g hK mq1_ kq1_ (by decide) (q := (RX7, TX7, 19)) rfl) rfl rfl hl.1 rfl (lv_room (Nat.le_of_ble_eq_true rfl)) dX2_findAbove_26 ⟨(Nat.le_of_ble_eq_true rfl), (Nat.le_of_ble_eq_true rfl)⟩) g hK (by decide) (by decide) (fx' := [(9, 1, q2_, .int x_6), (8, 6, q0_, .int x_3), (2, 0, a0_, .ref q0_), (2, 3, a0_, .ref q1_), (2, 4, a0_, .ref q2_)]) rfl (fun r_7 fr_7 H locs hp hMr_7 g => ?_)
  rcases hp with ⟨h_8, -⟩ | ⟨h_9, h_10, x_11, h_12, hF_13⟩
  · obtain rfl : r_7 = 0 := h_8
    refine lv_if_ne (tgt := 43) hx hb dX2_findAbove_29 (by decide) (fun c_ => absurd c_ (by decide)) (fun c_ => ?_)
    refine lv_aload_n hx hb dX2_findAbove_32 rfl (lv_at hl 1 rfl) ?_
    refine g_getk (C := RX2) (T := TX2) (N := 16) hx hb hts (mc_ inX2) hown hK g rfl 0 (by decide) rfl (hts _ (List.mem_cons_of_mem _ t_416)) (fun _ h9 => h9) 2 rfl dX2_findAbove_33 ?_
    refine lv_iconst (v := 5) hx hb dX2_findAbove_36 (by decide) ?_
    refine lv_iload_n hx hb dX2_findAbove_37 rfl (lv_at hl 0 rfl) ?_
    have kb_5 : bd 5 5 (5 : Int32) := ⟨by decide, by decide⟩
    refine g_callv (va_runV (As := [.int 5, .int r_1]) (rest := []) ⟨hx, hb, hml, hown, hts⟩ (r_X8_fail_2 l dC dI L kd tys fr_7 H.size g.2.2.2.1 q0_ mq0_ kq0_ 5 kb_5 r_1 x_3 h_4 (g.fcts [1] rfl)) (cwV 2 hts (gV_ t_1122 t_1107 t_1108 t_184 t_1109) rfl rfl rfl (by decide +kernel) ⟨(Nat.le_of_ble_eq_true rfl), (Nat.le_of_ble_eq_true rfl)⟩) (pre3V g hK mq0_ kq0_ (by decide) (q := (RX8, TX8, 10)) rfl) rfl rfl hl.1 rfl (lv_room (Nat.le_of_ble_eq_true rfl)) dX2_findAbove_38 ⟨(Nat.le_of_ble_eq_true rfl), (Nat.le_of_ble_eq_true rfl)⟩) g hK (by decide) (by decide) (fx' := [(9, 1, q2_, .int x_6), (2, 0, a0_, .ref q0_), (2, 3, a0_, .ref q1_), (2, 4, a0_, .ref q2_)]) rfl (fun fr_14 H locs hp hMr_14 g => ?_)
    obtain ⟨x_15, h_16, hF_17⟩ := hp
    have g := g.more hF_17
    refine lv_iconst (v := 1) hx hb dX2_findAbove_41 (by decide) ?_
    have kb_1201 : bd 1201 1201 (1201 : Int32) := ⟨by decide, by decide⟩
    subst hQ
    have kb_1 : bd 1 1 (1 : Int32) := ⟨by decide, by decide⟩
    exact W.zret (v := 1) hx hb hr (nar_z (bd_sub kb_1 (by decide) : bd 0 1 _).1 (bd_sub kb_1 (by decide) : bd 0 1 _).2) (fun t ht hW => ⟨⟨_, _, rfl, ⟨rfl, 1201, (bd_sub kb_1201 (by decide)), (g.fcts [0] rfl)⟩, q3_of g hK ht hW⟩, g.2.2.1.F ht⟩) g.2.2.1.2.2 dX2_findAbove_42
  · obtain rfl : r_7 = 1 := h_9
    have b_18 : bd 0 7 x_6 := eqX rfl (bdT x_6) h_10 (by decide)
    have g := g.more hF_13
    refine lv_if_ne (tgt := 43) hx hb dX2_findAbove_29 (by decide) (fun c_ => ?_) (fun c_ => absurd c_ (by decide))
    refine lv_aload_n hx hb dX2_findAbove_43 rfl (lv_at hl 1 rfl) ?_
    refine g_getk (C := RX2) (T := TX2) (N := 16) hx hb hts (mc_ inX2) hown hK g rfl 3 (by decide) rfl (hts _ (List.mem_cons_of_mem _ t_419)) (fun _ h9 => h9) 4 rfl dX2_findAbove_44 ?_
    refine g_getr (K := 136) (C := RX7) (T := TX7) (N := 19) hx hb hts (mc_ inX7) hown hK g mq1_ kq1_ (by decide) rfl 0 (by decide) rfl (hts _ (List.mem_cons_of_mem _ t_621)) (fun _ h9 => h9) rfl dX2_findAbove_47 (fun a_19 ma_19 ka_19 g => ?_)
    refine lv_aload_n hx hb dX2_findAbove_50 rfl (lv_at hl 1 rfl) ?_
    refine g_getk (C := RX2) (T := TX2) (N := 16) hx hb hts (mc_ inX2) hown hK g rfl 4 (by decide) rfl (hts _ (List.mem_cons_of_mem _ t_420)) (fun _ h9 => h9) 6 rfl dX2_findAbove_51 ?_
    refine g_getk (C := RX9) (T := TX9) (N := 13) hx hb hts (mc_ inX9) hown hK g rfl 1 (by decide) rfl (hts _ (List.mem_cons_of_mem _ t_484)) (fun _ h9 => h9) 2 rfl dX2_findAbove_54 ?_
    refine g_aald hx hb hK g ma_19 ka_19 (by decide) rfl (by decide) (in_bd b_18 (by decide)) dX2_findAbove_57 (fun a_20 ma_20 ua_20 wa_20 => ?_)
    have ka_20 : kd a_20 = 9 := by omega
    refine lv_astore_n (lv' := [(2, .ref a_20), (1, .int r_1), (0, .ref a0_)]) hx hb dX2_findAbove_58 rfl hl (by decide) rfl (fun ls hl => ?_)
    refine lv_aload_n hx hb dX2_findAbove_59 rfl (lv_at hl 2 rfl) ?_
    refine g_getk (C := RX2) (T := TX2) (N := 16) hx hb hts (mc_ inX2) hown hK g rfl 0 (by decide) rfl (hts _ (List.mem_cons_of_mem _ t_416)) (fun _ h9 => h9) 4 rfl dX2_findAbove_60 ?_
    refine lv_bipush (v := 46) hx hb dX2_findAbove_63 (by decide) ?_
    refine g_callv (va_runV (As := [.int 46]) (rest := []) ⟨hx, hb, hml, hown, hts⟩ (r_X8_take l dC dI L kd tys fr_7 H.size g.2.2.2.1 q0_ mq0_ kq0_ 46) (cwV 1 hts (gV_ t_1098 t_1099 t_1100 t_184 t_1101) rfl rfl rfl (by decide +kernel) ⟨(Nat.le_of_ble_eq_true rfl), (Nat.le_of_ble_eq_true rfl)⟩) (pre3V g hK mq0_ kq0_ (by decide) (q := (RX8, TX8, 10)) rfl) rfl rfl hl.1 rfl (lv_room (Nat.le_of_ble_eq_true rfl)) dX2_findAbove_65 ⟨(Nat.le_of_ble_eq_true rfl), (Nat.le_of_ble_eq_true rfl)⟩) g hK (by decide) (by decide) (fx' := [(7, 0, q1_, .ref a_19), (7, 1, q1_, .int x_11), (9, 1, q2_, .int x_6), (2, 0, a0_, .ref q0_), (2, 3, a0_, .ref q1_), (2, 4, a0_, .ref q2_)]) rfl (fun fr_21 H locs hp hMr_21 g => ?_)
    obtain ⟨x_22, h_23, hF_24⟩ := hp
    have g := g.more hF_24
    refine lv_aload_n hx hb dX2_findAbove_68 rfl (lv_at hl 2 rfl) ?_
    refine g_getk (C := RX2) (T := TX2) (N := 16) hx hb hts (mc_ inX2) hown hK g rfl 3 (by decide) rfl (hts _ (List.mem_cons_of_mem _ t_419)) (fun _ h9 => h9) 5 rfl dX2_findAbove_69 ?_
    refine lv_aload_n hx hb dX2_findAbove_72 rfl (lv_at hl 0 rfl) ?_
    refine lv_aload_n hx hb dX2_findAbove_73 rfl (lv_at hl 2 rfl) ?_
    refine g_getk (C := RX2) (T := TX2) (N := 16) hx hb hts (mc_ inX2) hown hK g rfl 0 (by decide) rfl (hts _ (List.mem_cons_of_mem _ t_416)) (fun _ h9 => h9) 4 rfl dX2_findAbove_74 ?_
    refine g_calll (va_runV (As := []) (rest := [.ref a_20, .ref q1_]) ⟨hx, hb, hml, hown, hts⟩ (r_X8_value l dC dI L kd tys fr_21 H.size g.2.2.2.1 q0_ mq0_ kq0_) (cwV 0 hts (gV_ t_1114 t_1115 t_1116 t_184 t_1117) rfl rfl rfl (by decide +kernel) ⟨(Nat.le_of_ble_eq_true rfl), (Nat.le_of_ble_eq_true rfl)⟩) (pre3V g hK mq0_ kq0_ (by decide) (q := (RX8, TX8, 10)) rfl) rfl rfl hl.1 rfl (lv_room (Nat.le_of_ble_eq_true rfl)) dX2_findAbove_77 ⟨(Nat.le_of_ble_eq_true rfl), (Nat.le_of_ble_eq_true rfl)⟩) g hK (by decide) (by decide) (fx' := [(8, 6, q0_, .int x_22), (7, 0, q1_, .ref a_19), (7, 1, q1_, .int x_11), (9, 1, q2_, .int x_6), (2, 0, a0_, .ref q0_), (2, 3, a0_, .ref q1_), (2, 4, a0_, .ref q2_)]) rfl (fun r_25 fr_25 H locs hp hMr_25 g => ?_)
    refine g_calli (va_runV (As := [.ref a_20, .long r_25]) (rest := []) ⟨hx, hb, hml, hown, hts⟩ (r_X7_memberNamed l dC dI L kd tys fr_25 H.size g.2.2.2.1 q1_ mq1_ kq1_ a_20 ma_20 ka_20 r_25) (cwV 2 hts (gV_ t_1306 t_1244 t_1245 t_191 t_1246) rfl rfl rfl (by decide +kernel) ⟨(Nat.le_of_ble_eq_true rfl), (Nat.le_of_ble_eq_true rfl)⟩) (pre3V g hK mq1_ kq1_ (by decide) (q := (RX7, TX7, 19)) rfl) rfl rfl hl.1 rfl (lv_room (Nat.le_of_ble_eq_true rfl)) dX2_findAbove_80 ⟨(Nat.le_of_ble_eq_true rfl), (Nat.le_of_ble_eq_true rfl)⟩) g hK (by decide) (by decide) (fx' := [(8, 6, q0_, .int x_22), (7, 0, q1_, .ref a_19), (7, 1, q1_, .int x_11), (9, 1, q2_, .int x_6), (2, 0, a0_, .ref q0_), (2, 3, a0_, .ref q1_), (2, 4, a0_, .ref q2_)]) rfl (fun r_26 fr_26 H locs hp hMr_26 g => ?_)
    obtain ⟨h_27, -⟩ := hp
    refine lv_istore_n (lv' := [(3, .int r_26), (2, .ref a_20), (1, .int r_1), (0, .ref a0_)]) hx hb dX2_findAbove_83 rfl hl (by decide) rfl (fun ls hl => ?_)
    refine lv_aload_n hx hb dX2_findAbove_84 rfl (lv_at hl 3 rfl) ?_
    refine g_getk (C := RX2) (T := TX2) (N := 16) hx hb hts (mc_ inX2) hown hK g rfl 0 (by decide) rfl (hts _ (List.mem_cons_of_mem _ t_416)) (fun _ h9 => h9) 4 rfl dX2_findAbove_85 ?_
    refine g_calli (va_runV (As := []) (rest := []) ⟨hx, hb, hml, hown, hts⟩ (r_X8_kind l dC dI L kd tys fr_26 H.size g.2.2.2.1 q0_ mq0_ kq0_) (cwV 0 hts (gV_ t_1118 t_1119 t_1120 t_184 t_1121) rfl rfl rfl (by decide +kernel) ⟨(Nat.le_of_ble_eq_true rfl), (Nat.le_of_ble_eq_true rfl)⟩) (pre3V g hK mq0_ kq0_ (by decide) (q := (RX8, TX8, 10)) rfl) rfl rfl hl.1 rfl (lv_room (Nat.le_of_ble_eq_true rfl)) dX2_findAbove_88 ⟨(Nat.le_of_ble_eq_true rfl), (Nat.le_of_ble_eq_true rfl)⟩) g hK (by decide) (by decide) (fx' := [(8, 6, q0_, .int x_22), (7, 0, q1_, .ref a_19), (7, 1, q1_, .int x_11), (9, 1, q2_, .int x_6), (2, 0, a0_, .ref q0_), (2, 3, a0_, .ref q1_), (2, 4, a0_, .ref q2_)]) rfl (fun r_28 fr_28 H locs hp hMr_28 g => ?_)
    refine lv_iconst (v := 3) hx hb dX2_findAbove_91 (by decide) ?_
    have kb_3 : bd 3 3 (3 : Int32) := ⟨by decide, by decide⟩
    refine lv_icmp_eq (tgt := 113) hx hb dX2_findAbove_92 (by decide) (fun c_29 => ?_) (fun c_29 => ?_)
    · have fc_29 := eq_f c_29
      have b_30 : bd 3 3 r_28 := eqX fc_29 (bdT r_28) kb_3 (by decide)
      refine lv_iload_n hx hb dX2_findAbove_113 rfl (lv_at hl 0 rfl) ?_
      refine lv_iconst (v := (-1)) hx hb dX2_findAbove_114 (by decide) ?_
      have kb_m1 : bd (-1) (-1) ((-1) : Int32) := ⟨by decide, by decide⟩
      refine lv_icmp_ne (tgt := 136) hx hb dX2_findAbove_115 (by decide) (fun c_31 => ?_) (fun c_31 => ?_)
      · have fc_31 := neq_f c_31
        have b_32 : bd 0 11 r_26 := neX fc_31 h_27 kb_m1 (by decide)
        refine lv_aload_n hx hb dX2_findAbove_136 rfl (lv_at hl 3 rfl) ?_
        refine lv_bipush (v := 18) hx hb dX2_findAbove_137 (by decide) ?_
        have kb_18 : bd 18 18 (18 : Int32) := ⟨by decide, by decide⟩
        refine g_put (C := RX2) (T := TX2) (N := 16) hx hb hts (mc_ inX2) tyX2 tyX2_ok nmX2 hown hK g ma0_ ka0_ (by decide) rfl 12 (by decide) (hts _ (List.mem_cons_of_mem _ t_428)) (fun _ h9 => h9) rfl rfl (okV_i (bd_sub kb_18 (by decide))) rfl rfl (by decide) (Or.inr (Or.inl (by decide))) (fx' := [(8, 6, q0_, .int x_22), (7, 0, q1_, .ref a_19), (7, 1, q1_, .int x_11), (9, 1, q2_, .int x_6), (2, 0, a0_, .ref q0_), (2, 3, a0_, .ref q1_), (2, 4, a0_, .ref q2_)]) rfl dX2_findAbove_139 (fun f H locs g => ?_)
        refine lv_aload_n hx hb dX2_findAbove_142 rfl (lv_at hl 3 rfl) ?_
        refine lv_aload_n hx hb dX2_findAbove_143 rfl (lv_at hl 1 rfl) ?_
        refine g_getr (K := 156) (C := RX9) (T := TX9) (N := 13) hx hb hts (mc_ inX9) hown hK g ma_20 ka_20 (by decide) rfl 9 (by decide) rfl (hts _ (List.mem_cons_of_mem _ t_510)) (fun _ h9 => h9) rfl dX2_findAbove_144 (fun a_33 ma_33 ka_33 g => ?_)
        refine lv_iload_n hx hb dX2_findAbove_147 rfl (lv_at hl 0 rfl) ?_
        refine g_iald hx hb hK g ma_33 ka_33 (by decide) rfl (in_bd b_32 (by decide)) dX2_findAbove_148 (fun x_34 bx_34 => ?_)
        refine g_put (C := RX2) (T := TX2) (N := 16) hx hb hts (mc_ inX2) tyX2 tyX2_ok nmX2 hown hK g ma0_ ka0_ (by decide) rfl 13 (by decide) (hts _ (List.mem_cons_of_mem _ t_429)) (fun _ h9 => h9) rfl rfl (okV_i bx_34) rfl rfl (by decide) (Or.inr (Or.inl (by decide))) (fx' := [(9, 9, a_20, .ref a_33), (2, 12, a0_, .int 18), (8, 6, q0_, .int x_22), (7, 0, q1_, .ref a_19), (7, 1, q1_, .int x_11), (9, 1, q2_, .int x_6), (2, 0, a0_, .ref q0_), (2, 3, a0_, .ref q1_), (2, 4, a0_, .ref q2_)]) rfl dX2_findAbove_149 (fun f H locs g => ?_)
        refine lv_aload_n hx hb dX2_findAbove_152 rfl (lv_at hl 3 rfl) ?_
        refine lv_aload_n hx hb dX2_findAbove_153 rfl (lv_at hl 3 rfl) ?_
        refine g_getk (C := RX2) (T := TX2) (N := 16) hx hb hts (mc_ inX2) hown hK g rfl 3 (by decide) rfl (hts _ (List.mem_cons_of_mem _ t_419)) (fun _ h9 => h9) 8 rfl dX2_findAbove_154 ?_
        refine g_getr (K := 137) (C := RX7) (T := TX7) (N := 19) hx hb hts (mc_ inX7) hown hK g mq1_ kq1_ (by decide) rfl 2 (by decide) rfl (hts _ (List.mem_cons_of_mem _ t_630)) (fun _ h9 => h9) rfl dX2_findAbove_157 (fun a_35 ma_35 ka_35 g => ?_)
        refine lv_aload_n hx hb dX2_findAbove_160 rfl (lv_at hl 3 rfl) ?_
        refine g_getk (C := RX2) (T := TX2) (N := 16) hx hb hts (mc_ inX2) hown hK g rfl 13 (by decide) rfl (hts _ (List.mem_cons_of_mem _ t_429)) (fun _ h9 => h9) 1 rfl dX2_findAbove_161 ?_
        refine g_aald hx hb hK g ma_35 ka_35 (by decide) rfl (by decide) (in_bd bx_34 (by decide)) dX2_findAbove_164 (fun a_36 ma_36 ua_36 wa_36 => ?_)
        have ka_36 : kd a_36 = 6 := by omega
        refine g_geti (C := RX6) (T := TX6) (N := 13) hx hb hts (mc_ inX6) hown hK g ma_36 ka_36 (by decide) rfl 3 (by decide) rfl (hts _ (List.mem_cons_of_mem _ t_568)) (fun _ h9 => h9) rfl dX2_findAbove_165 (fun x_37 bx_37 g => ?_)
        refine g_put (C := RX2) (T := TX2) (N := 16) hx hb hts (mc_ inX2) tyX2 tyX2_ok nmX2 hown hK g ma0_ ka0_ (by decide) rfl 14 (by decide) (hts _ (List.mem_cons_of_mem _ t_430)) (fun _ h9 => h9) rfl rfl (okV_i (bd_sub bx_37 (by decide))) rfl rfl (by decide) (Or.inr (Or.inl (by decide))) (fx' := [(6, 3, a_36, .int x_37), (7, 2, q1_, .ref a_35), (2, 13, a0_, .int x_34), (9, 9, a_20, .ref a_33), (2, 12, a0_, .int 18), (8, 6, q0_, .int x_22), (7, 0, q1_, .ref a_19), (7, 1, q1_, .int x_11), (9, 1, q2_, .int x_6), (2, 0, a0_, .ref q0_), (2, 3, a0_, .ref q1_), (2, 4, a0_, .ref q2_)]) rfl dX2_findAbove_168 (fun f H locs g => ?_)
        refine lv_aload_n hx hb dX2_findAbove_171 rfl (lv_at hl 3 rfl) ?_
        refine g_getk (C := RX2) (T := TX2) (N := 16) hx hb hts (mc_ inX2) hown hK g rfl 0 (by decide) rfl (hts _ (List.mem_cons_of_mem _ t_416)) (fun _ h9 => h9) 10 rfl dX2_findAbove_172 ?_
        refine g_callv (va_runV (As := []) (rest := []) ⟨hx, hb, hml, hown, hts⟩ (r_X8_next l dC dI L kd tys f H.size g.2.2.2.1 q0_ mq0_ kq0_) (cwV 0 hts (gV_ t_1131 t_1103 t_1104 t_184 t_1105) rfl rfl rfl (by decide +kernel) ⟨(Nat.le_of_ble_eq_true rfl), (Nat.le_of_ble_eq_true rfl)⟩) (pre3V g hK mq0_ kq0_ (by decide) (q := (RX8, TX8, 10)) rfl) rfl rfl hl.1 rfl (lv_room (Nat.le_of_ble_eq_true rfl)) dX2_findAbove_175 ⟨(Nat.le_of_ble_eq_true rfl), (Nat.le_of_ble_eq_true rfl)⟩) g hK (by decide) (by decide) (fx' := [(2, 14, a0_, .int x_37), (6, 3, a_36, .int x_37), (7, 2, q1_, .ref a_35), (2, 13, a0_, .int x_34), (9, 9, a_20, .ref a_33), (2, 12, a0_, .int 18), (7, 0, q1_, .ref a_19), (7, 1, q1_, .int x_11), (9, 1, q2_, .int x_6), (2, 0, a0_, .ref q0_), (2, 3, a0_, .ref q1_), (2, 4, a0_, .ref q2_)]) rfl (fun fr_38 H locs hp hMr_38 g => ?_)
        obtain ⟨x_39, h_40, hF_41⟩ := hp
        have g := g.more hF_41
        refine lv_iconst (v := 1) hx hb dX2_findAbove_178 (by decide) ?_
        subst hQ
        have kb_1 : bd 1 1 (1 : Int32) := ⟨by decide, by decide⟩
        exact W.zret (v := 1) hx hb hr (nar_z (bd_sub kb_1 (by decide) : bd 0 1 _).1 (bd_sub kb_1 (by decide) : bd 0 1 _).2) (fun t ht hW => ⟨⟨_, _, rfl, ⟨rfl, x_39, h_40, (g.fcts [0] rfl)⟩, q3_of g hK ht hW⟩, g.2.2.1.F ht⟩) g.2.2.1.2.2 dX2_findAbove_179
      · have fc_31 := eq_f c_31
        have b_42 : bd (-1) (-1) r_26 := eqX fc_31 h_27 kb_m1 (by decide)
        refine lv_aload_n hx hb dX2_findAbove_118 rfl (lv_at hl 3 rfl) ?_
        refine g_getk (C := RX2) (T := TX2) (N := 16) hx hb hts (mc_ inX2) hown hK g rfl 0 (by decide) rfl (hts _ (List.mem_cons_of_mem _ t_416)) (fun _ h9 => h9) 4 rfl dX2_findAbove_119 ?_
        refine lv_iconst (v := 2) hx hb dX2_findAbove_122 (by decide) ?_
        refine lv_aload_n hx hb dX2_findAbove_123 rfl (lv_at hl 3 rfl) ?_
        refine g_getk (C := RX2) (T := TX2) (N := 16) hx hb hts (mc_ inX2) hown hK g rfl 0 (by decide) rfl (hts _ (List.mem_cons_of_mem _ t_416)) (fun _ h9 => h9) 4 rfl dX2_findAbove_124 ?_
        refine g_calli (va_runV (As := []) (rest := [.int 2, .ref q0_]) ⟨hx, hb, hml, hown, hts⟩ (r_X8_place l dC dI L kd tys fr_28 H.size g.2.2.2.1 q0_ mq0_ kq0_) (cwV 0 hts (gV_ t_1110 t_1111 t_1112 t_184 t_1113) rfl rfl rfl (by decide +kernel) ⟨(Nat.le_of_ble_eq_true rfl), (Nat.le_of_ble_eq_true rfl)⟩) (pre3V g hK mq0_ kq0_ (by decide) (q := (RX8, TX8, 10)) rfl) rfl rfl hl.1 rfl (lv_room (Nat.le_of_ble_eq_true rfl)) dX2_findAbove_127 ⟨(Nat.le_of_ble_eq_true rfl), (Nat.le_of_ble_eq_true rfl)⟩) g hK (by decide) (by decide) (fx' := [(8, 6, q0_, .int x_22), (7, 0, q1_, .ref a_19), (7, 1, q1_, .int x_11), (9, 1, q2_, .int x_6), (2, 0, a0_, .ref q0_), (2, 3, a0_, .ref q1_), (2, 4, a0_, .ref q2_)]) rfl (fun r_43 fr_43 H locs hp hMr_43 g => ?_)
        have kb_2 : bd 2 2 (2 : Int32) := ⟨by decide, by decide⟩
        refine g_callv (va_runV (As := [.int 2, .int r_43]) (rest := []) ⟨hx, hb, hml, hown, hts⟩ (r_X8_fail_3 l dC dI L kd tys fr_43 H.size g.2.2.2.1 q0_ mq0_ kq0_ 2 kb_2 r_43 x_22 h_23 (g.fcts [0] rfl)) (cwV 2 hts (gV_ t_1122 t_1107 t_1108 t_184 t_1109) rfl rfl rfl (by decide +kernel) ⟨(Nat.le_of_ble_eq_true rfl), (Nat.le_of_ble_eq_true rfl)⟩) (pre3V g hK mq0_ kq0_ (by decide) (q := (RX8, TX8, 10)) rfl) rfl rfl hl.1 rfl (lv_room (Nat.le_of_ble_eq_true rfl)) dX2_findAbove_130 ⟨(Nat.le_of_ble_eq_true rfl), (Nat.le_of_ble_eq_true rfl)⟩) g hK (by decide) (by decide) (fx' := [(7, 0, q1_, .ref a_19), (7, 1, q1_, .int x_11), (9, 1, q2_, .int x_6), (2, 0, a0_, .ref q0_), (2, 3, a0_, .ref q1_), (2, 4, a0_, .ref q2_)]) rfl (fun fr_44 H locs hp hMr_44 g => ?_)
        obtain ⟨x_45, h_46, hF_47⟩ := hp
        have g := g.more hF_47
        refine lv_goto (tgt := 171) hx hb dX2_findAbove_133 (by decide) ?_
        refine lv_aload_n hx hb dX2_findAbove_171 rfl (lv_at hl 3 rfl) ?_
        refine g_getk (C := RX2) (T := TX2) (N := 16) hx hb hts (mc_ inX2) hown hK g rfl 0 (by decide) rfl (hts _ (List.mem_cons_of_mem _ t_416)) (fun _ h9 => h9) 5 rfl dX2_findAbove_172 ?_
        refine g_callv (va_runV (As := []) (rest := []) ⟨hx, hb, hml, hown, hts⟩ (r_X8_next l dC dI L kd tys fr_44 H.size g.2.2.2.1 q0_ mq0_ kq0_) (cwV 0 hts (gV_ t_1131 t_1103 t_1104 t_184 t_1105) rfl rfl rfl (by decide +kernel) ⟨(Nat.le_of_ble_eq_true rfl), (Nat.le_of_ble_eq_true rfl)⟩) (pre3V g hK mq0_ kq0_ (by decide) (q := (RX8, TX8, 10)) rfl) rfl rfl hl.1 rfl (lv_room (Nat.le_of_ble_eq_true rfl)) dX2_findAbove_175 ⟨(Nat.le_of_ble_eq_true rfl), (Nat.le_of_ble_eq_true rfl)⟩) g hK (by decide) (by decide) (fx' := [(8, 8, q0_, .int x_45), (7, 0, q1_, .ref a_19), (7, 1, q1_, .int x_11), (9, 1, q2_, .int x_6), (2, 0, a0_, .ref q0_), (2, 3, a0_, .ref q1_), (2, 4, a0_, .ref q2_)]) rfl (fun fr_48 H locs hp hMr_48 g => ?_)
        obtain ⟨x_49, h_50, hF_51⟩ := hp
        have g := g.more hF_51
        refine lv_iconst (v := 1) hx hb dX2_findAbove_178 (by decide) ?_
        subst hQ
        have kb_1 : bd 1 1 (1 : Int32) := ⟨by decide, by decide⟩
        exact W.zret (v := 1) hx hb hr (nar_z (bd_sub kb_1 (by decide) : bd 0 1 _).1 (bd_sub kb_1 (by decide) : bd 0 1 _).2) (fun t ht hW => ⟨⟨_, _, rfl, ⟨rfl, x_49, h_50, (g.fcts [0] rfl)⟩, q3_of g hK ht hW⟩, g.2.2.1.F ht⟩) g.2.2.1.2.2 dX2_findAbove_179
    · have fc_29 := neq_f c_29
      refine lv_aload_n hx hb dX2_findAbove_95 rfl (lv_at hl 3 rfl) ?_
      refine g_getk (C := RX2) (T := TX2) (N := 16) hx hb hts (mc_ inX2) hown hK g rfl 0 (by decide) rfl (hts _ (List.mem_cons_of_mem _ t_416)) (fun _ h9 => h9) 4 rfl dX2_findAbove_96 ?_
      refine lv_iconst (v := 1) hx hb dX2_findAbove_99 (by decide) ?_
      refine lv_aload_n hx hb dX2_findAbove_100 rfl (lv_at hl 3 rfl) ?_
      refine g_getk (C := RX2) (T := TX2) (N := 16) hx hb hts (mc_ inX2) hown hK g rfl 0 (by decide) rfl (hts _ (List.mem_cons_of_mem _ t_416)) (fun _ h9 => h9) 4 rfl dX2_findAbove_101 ?_
      refine g_calli (va_runV (As := []) (rest := [.int 1, .ref q0_]) ⟨hx, hb, hml, hown, hts⟩ (r_X8_place l dC dI L kd tys fr_28 H.size g.2.2.2.1 q0_ mq0_ kq0_) (cwV 0 hts (gV_ t_1110 t_1111 t_1112 t_184 t_1113) rfl rfl rfl (by decide +kernel) ⟨(Nat.le_of_ble_eq_true rfl), (Nat.le_of_ble_eq_true rfl)⟩) (pre3V g hK mq0_ kq0_ (by decide) (q := (RX8, TX8, 10)) rfl) rfl rfl hl.1 rfl (lv_room (Nat.le_of_ble_eq_true rfl)) dX2_findAbove_104 ⟨(Nat.le_of_ble_eq_true rfl), (Nat.le_of_ble_eq_true rfl)⟩) g hK (by decide) (by decide) (fx' := [(8, 6, q0_, .int x_22), (7, 0, q1_, .ref a_19), (7, 1, q1_, .int x_11), (9, 1, q2_, .int x_6), (2, 0, a0_, .ref q0_), (2, 3, a0_, .ref q1_), (2, 4, a0_, .ref q2_)]) rfl (fun r_52 fr_52 H locs hp hMr_52 g => ?_)
      have kb_1 : bd 1 1 (1 : Int32) := ⟨by decide, by decide⟩
      refine g_callv (va_runV (As := [.int 1, .int r_52]) (rest := []) ⟨hx, hb, hml, hown, hts⟩ (r_X8_fail_7 l dC dI L kd tys fr_52 H.size g.2.2.2.1 q0_ mq0_ kq0_ 1 kb_1 r_52 x_22 h_23 (g.fcts [0] rfl)) (cwV 2 hts (gV_ t_1122 t_1107 t_1108 t_184 t_1109) rfl rfl rfl (by decide +kernel) ⟨(Nat.le_of_ble_eq_true rfl), (Nat.le_of_ble_eq_true rfl)⟩) (pre3V g hK mq0_ kq0_ (by decide) (q := (RX8, TX8, 10)) rfl) rfl rfl hl.1 rfl (lv_room (Nat.le_of_ble_eq_true rfl)) dX2_findAbove_107 ⟨(Nat.le_of_ble_eq_true rfl), (Nat.le_of_ble_eq_true rfl)⟩) g hK (by decide) (by decide) (fx' := [(7, 0, q1_, .ref a_19), (7, 1, q1_, .int x_11), (9, 1, q2_, .int x_6), (2, 0, a0_, .ref q0_), (2, 3, a0_, .ref q1_), (2, 4, a0_, .ref q2_)]) rfl (fun fr_53 H locs hp hMr_53 g => ?_)
      obtain ⟨x_54, h_55, hF_56⟩ := hp
      have g := g.more hF_56
      refine lv_goto (tgt := 171) hx hb dX2_findAbove_110 (by decide) ?_
      refine lv_aload_n hx hb dX2_findAbove_171 rfl (lv_at hl 3 rfl) ?_
      refine g_getk (C := RX2) (T := TX2) (N := 16) hx hb hts (mc_ inX2) hown hK g rfl 0 (by decide) rfl (hts _ (List.mem_cons_of_mem _ t_416)) (fun _ h9 => h9) 5 rfl dX2_findAbove_172 ?_
      refine g_callv (va_runV (As := []) (rest := []) ⟨hx, hb, hml, hown, hts⟩ (r_X8_next l dC dI L kd tys fr_53 H.size g.2.2.2.1 q0_ mq0_ kq0_) (cwV 0 hts (gV_ t_1131 t_1103 t_1104 t_184 t_1105) rfl rfl rfl (by decide +kernel) ⟨(Nat.le_of_ble_eq_true rfl), (Nat.le_of_ble_eq_true rfl)⟩) (pre3V g hK mq0_ kq0_ (by decide) (q := (RX8, TX8, 10)) rfl) rfl rfl hl.1 rfl (lv_room (Nat.le_of_ble_eq_true rfl)) dX2_findAbove_175 ⟨(Nat.le_of_ble_eq_true rfl), (Nat.le_of_ble_eq_true rfl)⟩) g hK (by decide) (by decide) (fx' := [(8, 8, q0_, .int x_54), (7, 0, q1_, .ref a_19), (7, 1, q1_, .int x_11), (9, 1, q2_, .int x_6), (2, 0, a0_, .ref q0_), (2, 3, a0_, .ref q1_), (2, 4, a0_, .ref q2_)]) rfl (fun fr_57 H locs hp hMr_57 g => ?_)
      obtain ⟨x_58, h_59, hF_60⟩ := hp
      have g := g.more hF_60
      refine lv_iconst (v := 1) hx hb dX2_findAbove_178 (by decide) ?_
      subst hQ
      exact W.zret (v := 1) hx hb hr (nar_z (bd_sub kb_1 (by decide) : bd 0 1 _).1 (bd_sub kb_1 (by decide) : bd 0 1 _).2) (fun t ht hW => ⟨⟨_, _, rfl, ⟨rfl, x_58, h_59, (g.fcts [0] rfl)⟩, q3_of g hK ht hW⟩, g.2.2.1.F ht⟩) g.2.2.1.2.2 dX2_findAbove_179
set_option maxHeartbeats 4000000 in
set_option maxRecDepth 100000 in
theorem r_X2_findNamed (l : Launch) (dC : Nat → ClassId) (dI : Nat → Nat → Nat) (L : List Nat) (kd : Nat → Nat) (tys : List (ClassId × FieldType)) (f0 : Nat → va_E) (sz : Nat) (hWT : WT L kd tys f0) (a0_ : Nat) (ma0_ : a0_ ∈ L) (ka0_ : kd a0_ = 2) (q0_ : Nat) (mq0_ : q0_ ∈ L) (kq0_ : kd q0_ = 8) (q1_ : Nat) (mq1_ : q1_ ∈ L) (kq1_ : kd q1_ = 5) (q2_ : Nat) (mq2_ : q2_ ∈ L) (kq2_ : kd q2_ = 7) (q3_ : Nat) (mq3_ : q3_ ∈ L) (kq3_ : kd q3_ = 9) (q4_ : Nat) (mq4_ : q4_ ∈ L) (kq4_ : kd q4_ = 9) (hfx : Fs L kd f0 [(2, 0, a0_, .ref q0_), (2, 1, a0_, .ref q1_), (2, 3, a0_, .ref q2_), (2, 4, a0_, .ref q3_), (5, 1, q1_, .ref q4_)]) : Met l yX2_findNamed (.code yX2_findNamed cX2_findNamed 6 (some .boolean) :: lw_g) ({ frames := 2, cells := 0, slots := 0, locals := 46 }) (va_Pc [.ref a0_] (P3 (dC, dI) L tys f0 sz)) (va_Qi (fun (r : Int32) (f : Nat → va_E) => (bd 0 1 r ∧ ∃ z0_ : Int32, bd 1 1201 z0_ ∧ Fs L kd f [(8, 6, q0_, .int z0_)])) (Q3 (dC, dI) L kd tys [(2, 12), (2, 13), (2, 14), (2, 15), (8, 6), (8, 8), (8, 9)] [] f0 sz) (pA L sz)) 0 0 (pA L sz) := by
  refine Met.ofW (cc := cX2_findNamed) (maxL := 6) (ret := (some .boolean)) (by decide) rfl ?_
  intro p e s m args below meth c s₁ B hml hv
  obtain ⟨rfl, hsz, hP, hK, hD0⟩ := hv
  have hx := B.exec
  have hb := B.bytes
  have hr := B.returns
  have hts := atoms_spec (ws := (.code yX2_findNamed cX2_findNamed 6 (some .boolean) :: lw_g)) B.pre
  have hown : s.vm.findClass RX2 = some m.cls := findClass_of_methodNamed B.named
  have hlocks := B.notSynchronized
  subst hsz
  have g : G3 (dC, dI) L kd tys s f0 [(2, 12), (2, 13), (2, 14), (2, 15), (8, 6), (8, 8), (8, 9)] [] f0 s.heap [] [(2, 0, a0_, .ref q0_), (2, 1, a0_, .ref q1_), (2, 3, a0_, .ref q2_), (2, 4, a0_, .ref q3_), (5, 1, q1_, .ref q4_)] := G3.start hP hD0 hWT hfx
  have hl := lv_entry ([.ref a0_]) (n := 6) (Nat.le_of_ble_eq_true rfl)
  rw [lg_entry_eq]
  generalize (lg_sl ([.ref a0_]) ++ List.replicate (6 - (lg_sl ([.ref a0_])).length) Slot.unset).toArray = ls at hl ⊢
  have hl : lv_has ls 6 [(0, .ref a0_)] := hl
  refine W_q (fun Q hQ => ?_)
  refine lv_aload_n hx hb dX2_findNamed_0 rfl (lv_at hl 0 rfl) ?_
  refine g_getk (C := RX2) (T := TX2) (N := 16) hx hb hts (mc_ inX2) hown hK g rfl 0 (by decide) rfl (hts _ (List.mem_cons_of_mem _ t_416)) (fun _ h9 => h9) 0 rfl dX2_findNamed_1 ?_
  refine g_calli (va_runV (As := []) (rest := []) ⟨hx, hb, hml, hown, hts⟩ (r_X8_place l dC dI L kd tys f0 s.heap.size g.2.2.2.1 q0_ mq0_ kq0_) (cwV 0 hts (gV_ t_1110 t_1111 t_1112 t_184 t_1113) rfl rfl rfl (by decide +kernel) ⟨(Nat.le_of_ble_eq_true rfl), (Nat.le_of_ble_eq_true rfl)⟩) (pre3V g hK mq0_ kq0_ (by decide) (q := (RX8, TX8, 10)) rfl) rfl rfl hl.1 rfl (lv_room (Nat.le_of_ble_eq_true rfl)) dX2_findNamed_4 ⟨(Nat.le_of_ble_eq_true rfl), (Nat.le_of_ble_eq_true rfl)⟩) g hK (by decide) (by decide) (fx' := [(2, 0, a0_, .ref q0_), (2, 1, a0_, .ref q1_), (2, 3, a0_, .ref q2_), (2, 4, a0_, .ref q3_), (5, 1, q1_, .ref q4_)]) rfl (fun r_1 fr_1 H locs hp hMr_1 g => ?_)
  refine lv_istore_n (lv' := [(1, .int r_1), (0, .ref a0_)]) hx hb dX2_findNamed_7 rfl hl (by decide) rfl (fun ls hl => ?_)
  refine lv_aload_n hx hb dX2_findNamed_8 rfl (lv_at hl 1 rfl) ?_
  refine g_getk (C := RX2) (T := TX2) (N := 16) hx hb hts (mc_ inX2) hown hK g rfl 0 (by decide) rfl (hts _ (List.mem_cons_of_mem _ t_416)) (fun _ h9 => h9) 0 rfl dX2_findNamed_9 ?_
  refine g_calll (va_runV (As := []) (rest := []) ⟨hx, hb, hml, hown, hts⟩ (r_X8_value l dC dI L kd tys fr_1 H.size g.2.2.2.1 q0_ mq0_ kq0_) (cwV 0 hts (gV_ t_1114 t_1115 t_1116 t_184 t_1117) rfl rfl rfl (by decide +kernel) ⟨(Nat.le_of_ble_eq_true rfl), (Nat.le_of_ble_eq_true rfl)⟩) (pre3V g hK mq0_ kq0_ (by decide) (q := (RX8, TX8, 10)) rfl) rfl rfl hl.1 rfl (lv_room (Nat.le_of_ble_eq_true rfl)) dX2_findNamed_12 ⟨(Nat.le_of_ble_eq_true rfl), (Nat.le_of_ble_eq_true rfl)⟩) g hK (by decide) (by decide) (fx' := [(2, 0, a0_, .ref q0_), (2, 1, a0_, .ref q1_), (2, 3, a0_, .ref q2_), (2, 4, a0_, .ref q3_), (5, 1, q1_, .ref q4_)]) rfl (fun r_2 fr_2 H locs hp hMr_2 g => ?_)
  refine lv_lstore_n (lv' := [(2, .long r_2), (1, .int r_1), (0, .ref a0_)]) hx hb dX2_findNamed_15 rfl hl (by decide) rfl (fun ls hl => ?_)
  refine lv_aload_n hx hb dX2_findNamed_16 rfl (lv_at hl 2 rfl) ?_
  refine g_getk (C := RX2) (T := TX2) (N := 16) hx hb hts (mc_ inX2) hown hK g rfl 0 (by decide) rfl (hts _ (List.mem_cons_of_mem _ t_416)) (fun _ h9 => h9) 0 rfl dX2_findNamed_17 ?_
  refine g_callv (va_runV (As := []) (rest := []) ⟨hx, hb, hml, hown, hts⟩ (r_X8_next l dC dI L kd tys fr_2 H.size g.2.2.2.1 q0_ mq0_ kq0_) (cwV 0 hts (gV_ t_1131 t_1103 t_1104 t_184 t_1105) rfl rfl rfl (by decide +kernel) ⟨(Nat.le_of_ble_eq_true rfl), (Nat.le_of_ble_eq_true rfl)⟩) (pre3V g hK mq0_ kq0_ (by decide) (q := (RX8, TX8, 10)) rfl) rfl rfl hl.1 rfl (lv_room (Nat.le_of_ble_eq_true rfl)) dX2_findNamed_20 ⟨(Nat.le_of_ble_eq_true rfl), (Nat.le_of_ble_eq_true rfl)⟩) g hK (by decide) (by decide) (fx' := [(2, 0, a0_, .ref q0_), (2, 1, a0_, .ref q1_), (2, 3, a0_, .ref q2_), (2, 4, a0_, .ref q3_), (5, 1, q1_, .ref q4_)]) rfl (fun fr_3 H locs hp hMr_3 g => ?_)
  obtain ⟨x_4, h_5, hF_6⟩ := hp
  have g := g.more hF_6
  refine lv_aload_n hx hb dX2_findNamed_23 rfl (lv_at hl 2 rfl) ?_
  refine g_getk (C := RX2) (T := TX2) (N := 16) hx hb hts (mc_ inX2) hown hK g rfl 0 (by decide) rfl (hts _ (List.mem_cons_of_mem _ t_416)) (fun _ h9 => h9) 1 rfl dX2_findNamed_24 ?_
  refine g_calli (va_runV (As := []) (rest := []) ⟨hx, hb, hml, hown, hts⟩ (r_X8_atBracket l dC dI L kd tys fr_3 H.size g.2.2.2.1 q0_ mq0_ kq0_) (cwV 0 hts (gV_ t_1358 t_1240 t_1241 t_184 t_1242) rfl rfl rfl (by decide +kernel) ⟨(Nat.le_of_ble_eq_true rfl), (Nat.le_of_ble_eq_true rfl)⟩) (pre3V g hK mq0_ kq0_ (by decide) (q := (RX8, TX8, 10)) rfl) rfl rfl hl.1 rfl (lv_room (Nat.le_of_ble_eq_true rfl)) dX2_findNamed_27 ⟨(Nat.le_of_ble_eq_true rfl), (Nat.le_of_ble_eq_true rfl)⟩) g hK (by decide) (by decide) (fx' := [(8, 6, q0_, .int x_4), (2, 0, a0_, .ref q0_), (2, 1, a0_, .ref q1_), (2, 3, a0_, .ref q2_), (2, 4, a0_, .ref q3_), (5, 1, q1_, .ref q4_)]) rfl (fun r_7 fr_7 H locs hp hMr_7 g => ?_)
  obtain ⟨h_8, -⟩ := hp
  refine lv_istore (lv' := [(4, .int r_7), (2, .long r_2), (1, .int r_1), (0, .ref a0_)]) hx hb dX2_findNamed_30 hl (by decide) rfl (fun ls hl => ?_)
  refine lv_iload hx hb dX2_findNamed_32 (lv_at hl 0 rfl) ?_
  have kb_0 : bd 0 0 (0 : Int32) := ⟨by decide, by decide⟩
  refine lv_if_eq (tgt := 52) hx hb dX2_findNamed_34 (by decide) (fun c_9 => ?_) (fun c_9 => ?_)
  · have fc_9 := eq_f c_9
    have b_10 : bd 0 0 r_7 := eqX fc_9 h_8 kb_0 (by decide)
    refine lv_aload_n hx hb dX2_findNamed_52 rfl (lv_at hl 3 rfl) ?_
    refine g_getk (C := RX2) (T := TX2) (N := 16) hx hb hts (mc_ inX2) hown hK g rfl 1 (by decide) rfl (hts _ (List.mem_cons_of_mem _ t_417)) (fun _ h9 => h9) 2 rfl dX2_findNamed_53 ?_
    refine lv_lload_n hx hb dX2_findNamed_56 rfl (lv_at hl 1 rfl) ?_
    refine g_calli (va_runV (As := [.long r_2]) (rest := []) ⟨hx, hb, hml, hown, hts⟩ (r_X5_placeNamed l dC dI L kd tys fr_7 H.size g.2.2.2.1 q1_ mq1_ kq1_ r_2 q4_ mq4_ kq4_ (g.fcts [5] rfl)) (cwV 1 hts (gV_ t_1317 t_1252 t_1253 t_189 t_1254) rfl rfl rfl (by decide +kernel) ⟨(Nat.le_of_ble_eq_true rfl), (Nat.le_of_ble_eq_true rfl)⟩) (pre3V g hK mq1_ kq1_ (by decide) (q := (RX5, TX5, 9)) rfl) rfl rfl hl.1 rfl (lv_room (Nat.le_of_ble_eq_true rfl)) dX2_findNamed_57 ⟨(Nat.le_of_ble_eq_true rfl), (Nat.le_of_ble_eq_true rfl)⟩) g hK (by decide) (by decide) (fx' := [(8, 6, q0_, .int x_4), (2, 0, a0_, .ref q0_), (2, 1, a0_, .ref q1_), (2, 3, a0_, .ref q2_), (2, 4, a0_, .ref q3_), (5, 1, q1_, .ref q4_)]) rfl (fun r_11 fr_11 H locs hp hMr_11 g => ?_)
    obtain ⟨h_12, -⟩ := hp
    refine lv_istore (lv' := [(5, .int r_11), (4, .int r_7), (2, .long r_2), (1, .int r_1), (0, .ref a0_)]) hx hb dX2_findNamed_60 hl (by decide) rfl (fun ls hl => ?_)
    refine lv_iload hx hb dX2_findNamed_62 (lv_at hl 0 rfl) ?_
    refine lv_iconst (v := (-1)) hx hb dX2_findNamed_64 (by decide) ?_
    have kb_m1 : bd (-1) (-1) ((-1) : Int32) := ⟨by decide, by decide⟩
    refine lv_icmp_ne (tgt := 80) hx hb dX2_findNamed_65 (by decide) (fun c_13 => ?_) (fun c_13 => ?_)
    · have fc_13 := neq_f c_13
      have b_14 : bd 0 26 r_11 := neX fc_13 h_12 kb_m1 (by decide)
      refine lv_iload hx hb dX2_findNamed_80 (lv_at hl 1 rfl) ?_
      refine lv_if_eq (tgt := 125) hx hb dX2_findNamed_82 (by decide) (fun c_15 => ?_) (fun c_15 => ?_)
      · have fc_15 := eq_f c_15
        refine lv_aload_n hx hb dX2_findNamed_125 rfl (lv_at hl 4 rfl) ?_
        refine g_getk (C := RX2) (T := TX2) (N := 16) hx hb hts (mc_ inX2) hown hK g rfl 4 (by decide) rfl (hts _ (List.mem_cons_of_mem _ t_420)) (fun _ h9 => h9) 4 rfl dX2_findNamed_126 ?_
        refine lv_iload hx hb dX2_findNamed_129 (lv_at hl 0 rfl) ?_
        refine g_calli (va_runV (As := [.int r_11]) (rest := []) ⟨hx, hb, hml, hown, hts⟩ (r_X9_isRow l dC dI L kd tys fr_11 H.size g.2.2.2.1 q3_ mq3_ kq3_ r_11) (cwV 1 hts (gV_ t_1392 t_1257 t_1258 t_192 t_1259) rfl rfl rfl (by decide +kernel) ⟨(Nat.le_of_ble_eq_true rfl), (Nat.le_of_ble_eq_true rfl)⟩) (pre3V g hK mq3_ kq3_ (by decide) (q := (RX9, TX9, 13)) rfl) rfl rfl hl.1 rfl (lv_room (Nat.le_of_ble_eq_true rfl)) dX2_findNamed_131 ⟨(Nat.le_of_ble_eq_true rfl), (Nat.le_of_ble_eq_true rfl)⟩) g hK (by decide) (by decide) (fx' := [(8, 6, q0_, .int x_4), (2, 0, a0_, .ref q0_), (2, 1, a0_, .ref q1_), (2, 3, a0_, .ref q2_), (2, 4, a0_, .ref q3_), (5, 1, q1_, .ref q4_)]) rfl (fun r_16 fr_16 H locs hp hMr_16 g => ?_)
        rcases hp with ⟨h_17, -⟩ | ⟨h_18, h_19, x_20, h_21, hF_22⟩
        · obtain rfl : r_16 = 0 := h_17
          refine lv_aload_n hx hb dX2_findNamed_134 rfl (lv_at hl 4 rfl) ?_
          refine g_getk (C := RX2) (T := TX2) (N := 16) hx hb hts (mc_ inX2) hown hK g rfl 0 (by decide) rfl (hts _ (List.mem_cons_of_mem _ t_416)) (fun _ h9 => h9) 1 rfl dX2_findNamed_135 ?_
          refine g_calli (va_runV (As := []) (rest := [.int 0]) ⟨hx, hb, hml, hown, hts⟩ (r_X8_kind l dC dI L kd tys fr_16 H.size g.2.2.2.1 q0_ mq0_ kq0_) (cwV 0 hts (gV_ t_1118 t_1119 t_1120 t_184 t_1121) rfl rfl rfl (by decide +kernel) ⟨(Nat.le_of_ble_eq_true rfl), (Nat.le_of_ble_eq_true rfl)⟩) (pre3V g hK mq0_ kq0_ (by decide) (q := (RX8, TX8, 10)) rfl) rfl rfl hl.1 rfl (lv_room (Nat.le_of_ble_eq_true rfl)) dX2_findNamed_138 ⟨(Nat.le_of_ble_eq_true rfl), (Nat.le_of_ble_eq_true rfl)⟩) g hK (by decide) (by decide) (fx' := [(8, 6, q0_, .int x_4), (2, 0, a0_, .ref q0_), (2, 1, a0_, .ref q1_), (2, 3, a0_, .ref q2_), (2, 4, a0_, .ref q3_), (5, 1, q1_, .ref q4_)]) rfl (fun r_23 fr_23 H locs hp hMr_23 g => ?_)
          refine lv_bipush (v := 91) hx hb dX2_findNamed_141 (by decide) ?_
          have kb_91 : bd 91 91 (91 : Int32) := ⟨by decide, by decide⟩
          refine lv_icmp_ne (tgt := 150) hx hb dX2_findNamed_143 (by decide) (fun c_24 => ?_) (fun c_24 => ?_)
          · have fc_24 := neq_f c_24
            refine lv_iconst (v := 0) hx hb dX2_findNamed_150 (by decide) ?_
            refine lv_icmp_eq (tgt := 163) hx hb dX2_findNamed_151 (by decide) (fun c_ => ?_) (fun c_ => absurd (by decide) c_)
            refine lv_aload_n hx hb dX2_findNamed_163 rfl (lv_at hl 4 rfl) ?_
            refine lv_iload hx hb dX2_findNamed_164 (lv_at hl 0 rfl) ?_
            refine g_put (C := RX2) (T := TX2) (N := 16) hx hb hts (mc_ inX2) tyX2 tyX2_ok nmX2 hown hK g ma0_ ka0_ (by decide) rfl 15 (by decide) (hts _ (List.mem_cons_of_mem _ t_431)) (fun _ h9 => h9) rfl rfl (okV_i (bd_sub b_14 (by decide))) rfl rfl (by decide) (Or.inr (Or.inl (by decide))) (fx' := [(8, 6, q0_, .int x_4), (2, 0, a0_, .ref q0_), (2, 1, a0_, .ref q1_), (2, 3, a0_, .ref q2_), (2, 4, a0_, .ref q3_), (5, 1, q1_, .ref q4_)]) rfl dX2_findNamed_166 (fun f H locs g => ?_)
            refine lv_iload hx hb dX2_findNamed_169 (lv_at hl 1 rfl) ?_
            subst hQ
            exact W.zret (v := r_7) hx hb hr (nar_z (bd_sub b_10 (by decide) : bd 0 1 _).1 (bd_sub b_10 (by decide) : bd 0 1 _).2) (fun t ht hW => ⟨⟨_, _, rfl, ⟨(bd_sub b_10 (by decide)), x_4, h_5, (g.fcts [1] rfl)⟩, q3_of g hK ht hW⟩, g.2.2.1.F ht⟩) g.2.2.1.2.2 dX2_findNamed_171
          · have fc_24 := eq_f c_24
            have b_25 : bd 91 91 r_23 := eqX fc_24 (bdT r_23) kb_91 (by decide)
            refine lv_iconst (v := 1) hx hb dX2_findNamed_146 (by decide) ?_
            refine lv_goto (tgt := 151) hx hb dX2_findNamed_147 (by decide) ?_
            refine lv_icmp_eq (tgt := 163) hx hb dX2_findNamed_151 (by decide) (fun c_ => absurd c_ (by decide)) (fun c_ => ?_)
            refine lv_aload_n hx hb dX2_findNamed_154 rfl (lv_at hl 4 rfl) ?_
            refine g_getk (C := RX2) (T := TX2) (N := 16) hx hb hts (mc_ inX2) hown hK g rfl 0 (by decide) rfl (hts _ (List.mem_cons_of_mem _ t_416)) (fun _ h9 => h9) 1 rfl dX2_findNamed_155 ?_
            refine lv_iconst (v := 5) hx hb dX2_findNamed_158 (by decide) ?_
            refine lv_iload_n hx hb dX2_findNamed_159 rfl (lv_at hl 3 rfl) ?_
            have kb_5 : bd 5 5 (5 : Int32) := ⟨by decide, by decide⟩
            refine g_callv (va_runV (As := [.int 5, .int r_1]) (rest := []) ⟨hx, hb, hml, hown, hts⟩ (r_X8_fail_2 l dC dI L kd tys fr_23 H.size g.2.2.2.1 q0_ mq0_ kq0_ 5 kb_5 r_1 x_4 h_5 (g.fcts [0] rfl)) (cwV 2 hts (gV_ t_1122 t_1107 t_1108 t_184 t_1109) rfl rfl rfl (by decide +kernel) ⟨(Nat.le_of_ble_eq_true rfl), (Nat.le_of_ble_eq_true rfl)⟩) (pre3V g hK mq0_ kq0_ (by decide) (q := (RX8, TX8, 10)) rfl) rfl rfl hl.1 rfl (lv_room (Nat.le_of_ble_eq_true rfl)) dX2_findNamed_160 ⟨(Nat.le_of_ble_eq_true rfl), (Nat.le_of_ble_eq_true rfl)⟩) g hK (by decide) (by decide) (fx' := [(2, 0, a0_, .ref q0_), (2, 1, a0_, .ref q1_), (2, 3, a0_, .ref q2_), (2, 4, a0_, .ref q3_), (5, 1, q1_, .ref q4_)]) rfl (fun fr_26 H locs hp hMr_26 g => ?_)
            obtain ⟨x_27, h_28, hF_29⟩ := hp
            have g := g.more hF_29
            refine lv_aload_n hx hb dX2_findNamed_163 rfl (lv_at hl 4 rfl) ?_
            refine lv_iload hx hb dX2_findNamed_164 (lv_at hl 0 rfl) ?_
            refine g_put (C := RX2) (T := TX2) (N := 16) hx hb hts (mc_ inX2) tyX2 tyX2_ok nmX2 hown hK g ma0_ ka0_ (by decide) rfl 15 (by decide) (hts _ (List.mem_cons_of_mem _ t_431)) (fun _ h9 => h9) rfl rfl (okV_i (bd_sub b_14 (by decide))) rfl rfl (by decide) (Or.inr (Or.inl (by decide))) (fx' := [(8, 6, q0_, .int 1201), (8, 8, q0_, .int x_27), (2, 0, a0_, .ref q0_), (2, 1, a0_, .ref q1_), (2, 3, a0_, .ref q2_), (2, 4, a0_, .ref q3_), (5, 1, q1_, .ref q4_)]) rfl dX2_findNamed_166 (fun f H locs g => ?_)
            refine lv_iload hx hb dX2_findNamed_169 (lv_at hl 1 rfl) ?_
            have kb_1201 : bd 1201 1201 (1201 : Int32) := ⟨by decide, by decide⟩
            subst hQ
            exact W.zret (v := r_7) hx hb hr (nar_z (bd_sub b_10 (by decide) : bd 0 1 _).1 (bd_sub b_10 (by decide) : bd 0 1 _).2) (fun t ht hW => ⟨⟨_, _, rfl, ⟨(bd_sub b_10 (by decide)), 1201, (bd_sub kb_1201 (by decide)), (g.fcts [1] rfl)⟩, q3_of g hK ht hW⟩, g.2.2.1.F ht⟩) g.2.2.1.2.2 dX2_findNamed_171
        · obtain rfl : r_16 = 1 := h_18
          have b_30 : bd 0 9 r_11 := eqX rfl b_14 h_19 (by decide)
          have g := g.more hF_22
          refine lv_aload_n hx hb dX2_findNamed_134 rfl (lv_at hl 4 rfl) ?_
          refine g_getk (C := RX2) (T := TX2) (N := 16) hx hb hts (mc_ inX2) hown hK g rfl 0 (by decide) rfl (hts _ (List.mem_cons_of_mem _ t_416)) (fun _ h9 => h9) 2 rfl dX2_findNamed_135 ?_
          refine g_calli (va_runV (As := []) (rest := [.int 1]) ⟨hx, hb, hml, hown, hts⟩ (r_X8_kind l dC dI L kd tys fr_16 H.size g.2.2.2.1 q0_ mq0_ kq0_) (cwV 0 hts (gV_ t_1118 t_1119 t_1120 t_184 t_1121) rfl rfl rfl (by decide +kernel) ⟨(Nat.le_of_ble_eq_true rfl), (Nat.le_of_ble_eq_true rfl)⟩) (pre3V g hK mq0_ kq0_ (by decide) (q := (RX8, TX8, 10)) rfl) rfl rfl hl.1 rfl (lv_room (Nat.le_of_ble_eq_true rfl)) dX2_findNamed_138 ⟨(Nat.le_of_ble_eq_true rfl), (Nat.le_of_ble_eq_true rfl)⟩) g hK (by decide) (by decide) (fx' := [(9, 2, q3_, .int x_20), (8, 6, q0_, .int x_4), (2, 0, a0_, .ref q0_), (2, 1, a0_, .ref q1_), (2, 3, a0_, .ref q2_), (2, 4, a0_, .ref q3_), (5, 1, q1_, .ref q4_)]) rfl (fun r_31 fr_31 H locs hp hMr_31 g => ?_)
          refine lv_bipush (v := 91) hx hb dX2_findNamed_141 (by decide) ?_
          have kb_91 : bd 91 91 (91 : Int32) := ⟨by decide, by decide⟩
          refine lv_icmp_ne (tgt := 150) hx hb dX2_findNamed_143 (by decide) (fun c_32 => ?_) (fun c_32 => ?_)
          · have fc_32 := neq_f c_32
            refine lv_iconst (v := 0) hx hb dX2_findNamed_150 (by decide) ?_
            refine lv_icmp_eq (tgt := 163) hx hb dX2_findNamed_151 (by decide) (fun c_ => absurd c_ (by decide)) (fun c_ => ?_)
            refine lv_aload_n hx hb dX2_findNamed_154 rfl (lv_at hl 4 rfl) ?_
            refine g_getk (C := RX2) (T := TX2) (N := 16) hx hb hts (mc_ inX2) hown hK g rfl 0 (by decide) rfl (hts _ (List.mem_cons_of_mem _ t_416)) (fun _ h9 => h9) 2 rfl dX2_findNamed_155 ?_
            refine lv_iconst (v := 5) hx hb dX2_findNamed_158 (by decide) ?_
            refine lv_iload_n hx hb dX2_findNamed_159 rfl (lv_at hl 3 rfl) ?_
            have kb_5 : bd 5 5 (5 : Int32) := ⟨by decide, by decide⟩
            refine g_callv (va_runV (As := [.int 5, .int r_1]) (rest := []) ⟨hx, hb, hml, hown, hts⟩ (r_X8_fail_2 l dC dI L kd tys fr_31 H.size g.2.2.2.1 q0_ mq0_ kq0_ 5 kb_5 r_1 x_4 h_5 (g.fcts [1] rfl)) (cwV 2 hts (gV_ t_1122 t_1107 t_1108 t_184 t_1109) rfl rfl rfl (by decide +kernel) ⟨(Nat.le_of_ble_eq_true rfl), (Nat.le_of_ble_eq_true rfl)⟩) (pre3V g hK mq0_ kq0_ (by decide) (q := (RX8, TX8, 10)) rfl) rfl rfl hl.1 rfl (lv_room (Nat.le_of_ble_eq_true rfl)) dX2_findNamed_160 ⟨(Nat.le_of_ble_eq_true rfl), (Nat.le_of_ble_eq_true rfl)⟩) g hK (by decide) (by decide) (fx' := [(9, 2, q3_, .int x_20), (2, 0, a0_, .ref q0_), (2, 1, a0_, .ref q1_), (2, 3, a0_, .ref q2_), (2, 4, a0_, .ref q3_), (5, 1, q1_, .ref q4_)]) rfl (fun fr_33 H locs hp hMr_33 g => ?_)
            obtain ⟨x_34, h_35, hF_36⟩ := hp
            have g := g.more hF_36
            refine lv_aload_n hx hb dX2_findNamed_163 rfl (lv_at hl 4 rfl) ?_
            refine lv_iload hx hb dX2_findNamed_164 (lv_at hl 0 rfl) ?_
            refine g_put (C := RX2) (T := TX2) (N := 16) hx hb hts (mc_ inX2) tyX2 tyX2_ok nmX2 hown hK g ma0_ ka0_ (by decide) rfl 15 (by decide) (hts _ (List.mem_cons_of_mem _ t_431)) (fun _ h9 => h9) rfl rfl (okV_i (bd_sub b_30 (by decide))) rfl rfl (by decide) (Or.inr (Or.inl (by decide))) (fx' := [(8, 6, q0_, .int 1201), (8, 8, q0_, .int x_34), (9, 2, q3_, .int x_20), (2, 0, a0_, .ref q0_), (2, 1, a0_, .ref q1_), (2, 3, a0_, .ref q2_), (2, 4, a0_, .ref q3_), (5, 1, q1_, .ref q4_)]) rfl dX2_findNamed_166 (fun f H locs g => ?_)
            refine lv_iload hx hb dX2_findNamed_169 (lv_at hl 1 rfl) ?_
            have kb_1201 : bd 1201 1201 (1201 : Int32) := ⟨by decide, by decide⟩
            subst hQ
            exact W.zret (v := r_7) hx hb hr (nar_z (bd_sub b_10 (by decide) : bd 0 1 _).1 (bd_sub b_10 (by decide) : bd 0 1 _).2) (fun t ht hW => ⟨⟨_, _, rfl, ⟨(bd_sub b_10 (by decide)), 1201, (bd_sub kb_1201 (by decide)), (g.fcts [1] rfl)⟩, q3_of g hK ht hW⟩, g.2.2.1.F ht⟩) g.2.2.1.2.2 dX2_findNamed_171
          · have fc_32 := eq_f c_32
            have b_37 : bd 91 91 r_31 := eqX fc_32 (bdT r_31) kb_91 (by decide)
            refine lv_iconst (v := 1) hx hb dX2_findNamed_146 (by decide) ?_
            refine lv_goto (tgt := 151) hx hb dX2_findNamed_147 (by decide) ?_
            refine lv_icmp_eq (tgt := 163) hx hb dX2_findNamed_151 (by decide) (fun c_ => ?_) (fun c_ => absurd (by decide) c_)
            refine lv_aload_n hx hb dX2_findNamed_163 rfl (lv_at hl 4 rfl) ?_
            refine lv_iload hx hb dX2_findNamed_164 (lv_at hl 0 rfl) ?_
            refine g_put (C := RX2) (T := TX2) (N := 16) hx hb hts (mc_ inX2) tyX2 tyX2_ok nmX2 hown hK g ma0_ ka0_ (by decide) rfl 15 (by decide) (hts _ (List.mem_cons_of_mem _ t_431)) (fun _ h9 => h9) rfl rfl (okV_i (bd_sub b_30 (by decide))) rfl rfl (by decide) (Or.inr (Or.inl (by decide))) (fx' := [(9, 2, q3_, .int x_20), (8, 6, q0_, .int x_4), (2, 0, a0_, .ref q0_), (2, 1, a0_, .ref q1_), (2, 3, a0_, .ref q2_), (2, 4, a0_, .ref q3_), (5, 1, q1_, .ref q4_)]) rfl dX2_findNamed_166 (fun f H locs g => ?_)
            refine lv_iload hx hb dX2_findNamed_169 (lv_at hl 1 rfl) ?_
            subst hQ
            exact W.zret (v := r_7) hx hb hr (nar_z (bd_sub b_10 (by decide) : bd 0 1 _).1 (bd_sub b_10 (by decide) : bd 0 1 _).2) (fun t ht hW => ⟨⟨_, _, rfl, ⟨(bd_sub b_10 (by decide)), x_4, h_5, (g.fcts [2] rfl)⟩, q3_of g hK ht hW⟩, g.2.2.1.F ht⟩) g.2.2.1.2.2 dX2_findNamed_171
      · have fc_15 := neq_f c_15
        have b_38 : bd 1 (-1) r_7 := neX fc_15 b_10 kb_0 (by decide)
        exact bd_no b_38 (by decide)
    · have fc_13 := eq_f c_13
      have b_39 : bd (-1) (-1) r_11 := eqX fc_13 h_12 kb_m1 (by decide)
      refine lv_aload_n hx hb dX2_findNamed_68 rfl (lv_at hl 4 rfl) ?_
      refine g_getk (C := RX2) (T := TX2) (N := 16) hx hb hts (mc_ inX2) hown hK g rfl 0 (by decide) rfl (hts _ (List.mem_cons_of_mem _ t_416)) (fun _ h9 => h9) 1 rfl dX2_findNamed_69 ?_
      refine lv_iconst (v := 2) hx hb dX2_findNamed_72 (by decide) ?_
      refine lv_iload_n hx hb dX2_findNamed_73 rfl (lv_at hl 3 rfl) ?_
      have kb_2 : bd 2 2 (2 : Int32) := ⟨by decide, by decide⟩
      refine g_callv (va_runV (As := [.int 2, .int r_1]) (rest := []) ⟨hx, hb, hml, hown, hts⟩ (r_X8_fail_3 l dC dI L kd tys fr_11 H.size g.2.2.2.1 q0_ mq0_ kq0_ 2 kb_2 r_1 x_4 h_5 (g.fcts [0] rfl)) (cwV 2 hts (gV_ t_1122 t_1107 t_1108 t_184 t_1109) rfl rfl rfl (by decide +kernel) ⟨(Nat.le_of_ble_eq_true rfl), (Nat.le_of_ble_eq_true rfl)⟩) (pre3V g hK mq0_ kq0_ (by decide) (q := (RX8, TX8, 10)) rfl) rfl rfl hl.1 rfl (lv_room (Nat.le_of_ble_eq_true rfl)) dX2_findNamed_74 ⟨(Nat.le_of_ble_eq_true rfl), (Nat.le_of_ble_eq_true rfl)⟩) g hK (by decide) (by decide) (fx' := [(2, 0, a0_, .ref q0_), (2, 1, a0_, .ref q1_), (2, 3, a0_, .ref q2_), (2, 4, a0_, .ref q3_), (5, 1, q1_, .ref q4_)]) rfl (fun fr_40 H locs hp hMr_40 g => ?_)
      obtain ⟨x_41, h_42, hF_43⟩ := hp
      have g := g.more hF_43
      refine lv_goto (tgt := 163) hx hb dX2_findNamed_77 (by decide) ?_
      refine lv_aload_n hx hb dX2_findNamed_163 rfl (lv_at hl 4 rfl) ?_
      refine lv_iload hx hb dX2_findNamed_164 (lv_at hl 0 rfl) ?_
      refine g_put (C := RX2) (T := TX2) (N := 16) hx hb hts (mc_ inX2) tyX2 tyX2_ok nmX2 hown hK g ma0_ ka0_ (by decide) rfl 15 (by decide) (hts _ (List.mem_cons_of_mem _ t_431)) (fun _ h9 => h9) rfl rfl (okV_i (bd_sub b_39 (by decide))) rfl rfl (by decide) (Or.inr (Or.inl (by decide))) (fx' := [(8, 6, q0_, .int 1201), (8, 8, q0_, .int x_41), (2, 0, a0_, .ref q0_), (2, 1, a0_, .ref q1_), (2, 3, a0_, .ref q2_), (2, 4, a0_, .ref q3_), (5, 1, q1_, .ref q4_)]) rfl dX2_findNamed_166 (fun f H locs g => ?_)
      refine lv_iload hx hb dX2_findNamed_169 (lv_at hl 1 rfl) ?_
      have kb_1201 : bd 1201 1201 (1201 : Int32) := ⟨by decide, by decide⟩
      subst hQ
      exact W.zret (v := r_7) hx hb hr (nar_z (bd_sub b_10 (by decide) : bd 0 1 _).1 (bd_sub b_10 (by decide) : bd 0 1 _).2) (fun t ht hW => ⟨⟨_, _, rfl, ⟨(bd_sub b_10 (by decide)), 1201, (bd_sub kb_1201 (by decide)), (g.fcts [1] rfl)⟩, q3_of g hK ht hW⟩, g.2.2.1.F ht⟩) g.2.2.1.2.2 dX2_findNamed_171
  · have fc_9 := neq_f c_9
    have b_44 : bd 1 1 r_7 := neX fc_9 h_8 kb_0 (by decide)
    refine lv_aload_n hx hb dX2_findNamed_37 rfl (lv_at hl 3 rfl) ?_
    refine g_getk (C := RX2) (T := TX2) (N := 16) hx hb hts (mc_ inX2) hown hK g rfl 3 (by decide) rfl (hts _ (List.mem_cons_of_mem _ t_419)) (fun _ h9 => h9) 3 rfl dX2_findNamed_38 ?_
    refine lv_aload_n hx hb dX2_findNamed_41 rfl (lv_at hl 3 rfl) ?_
    refine g_getk (C := RX2) (T := TX2) (N := 16) hx hb hts (mc_ inX2) hown hK g rfl 4 (by decide) rfl (hts _ (List.mem_cons_of_mem _ t_420)) (fun _ h9 => h9) 4 rfl dX2_findNamed_42 ?_
    refine lv_lload_n hx hb dX2_findNamed_45 rfl (lv_at hl 1 rfl) ?_
    refine g_calli (va_runV (As := [.ref q3_, .long r_2]) (rest := []) ⟨hx, hb, hml, hown, hts⟩ (r_X7_memberNamed l dC dI L kd tys fr_7 H.size g.2.2.2.1 q2_ mq2_ kq2_ q3_ mq3_ kq3_ r_2) (cwV 2 hts (gV_ t_1306 t_1244 t_1245 t_191 t_1246) rfl rfl rfl (by decide +kernel) ⟨(Nat.le_of_ble_eq_true rfl), (Nat.le_of_ble_eq_true rfl)⟩) (pre3V g hK mq2_ kq2_ (by decide) (q := (RX7, TX7, 19)) rfl) rfl rfl hl.1 rfl (lv_room (Nat.le_of_ble_eq_true rfl)) dX2_findNamed_46 ⟨(Nat.le_of_ble_eq_true rfl), (Nat.le_of_ble_eq_true rfl)⟩) g hK (by decide) (by decide) (fx' := [(8, 6, q0_, .int x_4), (2, 0, a0_, .ref q0_), (2, 1, a0_, .ref q1_), (2, 3, a0_, .ref q2_), (2, 4, a0_, .ref q3_), (5, 1, q1_, .ref q4_)]) rfl (fun r_45 fr_45 H locs hp hMr_45 g => ?_)
    obtain ⟨h_46, -⟩ := hp
    refine lv_goto (tgt := 60) hx hb dX2_findNamed_49 (by decide) ?_
    refine lv_istore (lv' := [(5, .int r_45), (4, .int r_7), (2, .long r_2), (1, .int r_1), (0, .ref a0_)]) hx hb dX2_findNamed_60 hl (by decide) rfl (fun ls hl => ?_)
    refine lv_iload hx hb dX2_findNamed_62 (lv_at hl 0 rfl) ?_
    refine lv_iconst (v := (-1)) hx hb dX2_findNamed_64 (by decide) ?_
    have kb_m1 : bd (-1) (-1) ((-1) : Int32) := ⟨by decide, by decide⟩
    refine lv_icmp_ne (tgt := 80) hx hb dX2_findNamed_65 (by decide) (fun c_47 => ?_) (fun c_47 => ?_)
    · have fc_47 := neq_f c_47
      have b_48 : bd 0 11 r_45 := neX fc_47 h_46 kb_m1 (by decide)
      refine lv_iload hx hb dX2_findNamed_80 (lv_at hl 1 rfl) ?_
      refine lv_if_eq (tgt := 125) hx hb dX2_findNamed_82 (by decide) (fun c_49 => ?_) (fun c_49 => ?_)
      · have fc_49 := eq_f c_49
        have b_50 : bd 1 0 r_7 := eqX fc_49 b_44 kb_0 (by decide)
        exact bd_no b_50 (by decide)
      · have fc_49 := neq_f c_49
        refine lv_aload_n hx hb dX2_findNamed_85 rfl (lv_at hl 4 rfl) ?_
        refine lv_bipush (v := 17) hx hb dX2_findNamed_86 (by decide) ?_
        have kb_17 : bd 17 17 (17 : Int32) := ⟨by decide, by decide⟩
        refine g_put (C := RX2) (T := TX2) (N := 16) hx hb hts (mc_ inX2) tyX2 tyX2_ok nmX2 hown hK g ma0_ ka0_ (by decide) rfl 12 (by decide) (hts _ (List.mem_cons_of_mem _ t_428)) (fun _ h9 => h9) rfl rfl (okV_i (bd_sub kb_17 (by decide))) rfl rfl (by decide) (Or.inr (Or.inl (by decide))) (fx' := [(8, 6, q0_, .int x_4), (2, 0, a0_, .ref q0_), (2, 1, a0_, .ref q1_), (2, 3, a0_, .ref q2_), (2, 4, a0_, .ref q3_), (5, 1, q1_, .ref q4_)]) rfl dX2_findNamed_88 (fun f H locs g => ?_)
        refine lv_aload_n hx hb dX2_findNamed_91 rfl (lv_at hl 4 rfl) ?_
        refine lv_iload hx hb dX2_findNamed_92 (lv_at hl 0 rfl) ?_
        refine g_put (C := RX2) (T := TX2) (N := 16) hx hb hts (mc_ inX2) tyX2 tyX2_ok nmX2 hown hK g ma0_ ka0_ (by decide) rfl 13 (by decide) (hts _ (List.mem_cons_of_mem _ t_429)) (fun _ h9 => h9) rfl rfl (okV_i (bd_sub b_48 (by decide))) rfl rfl (by decide) (Or.inr (Or.inl (by decide))) (fx' := [(2, 12, a0_, .int 17), (8, 6, q0_, .int x_4), (2, 0, a0_, .ref q0_), (2, 1, a0_, .ref q1_), (2, 3, a0_, .ref q2_), (2, 4, a0_, .ref q3_), (5, 1, q1_, .ref q4_)]) rfl dX2_findNamed_94 (fun f H locs g => ?_)
        refine lv_aload_n hx hb dX2_findNamed_97 rfl (lv_at hl 4 rfl) ?_
        refine lv_aload_n hx hb dX2_findNamed_98 rfl (lv_at hl 4 rfl) ?_
        refine g_getk (C := RX2) (T := TX2) (N := 16) hx hb hts (mc_ inX2) hown hK g rfl 3 (by decide) rfl (hts _ (List.mem_cons_of_mem _ t_419)) (fun _ h9 => h9) 5 rfl dX2_findNamed_99 ?_
        refine g_getr (K := 137) (C := RX7) (T := TX7) (N := 19) hx hb hts (mc_ inX7) hown hK g mq2_ kq2_ (by decide) rfl 2 (by decide) rfl (hts _ (List.mem_cons_of_mem _ t_630)) (fun _ h9 => h9) rfl dX2_findNamed_102 (fun a_51 ma_51 ka_51 g => ?_)
        refine lv_aload_n hx hb dX2_findNamed_105 rfl (lv_at hl 4 rfl) ?_
        refine g_getk (C := RX2) (T := TX2) (N := 16) hx hb hts (mc_ inX2) hown hK g rfl 4 (by decide) rfl (hts _ (List.mem_cons_of_mem _ t_420)) (fun _ h9 => h9) 7 rfl dX2_findNamed_106 ?_
        refine g_getr (K := 156) (C := RX9) (T := TX9) (N := 13) hx hb hts (mc_ inX9) hown hK g mq3_ kq3_ (by decide) rfl 9 (by decide) rfl (hts _ (List.mem_cons_of_mem _ t_510)) (fun _ h9 => h9) rfl dX2_findNamed_109 (fun a_52 ma_52 ka_52 g => ?_)
        refine lv_iload hx hb dX2_findNamed_112 (lv_at hl 0 rfl) ?_
        refine g_iald hx hb hK g ma_52 ka_52 (by decide) rfl (in_bd b_48 (by decide)) dX2_findNamed_114 (fun x_53 bx_53 => ?_)
        refine g_aald hx hb hK g ma_51 ka_51 (by decide) rfl (by decide) (in_bd bx_53 (by decide)) dX2_findNamed_115 (fun a_54 ma_54 ua_54 wa_54 => ?_)
        have ka_54 : kd a_54 = 6 := by omega
        refine g_geti (C := RX6) (T := TX6) (N := 13) hx hb hts (mc_ inX6) hown hK g ma_54 ka_54 (by decide) rfl 3 (by decide) rfl (hts _ (List.mem_cons_of_mem _ t_568)) (fun _ h9 => h9) rfl dX2_findNamed_116 (fun x_55 bx_55 g => ?_)
        refine g_put (C := RX2) (T := TX2) (N := 16) hx hb hts (mc_ inX2) tyX2 tyX2_ok nmX2 hown hK g ma0_ ka0_ (by decide) rfl 14 (by decide) (hts _ (List.mem_cons_of_mem _ t_430)) (fun _ h9 => h9) rfl rfl (okV_i (bd_sub bx_55 (by decide))) rfl rfl (by decide) (Or.inr (Or.inl (by decide))) (fx' := [(6, 3, a_54, .int x_55), (9, 9, q3_, .ref a_52), (7, 2, q2_, .ref a_51), (2, 13, a0_, .int r_45), (2, 12, a0_, .int 17), (8, 6, q0_, .int x_4), (2, 0, a0_, .ref q0_), (2, 1, a0_, .ref q1_), (2, 3, a0_, .ref q2_), (2, 4, a0_, .ref q3_), (5, 1, q1_, .ref q4_)]) rfl dX2_findNamed_119 (fun f H locs g => ?_)
        refine lv_goto (tgt := 163) hx hb dX2_findNamed_122 (by decide) ?_
        refine lv_aload_n hx hb dX2_findNamed_163 rfl (lv_at hl 4 rfl) ?_
        refine lv_iload hx hb dX2_findNamed_164 (lv_at hl 0 rfl) ?_
        refine g_put (C := RX2) (T := TX2) (N := 16) hx hb hts (mc_ inX2) tyX2 tyX2_ok nmX2 hown hK g ma0_ ka0_ (by decide) rfl 15 (by decide) (hts _ (List.mem_cons_of_mem _ t_431)) (fun _ h9 => h9) rfl rfl (okV_i (bd_sub b_48 (by decide))) rfl rfl (by decide) (Or.inr (Or.inl (by decide))) (fx' := [(2, 14, a0_, .int x_55), (6, 3, a_54, .int x_55), (9, 9, q3_, .ref a_52), (7, 2, q2_, .ref a_51), (2, 13, a0_, .int r_45), (2, 12, a0_, .int 17), (8, 6, q0_, .int x_4), (2, 0, a0_, .ref q0_), (2, 1, a0_, .ref q1_), (2, 3, a0_, .ref q2_), (2, 4, a0_, .ref q3_), (5, 1, q1_, .ref q4_)]) rfl dX2_findNamed_166 (fun f H locs g => ?_)
        refine lv_iload hx hb dX2_findNamed_169 (lv_at hl 1 rfl) ?_
        subst hQ
        exact W.zret (v := r_7) hx hb hr (nar_z (bd_sub b_44 (by decide) : bd 0 1 _).1 (bd_sub b_44 (by decide) : bd 0 1 _).2) (fun t ht hW => ⟨⟨_, _, rfl, ⟨(bd_sub b_44 (by decide)), x_4, h_5, (g.fcts [7] rfl)⟩, q3_of g hK ht hW⟩, g.2.2.1.F ht⟩) g.2.2.1.2.2 dX2_findNamed_171
    · have fc_47 := eq_f c_47
      have b_56 : bd (-1) (-1) r_45 := eqX fc_47 h_46 kb_m1 (by decide)
      refine lv_aload_n hx hb dX2_findNamed_68 rfl (lv_at hl 4 rfl) ?_
      refine g_getk (C := RX2) (T := TX2) (N := 16) hx hb hts (mc_ inX2) hown hK g rfl 0 (by decide) rfl (hts _ (List.mem_cons_of_mem _ t_416)) (fun _ h9 => h9) 1 rfl dX2_findNamed_69 ?_
      refine lv_iconst (v := 2) hx hb dX2_findNamed_72 (by decide) ?_
      refine lv_iload_n hx hb dX2_findNamed_73 rfl (lv_at hl 3 rfl) ?_
      have kb_2 : bd 2 2 (2 : Int32) := ⟨by decide, by decide⟩
      refine g_callv (va_runV (As := [.int 2, .int r_1]) (rest := []) ⟨hx, hb, hml, hown, hts⟩ (r_X8_fail_3 l dC dI L kd tys fr_45 H.size g.2.2.2.1 q0_ mq0_ kq0_ 2 kb_2 r_1 x_4 h_5 (g.fcts [0] rfl)) (cwV 2 hts (gV_ t_1122 t_1107 t_1108 t_184 t_1109) rfl rfl rfl (by decide +kernel) ⟨(Nat.le_of_ble_eq_true rfl), (Nat.le_of_ble_eq_true rfl)⟩) (pre3V g hK mq0_ kq0_ (by decide) (q := (RX8, TX8, 10)) rfl) rfl rfl hl.1 rfl (lv_room (Nat.le_of_ble_eq_true rfl)) dX2_findNamed_74 ⟨(Nat.le_of_ble_eq_true rfl), (Nat.le_of_ble_eq_true rfl)⟩) g hK (by decide) (by decide) (fx' := [(2, 0, a0_, .ref q0_), (2, 1, a0_, .ref q1_), (2, 3, a0_, .ref q2_), (2, 4, a0_, .ref q3_), (5, 1, q1_, .ref q4_)]) rfl (fun fr_57 H locs hp hMr_57 g => ?_)
      obtain ⟨x_58, h_59, hF_60⟩ := hp
      have g := g.more hF_60
      refine lv_goto (tgt := 163) hx hb dX2_findNamed_77 (by decide) ?_
      refine lv_aload_n hx hb dX2_findNamed_163 rfl (lv_at hl 4 rfl) ?_
      refine lv_iload hx hb dX2_findNamed_164 (lv_at hl 0 rfl) ?_
      refine g_put (C := RX2) (T := TX2) (N := 16) hx hb hts (mc_ inX2) tyX2 tyX2_ok nmX2 hown hK g ma0_ ka0_ (by decide) rfl 15 (by decide) (hts _ (List.mem_cons_of_mem _ t_431)) (fun _ h9 => h9) rfl rfl (okV_i (bd_sub b_56 (by decide))) rfl rfl (by decide) (Or.inr (Or.inl (by decide))) (fx' := [(8, 6, q0_, .int 1201), (8, 8, q0_, .int x_58), (2, 0, a0_, .ref q0_), (2, 1, a0_, .ref q1_), (2, 3, a0_, .ref q2_), (2, 4, a0_, .ref q3_), (5, 1, q1_, .ref q4_)]) rfl dX2_findNamed_166 (fun f H locs g => ?_)
      refine lv_iload hx hb dX2_findNamed_169 (lv_at hl 1 rfl) ?_
      have kb_1201 : bd 1201 1201 (1201 : Int32) := ⟨by decide, by decide⟩
      subst hQ
      exact W.zret (v := r_7) hx hb hr (nar_z (bd_sub b_44 (by decide) : bd 0 1 _).1 (bd_sub b_44 (by decide) : bd 0 1 _).2) (fun t ht hW => ⟨⟨_, _, rfl, ⟨(bd_sub b_44 (by decide)), 1201, (bd_sub kb_1201 (by decide)), (g.fcts [1] rfl)⟩, q3_of g hK ht hW⟩, g.2.2.1.F ht⟩) g.2.2.1.2.2 dX2_findNamed_171
set_option maxHeartbeats 4000000 in
set_option maxRecDepth 100000 in
theorem r_X3_roomForCall (l : Launch) (dC : Nat → ClassId) (dI : Nat → Nat → Nat) (L : List Nat) (kd : Nat → Nat) (tys : List (ClassId × FieldType)) (f0 : Nat → va_E) (sz : Nat) (hWT : WT L kd tys f0) (a0_ : Nat) (ma0_ : a0_ ∈ L) (ka0_ : kd a0_ = 3) : Met l yX3_roomForCall (.code yX3_roomForCall cX3_roomForCall 1 (some .boolean) :: lw_g) ({ frames := 0, cells := 0, slots := 0, locals := 0 }) (va_Pc [.ref a0_] (P3 (dC, dI) L tys f0 sz)) (va_Qi (fun (r : Int32) (f : Nat → va_E) => (r = 0 ∧ ∃ z0_ : Int32, bd 10 10 z0_ ∧ Fs L kd f [(3, 0, a0_, .int z0_)]) ∨ (r = 1 ∧ ∃ z0_ : Int32, bd 0 9 z0_ ∧ Fs L kd f [(3, 0, a0_, .int z0_)])) (Q3 (dC, dI) L kd tys [] [] f0 sz) (pA L sz)) 0 0 (pA L sz) := by
  refine Met.ofW (cc := cX3_roomForCall) (maxL := 1) (ret := (some .boolean)) (by decide) rfl ?_
  intro p e s m args below meth c s₁ B hml hv
  obtain ⟨rfl, hsz, hP, hK, hD0⟩ := hv
  have hx := B.exec
  have hb := B.bytes
  have hr := B.returns
  have hts := atoms_spec (ws := (.code yX3_roomForCall cX3_roomForCall 1 (some .boolean) :: lw_g)) B.pre
  have hown : s.vm.findClass RX3 = some m.cls := findClass_of_methodNamed B.named
  have hlocks := B.notSynchronized
  subst hsz
  have g : G3 (dC, dI) L kd tys s f0 [] [] f0 s.heap [] [] := G3.start hP hD0 hWT Fs.nil
  have hl := lv_entry ([.ref a0_]) (n := 1) (Nat.le_of_ble_eq_true rfl)
  rw [lg_entry_eq]
  generalize (lg_sl ([.ref a0_]) ++ List.replicate (1 - (lg_sl ([.ref a0_])).length) Slot.unset).toArray = ls at hl ⊢
  have hl : lv_has ls 1 [(0, .ref a0_)] := hl
  refine W_q (fun Q hQ => ?_)
  refine lv_aload_n hx hb dX3_roomForCall_0 rfl (lv_at hl 0 rfl) ?_
  refine g_geti (C := RX3) (T := TX3) (N := 6) hx hb hts (mc_ inX3) hown hK g ma0_ ka0_ (by decide) rfl 0 (by decide) rfl (hts _ (List.mem_cons_of_mem _ t_801)) (fun _ h9 => h9) rfl dX3_roomForCall_1 (fun x_1 bx_1 g => ?_)
  refine lv_bipush (v := 10) hx hb dX3_roomForCall_4 (by decide) ?_
  have kb_10 : bd 10 10 (10 : Int32) := ⟨by decide, by decide⟩
  refine lv_icmp_ge (tgt := 13) hx hb dX3_roomForCall_6 (by decide) (fun c_2 => ?_) (fun c_2 => ?_)
  · have fc_2 := le_f c_2
    have b_3 : bd 10 10 x_1 := leR fc_2 kb_10 bx_1 (by decide)
    refine lv_iconst (v := 0) hx hb dX3_roomForCall_13 (by decide) ?_
    subst hQ
    have kb_0 : bd 0 0 (0 : Int32) := ⟨by decide, by decide⟩
    exact W.zret (v := 0) hx hb hr (nar_z (bd_sub kb_0 (by decide) : bd 0 1 _).1 (bd_sub kb_0 (by decide) : bd 0 1 _).2) (fun t ht hW => ⟨⟨_, _, rfl, Or.inl ⟨rfl, x_1, b_3, (g.fcts [0] rfl)⟩, q3_of g hK ht hW⟩, g.2.2.1.F ht⟩) g.2.2.1.2.2 dX3_roomForCall_14
  · have fc_2 := nle_f c_2
    have b_4 : bd 0 9 x_1 := ltL fc_2 bx_1 kb_10 (by decide)
    refine lv_iconst (v := 1) hx hb dX3_roomForCall_9 (by decide) ?_
    refine lv_goto (tgt := 14) hx hb dX3_roomForCall_10 (by decide) ?_
    subst hQ
    have kb_1 : bd 1 1 (1 : Int32) := ⟨by decide, by decide⟩
    exact W.zret (v := 1) hx hb hr (nar_z (bd_sub kb_1 (by decide) : bd 0 1 _).1 (bd_sub kb_1 (by decide) : bd 0 1 _).2) (fun t ht hW => ⟨⟨_, _, rfl, Or.inr (⟨rfl, x_1, b_4, (g.fcts [0] rfl)⟩), q3_of g hK ht hW⟩, g.2.2.1.F ht⟩) g.2.2.1.2.2 dX3_roomForCall_14
set_option maxHeartbeats 4000000 in
set_option maxRecDepth 100000 in
theorem r_X3_roomForMake (l : Launch) (dC : Nat → ClassId) (dI : Nat → Nat → Nat) (L : List Nat) (kd : Nat → Nat) (tys : List (ClassId × FieldType)) (f0 : Nat → va_E) (sz : Nat) (hWT : WT L kd tys f0) (a0_ : Nat) (ma0_ : a0_ ∈ L) (ka0_ : kd a0_ = 3) : Met l yX3_roomForMake (.code yX3_roomForMake cX3_roomForMake 1 (some .boolean) :: lw_g) ({ frames := 0, cells := 0, slots := 0, locals := 0 }) (va_Pc [.ref a0_] (P3 (dC, dI) L tys f0 sz)) (va_Qi (fun (r : Int32) (f : Nat → va_E) => (r = 0 ∧ True) ∨ (r = 1 ∧ ∃ z0_ : Int32, bd 0 2 z0_ ∧ ∃ z1_ : Int32, bd 0 9 z1_ ∧ Fs L kd f [(3, 4, a0_, .int z0_), (3, 0, a0_, .int z1_)])) (Q3 (dC, dI) L kd tys [] [] f0 sz) (pA L sz)) 0 0 (pA L sz) := by
  refine Met.ofW (cc := cX3_roomForMake) (maxL := 1) (ret := (some .boolean)) (by decide) rfl ?_
  intro p e s m args below meth c s₁ B hml hv
  obtain ⟨rfl, hsz, hP, hK, hD0⟩ := hv
  have hx := B.exec
  have hb := B.bytes
  have hr := B.returns
  have hts := atoms_spec (ws := (.code yX3_roomForMake cX3_roomForMake 1 (some .boolean) :: lw_g)) B.pre
  have hown : s.vm.findClass RX3 = some m.cls := findClass_of_methodNamed B.named
  have hlocks := B.notSynchronized
  subst hsz
  have g : G3 (dC, dI) L kd tys s f0 [] [] f0 s.heap [] [] := G3.start hP hD0 hWT Fs.nil
  have hl := lv_entry ([.ref a0_]) (n := 1) (Nat.le_of_ble_eq_true rfl)
  rw [lg_entry_eq]
  generalize (lg_sl ([.ref a0_]) ++ List.replicate (1 - (lg_sl ([.ref a0_])).length) Slot.unset).toArray = ls at hl ⊢
  have hl : lv_has ls 1 [(0, .ref a0_)] := hl
  refine W_q (fun Q hQ => ?_)
  refine lv_aload_n hx hb dX3_roomForMake_0 rfl (lv_at hl 0 rfl) ?_
  refine g_geti (C := RX3) (T := TX3) (N := 6) hx hb hts (mc_ inX3) hown hK g ma0_ ka0_ (by decide) rfl 0 (by decide) rfl (hts _ (List.mem_cons_of_mem _ t_801)) (fun _ h9 => h9) rfl dX3_roomForMake_1 (fun x_1 bx_1 g => ?_)
  refine lv_bipush (v := 10) hx hb dX3_roomForMake_4 (by decide) ?_
  have kb_10 : bd 10 10 (10 : Int32) := ⟨by decide, by decide⟩
  refine lv_icmp_ge (tgt := 21) hx hb dX3_roomForMake_6 (by decide) (fun c_2 => ?_) (fun c_2 => ?_)
  · have fc_2 := le_f c_2
    have b_3 : bd 10 10 x_1 := leR fc_2 kb_10 bx_1 (by decide)
    refine lv_iconst (v := 0) hx hb dX3_roomForMake_21 (by decide) ?_
    subst hQ
    have kb_0 : bd 0 0 (0 : Int32) := ⟨by decide, by decide⟩
    exact W.zret (v := 0) hx hb hr (nar_z (bd_sub kb_0 (by decide) : bd 0 1 _).1 (bd_sub kb_0 (by decide) : bd 0 1 _).2) (fun t ht hW => ⟨⟨_, _, rfl, Or.inl ⟨rfl, trivial⟩, q3_of g hK ht hW⟩, g.2.2.1.F ht⟩) g.2.2.1.2.2 dX3_roomForMake_22
  · have fc_2 := nle_f c_2
    have b_4 : bd 0 9 x_1 := ltL fc_2 bx_1 kb_10 (by decide)
    refine lv_aload_n hx hb dX3_roomForMake_9 rfl (lv_at hl 0 rfl) ?_
    refine g_geti (C := RX3) (T := TX3) (N := 6) hx hb hts (mc_ inX3) hown hK g ma0_ ka0_ (by decide) rfl 4 (by decide) rfl (hts _ (List.mem_cons_of_mem _ t_813)) (fun _ h9 => h9) rfl dX3_roomForMake_10 (fun x_5 bx_5 g => ?_)
    refine lv_iconst (v := 3) hx hb dX3_roomForMake_13 (by decide) ?_
    have kb_3 : bd 3 3 (3 : Int32) := ⟨by decide, by decide⟩
    refine lv_icmp_ge (tgt := 21) hx hb dX3_roomForMake_14 (by decide) (fun c_6 => ?_) (fun c_6 => ?_)
    · have fc_6 := le_f c_6
      have b_7 : bd 3 3 x_5 := leR fc_6 kb_3 bx_5 (by decide)
      refine lv_iconst (v := 0) hx hb dX3_roomForMake_21 (by decide) ?_
      subst hQ
      have kb_0 : bd 0 0 (0 : Int32) := ⟨by decide, by decide⟩
      exact W.zret (v := 0) hx hb hr (nar_z (bd_sub kb_0 (by decide) : bd 0 1 _).1 (bd_sub kb_0 (by decide) : bd 0 1 _).2) (fun t ht hW => ⟨⟨_, _, rfl, Or.inl ⟨rfl, trivial⟩, q3_of g hK ht hW⟩, g.2.2.1.F ht⟩) g.2.2.1.2.2 dX3_roomForMake_22
    · have fc_6 := nle_f c_6
      have b_8 : bd 0 2 x_5 := ltL fc_6 bx_5 kb_3 (by decide)
      refine lv_iconst (v := 1) hx hb dX3_roomForMake_17 (by decide) ?_
      refine lv_goto (tgt := 22) hx hb dX3_roomForMake_18 (by decide) ?_
      subst hQ
      have kb_1 : bd 1 1 (1 : Int32) := ⟨by decide, by decide⟩
      exact W.zret (v := 1) hx hb hr (nar_z (bd_sub kb_1 (by decide) : bd 0 1 _).1 (bd_sub kb_1 (by decide) : bd 0 1 _).2) (fun t ht hW => ⟨⟨_, _, rfl, Or.inr (⟨rfl, x_5, b_8, x_1, b_4, (g.fcts [0, 1] rfl)⟩), q3_of g hK ht hW⟩, g.2.2.1.F ht⟩) g.2.2.1.2.2 dX3_roomForMake_22
set_option maxHeartbeats 4000000 in
set_option maxRecDepth 100000 in
theorem r_X3_wipe (l : Launch) (dC : Nat → ClassId) (dI : Nat → Nat → Nat) (L : List Nat) (kd : Nat → Nat) (tys : List (ClassId × FieldType)) (f0 : Nat → va_E) (sz : Nat) (hWT : WT L kd tys f0) (a0_ : Nat) (ma0_ : a0_ ∈ L) (ka0_ : kd a0_ = 3) : Met l yX3_wipe (.code yX3_wipe cX3_wipe 1 none :: lw_g) ({ frames := 0, cells := 0, slots := 0, locals := 0 }) (va_Pc [.ref a0_] (P3 (dC, dI) L tys f0 sz)) (va_Qv (fun (f : Nat → va_E) => (Fs L kd f [(3, 4, a0_, .int 0), (3, 0, a0_, .int 0)])) (Q3 (dC, dI) L kd tys [(3, 0), (3, 4)] [] f0 sz) (pA L sz)) 0 0 (pA L sz) := by
  refine Met.ofW (cc := cX3_wipe) (maxL := 1) (ret := none) (by decide) rfl ?_
  intro p e s m args below meth c s₁ B hml hv
  obtain ⟨rfl, hsz, hP, hK, hD0⟩ := hv
  have hx := B.exec
  have hb := B.bytes
  have hr := B.returns
  have hts := atoms_spec (ws := (.code yX3_wipe cX3_wipe 1 none :: lw_g)) B.pre
  have hown : s.vm.findClass RX3 = some m.cls := findClass_of_methodNamed B.named
  have hlocks := B.notSynchronized
  subst hsz
  have g : G3 (dC, dI) L kd tys s f0 [(3, 0), (3, 4)] [] f0 s.heap [] [] := G3.start hP hD0 hWT Fs.nil
  have hl := lv_entry ([.ref a0_]) (n := 1) (Nat.le_of_ble_eq_true rfl)
  rw [lg_entry_eq]
  generalize (lg_sl ([.ref a0_]) ++ List.replicate (1 - (lg_sl ([.ref a0_])).length) Slot.unset).toArray = ls at hl ⊢
  have hl : lv_has ls 1 [(0, .ref a0_)] := hl
  refine W_q (fun Q hQ => ?_)
  refine lv_aload_n hx hb dX3_wipe_0 rfl (lv_at hl 0 rfl) ?_
  refine lv_iconst (v := 0) hx hb dX3_wipe_1 (by decide) ?_
  have kb_0 : bd 0 0 (0 : Int32) := ⟨by decide, by decide⟩
  refine g_put (C := RX3) (T := TX3) (N := 6) hx hb hts (mc_ inX3) tyX3 tyX3_ok nmX3 hown hK g ma0_ ka0_ (by decide) rfl 0 (by decide) (hts _ (List.mem_cons_of_mem _ t_801)) (fun _ h9 => h9) rfl rfl (okV_i (bd_sub kb_0 (by decide))) rfl rfl (by decide) (Or.inr (Or.inl (by decide))) (fx' := []) rfl dX3_wipe_2 (fun f H locs g => ?_)
  refine lv_aload_n hx hb dX3_wipe_5 rfl (lv_at hl 0 rfl) ?_
  refine lv_iconst (v := 0) hx hb dX3_wipe_6 (by decide) ?_
  refine g_put (C := RX3) (T := TX3) (N := 6) hx hb hts (mc_ inX3) tyX3 tyX3_ok nmX3 hown hK g ma0_ ka0_ (by decide) rfl 4 (by decide) (hts _ (List.mem_cons_of_mem _ t_813)) (fun _ h9 => h9) rfl rfl (okV_i (bd_sub kb_0 (by decide))) rfl rfl (by decide) (Or.inr (Or.inl (by decide))) (fx' := [(3, 0, a0_, .int 0)]) rfl dX3_wipe_7 (fun f H locs g => ?_)
  subst hQ
  exact W.vret hx hb hr (fun t ht hW => ⟨⟨_, rfl, (g.fcts [0, 1] rfl), q3_of g hK ht hW⟩, g.2.2.1.F ht⟩) g.2.2.1.2.2 dX3_wipe_10
set_option maxHeartbeats 4000000 in
set_option maxRecDepth 100000 in
theorem r_X7_hasMember (l : Launch) (dC : Nat → ClassId) (dI : Nat → Nat → Nat) (L : List Nat) (kd : Nat → Nat) (tys : List (ClassId × FieldType)) (f0 : Nat → va_E) (sz : Nat) (hWT : WT L kd tys f0) (a0_ : Nat) (ma0_ : a0_ ∈ L) (ka0_ : kd a0_ = 7) (x1_ : Int32) (x2_ : Int32) : Met l yX7_hasMember (.code yX7_hasMember cX7_hasMember 3 (some .boolean) :: lw_g) ({ frames := 1, cells := 0, slots := 0, locals := 21 }) (va_Pc [.ref a0_, .int x1_, .int x2_] (P3 (dC, dI) L tys f0 sz)) (va_Qi (fun (r : Int32) (f : Nat → va_E) => (r = 0 ∧ True) ∨ (r = 1 ∧ bd 0 7 x1_ ∧ bd 0 11 x2_ ∧ ∃ z0_ : Int32, bd 1 8 z0_ ∧ Fs L kd f [(7, 1, a0_, .int z0_)])) (Q3 (dC, dI) L kd tys [] [] f0 sz) (pA L sz)) 0 0 (pA L sz) := by
  refine Met.ofW (cc := cX7_hasMember) (maxL := 3) (ret := (some .boolean)) (by decide) rfl ?_
  intro p e s m args below meth c s₁ B hml hv
  obtain ⟨rfl, hsz, hP, hK, hD0⟩ := hv
  have hx := B.exec
  have hb := B.bytes
  have hr := B.returns
  have hts := atoms_spec (ws := (.code yX7_hasMember cX7_hasMember 3 (some .boolean) :: lw_g)) B.pre
  have hown : s.vm.findClass RX7 = some m.cls := findClass_of_methodNamed B.named
  have hlocks := B.notSynchronized
  subst hsz
  have g : G3 (dC, dI) L kd tys s f0 [] [] f0 s.heap [] [] := G3.start hP hD0 hWT Fs.nil
  have hl := lv_entry ([.ref a0_, .int x1_, .int x2_]) (n := 3) (Nat.le_of_ble_eq_true rfl)
  rw [lg_entry_eq]
  generalize (lg_sl ([.ref a0_, .int x1_, .int x2_]) ++ List.replicate (3 - (lg_sl ([.ref a0_, .int x1_, .int x2_])).length) Slot.unset).toArray = ls at hl ⊢
  have hl : lv_has ls 3 [(0, .ref a0_), (1, .int x1_), (2, .int x2_)] := hl
  refine W_q (fun Q hQ => ?_)
  refine lv_aload_n hx hb dX7_hasMember_0 rfl (lv_at hl 0 rfl) ?_
  refine lv_iload_n hx hb dX7_hasMember_1 rfl (lv_at hl 1 rfl) ?_
  refine g_calli (va_runV (As := [.int x1_]) (rest := []) ⟨hx, hb, hml, hown, hts⟩ (r_X7_hasClass l dC dI L kd tys f0 s.heap.size g.2.2.2.1 a0_ ma0_ ka0_ x1_) (cwV 1 hts (gV_ t_1451 t_1281 t_1282 t_191 t_1283) rfl rfl rfl (by decide +kernel) ⟨(Nat.le_of_ble_eq_true rfl), (Nat.le_of_ble_eq_true rfl)⟩) (pre3V g hK ma0_ ka0_ (by decide) (q := (RX7, TX7, 19)) rfl) rfl rfl hl.1 rfl (lv_room (Nat.le_of_ble_eq_true rfl)) dX7_hasMember_2 ⟨(Nat.le_of_ble_eq_true rfl), (Nat.le_of_ble_eq_true rfl)⟩) g hK (by decide) (by decide) (fx' := []) rfl (fun r_1 fr_1 H locs hp hMr_1 g => ?_)
  rcases hp with ⟨h_2, -⟩ | ⟨h_3, h_4, x_5, h_6, hF_7⟩
  · obtain rfl : r_1 = 0 := h_2
    refine lv_if_eq (tgt := 29) hx hb dX7_hasMember_5 (by decide) (fun c_ => ?_) (fun c_ => absurd (by decide) c_)
    refine lv_iconst (v := 0) hx hb dX7_hasMember_29 (by decide) ?_
    subst hQ
    have kb_0 : bd 0 0 (0 : Int32) := ⟨by decide, by decide⟩
    exact W.zret (v := 0) hx hb hr (nar_z (bd_sub kb_0 (by decide) : bd 0 1 _).1 (bd_sub kb_0 (by decide) : bd 0 1 _).2) (fun t ht hW => ⟨⟨_, _, rfl, Or.inl ⟨rfl, trivial⟩, q3_of g hK ht hW⟩, g.2.2.1.F ht⟩) g.2.2.1.2.2 dX7_hasMember_30
  · obtain rfl : r_1 = 1 := h_3
    have b_8 : bd 0 7 x1_ := eqX rfl (bdT x1_) h_4 (by decide)
    have g := g.more hF_7
    refine lv_if_eq (tgt := 29) hx hb dX7_hasMember_5 (by decide) (fun c_ => absurd c_ (by decide)) (fun c_ => ?_)
    refine lv_iload_n hx hb dX7_hasMember_8 rfl (lv_at hl 2 rfl) ?_
    have kb_0 : bd 0 0 (0 : Int32) := ⟨by decide, by decide⟩
    refine lv_if_lt (tgt := 29) hx hb dX7_hasMember_9 (by decide) (fun c_9 => ?_) (fun c_9 => ?_)
    · have fc_9 := lt_f c_9
      have b_10 : bd (-2147483648) (-1) x2_ := ltL fc_9 (bdT x2_) kb_0 (by decide)
      refine lv_iconst (v := 0) hx hb dX7_hasMember_29 (by decide) ?_
      subst hQ
      exact W.zret (v := 0) hx hb hr (nar_z (bd_sub kb_0 (by decide) : bd 0 1 _).1 (bd_sub kb_0 (by decide) : bd 0 1 _).2) (fun t ht hW => ⟨⟨_, _, rfl, Or.inl ⟨rfl, trivial⟩, q3_of g hK ht hW⟩, g.2.2.1.F ht⟩) g.2.2.1.2.2 dX7_hasMember_30
    · have fc_9 := nlt_f c_9
      have b_11 : bd 0 2147483647 x2_ := leR fc_9 kb_0 (bdT x2_) (by decide)
      refine lv_iload_n hx hb dX7_hasMember_12 rfl (lv_at hl 2 rfl) ?_
      refine lv_aload_n hx hb dX7_hasMember_13 rfl (lv_at hl 0 rfl) ?_
      refine g_getr (K := 136) (C := RX7) (T := TX7) (N := 19) hx hb hts (mc_ inX7) hown hK g ma0_ ka0_ (by decide) rfl 0 (by decide) rfl (hts _ (List.mem_cons_of_mem _ t_620)) (fun _ h9 => h9) rfl dX7_hasMember_14 (fun a_12 ma_12 ka_12 g => ?_)
      refine lv_iload_n hx hb dX7_hasMember_17 rfl (lv_at hl 1 rfl) ?_
      refine g_aald hx hb hK g ma_12 ka_12 (by decide) rfl (by decide) (in_bd b_8 (by decide)) dX7_hasMember_18 (fun a_13 ma_13 ua_13 wa_13 => ?_)
      have ka_13 : kd a_13 = 9 := by omega
      refine g_geti (C := RX9) (T := TX9) (N := 13) hx hb hts (mc_ inX9) hown hK g ma_13 ka_13 (by decide) rfl 8 (by decide) rfl (hts _ (List.mem_cons_of_mem _ t_498)) (fun _ h9 => h9) rfl dX7_hasMember_19 (fun x_14 bx_14 g => ?_)
      refine lv_icmp_ge (tgt := 29) hx hb dX7_hasMember_22 (by decide) (fun c_15 => ?_) (fun c_15 => ?_)
      · have fc_15 := le_f c_15
        refine lv_iconst (v := 0) hx hb dX7_hasMember_29 (by decide) ?_
        subst hQ
        exact W.zret (v := 0) hx hb hr (nar_z (bd_sub kb_0 (by decide) : bd 0 1 _).1 (bd_sub kb_0 (by decide) : bd 0 1 _).2) (fun t ht hW => ⟨⟨_, _, rfl, Or.inl ⟨rfl, trivial⟩, q3_of g hK ht hW⟩, g.2.2.1.F ht⟩) g.2.2.1.2.2 dX7_hasMember_30
      · have fc_15 := nle_f c_15
        have b_16 : bd 0 11 x2_ := ltL fc_15 b_11 bx_14 (by decide)
        have b_17 : bd 1 12 x_14 := ltR fc_15 b_11 bx_14 (by decide)
        refine lv_iconst (v := 1) hx hb dX7_hasMember_25 (by decide) ?_
        refine lv_goto (tgt := 30) hx hb dX7_hasMember_26 (by decide) ?_
        subst hQ
        have kb_1 : bd 1 1 (1 : Int32) := ⟨by decide, by decide⟩
        exact W.zret (v := 1) hx hb hr (nar_z (bd_sub kb_1 (by decide) : bd 0 1 _).1 (bd_sub kb_1 (by decide) : bd 0 1 _).2) (fun t ht hW => ⟨⟨_, _, rfl, Or.inr (⟨rfl, b_8, b_16, x_5, h_6, (g.fcts [2] rfl)⟩), q3_of g hK ht hW⟩, g.2.2.1.F ht⟩) g.2.2.1.2.2 dX7_hasMember_30
set_option maxHeartbeats 4000000 in
set_option maxRecDepth 100000 in
theorem r_X3_tellingOf (l : Launch) (dC : Nat → ClassId) (dI : Nat → Nat → Nat) (L : List Nat) (kd : Nat → Nat) (tys : List (ClassId × FieldType)) (f0 : Nat → va_E) (sz : Nat) (hWT : WT L kd tys f0) (a0_ : Nat) (ma0_ : a0_ ∈ L) (ka0_ : kd a0_ = 3) (a1_ : Nat) (ma1_ : a1_ ∈ L) (ka1_ : kd a1_ = 7) (x2_ : Int32) (bx2_ : bd 0 2 x2_) (x3_ : Int32) (bx3_ : bd 0 11 x3_) (y0_ : Int32) (by0_ : bd 1 8 y0_) (y1_ : Int32) (by1_ : bd 1 3 y1_) (hfx : Fs L kd f0 [(7, 1, a1_, .int y0_), (3, 4, a0_, .int y1_)]) : Met l yX3_tellingOf (.code yX3_tellingOf cX3_tellingOf 4 (some (.object "TrialGarden$Telling")) :: lw_g) ({ frames := 0, cells := 0, slots := 0, locals := 0 }) (va_Pc [.ref a0_, .ref a1_, .int x2_, .int x3_] (P3 (dC, dI) L tys f0 sz)) (va_Qr (fun (_ : Nat → va_E) => True) (fun u b t => (b ∈ L ∧ kd b = 6) ∧ Q3 (dC, dI) L kd tys [] [] f0 sz u t) (pA L sz)) 0 0 (pA L sz) := by
  refine Met.ofW (cc := cX3_tellingOf) (maxL := 4) (ret := (some (.object "TrialGarden$Telling"))) (by decide) rfl ?_
  intro p e s m args below meth c s₁ B hml hv
  obtain ⟨rfl, hsz, hP, hK, hD0⟩ := hv
  have hx := B.exec
  have hb := B.bytes
  have hr := B.returns
  have hts := atoms_spec (ws := (.code yX3_tellingOf cX3_tellingOf 4 (some (.object "TrialGarden$Telling")) :: lw_g)) B.pre
  have hown : s.vm.findClass RX3 = some m.cls := findClass_of_methodNamed B.named
  have hlocks := B.notSynchronized
  subst hsz
  have g : G3 (dC, dI) L kd tys s f0 [] [] f0 s.heap [] [(7, 1, a1_, .int y0_), (3, 4, a0_, .int y1_)] := G3.start hP hD0 hWT hfx
  have hl := lv_entry ([.ref a0_, .ref a1_, .int x2_, .int x3_]) (n := 4) (Nat.le_of_ble_eq_true rfl)
  rw [lg_entry_eq]
  generalize (lg_sl ([.ref a0_, .ref a1_, .int x2_, .int x3_]) ++ List.replicate (4 - (lg_sl ([.ref a0_, .ref a1_, .int x2_, .int x3_])).length) Slot.unset).toArray = ls at hl ⊢
  have hl : lv_has ls 4 [(0, .ref a0_), (1, .ref a1_), (2, .int x2_), (3, .int x3_)] := hl
  refine W_q (fun Q hQ => ?_)
  refine lv_aload_n hx hb dX3_tellingOf_0 rfl (lv_at hl 1 rfl) ?_
  refine g_getr (K := 137) (C := RX7) (T := TX7) (N := 19) hx hb hts (mc_ inX7) hown hK g ma1_ ka1_ (by decide) rfl 2 (by decide) rfl (hts _ (List.mem_cons_of_mem _ t_631)) (fun _ h9 => h9) rfl dX3_tellingOf_1 (fun a_1 ma_1 ka_1 g => ?_)
  refine lv_aload_n hx hb dX3_tellingOf_4 rfl (lv_at hl 1 rfl) ?_
  refine g_getr (K := 136) (C := RX7) (T := TX7) (N := 19) hx hb hts (mc_ inX7) hown hK g ma1_ ka1_ (by decide) rfl 0 (by decide) rfl (hts _ (List.mem_cons_of_mem _ t_622)) (fun _ h9 => h9) rfl dX3_tellingOf_5 (fun a_2 ma_2 ka_2 g => ?_)
  refine lv_aload_n hx hb dX3_tellingOf_8 rfl (lv_at hl 0 rfl) ?_
  refine g_getr (K := 125) (C := RX3) (T := TX3) (N := 6) hx hb hts (mc_ inX3) hown hK g ma0_ ka0_ (by decide) rfl 5 (by decide) rfl (hts _ (List.mem_cons_of_mem _ t_815)) (fun _ h9 => h9) rfl dX3_tellingOf_9 (fun a_3 ma_3 ka_3 g => ?_)
  refine lv_iload_n hx hb dX3_tellingOf_12 rfl (lv_at hl 2 rfl) ?_
  refine g_iald hx hb hK g ma_3 ka_3 (by decide) rfl (in_bd bx2_ (by decide)) dX3_tellingOf_13 (fun x_4 bx_4 => ?_)
  refine g_aald hx hb hK g ma_2 ka_2 (by decide) rfl (by decide) (in_bd bx_4 (by decide)) dX3_tellingOf_14 (fun a_5 ma_5 ua_5 wa_5 => ?_)
  have ka_5 : kd a_5 = 9 := by omega
  refine g_getr (K := 156) (C := RX9) (T := TX9) (N := 13) hx hb hts (mc_ inX9) hown hK g ma_5 ka_5 (by decide) rfl 9 (by decide) rfl (hts _ (List.mem_cons_of_mem _ t_505)) (fun _ h9 => h9) rfl dX3_tellingOf_15 (fun a_6 ma_6 ka_6 g => ?_)
  refine lv_iload_n hx hb dX3_tellingOf_18 rfl (lv_at hl 3 rfl) ?_
  refine g_iald hx hb hK g ma_6 ka_6 (by decide) rfl (in_bd bx3_ (by decide)) dX3_tellingOf_19 (fun x_7 bx_7 => ?_)
  refine g_aald hx hb hK g ma_1 ka_1 (by decide) rfl (by decide) (in_bd bx_7 (by decide)) dX3_tellingOf_20 (fun a_8 ma_8 ua_8 wa_8 => ?_)
  have ka_8 : kd a_8 = 6 := by omega
  subst hQ
  exact W.aret (v := .ref a_8) hx hb hr (Or.inl ⟨_, rfl⟩) (Or.inr ⟨_, rfl⟩) (fun t ht hW => ⟨⟨_, _, rfl, trivial, ⟨ma_8, ka_8⟩, q3_of g hK ht hW⟩, g.2.2.1.F ht⟩) g.2.2.1.2.2 dX3_tellingOf_21
set_option maxHeartbeats 4000000 in
set_option maxRecDepth 100000 in
theorem r_X6_admits (l : Launch) (dC : Nat → ClassId) (dI : Nat → Nat → Nat) (L : List Nat) (kd : Nat → Nat) (tys : List (ClassId × FieldType)) (f0 : Nat → va_E) (sz : Nat) (hWT : WT L kd tys f0) (a0_ : Nat) (ma0_ : a0_ ∈ L) (ka0_ : kd a0_ = 6) (x1_ : Int32) (x2_ : Int32) : Met l yX6_admits (.code yX6_admits cX6_admits 3 (some .boolean) :: lw_g) ({ frames := 0, cells := 0, slots := 0, locals := 0 }) (va_Pc [.ref a0_, .int x1_, .int x2_] (P3 (dC, dI) L tys f0 sz)) (va_Qi (fun (r : Int32) (f : Nat → va_E) => (r = 0 ∧ True) ∨ (r = 1 ∧ True)) (Q3 (dC, dI) L kd tys [] [] f0 sz) (pA L sz)) 0 0 (pA L sz) := by
  refine Met.ofW (cc := cX6_admits) (maxL := 3) (ret := (some .boolean)) (by decide) rfl ?_
  intro p e s m args below meth c s₁ B hml hv
  obtain ⟨rfl, hsz, hP, hK, hD0⟩ := hv
  have hx := B.exec
  have hb := B.bytes
  have hr := B.returns
  have hts := atoms_spec (ws := (.code yX6_admits cX6_admits 3 (some .boolean) :: lw_g)) B.pre
  have hown : s.vm.findClass RX6 = some m.cls := findClass_of_methodNamed B.named
  have hlocks := B.notSynchronized
  subst hsz
  have g : G3 (dC, dI) L kd tys s f0 [] [] f0 s.heap [] [] := G3.start hP hD0 hWT Fs.nil
  have hl := lv_entry ([.ref a0_, .int x1_, .int x2_]) (n := 3) (Nat.le_of_ble_eq_true rfl)
  rw [lg_entry_eq]
  generalize (lg_sl ([.ref a0_, .int x1_, .int x2_]) ++ List.replicate (3 - (lg_sl ([.ref a0_, .int x1_, .int x2_])).length) Slot.unset).toArray = ls at hl ⊢
  have hl : lv_has ls 3 [(0, .ref a0_), (1, .int x1_), (2, .int x2_)] := hl
  refine W_q (fun Q hQ => ?_)
  refine lv_iload_n hx hb dX6_admits_0 rfl (lv_at hl 1 rfl) ?_
  have kb_0 : bd 0 0 (0 : Int32) := ⟨by decide, by decide⟩
  refine lv_if_lt (tgt := 17) hx hb dX6_admits_1 (by decide) (fun c_1 => ?_) (fun c_1 => ?_)
  · have fc_1 := lt_f c_1
    have b_2 : bd (-2147483648) (-1) x1_ := ltL fc_1 (bdT x1_) kb_0 (by decide)
    refine lv_iload_n hx hb dX6_admits_17 rfl (lv_at hl 2 rfl) ?_
    refine lv_if_ne (tgt := 25) hx hb dX6_admits_18 (by decide) (fun c_3 => ?_) (fun c_3 => ?_)
    · have fc_3 := neq_f c_3
      refine lv_iconst (v := 0) hx hb dX6_admits_25 (by decide) ?_
      subst hQ
      exact W.zret (v := 0) hx hb hr (nar_z (bd_sub kb_0 (by decide) : bd 0 1 _).1 (bd_sub kb_0 (by decide) : bd 0 1 _).2) (fun t ht hW => ⟨⟨_, _, rfl, Or.inl ⟨rfl, trivial⟩, q3_of g hK ht hW⟩, g.2.2.1.F ht⟩) g.2.2.1.2.2 dX6_admits_26
    · have fc_3 := eq_f c_3
      have b_4 : bd 0 0 x2_ := eqX fc_3 (bdT x2_) kb_0 (by decide)
      refine lv_iconst (v := 1) hx hb dX6_admits_21 (by decide) ?_
      refine lv_goto (tgt := 26) hx hb dX6_admits_22 (by decide) ?_
      subst hQ
      have kb_1 : bd 1 1 (1 : Int32) := ⟨by decide, by decide⟩
      exact W.zret (v := 1) hx hb hr (nar_z (bd_sub kb_1 (by decide) : bd 0 1 _).1 (bd_sub kb_1 (by decide) : bd 0 1 _).2) (fun t ht hW => ⟨⟨_, _, rfl, Or.inr (⟨rfl, trivial⟩), q3_of g hK ht hW⟩, g.2.2.1.F ht⟩) g.2.2.1.2.2 dX6_admits_26
  · have fc_1 := nlt_f c_1
    have b_5 : bd 0 2147483647 x1_ := leR fc_1 kb_0 (bdT x1_) (by decide)
    refine lv_iload_n hx hb dX6_admits_4 rfl (lv_at hl 1 rfl) ?_
    refine lv_aload_n hx hb dX6_admits_5 rfl (lv_at hl 0 rfl) ?_
    refine g_geti (C := RX6) (T := TX6) (N := 13) hx hb hts (mc_ inX6) hown hK g ma0_ ka0_ (by decide) rfl 3 (by decide) rfl (hts _ (List.mem_cons_of_mem _ t_562)) (fun _ h9 => h9) rfl dX6_admits_6 (fun x_6 bx_6 g => ?_)
    refine lv_icmp_ge (tgt := 17) hx hb dX6_admits_9 (by decide) (fun c_7 => ?_) (fun c_7 => ?_)
    · have fc_7 := le_f c_7
      refine lv_iload_n hx hb dX6_admits_17 rfl (lv_at hl 2 rfl) ?_
      refine lv_if_ne (tgt := 25) hx hb dX6_admits_18 (by decide) (fun c_8 => ?_) (fun c_8 => ?_)
      · have fc_8 := neq_f c_8
        refine lv_iconst (v := 0) hx hb dX6_admits_25 (by decide) ?_
        subst hQ
        exact W.zret (v := 0) hx hb hr (nar_z (bd_sub kb_0 (by decide) : bd 0 1 _).1 (bd_sub kb_0 (by decide) : bd 0 1 _).2) (fun t ht hW => ⟨⟨_, _, rfl, Or.inl ⟨rfl, trivial⟩, q3_of g hK ht hW⟩, g.2.2.1.F ht⟩) g.2.2.1.2.2 dX6_admits_26
      · have fc_8 := eq_f c_8
        have b_9 : bd 0 0 x2_ := eqX fc_8 (bdT x2_) kb_0 (by decide)
        refine lv_iconst (v := 1) hx hb dX6_admits_21 (by decide) ?_
        refine lv_goto (tgt := 26) hx hb dX6_admits_22 (by decide) ?_
        subst hQ
        have kb_1 : bd 1 1 (1 : Int32) := ⟨by decide, by decide⟩
        exact W.zret (v := 1) hx hb hr (nar_z (bd_sub kb_1 (by decide) : bd 0 1 _).1 (bd_sub kb_1 (by decide) : bd 0 1 _).2) (fun t ht hW => ⟨⟨_, _, rfl, Or.inr (⟨rfl, trivial⟩), q3_of g hK ht hW⟩, g.2.2.1.F ht⟩) g.2.2.1.2.2 dX6_admits_26
    · have fc_7 := nle_f c_7
      have b_10 : bd 0 2 x1_ := ltL fc_7 b_5 bx_6 (by decide)
      have b_11 : bd 1 3 x_6 := ltR fc_7 b_5 bx_6 (by decide)
      refine lv_iload_n hx hb dX6_admits_12 rfl (lv_at hl 1 rfl) ?_
      refine lv_iconst (v := 3) hx hb dX6_admits_13 (by decide) ?_
      have kb_3 : bd 3 3 (3 : Int32) := ⟨by decide, by decide⟩
      refine lv_icmp_lt (tgt := 27) hx hb dX6_admits_14 (by decide) (fun c_12 => ?_) (fun c_12 => ?_)
      · have fc_12 := lt_f c_12
        refine lv_iload_n hx hb dX6_admits_27 rfl (lv_at hl 2 rfl) ?_
        refine lv_aload_n hx hb dX6_admits_28 rfl (lv_at hl 0 rfl) ?_
        refine g_getr (K := 134) (C := RX6) (T := TX6) (N := 13) hx hb hts (mc_ inX6) hown hK g ma0_ ka0_ (by decide) rfl 4 (by decide) rfl (hts _ (List.mem_cons_of_mem _ t_569)) (fun _ h9 => h9) rfl dX6_admits_29 (fun a_13 ma_13 ka_13 g => ?_)
        refine lv_iload_n hx hb dX6_admits_32 rfl (lv_at hl 1 rfl) ?_
        refine g_iald hx hb hK g ma_13 ka_13 (by decide) rfl (in_bd b_10 (by decide)) dX6_admits_33 (fun x_14 bx_14 => ?_)
        refine lv_icmp_lt (tgt := 51) hx hb dX6_admits_34 (by decide) (fun c_15 => ?_) (fun c_15 => ?_)
        · have fc_15 := lt_f c_15
          have b_16 : bd (-2147483648) 2147483646 x2_ := ltL fc_15 (bdT x2_) (bdT x_14) (by decide)
          have b_17 : bd (-2147483647) 2147483647 x_14 := ltR fc_15 (bdT x2_) (bdT x_14) (by decide)
          refine lv_iconst (v := 0) hx hb dX6_admits_51 (by decide) ?_
          subst hQ
          exact W.zret (v := 0) hx hb hr (nar_z (bd_sub kb_0 (by decide) : bd 0 1 _).1 (bd_sub kb_0 (by decide) : bd 0 1 _).2) (fun t ht hW => ⟨⟨_, _, rfl, Or.inl ⟨rfl, trivial⟩, q3_of g hK ht hW⟩, g.2.2.1.F ht⟩) g.2.2.1.2.2 dX6_admits_52
        · have fc_15 := nlt_f c_15
          refine lv_iload_n hx hb dX6_admits_37 rfl (lv_at hl 2 rfl) ?_
          refine lv_aload_n hx hb dX6_admits_38 rfl (lv_at hl 0 rfl) ?_
          refine g_getr (K := 135) (C := RX6) (T := TX6) (N := 13) hx hb hts (mc_ inX6) hown hK g ma0_ ka0_ (by decide) rfl 5 (by decide) rfl (hts _ (List.mem_cons_of_mem _ t_573)) (fun _ h9 => h9) rfl dX6_admits_39 (fun a_18 ma_18 ka_18 g => ?_)
          refine lv_iload_n hx hb dX6_admits_42 rfl (lv_at hl 1 rfl) ?_
          refine g_iald hx hb hK g ma_18 ka_18 (by decide) rfl (in_bd b_10 (by decide)) dX6_admits_43 (fun x_19 bx_19 => ?_)
          refine lv_icmp_gt (tgt := 51) hx hb dX6_admits_44 (by decide) (fun c_20 => ?_) (fun c_20 => ?_)
          · have fc_20 := lt_f c_20
            have b_21 : bd (-2147483648) 2147483646 x_19 := ltL fc_20 (bdT x_19) (bdT x2_) (by decide)
            have b_22 : bd (-2147483647) 2147483647 x2_ := ltR fc_20 (bdT x_19) (bdT x2_) (by decide)
            refine lv_iconst (v := 0) hx hb dX6_admits_51 (by decide) ?_
            subst hQ
            exact W.zret (v := 0) hx hb hr (nar_z (bd_sub kb_0 (by decide) : bd 0 1 _).1 (bd_sub kb_0 (by decide) : bd 0 1 _).2) (fun t ht hW => ⟨⟨_, _, rfl, Or.inl ⟨rfl, trivial⟩, q3_of g hK ht hW⟩, g.2.2.1.F ht⟩) g.2.2.1.2.2 dX6_admits_52
          · have fc_20 := nlt_f c_20
            refine lv_iconst (v := 1) hx hb dX6_admits_47 (by decide) ?_
            refine lv_goto (tgt := 52) hx hb dX6_admits_48 (by decide) ?_
            subst hQ
            have kb_1 : bd 1 1 (1 : Int32) := ⟨by decide, by decide⟩
            exact W.zret (v := 1) hx hb hr (nar_z (bd_sub kb_1 (by decide) : bd 0 1 _).1 (bd_sub kb_1 (by decide) : bd 0 1 _).2) (fun t ht hW => ⟨⟨_, _, rfl, Or.inr (⟨rfl, trivial⟩), q3_of g hK ht hW⟩, g.2.2.1.F ht⟩) g.2.2.1.2.2 dX6_admits_52
      · have fc_12 := nlt_f c_12
        have b_23 : bd 3 2 (3 : Int32) := leL fc_12 kb_3 b_10 (by decide)
        exact bd_no (eqX rfl b_23 kb_3 (lo := 3) (hi := 2) (by decide)) (by decide)
set_option maxHeartbeats 4000000 in
set_option maxRecDepth 100000 in
theorem r_X3_mayTake (l : Launch) (dC : Nat → ClassId) (dI : Nat → Nat → Nat) (L : List Nat) (kd : Nat → Nat) (tys : List (ClassId × FieldType)) (f0 : Nat → va_E) (sz : Nat) (hWT : WT L kd tys f0) (a0_ : Nat) (ma0_ : a0_ ∈ L) (ka0_ : kd a0_ = 3) (a1_ : Nat) (ma1_ : a1_ ∈ L) (ka1_ : kd a1_ = 7) (x2_ : Int32) (x3_ : Int32) (x4_ : Int32) (x5_ : Int32) (x6_ : Int32) : Met l yX3_mayTake (.code yX3_mayTake cX3_mayTake 8 (some .boolean) :: lw_g) ({ frames := 2, cells := 0, slots := 0, locals := 43 }) (va_Pc [.ref a0_, .ref a1_, .int x2_, .int x3_, .int x4_, .int x5_, .int x6_] (P3 (dC, dI) L tys f0 sz)) (va_Qi (fun (r : Int32) (f : Nat → va_E) => (r = 0 ∧ True) ∨ (r = 1 ∧ bd 0 2 x2_ ∧ bd 0 11 x3_ ∧ ∃ z0_ : Int32, bd 1 8 z0_ ∧ ∃ z1_ : Int32, bd 1 3 z1_ ∧ Fs L kd f [(7, 1, a1_, .int z0_), (3, 4, a0_, .int z1_)])) (Q3 (dC, dI) L kd tys [] [] f0 sz) (pA L sz)) 0 0 (pA L sz) := by
  refine Met.ofW (cc := cX3_mayTake) (maxL := 8) (ret := (some .boolean)) (by decide) rfl ?_
  intro p e s m args below meth c s₁ B hml hv
  obtain ⟨rfl, hsz, hP, hK, hD0⟩ := hv
  have hx := B.exec
  have hb := B.bytes
  have hr := B.returns
  have hts := atoms_spec (ws := (.code yX3_mayTake cX3_mayTake 8 (some .boolean) :: lw_g)) B.pre
  have hown : s.vm.findClass RX3 = some m.cls := findClass_of_methodNamed B.named
  have hlocks := B.notSynchronized
  subst hsz
  have g : G3 (dC, dI) L kd tys s f0 [] [] f0 s.heap [] [] := G3.start hP hD0 hWT Fs.nil
  have hl := lv_entry ([.ref a0_, .ref a1_, .int x2_, .int x3_, .int x4_, .int x5_, .int x6_]) (n := 8) (Nat.le_of_ble_eq_true rfl)
  rw [lg_entry_eq]
  generalize (lg_sl ([.ref a0_, .ref a1_, .int x2_, .int x3_, .int x4_, .int x5_, .int x6_]) ++ List.replicate (8 - (lg_sl ([.ref a0_, .ref a1_, .int x2_, .int x3_, .int x4_, .int x5_, .int x6_])).length) Slot.unset).toArray = ls at hl ⊢
  have hl : lv_has ls 8 [(0, .ref a0_), (1, .ref a1_), (2, .int x2_), (3, .int x3_), (4, .int x4_), (5, .int x5_), (6, .int x6_)] := hl
  refine W_q (fun Q hQ => ?_)
  refine lv_iload_n hx hb dX3_mayTake_0 rfl (lv_at hl 2 rfl) ?_
  have kb_0 : bd 0 0 (0 : Int32) := ⟨by decide, by decide⟩
  refine lv_if_lt (tgt := 26) hx hb dX3_mayTake_1 (by decide) (fun c_1 => ?_) (fun c_1 => ?_)
  · have fc_1 := lt_f c_1
    have b_2 : bd (-2147483648) (-1) x2_ := ltL fc_1 (bdT x2_) kb_0 (by decide)
    refine lv_iconst (v := 0) hx hb dX3_mayTake_26 (by decide) ?_
    subst hQ
    exact W.zret (v := 0) hx hb hr (nar_z (bd_sub kb_0 (by decide) : bd 0 1 _).1 (bd_sub kb_0 (by decide) : bd 0 1 _).2) (fun t ht hW => ⟨⟨_, _, rfl, Or.inl ⟨rfl, trivial⟩, q3_of g hK ht hW⟩, g.2.2.1.F ht⟩) g.2.2.1.2.2 dX3_mayTake_27
  · have fc_1 := nlt_f c_1
    have b_3 : bd 0 2147483647 x2_ := leR fc_1 kb_0 (bdT x2_) (by decide)
    refine lv_iload_n hx hb dX3_mayTake_4 rfl (lv_at hl 2 rfl) ?_
    refine lv_aload_n hx hb dX3_mayTake_5 rfl (lv_at hl 0 rfl) ?_
    refine g_geti (C := RX3) (T := TX3) (N := 6) hx hb hts (mc_ inX3) hown hK g ma0_ ka0_ (by decide) rfl 4 (by decide) rfl (hts _ (List.mem_cons_of_mem _ t_813)) (fun _ h9 => h9) rfl dX3_mayTake_6 (fun x_4 bx_4 g => ?_)
    refine lv_icmp_ge (tgt := 26) hx hb dX3_mayTake_9 (by decide) (fun c_5 => ?_) (fun c_5 => ?_)
    · have fc_5 := le_f c_5
      refine lv_iconst (v := 0) hx hb dX3_mayTake_26 (by decide) ?_
      subst hQ
      exact W.zret (v := 0) hx hb hr (nar_z (bd_sub kb_0 (by decide) : bd 0 1 _).1 (bd_sub kb_0 (by decide) : bd 0 1 _).2) (fun t ht hW => ⟨⟨_, _, rfl, Or.inl ⟨rfl, trivial⟩, q3_of g hK ht hW⟩, g.2.2.1.F ht⟩) g.2.2.1.2.2 dX3_mayTake_27
    · have fc_5 := nle_f c_5
      have b_6 : bd 0 2 x2_ := ltL fc_5 b_3 bx_4 (by decide)
      have b_7 : bd 1 3 x_4 := ltR fc_5 b_3 bx_4 (by decide)
      refine lv_aload_n hx hb dX3_mayTake_12 rfl (lv_at hl 1 rfl) ?_
      refine lv_aload_n hx hb dX3_mayTake_13 rfl (lv_at hl 0 rfl) ?_
      refine g_getr (K := 125) (C := RX3) (T := TX3) (N := 6) hx hb hts (mc_ inX3) hown hK g ma0_ ka0_ (by decide) rfl 5 (by decide) rfl (hts _ (List.mem_cons_of_mem _ t_815)) (fun _ h9 => h9) rfl dX3_mayTake_14 (fun a_8 ma_8 ka_8 g => ?_)
      refine lv_iload_n hx hb dX3_mayTake_17 rfl (lv_at hl 2 rfl) ?_
      refine g_iald hx hb hK g ma_8 ka_8 (by decide) rfl (in_bd b_6 (by decide)) dX3_mayTake_18 (fun x_9 bx_9 => ?_)
      refine lv_iload_n hx hb dX3_mayTake_19 rfl (lv_at hl 3 rfl) ?_
      refine g_calli (va_runV (As := [.int x_9, .int x3_]) (rest := []) ⟨hx, hb, hml, hown, hts⟩ (r_X7_hasMember l dC dI L kd tys f0 s.heap.size g.2.2.2.1 a1_ ma1_ ka1_ x_9 x3_) (cwV 2 hts (gV_ t_1497 t_1448 t_1449 t_191 t_1450) rfl rfl rfl (by decide +kernel) ⟨(Nat.le_of_ble_eq_true rfl), (Nat.le_of_ble_eq_true rfl)⟩) (pre3V g hK ma1_ ka1_ (by decide) (q := (RX7, TX7, 19)) rfl) rfl rfl hl.1 rfl (lv_room (Nat.le_of_ble_eq_true rfl)) dX3_mayTake_20 ⟨(Nat.le_of_ble_eq_true rfl), (Nat.le_of_ble_eq_true rfl)⟩) g hK (by decide) (by decide) (fx' := [(3, 5, a0_, .ref a_8), (3, 4, a0_, .int x_4)]) rfl (fun r_10 fr_10 H locs hp hMr_10 g => ?_)
      rcases hp with ⟨h_11, -⟩ | ⟨h_12, h_13, h_14, x_15, h_16, hF_17⟩
      · obtain rfl : r_10 = 0 := h_11
        refine lv_if_ne (tgt := 28) hx hb dX3_mayTake_23 (by decide) (fun c_ => absurd c_ (by decide)) (fun c_ => ?_)
        refine lv_iconst (v := 0) hx hb dX3_mayTake_26 (by decide) ?_
        subst hQ
        exact W.zret (v := 0) hx hb hr (nar_z (bd_sub kb_0 (by decide) : bd 0 1 _).1 (bd_sub kb_0 (by decide) : bd 0 1 _).2) (fun t ht hW => ⟨⟨_, _, rfl, Or.inl ⟨rfl, trivial⟩, q3_of g hK ht hW⟩, g.2.2.1.F ht⟩) g.2.2.1.2.2 dX3_mayTake_27
      · obtain rfl : r_10 = 1 := h_12
        have b_18 : bd 0 11 x3_ := eqX rfl (bdT x3_) h_14 (by decide)
        have g := g.more hF_17
        refine lv_if_ne (tgt := 28) hx hb dX3_mayTake_23 (by decide) (fun c_ => ?_) (fun c_ => absurd c_ (by decide))
        refine lv_aload_n hx hb dX3_mayTake_28 rfl (lv_at hl 0 rfl) ?_
        refine lv_aload_n hx hb dX3_mayTake_29 rfl (lv_at hl 1 rfl) ?_
        refine lv_iload_n hx hb dX3_mayTake_30 rfl (lv_at hl 2 rfl) ?_
        refine lv_iload_n hx hb dX3_mayTake_31 rfl (lv_at hl 3 rfl) ?_
        refine g_callr (va_runV (As := [.ref a1_, .int x2_, .int x3_]) (rest := []) ⟨hx, hb, hml, hown, hts⟩ (r_X3_tellingOf l dC dI L kd tys fr_10 H.size g.2.2.2.1 a0_ ma0_ ka0_ a1_ ma1_ ka1_ x2_ b_6 x3_ b_18 x_15 h_16 x_4 b_7 (g.fcts [0, 2] rfl)) (cwV 3 hts (gV_ t_1498 t_1500 t_53 t_196 t_1501) rfl rfl rfl (by decide +kernel) ⟨(Nat.le_of_ble_eq_true rfl), (Nat.le_of_ble_eq_true rfl)⟩) (pre3V g hK ma0_ ka0_ (by decide) (q := (RX3, TX3, 6)) rfl) rfl rfl hl.1 rfl (lv_room (Nat.le_of_ble_eq_true rfl)) dX3_mayTake_32 ⟨(Nat.le_of_ble_eq_true rfl), (Nat.le_of_ble_eq_true rfl)⟩) g hK (by decide) (by decide) (fx' := [(7, 1, a1_, .int x_15), (3, 5, a0_, .ref a_8), (3, 4, a0_, .int x_4)]) rfl (fun r_19 fr_19 H locs hp hMr_19 g => ?_)
        obtain ⟨mr_19, kr_19⟩ := hp
        refine lv_astore (lv' := [(7, .ref r_19), (0, .ref a0_), (1, .ref a1_), (2, .int x2_), (3, .int x3_), (4, .int x4_), (5, .int x5_), (6, .int x6_)]) hx hb dX3_mayTake_35 hl (by decide) rfl (fun ls hl => ?_)
        refine lv_aload hx hb dX3_mayTake_37 (lv_at hl 0 rfl) ?_
        refine lv_iconst (v := 0) hx hb dX3_mayTake_39 (by decide) ?_
        refine lv_iload hx hb dX3_mayTake_40 (lv_at hl 5 rfl) ?_
        refine g_calli (va_runV (As := [.int 0, .int x4_]) (rest := []) ⟨hx, hb, hml, hown, hts⟩ (r_X6_admits l dC dI L kd tys fr_19 H.size g.2.2.2.1 r_19 mr_19 kr_19 0 x4_) (cwV 2 hts (gV_ t_1502 t_1503 t_1504 t_193 t_1505) rfl rfl rfl (by decide +kernel) ⟨(Nat.le_of_ble_eq_true rfl), (Nat.le_of_ble_eq_true rfl)⟩) (pre3V g hK mr_19 kr_19 (by decide) (q := (RX6, TX6, 13)) rfl) rfl rfl hl.1 rfl (lv_room (Nat.le_of_ble_eq_true rfl)) dX3_mayTake_42 ⟨(Nat.le_of_ble_eq_true rfl), (Nat.le_of_ble_eq_true rfl)⟩) g hK (by decide) (by decide) (fx' := [(7, 1, a1_, .int x_15), (3, 5, a0_, .ref a_8), (3, 4, a0_, .int x_4)]) rfl (fun r_20 fr_20 H locs hp hMr_20 g => ?_)
        rcases hp with ⟨h_21, -⟩ | ⟨h_22, -⟩
        · obtain rfl : r_20 = 0 := h_21
          refine lv_if_eq (tgt := 74) hx hb dX3_mayTake_45 (by decide) (fun c_ => ?_) (fun c_ => absurd (by decide) c_)
          refine lv_iconst (v := 0) hx hb dX3_mayTake_74 (by decide) ?_
          subst hQ
          exact W.zret (v := 0) hx hb hr (nar_z (bd_sub kb_0 (by decide) : bd 0 1 _).1 (bd_sub kb_0 (by decide) : bd 0 1 _).2) (fun t ht hW => ⟨⟨_, _, rfl, Or.inl ⟨rfl, trivial⟩, q3_of g hK ht hW⟩, g.2.2.1.F ht⟩) g.2.2.1.2.2 dX3_mayTake_75
        · obtain rfl : r_20 = 1 := h_22
          refine lv_if_eq (tgt := 74) hx hb dX3_mayTake_45 (by decide) (fun c_ => absurd c_ (by decide)) (fun c_ => ?_)
          refine lv_aload hx hb dX3_mayTake_48 (lv_at hl 0 rfl) ?_
          refine lv_iconst (v := 1) hx hb dX3_mayTake_50 (by decide) ?_
          refine lv_iload hx hb dX3_mayTake_51 (lv_at hl 6 rfl) ?_
          refine g_calli (va_runV (As := [.int 1, .int x5_]) (rest := []) ⟨hx, hb, hml, hown, hts⟩ (r_X6_admits l dC dI L kd tys fr_20 H.size g.2.2.2.1 r_19 mr_19 kr_19 1 x5_) (cwV 2 hts (gV_ t_1502 t_1503 t_1504 t_193 t_1505) rfl rfl rfl (by decide +kernel) ⟨(Nat.le_of_ble_eq_true rfl), (Nat.le_of_ble_eq_true rfl)⟩) (pre3V g hK mr_19 kr_19 (by decide) (q := (RX6, TX6, 13)) rfl) rfl rfl hl.1 rfl (lv_room (Nat.le_of_ble_eq_true rfl)) dX3_mayTake_53 ⟨(Nat.le_of_ble_eq_true rfl), (Nat.le_of_ble_eq_true rfl)⟩) g hK (by decide) (by decide) (fx' := [(7, 1, a1_, .int x_15), (3, 5, a0_, .ref a_8), (3, 4, a0_, .int x_4)]) rfl (fun r_23 fr_23 H locs hp hMr_23 g => ?_)
          rcases hp with ⟨h_24, -⟩ | ⟨h_25, -⟩
          · obtain rfl : r_23 = 0 := h_24
            refine lv_if_eq (tgt := 74) hx hb dX3_mayTake_56 (by decide) (fun c_ => ?_) (fun c_ => absurd (by decide) c_)
            refine lv_iconst (v := 0) hx hb dX3_mayTake_74 (by decide) ?_
            subst hQ
            exact W.zret (v := 0) hx hb hr (nar_z (bd_sub kb_0 (by decide) : bd 0 1 _).1 (bd_sub kb_0 (by decide) : bd 0 1 _).2) (fun t ht hW => ⟨⟨_, _, rfl, Or.inl ⟨rfl, trivial⟩, q3_of g hK ht hW⟩, g.2.2.1.F ht⟩) g.2.2.1.2.2 dX3_mayTake_75
          · obtain rfl : r_23 = 1 := h_25
            refine lv_if_eq (tgt := 74) hx hb dX3_mayTake_56 (by decide) (fun c_ => absurd c_ (by decide)) (fun c_ => ?_)
            refine lv_aload hx hb dX3_mayTake_59 (lv_at hl 0 rfl) ?_
            refine lv_iconst (v := 2) hx hb dX3_mayTake_61 (by decide) ?_
            refine lv_iload hx hb dX3_mayTake_62 (lv_at hl 7 rfl) ?_
            refine g_calli (va_runV (As := [.int 2, .int x6_]) (rest := []) ⟨hx, hb, hml, hown, hts⟩ (r_X6_admits l dC dI L kd tys fr_23 H.size g.2.2.2.1 r_19 mr_19 kr_19 2 x6_) (cwV 2 hts (gV_ t_1502 t_1503 t_1504 t_193 t_1505) rfl rfl rfl (by decide +kernel) ⟨(Nat.le_of_ble_eq_true rfl), (Nat.le_of_ble_eq_true rfl)⟩) (pre3V g hK mr_19 kr_19 (by decide) (q := (RX6, TX6, 13)) rfl) rfl rfl hl.1 rfl (lv_room (Nat.le_of_ble_eq_true rfl)) dX3_mayTake_64 ⟨(Nat.le_of_ble_eq_true rfl), (Nat.le_of_ble_eq_true rfl)⟩) g hK (by decide) (by decide) (fx' := [(7, 1, a1_, .int x_15), (3, 5, a0_, .ref a_8), (3, 4, a0_, .int x_4)]) rfl (fun r_26 fr_26 H locs hp hMr_26 g => ?_)
            rcases hp with ⟨h_27, -⟩ | ⟨h_28, -⟩
            · obtain rfl : r_26 = 0 := h_27
              refine lv_if_eq (tgt := 74) hx hb dX3_mayTake_67 (by decide) (fun c_ => ?_) (fun c_ => absurd (by decide) c_)
              refine lv_iconst (v := 0) hx hb dX3_mayTake_74 (by decide) ?_
              subst hQ
              exact W.zret (v := 0) hx hb hr (nar_z (bd_sub kb_0 (by decide) : bd 0 1 _).1 (bd_sub kb_0 (by decide) : bd 0 1 _).2) (fun t ht hW => ⟨⟨_, _, rfl, Or.inl ⟨rfl, trivial⟩, q3_of g hK ht hW⟩, g.2.2.1.F ht⟩) g.2.2.1.2.2 dX3_mayTake_75
            · obtain rfl : r_26 = 1 := h_28
              refine lv_if_eq (tgt := 74) hx hb dX3_mayTake_67 (by decide) (fun c_ => absurd c_ (by decide)) (fun c_ => ?_)
              refine lv_iconst (v := 1) hx hb dX3_mayTake_70 (by decide) ?_
              refine lv_goto (tgt := 75) hx hb dX3_mayTake_71 (by decide) ?_
              subst hQ
              have kb_1 : bd 1 1 (1 : Int32) := ⟨by decide, by decide⟩
              exact W.zret (v := 1) hx hb hr (nar_z (bd_sub kb_1 (by decide) : bd 0 1 _).1 (bd_sub kb_1 (by decide) : bd 0 1 _).2) (fun t ht hW => ⟨⟨_, _, rfl, Or.inr (⟨rfl, b_6, b_18, x_15, h_16, x_4, b_7, (g.fcts [0, 2] rfl)⟩), q3_of g hK ht hW⟩, g.2.2.1.F ht⟩) g.2.2.1.2.2 dX3_mayTake_75
set_option maxHeartbeats 4000000 in
set_option maxRecDepth 100000 in
theorem r_X3_copyFrom (l : Launch) (dC : Nat → ClassId) (dI : Nat → Nat → Nat) (L : List Nat) (kd : Nat → Nat) (tys : List (ClassId × FieldType)) (f0 : Nat → va_E) (sz : Nat) (hWT : WT L kd tys f0) (a0_ : Nat) (ma0_ : a0_ ∈ L) (ka0_ : kd a0_ = 3) (a1_ : Nat) (ma1_ : a1_ ∈ L) (ka1_ : kd a1_ = 3) : Met l yX3_copyFrom (.code yX3_copyFrom cX3_copyFrom 3 none :: lw_g) ({ frames := 1, cells := 0, slots := 0, locals := 40 }) (va_Pc [.ref a0_, .ref a1_] (P3 (dC, dI) L tys f0 sz)) (va_Qv (fun (f : Nat → va_E) => (True)) (Q3 (dC, dI) L kd tys [(3, 0), (3, 4)] [103, 122, 123, 125] f0 sz) (pA L sz)) 0 0 (pA L sz) := by
  refine Met.ofW (cc := cX3_copyFrom) (maxL := 3) (ret := none) (by decide) rfl ?_
  intro p e s m args below meth c s₁ B hml hv
  obtain ⟨rfl, hsz, hP, hK, hD0⟩ := hv
  have hx := B.exec
  have hb := B.bytes
  have hr := B.returns
  have hts := atoms_spec (ws := (.code yX3_copyFrom cX3_copyFrom 3 none :: lw_g)) B.pre
  have hown : s.vm.findClass RX3 = some m.cls := findClass_of_methodNamed B.named
  have hlocks := B.notSynchronized
  subst hsz
  have g : G3 (dC, dI) L kd tys s f0 [(3, 0), (3, 4)] [103, 122, 123, 125] f0 s.heap [] [] := G3.start hP hD0 hWT Fs.nil
  have hl := lv_entry ([.ref a0_, .ref a1_]) (n := 3) (Nat.le_of_ble_eq_true rfl)
  rw [lg_entry_eq]
  generalize (lg_sl ([.ref a0_, .ref a1_]) ++ List.replicate (3 - (lg_sl ([.ref a0_, .ref a1_])).length) Slot.unset).toArray = ls at hl ⊢
  have hl : lv_has ls 3 [(0, .ref a0_), (1, .ref a1_)] := hl
  refine W_q (fun Q hQ => ?_)
  refine lv_aload_n hx hb dX3_copyFrom_0 rfl (lv_at hl 0 rfl) ?_
  refine lv_aload_n hx hb dX3_copyFrom_1 rfl (lv_at hl 1 rfl) ?_
  refine g_geti (C := RX3) (T := TX3) (N := 6) hx hb hts (mc_ inX3) hown hK g ma1_ ka1_ (by decide) rfl 0 (by decide) rfl (hts _ (List.mem_cons_of_mem _ t_801)) (fun _ h9 => h9) rfl dX3_copyFrom_2 (fun x_1 bx_1 g => ?_)
  refine g_put (C := RX3) (T := TX3) (N := 6) hx hb hts (mc_ inX3) tyX3 tyX3_ok nmX3 hown hK g ma0_ ka0_ (by decide) rfl 0 (by decide) (hts _ (List.mem_cons_of_mem _ t_801)) (fun _ h9 => h9) rfl rfl (okV_i bx_1) rfl rfl (by decide) (Or.inr (Or.inl (by decide))) (fx' := []) rfl dX3_copyFrom_5 (fun f H locs g => ?_)
  refine lv_aload_n hx hb dX3_copyFrom_8 rfl (lv_at hl 0 rfl) ?_
  refine lv_aload_n hx hb dX3_copyFrom_9 rfl (lv_at hl 1 rfl) ?_
  refine g_geti (C := RX3) (T := TX3) (N := 6) hx hb hts (mc_ inX3) hown hK g ma1_ ka1_ (by decide) rfl 4 (by decide) rfl (hts _ (List.mem_cons_of_mem _ t_813)) (fun _ h9 => h9) rfl dX3_copyFrom_10 (fun x_2 bx_2 g => ?_)
  refine g_put (C := RX3) (T := TX3) (N := 6) hx hb hts (mc_ inX3) tyX3 tyX3_ok nmX3 hown hK g ma0_ ka0_ (by decide) rfl 4 (by decide) (hts _ (List.mem_cons_of_mem _ t_813)) (fun _ h9 => h9) rfl rfl (okV_i bx_2) rfl rfl (by decide) (Or.inr (Or.inl (by decide))) (fx' := [(3, 0, a0_, .int x_1)]) rfl dX3_copyFrom_13 (fun f H locs g => ?_)
  refine lv_aload_n hx hb dX3_copyFrom_16 rfl (lv_at hl 1 rfl) ?_
  refine g_getr (K := 122) (C := RX3) (T := TX3) (N := 6) hx hb hts (mc_ inX3) hown hK g ma1_ ka1_ (by decide) rfl 1 (by decide) rfl (hts _ (List.mem_cons_of_mem _ t_804)) (fun _ h9 => h9) rfl dX3_copyFrom_17 (fun a_3 ma_3 ka_3 g => ?_)
  refine lv_iconst (v := 0) hx hb dX3_copyFrom_20 (by decide) ?_
  refine lv_aload_n hx hb dX3_copyFrom_21 rfl (lv_at hl 0 rfl) ?_
  refine g_getr (K := 122) (C := RX3) (T := TX3) (N := 6) hx hb hts (mc_ inX3) hown hK g ma0_ ka0_ (by decide) rfl 1 (by decide) rfl (hts _ (List.mem_cons_of_mem _ t_804)) (fun _ h9 => h9) rfl dX3_copyFrom_22 (fun a_4 ma_4 ka_4 g => ?_)
  refine lv_iconst (v := 0) hx hb dX3_copyFrom_25 (by decide) ?_
  refine lv_bipush (v := 10) hx hb dX3_copyFrom_26 (by decide) ?_
  refine g_copyi hx hb (hml.trans hl.1.symm) hown (hts _ (List.mem_cons_of_mem _ t_999)) (hts _ (List.mem_cons_of_mem _ t_999)) (hts _ (List.mem_cons_of_mem _ t_999)) (hts _ (List.mem_cons_of_mem _ t_206)) hK g ma_3 ka_3 ma_4 ka_4 (by decide) (by decide) rfl rfl (by decide) (by decide) (by decide) (by decide) (by decide) (Nat.le_of_ble_eq_true rfl) (Nat.le_of_ble_eq_true rfl) dX3_copyFrom_28 (fun f H locs g => ?_)
  refine lv_aload_n hx hb dX3_copyFrom_31 rfl (lv_at hl 1 rfl) ?_
  refine g_getr (K := 123) (C := RX3) (T := TX3) (N := 6) hx hb hts (mc_ inX3) hown hK g ma1_ ka1_ (by decide) rfl 2 (by decide) rfl (hts _ (List.mem_cons_of_mem _ t_807)) (fun _ h9 => h9) rfl dX3_copyFrom_32 (fun a_5 ma_5 ka_5 g => ?_)
  refine lv_iconst (v := 0) hx hb dX3_copyFrom_35 (by decide) ?_
  refine lv_aload_n hx hb dX3_copyFrom_36 rfl (lv_at hl 0 rfl) ?_
  refine g_getr (K := 123) (C := RX3) (T := TX3) (N := 6) hx hb hts (mc_ inX3) hown hK g ma0_ ka0_ (by decide) rfl 2 (by decide) rfl (hts _ (List.mem_cons_of_mem _ t_807)) (fun _ h9 => h9) rfl dX3_copyFrom_37 (fun a_6 ma_6 ka_6 g => ?_)
  refine lv_iconst (v := 0) hx hb dX3_copyFrom_40 (by decide) ?_
  refine lv_bipush (v := 10) hx hb dX3_copyFrom_41 (by decide) ?_
  refine g_copyi hx hb (hml.trans hl.1.symm) hown (hts _ (List.mem_cons_of_mem _ t_999)) (hts _ (List.mem_cons_of_mem _ t_999)) (hts _ (List.mem_cons_of_mem _ t_999)) (hts _ (List.mem_cons_of_mem _ t_206)) hK g ma_5 ka_5 ma_6 ka_6 (by decide) (by decide) rfl rfl (by decide) (by decide) (by decide) (by decide) (by decide) (Nat.le_of_ble_eq_true rfl) (Nat.le_of_ble_eq_true rfl) dX3_copyFrom_43 (fun f H locs g => ?_)
  refine lv_aload_n hx hb dX3_copyFrom_46 rfl (lv_at hl 1 rfl) ?_
  refine g_getr (K := 125) (C := RX3) (T := TX3) (N := 6) hx hb hts (mc_ inX3) hown hK g ma1_ ka1_ (by decide) rfl 5 (by decide) rfl (hts _ (List.mem_cons_of_mem _ t_815)) (fun _ h9 => h9) rfl dX3_copyFrom_47 (fun a_7 ma_7 ka_7 g => ?_)
  refine lv_iconst (v := 0) hx hb dX3_copyFrom_50 (by decide) ?_
  refine lv_aload_n hx hb dX3_copyFrom_51 rfl (lv_at hl 0 rfl) ?_
  refine g_getr (K := 125) (C := RX3) (T := TX3) (N := 6) hx hb hts (mc_ inX3) hown hK g ma0_ ka0_ (by decide) rfl 5 (by decide) rfl (hts _ (List.mem_cons_of_mem _ t_815)) (fun _ h9 => h9) rfl dX3_copyFrom_52 (fun a_8 ma_8 ka_8 g => ?_)
  refine lv_iconst (v := 0) hx hb dX3_copyFrom_55 (by decide) ?_
  refine lv_iconst (v := 3) hx hb dX3_copyFrom_56 (by decide) ?_
  refine g_copyi hx hb (hml.trans hl.1.symm) hown (hts _ (List.mem_cons_of_mem _ t_999)) (hts _ (List.mem_cons_of_mem _ t_999)) (hts _ (List.mem_cons_of_mem _ t_999)) (hts _ (List.mem_cons_of_mem _ t_206)) hK g ma_7 ka_7 ma_8 ka_8 (by decide) (by decide) rfl rfl (by decide) (by decide) (by decide) (by decide) (by decide) (Nat.le_of_ble_eq_true rfl) (Nat.le_of_ble_eq_true rfl) dX3_copyFrom_57 (fun f H locs g => ?_)
  refine lv_iconst (v := 0) hx hb dX3_copyFrom_60 (by decide) ?_
  refine lv_istore_n (lv' := [(2, .int 0), (0, .ref a0_), (1, .ref a1_)]) hx hb dX3_copyFrom_61 rfl hl (by decide) rfl (fun ls hl => ?_)
  have loop_9 : ∀ (n : Nat) (v62_2 : Int32), bd 0 10 v62_2 → (10 - v62_2.toInt < (n : Int)) → ∀ (f : Nat → va_E) (H : Heap) (locs : List Loc) (ls : Array Slot), G3 (dC, dI) L kd tys s f0 [(3, 0), (3, 4)] [103, 122, 123, 125] f H locs [(3, 5, a0_, .ref a_8), (3, 5, a1_, .ref a_7), (3, 2, a0_, .ref a_6), (3, 2, a1_, .ref a_5), (3, 1, a0_, .ref a_4), (3, 1, a1_, .ref a_3), (3, 4, a0_, .int x_2), (3, 0, a0_, .int x_1)] → lv_has ls 3 [(2, .int v62_2), (0, .ref a0_), (1, .ref a1_)] → W p l e ({ frames := 1, cells := 0, slots := 0, locals := 40 } : Room) s m [.ref a0_, .ref a1_].toArray below meth c H locs 0 0 Q (F0 m 62 ls []) := by
    intro n
    induction n with
    | zero =>
      intro v62_2 bv62_2 hm f H locs ls g hl
      exact absurd hm (by have h9_v62_2 := bv62_2; unfold bd at h9_v62_2; omega)
    | succ n ih =>
      intro v62_2 bv62_2 hm f H locs ls g hl
      refine lv_iload_n hx hb dX3_copyFrom_62 rfl (lv_at hl 0 rfl) ?_
      refine lv_bipush (v := 10) hx hb dX3_copyFrom_63 (by decide) ?_
      have kb_10 : bd 10 10 (10 : Int32) := ⟨by decide, by decide⟩
      refine lv_icmp_ge (tgt := 92) hx hb dX3_copyFrom_65 (by decide) (fun c_10 => ?_) (fun c_10 => ?_)
      · have fc_10 := le_f c_10
        have b_11 : bd 10 10 v62_2 := leR fc_10 kb_10 bv62_2 (by decide)
        subst hQ
        exact W.vret hx hb hr (fun t ht hW => ⟨⟨_, rfl, trivial, q3_of g hK ht hW⟩, g.2.2.1.F ht⟩) g.2.2.1.2.2 dX3_copyFrom_92
      · have fc_10 := nle_f c_10
        have b_12 : bd 0 9 v62_2 := ltL fc_10 bv62_2 kb_10 (by decide)
        refine lv_aload_n hx hb dX3_copyFrom_68 rfl (lv_at hl 2 rfl) ?_
        refine g_getr (K := 124) (C := RX3) (T := TX3) (N := 6) hx hb hts (mc_ inX3) hown hK g ma1_ ka1_ (by decide) rfl 3 (by decide) rfl (hts _ (List.mem_cons_of_mem _ t_810)) (fun _ h9 => h9) rfl dX3_copyFrom_69 (fun a_13 ma_13 ka_13 g => ?_)
        refine lv_iload_n hx hb dX3_copyFrom_72 rfl (lv_at hl 0 rfl) ?_
        refine g_aald hx hb hK g ma_13 ka_13 (by decide) rfl (by decide) (in_bd b_12 (by decide)) dX3_copyFrom_73 (fun a_14 ma_14 ua_14 wa_14 => ?_)
        have ka_14 : kd a_14 = 103 := by omega
        refine lv_iconst (v := 0) hx hb dX3_copyFrom_74 (by decide) ?_
        refine lv_aload_n hx hb dX3_copyFrom_75 rfl (lv_at hl 1 rfl) ?_
        refine g_getr (K := 124) (C := RX3) (T := TX3) (N := 6) hx hb hts (mc_ inX3) hown hK g ma0_ ka0_ (by decide) rfl 3 (by decide) rfl (hts _ (List.mem_cons_of_mem _ t_810)) (fun _ h9 => h9) rfl dX3_copyFrom_76 (fun a_15 ma_15 ka_15 g => ?_)
        refine lv_iload_n hx hb dX3_copyFrom_79 rfl (lv_at hl 0 rfl) ?_
        refine g_aald hx hb hK g ma_15 ka_15 (by decide) rfl (by decide) (in_bd b_12 (by decide)) dX3_copyFrom_80 (fun a_16 ma_16 ua_16 wa_16 => ?_)
        have ka_16 : kd a_16 = 103 := by omega
        refine lv_iconst (v := 0) hx hb dX3_copyFrom_81 (by decide) ?_
        refine lv_iconst (v := 3) hx hb dX3_copyFrom_82 (by decide) ?_
        refine g_copyi hx hb (hml.trans hl.1.symm) hown (hts _ (List.mem_cons_of_mem _ t_999)) (hts _ (List.mem_cons_of_mem _ t_999)) (hts _ (List.mem_cons_of_mem _ t_999)) (hts _ (List.mem_cons_of_mem _ t_206)) hK g ma_14 ka_14 ma_16 ka_16 (by decide) (by decide) rfl rfl (by decide) (by decide) (by decide) (by decide) (by decide) (Nat.le_of_ble_eq_true rfl) (Nat.le_of_ble_eq_true rfl) dX3_copyFrom_83 (fun f H locs g => ?_)
        have kb_1 : bd 1 1 (1 : Int32) := ⟨by decide, by decide⟩
        obtain ⟨y_17, ey_17⟩ : ∃ z : Int32, z = v62_2 + 1 := ⟨_, rfl⟩
        refine lv_iinc (v := y_17) (lv' := [(2, .int y_17), (0, .ref a0_), (1, .ref a1_)]) hx hb dX3_copyFrom_86 hl (k := 0) rfl (by rw [ey_17]; rfl) (by decide) rfl (fun ls hl => ?_)
        have ty_17 := add_bd ey_17 b_12 kb_1 (by decide)
        have b_18 : bd 1 10 y_17 := add_rg ty_17 b_12 kb_1 (by decide)
        refine lv_goto (tgt := 62) hx hb dX3_copyFrom_89 (by decide) ?_
        have hl9 := lv_sub hl [0, 1, 2] (by rfl : lv_pick [(2, .int y_17), (0, .ref a0_), (1, .ref a1_)] [0, 1, 2] = [(2, .int y_17), (0, .ref a0_), (1, .ref a1_)])
        have g9 := g.sub (fx' := [(3, 5, a0_, .ref a_8), (3, 5, a1_, .ref a_7), (3, 2, a0_, .ref a_6), (3, 2, a1_, .ref a_5), (3, 1, a0_, .ref a_4), (3, 1, a1_, .ref a_3), (3, 4, a0_, .int x_2), (3, 0, a0_, .int x_1)]) [2, 3, 4, 5, 6, 7, 8, 9] rfl
        exact ih  y_17 (bd_sub b_18 (by decide)) (by have h9_0 := b_18; unfold bd at h9_0; have h9_1 := kb_1; unfold bd at h9_1; have h9_2 := kb_10; unfold bd at h9_2; omega) _ _ _ _ g9 hl9
  have kb_0 : bd 0 0 (0 : Int32) := ⟨by decide, by decide⟩
  have hl9 := lv_sub hl [0, 1, 2] (by rfl : lv_pick [(2, .int 0), (0, .ref a0_), (1, .ref a1_)] [0, 1, 2] = [(2, .int 0), (0, .ref a0_), (1, .ref a1_)])
  have g9 := g.sub (fx' := [(3, 5, a0_, .ref a_8), (3, 5, a1_, .ref a_7), (3, 2, a0_, .ref a_6), (3, 2, a1_, .ref a_5), (3, 1, a0_, .ref a_4), (3, 1, a1_, .ref a_3), (3, 4, a0_, .int x_2), (3, 0, a0_, .int x_1)]) [0, 1, 2, 3, 4, 5, 6, 7] rfl
  exact loop_9 (23) 0 (bd_sub kb_0 (by decide)) (by have h9_0 := kb_0; unfold bd at h9_0; omega) _ _ _ _ g9 hl9
set_option maxHeartbeats 4000000 in
set_option maxRecDepth 100000 in
theorem r_X4_forgetCall (l : Launch) (dC : Nat → ClassId) (dI : Nat → Nat → Nat) (L : List Nat) (kd : Nat → Nat) (tys : List (ClassId × FieldType)) (f0 : Nat → va_E) (sz : Nat) (hWT : WT L kd tys f0) (a0_ : Nat) (ma0_ : a0_ ∈ L) (ka0_ : kd a0_ = 4) (x1_ : Int32) : Met l yX4_forgetCall (.code yX4_forgetCall cX4_forgetCall 2 none :: lw_g) ({ frames := 0, cells := 0, slots := 0, locals := 0 }) (va_Pc [.ref a0_, .int x1_] (P3 (dC, dI) L tys f0 sz)) (va_Qv (fun (f : Nat → va_E) => (True)) (Q3 (dC, dI) L kd tys [] [130, 131] f0 sz) (pA L sz)) 0 0 (pA L sz) := by
  refine Met.ofW (cc := cX4_forgetCall) (maxL := 2) (ret := none) (by decide) rfl ?_
  intro p e s m args below meth c s₁ B hml hv
  obtain ⟨rfl, hsz, hP, hK, hD0⟩ := hv
  have hx := B.exec
  have hb := B.bytes
  have hr := B.returns
  have hts := atoms_spec (ws := (.code yX4_forgetCall cX4_forgetCall 2 none :: lw_g)) B.pre
  have hown : s.vm.findClass RX4 = some m.cls := findClass_of_methodNamed B.named
  have hlocks := B.notSynchronized
  subst hsz
  have g : G3 (dC, dI) L kd tys s f0 [] [130, 131] f0 s.heap [] [] := G3.start hP hD0 hWT Fs.nil
  have hl := lv_entry ([.ref a0_, .int x1_]) (n := 2) (Nat.le_of_ble_eq_true rfl)
  rw [lg_entry_eq]
  generalize (lg_sl ([.ref a0_, .int x1_]) ++ List.replicate (2 - (lg_sl ([.ref a0_, .int x1_])).length) Slot.unset).toArray = ls at hl ⊢
  have hl : lv_has ls 2 [(0, .ref a0_), (1, .int x1_)] := hl
  refine W_q (fun Q hQ => ?_)
  refine lv_iload_n hx hb dX4_forgetCall_0 rfl (lv_at hl 1 rfl) ?_
  have kb_0 : bd 0 0 (0 : Int32) := ⟨by decide, by decide⟩
  refine lv_if_lt (tgt := 24) hx hb dX4_forgetCall_1 (by decide) (fun c_1 => ?_) (fun c_1 => ?_)
  · have fc_1 := lt_f c_1
    have b_2 : bd (-2147483648) (-1) x1_ := ltL fc_1 (bdT x1_) kb_0 (by decide)
    subst hQ
    exact W.vret hx hb hr (fun t ht hW => ⟨⟨_, rfl, trivial, q3_of g hK ht hW⟩, g.2.2.1.F ht⟩) g.2.2.1.2.2 dX4_forgetCall_24
  · have fc_1 := nlt_f c_1
    have b_3 : bd 0 2147483647 x1_ := leR fc_1 kb_0 (bdT x1_) (by decide)
    refine lv_iload_n hx hb dX4_forgetCall_4 rfl (lv_at hl 1 rfl) ?_
    refine lv_bipush (v := 10) hx hb dX4_forgetCall_5 (by decide) ?_
    have kb_10 : bd 10 10 (10 : Int32) := ⟨by decide, by decide⟩
    refine lv_icmp_ge (tgt := 24) hx hb dX4_forgetCall_7 (by decide) (fun c_4 => ?_) (fun c_4 => ?_)
    · have fc_4 := le_f c_4
      have b_5 : bd 10 2147483647 x1_ := leR fc_4 kb_10 b_3 (by decide)
      subst hQ
      exact W.vret hx hb hr (fun t ht hW => ⟨⟨_, rfl, trivial, q3_of g hK ht hW⟩, g.2.2.1.F ht⟩) g.2.2.1.2.2 dX4_forgetCall_24
    · have fc_4 := nle_f c_4
      have b_6 : bd 0 9 x1_ := ltL fc_4 b_3 kb_10 (by decide)
      refine lv_aload_n hx hb dX4_forgetCall_10 rfl (lv_at hl 0 rfl) ?_
      refine g_getr (K := 130) (C := RX4) (T := TX4) (N := 17) hx hb hts (mc_ inX4) hown hK g ma0_ ka0_ (by decide) rfl 12 (by decide) rfl (hts _ (List.mem_cons_of_mem _ t_867)) (fun _ h9 => h9) rfl dX4_forgetCall_11 (fun a_7 ma_7 ka_7 g => ?_)
      refine lv_iload_n hx hb dX4_forgetCall_14 rfl (lv_at hl 1 rfl) ?_
      refine lv_iconst (v := 0) hx hb dX4_forgetCall_15 (by decide) ?_
      refine g_iast hx hb hK g ma_7 ka_7 (by decide) rfl (in_bd b_6 (by decide)) (bd_sub kb_0 (by decide)) (by decide) dX4_forgetCall_16 (fun f H locs g => ?_)
      refine lv_aload_n hx hb dX4_forgetCall_17 rfl (lv_at hl 0 rfl) ?_
      refine g_getr (K := 131) (C := RX4) (T := TX4) (N := 17) hx hb hts (mc_ inX4) hown hK g ma0_ ka0_ (by decide) rfl 13 (by decide) rfl (hts _ (List.mem_cons_of_mem _ t_870)) (fun _ h9 => h9) rfl dX4_forgetCall_18 (fun a_8 ma_8 ka_8 g => ?_)
      refine lv_iload_n hx hb dX4_forgetCall_21 rfl (lv_at hl 1 rfl) ?_
      refine lv_iconst (v := 0) hx hb dX4_forgetCall_22 (by decide) ?_
      refine g_iast hx hb hK g ma_8 ka_8 (by decide) rfl (in_bd b_6 (by decide)) (bd_sub kb_0 (by decide)) (by decide) dX4_forgetCall_23 (fun f H locs g => ?_)
      subst hQ
      exact W.vret hx hb hr (fun t ht hW => ⟨⟨_, rfl, trivial, q3_of g hK ht hW⟩, g.2.2.1.F ht⟩) g.2.2.1.2.2 dX4_forgetCall_24
