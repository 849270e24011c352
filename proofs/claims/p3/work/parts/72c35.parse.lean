set_option maxHeartbeats 4000000 in
set_option maxRecDepth 100000 in
theorem r_X2_openBody_2 (l : Launch) (dC : Nat → ClassId) (dI : Nat → Nat → Nat) (L : List Nat) (kd : Nat → Nat) (tys : List (ClassId × FieldType)) (f0 : Nat → va_E) (sz : Nat) (hWT : WT L kd tys f0) (a0_ : Nat) (ma0_ : a0_ ∈ L) (ka0_ : kd a0_ = 2) (q0_ : Nat) (mq0_ : q0_ ∈ L) (kq0_ : kd q0_ = 8) (q1_ : Nat) (mq1_ : q1_ ∈ L) (kq1_ : kd q1_ = 7) (q2_ : Nat) (mq2_ : q2_ ∈ L) (kq2_ : kd q2_ = 6) (y0_ : Int32) (by0_ : bd 1201 1201 y0_) (y1_ : Int32) (by1_ : bd 1 7 y1_) (hfx : Fs L kd f0 [(2, 0, a0_, .ref q0_), (2, 3, a0_, .ref q1_), (2, 5, a0_, .ref q2_), (8, 6, q0_, .int y0_), (8, 8, q0_, .int y1_)]) : Met l yX2_openBody (.code yX2_openBody cX2_openBody 3 none :: lw_g) ({ frames := 2, cells := 0, slots := 0, locals := 46 }) (va_Pc [.ref a0_] (P3 (dC, dI) L tys f0 sz)) (va_Qv (fun (f : Nat → va_E) => ((bJx f a0_) ∧ ∃ z1_ : Int32, bd 0 2000 z1_ ∧ Fs L kd f [(8, 6, q0_, .int 1201), (6, 8, q2_, .int z1_), (2, 11, a0_, .int 0)])) (Q3 (dC, dI) L kd tys [(2, 11), (6, 8), (8, 6)] [] f0 sz) (pA L sz)) 0 0 (pA L sz) := by
  refine Met.ofW (cc := cX2_openBody) (maxL := 3) (ret := none) (by decide) rfl ?_
  intro p e s m args below meth c s₁ B hml hv
  obtain ⟨rfl, hsz, hP, hK, hD0⟩ := hv
  have hx := B.exec
  have hb := B.bytes
  have hr := B.returns
  have hts := atoms_spec (ws := (.code yX2_openBody cX2_openBody 3 none :: lw_g)) B.pre
  have hown : s.vm.findClass RX2 = some m.cls := findClass_of_methodNamed B.named
  have hlocks := B.notSynchronized
  subst hsz
  have g : G3 (dC, dI) L kd tys s f0 [(2, 11), (6, 8), (8, 6)] [] f0 s.heap [] [(2, 0, a0_, .ref q0_), (2, 3, a0_, .ref q1_), (2, 5, a0_, .ref q2_), (8, 6, q0_, .int y0_), (8, 8, q0_, .int y1_)] := G3.start hP hD0 hWT hfx
  have hl := lv_entry ([.ref a0_]) (n := 3) (Nat.le_of_ble_eq_true rfl)
  rw [lg_entry_eq]
  generalize (lg_sl ([.ref a0_]) ++ List.replicate (3 - (lg_sl ([.ref a0_])).length) Slot.unset).toArray = ls at hl ⊢
  have hl : lv_has ls 3 [(0, .ref a0_)] := hl
  refine W_q (fun Q hQ => ?_)
  refine lv_aload_n hx hb dX2_openBody_0 rfl (lv_at hl 0 rfl) ?_
  refine g_getk (C := RX2) (T := TX2) (N := 16) hx hb hts (mc_ inX2) hown hK g rfl 0 (by decide) rfl (hts _ (List.mem_cons_of_mem _ t_416)) (fun _ h9 => h9) 0 rfl dX2_openBody_1 ?_
  refine g_calli (va_runV (As := []) (rest := []) ⟨hx, hb, hml, hown, hts⟩ (r_X8_place l dC dI L kd tys f0 s.heap.size g.2.2.2.1 q0_ mq0_ kq0_) (cwV 0 hts (gV_ t_1110 t_1111 t_1112 t_184 t_1113) rfl rfl rfl (by decide +kernel) ⟨(Nat.le_of_ble_eq_true rfl), (Nat.le_of_ble_eq_true rfl)⟩) (pre3V g hK mq0_ kq0_ (by decide) (q := (RX8, TX8, 10)) rfl) rfl rfl hl.1 rfl (lv_room (Nat.le_of_ble_eq_true rfl)) dX2_openBody_4 ⟨(Nat.le_of_ble_eq_true rfl), (Nat.le_of_ble_eq_true rfl)⟩) g hK (by decide) (by decide) (fx' := [(2, 0, a0_, .ref q0_), (2, 3, a0_, .ref q1_), (2, 5, a0_, .ref q2_), (8, 6, q0_, .int y0_), (8, 8, q0_, .int y1_)]) rfl (fun r_1 fr_1 H locs hp hMr_1 g => ?_)
  refine lv_istore_n (lv' := [(1, .int r_1), (0, .ref a0_)]) hx hb dX2_openBody_7 rfl hl (by decide) rfl (fun ls hl => ?_)
  refine lv_aload_n hx hb dX2_openBody_8 rfl (lv_at hl 1 rfl) ?_
  refine lv_iconst (v := 0) hx hb dX2_openBody_9 (by decide) ?_
  have kb_0 : bd 0 0 (0 : Int32) := ⟨by decide, by decide⟩
  refine g_put (C := RX2) (T := TX2) (N := 16) hx hb hts (mc_ inX2) tyX2 tyX2_ok nmX2 hown hK g ma0_ ka0_ (by decide) rfl 11 (by decide) (hts _ (List.mem_cons_of_mem _ t_427)) (fun _ h9 => h9) rfl rfl (okV_i (bd_sub kb_0 (by decide))) rfl rfl (by decide) (Or.inr (Or.inl (by decide))) (fx' := [(2, 0, a0_, .ref q0_), (2, 3, a0_, .ref q1_), (2, 5, a0_, .ref q2_), (8, 6, q0_, .int y0_), (8, 8, q0_, .int y1_)]) rfl dX2_openBody_10 (fun f H locs hM_2 g => ?_)
  have hb_3 := bJx.zero (fx_at g (i := 0) rfl).2.2.2 (by decide)
  refine lv_aload_n hx hb dX2_openBody_13 rfl (lv_at hl 1 rfl) ?_
  refine g_getk (C := RX2) (T := TX2) (N := 16) hx hb hts (mc_ inX2) hown hK g rfl 5 (by decide) rfl (hts _ (List.mem_cons_of_mem _ t_421)) (fun _ h9 => h9) 3 rfl dX2_openBody_14 ?_
  refine lv_aload_n hx hb dX2_openBody_17 rfl (lv_at hl 1 rfl) ?_
  refine g_getk (C := RX2) (T := TX2) (N := 16) hx hb hts (mc_ inX2) hown hK g rfl 3 (by decide) rfl (hts _ (List.mem_cons_of_mem _ t_419)) (fun _ h9 => h9) 2 rfl dX2_openBody_18 ?_
  refine g_geti (C := RX7) (T := TX7) (N := 19) hx hb hts (mc_ inX7) hown hK g mq1_ kq1_ (by decide) rfl 6 (by decide) rfl (hts _ (List.mem_cons_of_mem _ t_647)) (fun _ h9 => h9) rfl dX2_openBody_21 (fun x_4 bx_4 g => ?_)
  have go_ := g
  refine g_put (C := RX6) (T := TX6) (N := 13) hx hb hts (mc_ inX6) tyX6 tyX6_ok nmX6 hown hK g mq2_ kq2_ (by decide) rfl 8 (by decide) (hts _ (List.mem_cons_of_mem _ t_583)) (fun _ h9 => h9) rfl rfl (okV_i (bd_sub bx_4 (by decide))) rfl rfl (by decide) (Or.inr (Or.inl (by decide))) (fx' := [(7, 6, q1_, .int x_4), (2, 11, a0_, .int 0), (2, 0, a0_, .ref q0_), (2, 3, a0_, .ref q1_), (2, 5, a0_, .ref q2_), (8, 6, q0_, .int y0_), (8, 8, q0_, .int y1_)]) rfl dX2_openBody_24 (fun f H locs hM_5 g => ?_)
  have hG_6 := bJx.frame hM_5 go_.2.2.2.1 ma0_ ka0_ (by decide) (by decide) hb_3
  refine lv_aload_n hx hb dX2_openBody_27 rfl (lv_at hl 1 rfl) ?_
  refine lv_iconst (v := 0) hx hb dX2_openBody_28 (by decide) ?_
  refine lv_iconst (v := (-1)) hx hb dX2_openBody_29 (by decide) ?_
  refine lv_iconst (v := (-1)) hx hb dX2_openBody_30 (by decide) ?_
  have go_ := g
  refine g_callv (va_runV (As := [.int 0, .int (-1), .int (-1)]) (rest := []) ⟨hx, hb, hml, hown, hts⟩ (r_X2_openBlock_2 l dC dI L kd tys f H.size g.2.2.2.1 a0_ ma0_ ka0_ 0 (-1) (-1) q0_ mq0_ kq0_ q1_ mq1_ kq1_ y0_ by0_ y1_ by1_ (g.fcts [3, 4, 6, 7] rfl)) (cwV 3 hts (gV_ t_1338 t_1340 t_40 t_183 t_1341) rfl rfl rfl (by decide +kernel) ⟨(Nat.le_of_ble_eq_true rfl), (Nat.le_of_ble_eq_true rfl)⟩) (pre3V g hK ma0_ ka0_ (by decide) (q := (RX2, TX2, 16)) rfl) rfl rfl hl.1 rfl (lv_room (Nat.le_of_ble_eq_true rfl)) dX2_openBody_31 ⟨(Nat.le_of_ble_eq_true rfl), (Nat.le_of_ble_eq_true rfl)⟩) g hK (by decide) (by decide) (fx' := [(6, 8, q2_, .int x_4), (7, 6, q1_, .int x_4), (2, 11, a0_, .int 0), (2, 0, a0_, .ref q0_), (2, 3, a0_, .ref q1_), (2, 5, a0_, .ref q2_), (8, 8, q0_, .int y1_)]) rfl (fun fr_7 H locs hp hMr_7 g => ?_)
  have hF_8 := hp
  have hG_9 := bJx.frame hMr_7 go_.2.2.2.1 ma0_ ka0_ (by decide) (by decide) hG_6
  have g := g.more hF_8
  refine lv_aload_n hx hb dX2_openBody_34 rfl (lv_at hl 1 rfl) ?_
  refine g_getk (C := RX2) (T := TX2) (N := 16) hx hb hts (mc_ inX2) hown hK g rfl 5 (by decide) rfl (hts _ (List.mem_cons_of_mem _ t_421)) (fun _ h9 => h9) 6 rfl dX2_openBody_35 ?_
  refine g_geti (C := RX6) (T := TX6) (N := 13) hx hb hts (mc_ inX6) hown hK g mq2_ kq2_ (by decide) rfl 7 (by decide) rfl (hts _ (List.mem_cons_of_mem _ t_580)) (fun _ h9 => h9) rfl dX2_openBody_38 (fun x_10 bx_10 g => ?_)
  refine lv_istore_n (lv' := [(2, .int x_10), (1, .int r_1), (0, .ref a0_)]) hx hb dX2_openBody_41 rfl hl (by decide) rfl (fun ls hl => ?_)
  refine lv_iload_n hx hb dX2_openBody_42 rfl (lv_at hl 0 rfl) ?_
  refine lv_if_lt (tgt := 91) hx hb dX2_openBody_43 (by decide) (fun c_11 => ?_) (fun c_11 => ?_)
  · have fc_11 := lt_f c_11
    have b_12 : bd (-1) (-1) x_10 := ltL fc_11 bx_10 kb_0 (by decide)
    subst hQ
    exact W.vret hx hb hr (fun t ht hW => ⟨⟨_, rfl, ⟨hG_9, x_4, bx_4, (g.fcts [1, 2, 4] rfl)⟩, q3_of g hK ht hW⟩, g.2.2.1.F ht⟩) g.2.2.1.2.2 dX2_openBody_91
  · have fc_11 := nlt_f c_11
    have b_13 : bd 0 95 x_10 := leR fc_11 kb_0 bx_10 (by decide)
    refine lv_iload_n hx hb dX2_openBody_46 rfl (lv_at hl 0 rfl) ?_
    refine lv_aload_n hx hb dX2_openBody_47 rfl (lv_at hl 2 rfl) ?_
    refine g_getk (C := RX2) (T := TX2) (N := 16) hx hb hts (mc_ inX2) hown hK g rfl 3 (by decide) rfl (hts _ (List.mem_cons_of_mem _ t_419)) (fun _ h9 => h9) 6 rfl dX2_openBody_48 ?_
    refine g_geti (C := RX7) (T := TX7) (N := 19) hx hb hts (mc_ inX7) hown hK g mq1_ kq1_ (by decide) rfl 3 (by decide) rfl (hts _ (List.mem_cons_of_mem _ t_638)) (fun _ h9 => h9) rfl dX2_openBody_51 (fun x_14 bx_14 g => ?_)
    refine lv_icmp_ge (tgt := 91) hx hb dX2_openBody_54 (by decide) (fun c_15 => ?_) (fun c_15 => ?_)
    · have fc_15 := le_f c_15
      have b_16 : bd 0 95 x_14 := leL fc_15 bx_14 b_13 (by decide)
      subst hQ
      exact W.vret hx hb hr (fun t ht hW => ⟨⟨_, rfl, ⟨hG_9, x_4, bx_4, (g.fcts [2, 3, 5] rfl)⟩, q3_of g hK ht hW⟩, g.2.2.1.F ht⟩) g.2.2.1.2.2 dX2_openBody_91
    · have fc_15 := nle_f c_15
      have b_17 : bd 1 96 x_14 := ltR fc_15 b_13 bx_14 (by decide)
      refine lv_aload_n hx hb dX2_openBody_57 rfl (lv_at hl 2 rfl) ?_
      refine g_getk (C := RX2) (T := TX2) (N := 16) hx hb hts (mc_ inX2) hown hK g rfl 3 (by decide) rfl (hts _ (List.mem_cons_of_mem _ t_419)) (fun _ h9 => h9) 7 rfl dX2_openBody_58 ?_
      refine g_getr (K := 137) (C := RX7) (T := TX7) (N := 19) hx hb hts (mc_ inX7) hown hK g mq1_ kq1_ (by decide) rfl 2 (by decide) rfl (hts _ (List.mem_cons_of_mem _ t_630)) (fun _ h9 => h9) rfl dX2_openBody_61 (fun a_18 ma_18 ka_18 g => ?_)
      refine lv_iload_n hx hb dX2_openBody_64 rfl (lv_at hl 0 rfl) ?_
      refine g_aald hx hb hK g ma_18 ka_18 (by decide) rfl (by decide) (in_bd b_13 (by decide)) dX2_openBody_65 (fun a_19 ma_19 ua_19 wa_19 => ?_)
      have ka_19 : kd a_19 = 6 := by omega
      refine g_geti (C := RX6) (T := TX6) (N := 13) hx hb hts (mc_ inX6) hown hK g ma_19 ka_19 (by decide) rfl 6 (by decide) rfl (hts _ (List.mem_cons_of_mem _ t_578)) (fun _ h9 => h9) rfl dX2_openBody_66 (fun x_20 bx_20 g => ?_)
      refine lv_if_eq (tgt := 91) hx hb dX2_openBody_69 (by decide) (fun c_21 => ?_) (fun c_21 => ?_)
      · have fc_21 := eq_f c_21
        have b_22 : bd 0 0 x_20 := eqX fc_21 bx_20 kb_0 (by decide)
        subst hQ
        exact W.vret hx hb hr (fun t ht hW => ⟨⟨_, rfl, ⟨hG_9, x_4, bx_4, (g.fcts [4, 5, 7] rfl)⟩, q3_of g hK ht hW⟩, g.2.2.1.F ht⟩) g.2.2.1.2.2 dX2_openBody_91
      · have fc_21 := neq_f c_21
        have b_23 : bd 1 1 x_20 := neX fc_21 bx_20 kb_0 (by decide)
        refine lv_aload_n hx hb dX2_openBody_72 rfl (lv_at hl 2 rfl) ?_
        refine g_getk (C := RX2) (T := TX2) (N := 16) hx hb hts (mc_ inX2) hown hK g rfl 5 (by decide) rfl (hts _ (List.mem_cons_of_mem _ t_421)) (fun _ h9 => h9) 10 rfl dX2_openBody_73 ?_
        refine g_geti (C := RX6) (T := TX6) (N := 13) hx hb hts (mc_ inX6) hown hK g mq2_ kq2_ (by decide) rfl 6 (by decide) rfl (hts _ (List.mem_cons_of_mem _ t_578)) (fun _ h9 => h9) rfl dX2_openBody_76 (fun x_24 bx_24 g => ?_)
        refine lv_if_ne (tgt := 91) hx hb dX2_openBody_79 (by decide) (fun c_25 => ?_) (fun c_25 => ?_)
        · have fc_25 := neq_f c_25
          have b_26 : bd 1 1 x_24 := neX fc_25 bx_24 kb_0 (by decide)
          subst hQ
          exact W.vret hx hb hr (fun t ht hW => ⟨⟨_, rfl, ⟨hG_9, x_4, bx_4, (g.fcts [5, 6, 8] rfl)⟩, q3_of g hK ht hW⟩, g.2.2.1.F ht⟩) g.2.2.1.2.2 dX2_openBody_91
        · have fc_25 := eq_f c_25
          have b_27 : bd 0 0 x_24 := eqX fc_25 bx_24 kb_0 (by decide)
          refine lv_aload_n hx hb dX2_openBody_82 rfl (lv_at hl 2 rfl) ?_
          refine g_getk (C := RX2) (T := TX2) (N := 16) hx hb hts (mc_ inX2) hown hK g rfl 0 (by decide) rfl (hts _ (List.mem_cons_of_mem _ t_416)) (fun _ h9 => h9) 9 rfl dX2_openBody_83 ?_
          refine lv_iconst (v := 5) hx hb dX2_openBody_86 (by decide) ?_
          refine lv_iload_n hx hb dX2_openBody_87 rfl (lv_at hl 1 rfl) ?_
          have kb_5 : bd 5 5 (5 : Int32) := ⟨by decide, by decide⟩
          have go_ := g
          refine g_callv (va_runV (As := [.int 5, .int r_1]) (rest := []) ⟨hx, hb, hml, hown, hts⟩ (r_X8_fail_2 l dC dI L kd tys fr_7 H.size g.2.2.2.1 q0_ mq0_ kq0_ 5 (bd_sub kb_5 (by decide)) r_1 y1_ by1_ (g.fcts [12] rfl)) (cwV 2 hts (gV_ t_1122 t_1107 t_1108 t_184 t_1109) rfl rfl rfl (by decide +kernel) ⟨(Nat.le_of_ble_eq_true rfl), (Nat.le_of_ble_eq_true rfl)⟩) (pre3V g hK mq0_ kq0_ (by decide) (q := (RX8, TX8, 10)) rfl) rfl rfl hl.1 rfl (lv_room (Nat.le_of_ble_eq_true rfl)) dX2_openBody_88 ⟨(Nat.le_of_ble_eq_true rfl), (Nat.le_of_ble_eq_true rfl)⟩) g hK (by decide) (by decide) (fx' := [(6, 6, q2_, .int x_24), (6, 6, a_19, .int x_20), (7, 2, q1_, .ref a_18), (7, 3, q1_, .int x_14), (6, 7, q2_, .int x_10), (6, 8, q2_, .int x_4), (7, 6, q1_, .int x_4), (2, 11, a0_, .int 0), (2, 0, a0_, .ref q0_), (2, 3, a0_, .ref q1_), (2, 5, a0_, .ref q2_), (8, 8, q0_, .int y1_)]) rfl (fun fr_28 H locs hp hMr_28 g => ?_)
          have hF_29 := hp
          have hG_30 := bJx.frame hMr_28 go_.2.2.2.1 ma0_ ka0_ (by decide) (by decide) hG_9
          have g := g.more hF_29
          subst hQ
          exact W.vret hx hb hr (fun t ht hW => ⟨⟨_, rfl, ⟨hG_30, x_4, bx_4, (g.fcts [0, 6, 8] rfl)⟩, q3_of g hK ht hW⟩, g.2.2.1.F ht⟩) g.2.2.1.2.2 dX2_openBody_91
