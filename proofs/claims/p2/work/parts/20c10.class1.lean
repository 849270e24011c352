set_option maxHeartbeats 4000000 in
set_option maxRecDepth 100000 in
theorem r_X2_beginTelling_2 (l : Launch) (dC : Nat → ClassId) (dI : Nat → Nat → Nat) (L : List Nat) (kd : Nat → Nat) (tys : List (ClassId × FieldType)) (f0 : Nat → va_E) (sz : Nat) (hWT : WT L kd tys f0) (a0_ : Nat) (ma0_ : a0_ ∈ L) (ka0_ : kd a0_ = 2) (x1_ : Int64) (x2_ : Int32) (x3_ : Int32) (bx3_ : bd (-1) (-1) x3_) (q0_ : Nat) (mq0_ : q0_ ∈ L) (kq0_ : kd q0_ = 8) (q1_ : Nat) (mq1_ : q1_ ∈ L) (kq1_ : kd q1_ = 7) (q2_ : Nat) (mq2_ : q2_ ∈ L) (kq2_ : kd q2_ = 9) (y0_ : Int32) (by0_ : bd 0 11 y0_) (hfx : Fs L kd f0 [(2, 0, a0_, .ref q0_), (2, 3, a0_, .ref q1_), (2, 4, a0_, .ref q2_), (9, 8, q2_, .int y0_)]) : Met l yX2_beginTelling (.code yX2_beginTelling cX2_beginTelling 7 none :: lw_g) ({ frames := 1, cells := 0, slots := 0, locals := 14 }) (va_Pc [.ref a0_, .long x1_, .int x2_, .int x3_] (P3 (dC, dI) L tys f0 sz)) (va_Qv (fun (f : Nat → va_E) => (∃ z1_ : Int32, bd 1 12 z1_ ∧ ∃ z2_ : Nat, (z2_ ∈ L ∧ kd z2_ = 6) ∧ ∃ z3_ : Int32, bd 1 96 z3_ ∧ Fs L kd f [(2, 6, a0_, .int 0), (9, 8, q2_, .int z1_), (2, 5, a0_, .ref z2_), (7, 3, q1_, .int z3_)])) (Q3 (dC, dI) L kd tys [(2, 5), (2, 6), (6, 0), (6, 1), (6, 2), (6, 3), (6, 6), (6, 7), (6, 8), (6, 9), (6, 10), (6, 11), (6, 12), (7, 3), (9, 8)] [156] f0 sz) (pA L sz)) 0 0 (pA L sz) := by
  refine Met.ofW (cc := cX2_beginTelling) (maxL := 7) (ret := none) (by decide) rfl ?_
  intro p e s m args below meth c s₁ B hml hv
  obtain ⟨rfl, hsz, hP, hK, hD0⟩ := hv
  have hx := B.exec
  have hb := B.bytes
  have hr := B.returns
  have hts := atoms_spec (ws := (.code yX2_beginTelling cX2_beginTelling 7 none :: lw_g)) B.pre
  have hown : s.vm.findClass RX2 = some m.cls := findClass_of_methodNamed B.named
  have hlocks := B.notSynchronized
  subst hsz
  have g : G3 (dC, dI) L kd tys s f0 [(2, 5), (2, 6), (6, 0), (6, 1), (6, 2), (6, 3), (6, 6), (6, 7), (6, 8), (6, 9), (6, 10), (6, 11), (6, 12), (7, 3), (9, 8)] [156] f0 s.heap [] [(2, 0, a0_, .ref q0_), (2, 3, a0_, .ref q1_), (2, 4, a0_, .ref q2_), (9, 8, q2_, .int y0_)] := G3.start hP hD0 hWT hfx
  have hl := lv_entry ([.ref a0_, .long x1_, .int x2_, .int x3_]) (n := 7) (Nat.le_of_ble_eq_true rfl)
  rw [lg_entry_eq]
  generalize (lg_sl ([.ref a0_, .long x1_, .int x2_, .int x3_]) ++ List.replicate (7 - (lg_sl ([.ref a0_, .long x1_, .int x2_, .int x3_])).length) Slot.unset).toArray = ls at hl ⊢
  have hl : lv_has ls 7 [(0, .ref a0_), (1, .long x1_), (3, .int x2_), (4, .int x3_)] := hl
  refine W_q (fun Q hQ => ?_)
  refine lv_aload_n hx hb dX2_beginTelling_0 rfl (lv_at hl 0 rfl) ?_
  refine g_getk (C := RX2) (T := TX2) (N := 16) hx hb hts (mc_ inX2) hown hK g rfl 3 (by decide) rfl (hts _ (List.mem_cons_of_mem _ t_419)) (fun _ h9 => h9) 1 rfl dX2_beginTelling_1 ?_
  refine g_geti (C := RX7) (T := TX7) (N := 19) hx hb hts (mc_ inX7) hown hK g mq1_ kq1_ (by decide) rfl 3 (by decide) rfl (hts _ (List.mem_cons_of_mem _ t_638)) (fun _ h9 => h9) rfl dX2_beginTelling_4 (fun x_1 bx_1 g => ?_)
  refine lv_bipush (v := 95) hx hb dX2_beginTelling_7 (by decide) ?_
  have kb_95 : bd 95 95 (95 : Int32) := ⟨by decide, by decide⟩
  refine va_mmin hx hb (hml.trans hl.1.symm) hown (hts _ (List.mem_cons_of_mem _ t_1311)) (hts _ (List.mem_cons_of_mem _ t_998)) (hts _ (List.mem_cons_of_mem _ t_204)) (hts _ (List.mem_cons_of_mem _ t_999)) (Nat.le_of_ble_eq_true rfl) (Nat.le_of_ble_eq_true rfl) (Nat.le_of_ble_eq_true rfl) (Nat.le_of_ble_eq_true rfl) dX2_beginTelling_9 ?_
  refine lv_topi (fun y_2 ey_2 => ?_)
  have ty_2 : y_2.toInt = min x_1.toInt (95 : Int32).toInt := by rw [ey_2]; exact mmin_ok _ _
  have b_3 : bd 0 95 y_2 := min_rg ty_2 bx_1 kb_95 (by decide)
  refine lv_istore (lv' := [(5, .int y_2), (0, .ref a0_), (1, .long x1_), (3, .int x2_), (4, .int x3_)]) hx hb dX2_beginTelling_12 hl (by decide) rfl (fun ls hl => ?_)
  refine lv_aload_n hx hb dX2_beginTelling_14 rfl (lv_at hl 1 rfl) ?_
  refine g_getk (C := RX2) (T := TX2) (N := 16) hx hb hts (mc_ inX2) hown hK g rfl 3 (by decide) rfl (hts _ (List.mem_cons_of_mem _ t_419)) (fun _ h9 => h9) 2 rfl dX2_beginTelling_15 ?_
  refine lv_iload hx hb dX2_beginTelling_18 (lv_at hl 0 rfl) ?_
  refine lv_iconst (v := 1) hx hb dX2_beginTelling_20 (by decide) ?_
  have kb_1 : bd 1 1 (1 : Int32) := ⟨by decide, by decide⟩
  refine lv_iadd hx hb dX2_beginTelling_21 ?_
  refine lv_topi (fun y_4 ey_4 => ?_)
  have ty_4 := add_bd ey_4 b_3 kb_1 (by decide)
  have b_5 : bd 1 96 y_4 := add_rg ty_4 b_3 kb_1 (by decide)
  refine g_put (C := RX7) (T := TX7) (N := 19) hx hb hts (mc_ inX7) tyX7 tyX7_ok nmX7 hown hK g mq1_ kq1_ (by decide) rfl 3 (by decide) (hts _ (List.mem_cons_of_mem _ t_638)) (fun _ h9 => h9) rfl rfl (okV_i (bd_sub b_5 (by decide))) rfl rfl (by decide) (Or.inr (Or.inl (by decide))) (fx' := [(2, 0, a0_, .ref q0_), (2, 3, a0_, .ref q1_), (2, 4, a0_, .ref q2_), (9, 8, q2_, .int y0_)]) rfl dX2_beginTelling_22 (fun f H locs hM_6 g => ?_)
  refine lv_iload hx hb dX2_beginTelling_25 (lv_at hl 4 rfl) ?_
  refine lv_iconst (v := (-1)) hx hb dX2_beginTelling_27 (by decide) ?_
  have kb_m1 : bd (-1) (-1) ((-1) : Int32) := ⟨by decide, by decide⟩
  refine lv_icmp_ne (tgt := 41) hx hb dX2_beginTelling_28 (by decide) (fun c_7 => ?_) (fun c_7 => ?_)
  · have fc_7 := neq_f c_7
    have b_8 : bd 0 (-2) x3_ := neX fc_7 bx3_ kb_m1 (by decide)
    exact bd_no b_8 (by decide)
  · have fc_7 := eq_f c_7
    refine lv_aload_n hx hb dX2_beginTelling_31 rfl (lv_at hl 1 rfl) ?_
    refine g_getk (C := RX2) (T := TX2) (N := 16) hx hb hts (mc_ inX2) hown hK g rfl 4 (by decide) rfl (hts _ (List.mem_cons_of_mem _ t_420)) (fun _ h9 => h9) 3 rfl dX2_beginTelling_32 ?_
    refine g_getk (C := RX9) (T := TX9) (N := 13) hx hb hts (mc_ inX9) hown hK g rfl 8 (by decide) rfl (hts _ (List.mem_cons_of_mem _ t_502)) (fun _ h9 => h9) 4 rfl dX2_beginTelling_35 ?_
    refine lv_goto (tgt := 43) hx hb dX2_beginTelling_38 (by decide) ?_
    refine lv_istore (lv' := [(6, .int y0_), (5, .int y_2), (0, .ref a0_), (1, .long x1_), (3, .int x2_), (4, .int x3_)]) hx hb dX2_beginTelling_43 hl (by decide) rfl (fun ls hl => ?_)
    refine lv_aload_n hx hb dX2_beginTelling_45 rfl (lv_at hl 2 rfl) ?_
    refine lv_aload_n hx hb dX2_beginTelling_46 rfl (lv_at hl 2 rfl) ?_
    refine g_getk (C := RX2) (T := TX2) (N := 16) hx hb hts (mc_ inX2) hown hK g rfl 3 (by decide) rfl (hts _ (List.mem_cons_of_mem _ t_419)) (fun _ h9 => h9) 2 rfl dX2_beginTelling_47 ?_
    refine g_getr (K := 137) (C := RX7) (T := TX7) (N := 19) hx hb hts (mc_ inX7) hown hK g mq1_ kq1_ (by decide) rfl 2 (by decide) rfl (hts _ (List.mem_cons_of_mem _ t_630)) (fun _ h9 => h9) rfl dX2_beginTelling_50 (fun a_9 ma_9 ka_9 g => ?_)
    refine lv_iload hx hb dX2_beginTelling_53 (lv_at hl 1 rfl) ?_
    refine g_aald hx hb hK g ma_9 ka_9 (by decide) rfl (by decide) (in_bd b_3 (by decide)) dX2_beginTelling_55 (fun a_10 ma_10 ua_10 wa_10 => ?_)
    have ka_10 : kd a_10 = 6 := by omega
    refine g_put (C := RX2) (T := TX2) (N := 16) hx hb hts (mc_ inX2) tyX2 tyX2_ok nmX2 hown hK g ma0_ ka0_ (by decide) rfl 5 (by decide) (hts _ (List.mem_cons_of_mem _ t_421)) (fun _ h9 => h9) rfl rfl (okV_n ma_10 ka_10 (by decide)) rfl rfl (by decide) (Or.inr (Or.inl (by decide))) (fx' := [(7, 2, q1_, .ref a_9), (7, 3, q1_, .int y_4), (2, 0, a0_, .ref q0_), (2, 3, a0_, .ref q1_), (2, 4, a0_, .ref q2_), (9, 8, q2_, .int y0_)]) rfl dX2_beginTelling_56 (fun f H locs hM_11 g => ?_)
    refine lv_aload_n hx hb dX2_beginTelling_59 rfl (lv_at hl 2 rfl) ?_
    refine g_getk (C := RX2) (T := TX2) (N := 16) hx hb hts (mc_ inX2) hown hK g rfl 5 (by decide) rfl (hts _ (List.mem_cons_of_mem _ t_421)) (fun _ h9 => h9) 0 rfl dX2_beginTelling_60 ?_
    refine lv_lload_n hx hb dX2_beginTelling_63 rfl (lv_at hl 3 rfl) ?_
    refine g_put (C := RX6) (T := TX6) (N := 13) hx hb hts (mc_ inX6) tyX6 tyX6_ok nmX6 hown hK g ma_10 ka_10 (by decide) rfl 0 (by decide) (hts _ (List.mem_cons_of_mem _ t_556)) (fun _ h9 => h9) rfl rfl okV_l rfl rfl (by decide) (Or.inr (Or.inl (by decide))) (fx' := [(2, 5, a0_, .ref a_10), (7, 2, q1_, .ref a_9), (7, 3, q1_, .int y_4), (2, 0, a0_, .ref q0_), (2, 3, a0_, .ref q1_), (2, 4, a0_, .ref q2_), (9, 8, q2_, .int y0_)]) rfl dX2_beginTelling_64 (fun f H locs hM_12 g => ?_)
    refine lv_aload_n hx hb dX2_beginTelling_67 rfl (lv_at hl 2 rfl) ?_
    refine g_getk (C := RX2) (T := TX2) (N := 16) hx hb hts (mc_ inX2) hown hK g rfl 5 (by decide) rfl (hts _ (List.mem_cons_of_mem _ t_421)) (fun _ h9 => h9) 1 rfl dX2_beginTelling_68 ?_
    refine lv_iload_n hx hb dX2_beginTelling_71 rfl (lv_at hl 4 rfl) ?_
    refine g_put (C := RX6) (T := TX6) (N := 13) hx hb hts (mc_ inX6) tyX6 tyX6_ok nmX6 hown hK g ma_10 ka_10 (by decide) rfl 1 (by decide) (hts _ (List.mem_cons_of_mem _ t_559)) (fun _ h9 => h9) rfl rfl (okV_i (bdT x2_)) rfl rfl (by decide) (Or.inr (Or.inl (by decide))) (fx' := [(6, 0, a_10, .long x1_), (2, 5, a0_, .ref a_10), (7, 2, q1_, .ref a_9), (7, 3, q1_, .int y_4), (2, 0, a0_, .ref q0_), (2, 3, a0_, .ref q1_), (2, 4, a0_, .ref q2_), (9, 8, q2_, .int y0_)]) rfl dX2_beginTelling_72 (fun f H locs hM_13 g => ?_)
    refine lv_aload_n hx hb dX2_beginTelling_75 rfl (lv_at hl 2 rfl) ?_
    refine g_getk (C := RX2) (T := TX2) (N := 16) hx hb hts (mc_ inX2) hown hK g rfl 5 (by decide) rfl (hts _ (List.mem_cons_of_mem _ t_421)) (fun _ h9 => h9) 2 rfl dX2_beginTelling_76 ?_
    refine lv_aload_n hx hb dX2_beginTelling_79 rfl (lv_at hl 2 rfl) ?_
    refine g_getr (K := 5) (C := RX2) (T := TX2) (N := 16) hx hb hts (mc_ inX2) hown hK g ma0_ ka0_ (by decide) rfl 1 (by decide) rfl (hts _ (List.mem_cons_of_mem _ t_417)) (fun _ h9 => h9) rfl dX2_beginTelling_80 (fun a_14 ma_14 ka_14 g => ?_)
    refine g_geti (C := RX5) (T := TX5) (N := 9) hx hb hts (mc_ inX5) hown hK g ma_14 ka_14 (by decide) rfl 2 (by decide) rfl (hts _ (List.mem_cons_of_mem _ t_333)) (fun _ h9 => h9) rfl dX2_beginTelling_83 (fun x_15 bx_15 g => ?_)
    refine g_put (C := RX6) (T := TX6) (N := 13) hx hb hts (mc_ inX6) tyX6 tyX6_ok nmX6 hown hK g ma_10 ka_10 (by decide) rfl 2 (by decide) (hts _ (List.mem_cons_of_mem _ t_561)) (fun _ h9 => h9) rfl rfl (okV_i (bdT x_15)) rfl rfl (by decide) (Or.inr (Or.inl (by decide))) (fx' := [(5, 2, a_14, .int x_15), (2, 1, a0_, .ref a_14), (6, 1, a_10, .int x2_), (6, 0, a_10, .long x1_), (2, 5, a0_, .ref a_10), (7, 2, q1_, .ref a_9), (7, 3, q1_, .int y_4), (2, 0, a0_, .ref q0_), (2, 3, a0_, .ref q1_), (2, 4, a0_, .ref q2_), (9, 8, q2_, .int y0_)]) rfl dX2_beginTelling_86 (fun f H locs hM_16 g => ?_)
    refine lv_aload_n hx hb dX2_beginTelling_89 rfl (lv_at hl 2 rfl) ?_
    refine g_getk (C := RX2) (T := TX2) (N := 16) hx hb hts (mc_ inX2) hown hK g rfl 5 (by decide) rfl (hts _ (List.mem_cons_of_mem _ t_421)) (fun _ h9 => h9) 5 rfl dX2_beginTelling_90 ?_
    refine lv_iconst (v := 0) hx hb dX2_beginTelling_93 (by decide) ?_
    have kb_0 : bd 0 0 (0 : Int32) := ⟨by decide, by decide⟩
    refine g_put (C := RX6) (T := TX6) (N := 13) hx hb hts (mc_ inX6) tyX6 tyX6_ok nmX6 hown hK g ma_10 ka_10 (by decide) rfl 3 (by decide) (hts _ (List.mem_cons_of_mem _ t_568)) (fun _ h9 => h9) rfl rfl (okV_i (bd_sub kb_0 (by decide))) rfl rfl (by decide) (Or.inr (Or.inl (by decide))) (fx' := [(6, 2, a_10, .int x_15), (5, 2, a_14, .int x_15), (2, 1, a0_, .ref a_14), (6, 1, a_10, .int x2_), (6, 0, a_10, .long x1_), (2, 5, a0_, .ref a_10), (7, 2, q1_, .ref a_9), (7, 3, q1_, .int y_4), (2, 0, a0_, .ref q0_), (2, 3, a0_, .ref q1_), (2, 4, a0_, .ref q2_), (9, 8, q2_, .int y0_)]) rfl dX2_beginTelling_94 (fun f H locs hM_17 g => ?_)
    refine lv_aload_n hx hb dX2_beginTelling_97 rfl (lv_at hl 2 rfl) ?_
    refine g_getk (C := RX2) (T := TX2) (N := 16) hx hb hts (mc_ inX2) hown hK g rfl 5 (by decide) rfl (hts _ (List.mem_cons_of_mem _ t_421)) (fun _ h9 => h9) 6 rfl dX2_beginTelling_98 ?_
    refine lv_iconst (v := 0) hx hb dX2_beginTelling_101 (by decide) ?_
    refine g_put (C := RX6) (T := TX6) (N := 13) hx hb hts (mc_ inX6) tyX6 tyX6_ok nmX6 hown hK g ma_10 ka_10 (by decide) rfl 6 (by decide) (hts _ (List.mem_cons_of_mem _ t_578)) (fun _ h9 => h9) rfl rfl (okV_i (bd_sub kb_0 (by decide))) rfl rfl (by decide) (Or.inr (Or.inl (by decide))) (fx' := [(6, 3, a_10, .int 0), (6, 2, a_10, .int x_15), (5, 2, a_14, .int x_15), (2, 1, a0_, .ref a_14), (6, 1, a_10, .int x2_), (6, 0, a_10, .long x1_), (2, 5, a0_, .ref a_10), (7, 2, q1_, .ref a_9), (7, 3, q1_, .int y_4), (2, 0, a0_, .ref q0_), (2, 3, a0_, .ref q1_), (2, 4, a0_, .ref q2_), (9, 8, q2_, .int y0_)]) rfl dX2_beginTelling_102 (fun f H locs hM_18 g => ?_)
    refine lv_aload_n hx hb dX2_beginTelling_105 rfl (lv_at hl 2 rfl) ?_
    refine g_getk (C := RX2) (T := TX2) (N := 16) hx hb hts (mc_ inX2) hown hK g rfl 5 (by decide) rfl (hts _ (List.mem_cons_of_mem _ t_421)) (fun _ h9 => h9) 7 rfl dX2_beginTelling_106 ?_
    refine lv_iload hx hb dX2_beginTelling_109 (lv_at hl 5 rfl) ?_
    refine lv_iconst (v := (-1)) hx hb dX2_beginTelling_111 (by decide) ?_
    refine lv_icmp_ne (tgt := 119) hx hb dX2_beginTelling_112 (by decide) (fun c_19 => ?_) (fun c_19 => ?_)
    · have fc_19 := neq_f c_19
      have b_20 : bd 0 (-2) x3_ := neX fc_19 bx3_ kb_m1 (by decide)
      exact bd_no b_20 (by decide)
    · have fc_19 := eq_f c_19
      refine lv_iconst (v := (-1)) hx hb dX2_beginTelling_115 (by decide) ?_
      refine lv_goto (tgt := 129) hx hb dX2_beginTelling_116 (by decide) ?_
      refine g_put (C := RX6) (T := TX6) (N := 13) hx hb hts (mc_ inX6) tyX6 tyX6_ok nmX6 hown hK g ma_10 ka_10 (by decide) rfl 7 (by decide) (hts _ (List.mem_cons_of_mem _ t_580)) (fun _ h9 => h9) rfl rfl (okV_i (bd_sub kb_m1 (by decide))) rfl rfl (by decide) (Or.inr (Or.inl (by decide))) (fx' := [(6, 6, a_10, .int 0), (6, 3, a_10, .int 0), (6, 2, a_10, .int x_15), (5, 2, a_14, .int x_15), (2, 1, a0_, .ref a_14), (6, 1, a_10, .int x2_), (6, 0, a_10, .long x1_), (2, 5, a0_, .ref a_10), (7, 2, q1_, .ref a_9), (7, 3, q1_, .int y_4), (2, 0, a0_, .ref q0_), (2, 3, a0_, .ref q1_), (2, 4, a0_, .ref q2_), (9, 8, q2_, .int y0_)]) rfl dX2_beginTelling_129 (fun f H locs hM_21 g => ?_)
      refine lv_aload_n hx hb dX2_beginTelling_132 rfl (lv_at hl 2 rfl) ?_
      refine g_getk (C := RX2) (T := TX2) (N := 16) hx hb hts (mc_ inX2) hown hK g rfl 5 (by decide) rfl (hts _ (List.mem_cons_of_mem _ t_421)) (fun _ h9 => h9) 8 rfl dX2_beginTelling_133 ?_
      refine lv_iconst (v := 0) hx hb dX2_beginTelling_136 (by decide) ?_
      refine g_put (C := RX6) (T := TX6) (N := 13) hx hb hts (mc_ inX6) tyX6 tyX6_ok nmX6 hown hK g ma_10 ka_10 (by decide) rfl 8 (by decide) (hts _ (List.mem_cons_of_mem _ t_583)) (fun _ h9 => h9) rfl rfl (okV_i (bd_sub kb_0 (by decide))) rfl rfl (by decide) (Or.inr (Or.inl (by decide))) (fx' := [(6, 7, a_10, .int (-1)), (6, 6, a_10, .int 0), (6, 3, a_10, .int 0), (6, 2, a_10, .int x_15), (5, 2, a_14, .int x_15), (2, 1, a0_, .ref a_14), (6, 1, a_10, .int x2_), (6, 0, a_10, .long x1_), (2, 5, a0_, .ref a_10), (7, 2, q1_, .ref a_9), (7, 3, q1_, .int y_4), (2, 0, a0_, .ref q0_), (2, 3, a0_, .ref q1_), (2, 4, a0_, .ref q2_), (9, 8, q2_, .int y0_)]) rfl dX2_beginTelling_137 (fun f H locs hM_22 g => ?_)
      refine lv_aload_n hx hb dX2_beginTelling_140 rfl (lv_at hl 2 rfl) ?_
      refine g_getk (C := RX2) (T := TX2) (N := 16) hx hb hts (mc_ inX2) hown hK g rfl 5 (by decide) rfl (hts _ (List.mem_cons_of_mem _ t_421)) (fun _ h9 => h9) 9 rfl dX2_beginTelling_141 ?_
      refine lv_aload_n hx hb dX2_beginTelling_144 rfl (lv_at hl 2 rfl) ?_
      refine g_getk (C := RX2) (T := TX2) (N := 16) hx hb hts (mc_ inX2) hown hK g rfl 3 (by decide) rfl (hts _ (List.mem_cons_of_mem _ t_419)) (fun _ h9 => h9) 13 rfl dX2_beginTelling_145 ?_
      refine g_geti (C := RX7) (T := TX7) (N := 19) hx hb hts (mc_ inX7) hown hK g mq1_ kq1_ (by decide) rfl 15 (by decide) rfl (hts _ (List.mem_cons_of_mem _ t_675)) (fun _ h9 => h9) rfl dX2_beginTelling_148 (fun x_23 bx_23 g => ?_)
      refine g_put (C := RX6) (T := TX6) (N := 13) hx hb hts (mc_ inX6) tyX6 tyX6_ok nmX6 hown hK g ma_10 ka_10 (by decide) rfl 9 (by decide) (hts _ (List.mem_cons_of_mem _ t_585)) (fun _ h9 => h9) rfl rfl (okV_i bx_23) rfl rfl (by decide) (Or.inr (Or.inl (by decide))) (fx' := [(7, 15, q1_, .int x_23), (6, 8, a_10, .int 0), (6, 7, a_10, .int (-1)), (6, 6, a_10, .int 0), (6, 3, a_10, .int 0), (6, 2, a_10, .int x_15), (5, 2, a_14, .int x_15), (2, 1, a0_, .ref a_14), (6, 1, a_10, .int x2_), (6, 0, a_10, .long x1_), (2, 5, a0_, .ref a_10), (7, 2, q1_, .ref a_9), (7, 3, q1_, .int y_4), (2, 0, a0_, .ref q0_), (2, 3, a0_, .ref q1_), (2, 4, a0_, .ref q2_), (9, 8, q2_, .int y0_)]) rfl dX2_beginTelling_151 (fun f H locs hM_24 g => ?_)
      refine lv_aload_n hx hb dX2_beginTelling_154 rfl (lv_at hl 2 rfl) ?_
      refine g_getk (C := RX2) (T := TX2) (N := 16) hx hb hts (mc_ inX2) hown hK g rfl 5 (by decide) rfl (hts _ (List.mem_cons_of_mem _ t_421)) (fun _ h9 => h9) 11 rfl dX2_beginTelling_155 ?_
      refine lv_iconst (v := 0) hx hb dX2_beginTelling_158 (by decide) ?_
      refine g_put (C := RX6) (T := TX6) (N := 13) hx hb hts (mc_ inX6) tyX6 tyX6_ok nmX6 hown hK g ma_10 ka_10 (by decide) rfl 10 (by decide) (hts _ (List.mem_cons_of_mem _ t_588)) (fun _ h9 => h9) rfl rfl (okV_i (bd_sub kb_0 (by decide))) rfl rfl (by decide) (Or.inr (Or.inl (by decide))) (fx' := [(6, 9, a_10, .int x_23), (7, 15, q1_, .int x_23), (6, 8, a_10, .int 0), (6, 7, a_10, .int (-1)), (6, 6, a_10, .int 0), (6, 3, a_10, .int 0), (6, 2, a_10, .int x_15), (5, 2, a_14, .int x_15), (2, 1, a0_, .ref a_14), (6, 1, a_10, .int x2_), (6, 0, a_10, .long x1_), (2, 5, a0_, .ref a_10), (7, 2, q1_, .ref a_9), (7, 3, q1_, .int y_4), (2, 0, a0_, .ref q0_), (2, 3, a0_, .ref q1_), (2, 4, a0_, .ref q2_), (9, 8, q2_, .int y0_)]) rfl dX2_beginTelling_159 (fun f H locs hM_25 g => ?_)
      refine lv_aload_n hx hb dX2_beginTelling_162 rfl (lv_at hl 2 rfl) ?_
      refine g_getk (C := RX2) (T := TX2) (N := 16) hx hb hts (mc_ inX2) hown hK g rfl 5 (by decide) rfl (hts _ (List.mem_cons_of_mem _ t_421)) (fun _ h9 => h9) 12 rfl dX2_beginTelling_163 ?_
      refine lv_aload_n hx hb dX2_beginTelling_166 rfl (lv_at hl 2 rfl) ?_
      refine g_getk (C := RX2) (T := TX2) (N := 16) hx hb hts (mc_ inX2) hown hK g rfl 3 (by decide) rfl (hts _ (List.mem_cons_of_mem _ t_419)) (fun _ h9 => h9) 16 rfl dX2_beginTelling_167 ?_
      refine g_geti (C := RX7) (T := TX7) (N := 19) hx hb hts (mc_ inX7) hown hK g mq1_ kq1_ (by decide) rfl 13 (by decide) rfl (hts _ (List.mem_cons_of_mem _ t_668)) (fun _ h9 => h9) rfl dX2_beginTelling_170 (fun x_26 bx_26 g => ?_)
      refine g_put (C := RX6) (T := TX6) (N := 13) hx hb hts (mc_ inX6) tyX6 tyX6_ok nmX6 hown hK g ma_10 ka_10 (by decide) rfl 11 (by decide) (hts _ (List.mem_cons_of_mem _ t_589)) (fun _ h9 => h9) rfl rfl (okV_i bx_26) rfl rfl (by decide) (Or.inr (Or.inl (by decide))) (fx' := [(7, 13, q1_, .int x_26), (6, 10, a_10, .int 0), (6, 9, a_10, .int x_23), (7, 15, q1_, .int x_23), (6, 8, a_10, .int 0), (6, 7, a_10, .int (-1)), (6, 6, a_10, .int 0), (6, 3, a_10, .int 0), (6, 2, a_10, .int x_15), (5, 2, a_14, .int x_15), (2, 1, a0_, .ref a_14), (6, 1, a_10, .int x2_), (6, 0, a_10, .long x1_), (2, 5, a0_, .ref a_10), (7, 2, q1_, .ref a_9), (7, 3, q1_, .int y_4), (2, 0, a0_, .ref q0_), (2, 3, a0_, .ref q1_), (2, 4, a0_, .ref q2_), (9, 8, q2_, .int y0_)]) rfl dX2_beginTelling_173 (fun f H locs hM_27 g => ?_)
      refine lv_aload_n hx hb dX2_beginTelling_176 rfl (lv_at hl 2 rfl) ?_
      refine g_getk (C := RX2) (T := TX2) (N := 16) hx hb hts (mc_ inX2) hown hK g rfl 5 (by decide) rfl (hts _ (List.mem_cons_of_mem _ t_421)) (fun _ h9 => h9) 14 rfl dX2_beginTelling_177 ?_
      refine lv_iconst (v := 0) hx hb dX2_beginTelling_180 (by decide) ?_
      refine g_put (C := RX6) (T := TX6) (N := 13) hx hb hts (mc_ inX6) tyX6 tyX6_ok nmX6 hown hK g ma_10 ka_10 (by decide) rfl 12 (by decide) (hts _ (List.mem_cons_of_mem _ t_591)) (fun _ h9 => h9) rfl rfl (okV_i (bd_sub kb_0 (by decide))) rfl rfl (by decide) (Or.inr (Or.inl (by decide))) (fx' := [(6, 11, a_10, .int x_26), (7, 13, q1_, .int x_26), (6, 10, a_10, .int 0), (6, 9, a_10, .int x_23), (7, 15, q1_, .int x_23), (6, 8, a_10, .int 0), (6, 7, a_10, .int (-1)), (6, 6, a_10, .int 0), (6, 3, a_10, .int 0), (6, 2, a_10, .int x_15), (5, 2, a_14, .int x_15), (2, 1, a0_, .ref a_14), (6, 1, a_10, .int x2_), (6, 0, a_10, .long x1_), (2, 5, a0_, .ref a_10), (7, 2, q1_, .ref a_9), (7, 3, q1_, .int y_4), (2, 0, a0_, .ref q0_), (2, 3, a0_, .ref q1_), (2, 4, a0_, .ref q2_), (9, 8, q2_, .int y0_)]) rfl dX2_beginTelling_181 (fun f H locs hM_28 g => ?_)
      refine lv_aload_n hx hb dX2_beginTelling_184 rfl (lv_at hl 2 rfl) ?_
      refine g_getk (C := RX2) (T := TX2) (N := 16) hx hb hts (mc_ inX2) hown hK g rfl 4 (by decide) rfl (hts _ (List.mem_cons_of_mem _ t_420)) (fun _ h9 => h9) 20 rfl dX2_beginTelling_185 ?_
      refine g_getr (K := 156) (C := RX9) (T := TX9) (N := 13) hx hb hts (mc_ inX9) hown hK g mq2_ kq2_ (by decide) rfl 9 (by decide) rfl (hts _ (List.mem_cons_of_mem _ t_510)) (fun _ h9 => h9) rfl dX2_beginTelling_188 (fun a_29 ma_29 ka_29 g => ?_)
      refine lv_iload hx hb dX2_beginTelling_191 (lv_at hl 0 rfl) ?_
      refine lv_iload hx hb dX2_beginTelling_193 (lv_at hl 1 rfl) ?_
      refine g_iast hx hb hK g ma_29 ka_29 (by decide) rfl (in_bd by0_ (by decide)) b_3 (by decide) dX2_beginTelling_195 (fun f H locs hM_30 g => ?_)
      refine lv_aload_n hx hb dX2_beginTelling_196 rfl (lv_at hl 2 rfl) ?_
      refine g_getk (C := RX2) (T := TX2) (N := 16) hx hb hts (mc_ inX2) hown hK g rfl 4 (by decide) rfl (hts _ (List.mem_cons_of_mem _ t_420)) (fun _ h9 => h9) 21 rfl dX2_beginTelling_197 ?_
      refine lv_aload_n hx hb dX2_beginTelling_200 rfl (lv_at hl 2 rfl) ?_
      refine g_getk (C := RX2) (T := TX2) (N := 16) hx hb hts (mc_ inX2) hown hK g rfl 4 (by decide) rfl (hts _ (List.mem_cons_of_mem _ t_420)) (fun _ h9 => h9) 21 rfl dX2_beginTelling_201 ?_
      refine g_getk (C := RX9) (T := TX9) (N := 13) hx hb hts (mc_ inX9) hown hK g rfl 8 (by decide) rfl (hts _ (List.mem_cons_of_mem _ t_502)) (fun _ h9 => h9) 22 rfl dX2_beginTelling_204 ?_
      refine lv_iload hx hb dX2_beginTelling_207 (lv_at hl 0 rfl) ?_
      refine lv_iconst (v := 1) hx hb dX2_beginTelling_209 (by decide) ?_
      refine lv_iadd hx hb dX2_beginTelling_210 ?_
      refine lv_topi (fun y_31 ey_31 => ?_)
      have ty_31 := add_bd ey_31 by0_ kb_1 (by decide)
      have b_32 : bd 1 12 y_31 := add_rg ty_31 by0_ kb_1 (by decide)
      refine va_mmax hx hb (hml.trans hl.1.symm) hown (hts _ (List.mem_cons_of_mem _ t_1312)) (hts _ (List.mem_cons_of_mem _ t_1041)) (hts _ (List.mem_cons_of_mem _ t_204)) (hts _ (List.mem_cons_of_mem _ t_1042)) (Nat.le_of_ble_eq_true rfl) (Nat.le_of_ble_eq_true rfl) (Nat.le_of_ble_eq_true rfl) (Nat.le_of_ble_eq_true rfl) dX2_beginTelling_211 ?_
      refine lv_topi (fun y_33 ey_33 => ?_)
      have ty_33 : y_33.toInt = max y0_.toInt y_31.toInt := by rw [ey_33]; exact mmax_ok _ _
      have b_34 : bd 1 12 y_33 := max_rg ty_33 by0_ b_32 (by decide)
      refine g_put (C := RX9) (T := TX9) (N := 13) hx hb hts (mc_ inX9) tyX9 tyX9_ok nmX9 hown hK g mq2_ kq2_ (by decide) rfl 8 (by decide) (hts _ (List.mem_cons_of_mem _ t_502)) (fun _ h9 => h9) rfl rfl (okV_i (bd_sub b_34 (by decide))) rfl rfl (by decide) (Or.inr (Or.inl (by decide))) (fx' := [(9, 9, q2_, .ref a_29), (6, 12, a_10, .int 0), (6, 11, a_10, .int x_26), (7, 13, q1_, .int x_26), (6, 10, a_10, .int 0), (6, 9, a_10, .int x_23), (7, 15, q1_, .int x_23), (6, 8, a_10, .int 0), (6, 7, a_10, .int (-1)), (6, 6, a_10, .int 0), (6, 3, a_10, .int 0), (6, 2, a_10, .int x_15), (5, 2, a_14, .int x_15), (2, 1, a0_, .ref a_14), (6, 1, a_10, .int x2_), (6, 0, a_10, .long x1_), (2, 5, a0_, .ref a_10), (7, 2, q1_, .ref a_9), (7, 3, q1_, .int y_4), (2, 0, a0_, .ref q0_), (2, 3, a0_, .ref q1_), (2, 4, a0_, .ref q2_)]) rfl dX2_beginTelling_214 (fun f H locs hM_35 g => ?_)
      refine lv_aload_n hx hb dX2_beginTelling_217 rfl (lv_at hl 2 rfl) ?_
      refine lv_iconst (v := 0) hx hb dX2_beginTelling_218 (by decide) ?_
      refine g_put (C := RX2) (T := TX2) (N := 16) hx hb hts (mc_ inX2) tyX2 tyX2_ok nmX2 hown hK g ma0_ ka0_ (by decide) rfl 6 (by decide) (hts _ (List.mem_cons_of_mem _ t_422)) (fun _ h9 => h9) rfl rfl (okV_i (bd_sub kb_0 (by decide))) rfl rfl (by decide) (Or.inr (Or.inl (by decide))) (fx' := [(9, 8, q2_, .int y_33), (9, 9, q2_, .ref a_29), (6, 12, a_10, .int 0), (6, 11, a_10, .int x_26), (7, 13, q1_, .int x_26), (6, 10, a_10, .int 0), (6, 9, a_10, .int x_23), (7, 15, q1_, .int x_23), (6, 8, a_10, .int 0), (6, 7, a_10, .int (-1)), (6, 6, a_10, .int 0), (6, 3, a_10, .int 0), (6, 2, a_10, .int x_15), (5, 2, a_14, .int x_15), (2, 1, a0_, .ref a_14), (6, 1, a_10, .int x2_), (6, 0, a_10, .long x1_), (2, 5, a0_, .ref a_10), (7, 2, q1_, .ref a_9), (7, 3, q1_, .int y_4), (2, 0, a0_, .ref q0_), (2, 3, a0_, .ref q1_), (2, 4, a0_, .ref q2_)]) rfl dX2_beginTelling_219 (fun f H locs hM_36 g => ?_)
      subst hQ
      exact W.vret hx hb hr (fun t ht hW => ⟨⟨_, rfl, ⟨y_33, b_34, a_10, ⟨ma_10, ka_10⟩, y_4, b_5, (g.fcts [0, 1, 18, 20] rfl)⟩, q3_of g hK ht hW⟩, g.2.2.1.F ht⟩) g.2.2.1.2.2 dX2_beginTelling_222
