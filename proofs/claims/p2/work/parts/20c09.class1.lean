set_option maxHeartbeats 4000000 in
set_option maxRecDepth 100000 in
theorem r_X2_beginTelling (l : Launch) (dC : Nat → ClassId) (dI : Nat → Nat → Nat) (L : List Nat) (kd : Nat → Nat) (tys : List (ClassId × FieldType)) (f0 : Nat → va_E) (sz : Nat) (hWT : WT L kd tys f0) (a0_ : Nat) (ma0_ : a0_ ∈ L) (ka0_ : kd a0_ = 2) (x1_ : Int64) (x2_ : Int32) (x3_ : Int32) (bx3_ : bd 0 11 x3_) (q0_ : Nat) (mq0_ : q0_ ∈ L) (kq0_ : kd q0_ = 8) (q1_ : Nat) (mq1_ : q1_ ∈ L) (kq1_ : kd q1_ = 7) (q2_ : Nat) (mq2_ : q2_ ∈ L) (kq2_ : kd q2_ = 9) (hfx : Fs L kd f0 [(2, 0, a0_, .ref q0_), (2, 3, a0_, .ref q1_), (2, 4, a0_, .ref q2_)]) : Met l yX2_beginTelling (.code yX2_beginTelling cX2_beginTelling 7 none :: lw_g) ({ frames := 1, cells := 0, slots := 0, locals := 14 }) (va_Pc [.ref a0_, .long x1_, .int x2_, .int x3_] (P3 (dC, dI) L tys f0 sz)) (va_Qv (fun (f : Nat → va_E) => (∃ z1_ : Int32, bd 1 12 z1_ ∧ ∃ z2_ : Nat, (z2_ ∈ L ∧ kd z2_ = 6) ∧ ∃ z3_ : Int32, bd 1 96 z3_ ∧ Fs L kd f [(2, 6, a0_, .int 0), (9, 8, q2_, .int z1_), (2, 5, a0_, .ref z2_), (7, 3, q1_, .int z3_)])) (Q3 (dC, dI) L kd tys [(2, 5), (2, 6), (6, 0), (6, 1), (6, 2), (6, 3), (6, 6), (6, 7), (6, 8), (6, 9), (6, 10), (6, 11), (6, 12), (7, 3), (9, 8)] [156] f0 sz) (pA L sz)) 0 0 (pA L sz) := by
  refine Met.ofW (cc := cX2_beginTelling) (maxL := 7) (ret := none) (by decide) rfl ?_
  intro p e s m args below meth c s₁ B hml hv
  obtain ⟨rfl, hsz, hP, hK, hD0⟩ := hv
  have hx := B.exec
  have hb := B.bytes
  have hr := B.returns
  have hts := atoms_spec (ws := (.code yX2_beginTelling cX2_beginTelling 7 none :: lw_g)) B.pre
  have hown : s.vm.findClass RX2 = some m.cls := findClass_of_methodNamed B.named
  have hlocks := B.notSynchronized
  subst hsz
  have g : G3 (dC, dI) L kd tys s f0 [(2, 5), (2, 6), (6, 0), (6, 1), (6, 2), (6, 3), (6, 6), (6, 7), (6, 8), (6, 9), (6, 10), (6, 11), (6, 12), (7, 3), (9, 8)] [156] f0 s.heap [] [(2, 0, a0_, .ref q0_), (2, 3, a0_, .ref q1_), (2, 4, a0_, .ref q2_)] := G3.start hP hD0 hWT hfx
  have hl := lv_entry ([.ref a0_, .long x1_, .int x2_, .int x3_]) (n := 7) (Nat.le_of_ble_eq_true rfl)
  rw [lg_entry_eq]
  generalize (lg_sl ([.ref a0_, .long x1_, .int x2_, .int x3_]) ++ List.replicate (7 - (lg_sl ([.ref a0_, .long x1_, .int x2_, .int x3_])).length) Slot.unset).toArray = ls at hl ⊢
  have hl : lv_has ls 7 [(0, .ref a0_), (1, .long x1_), (3, .int x2_), (4, .int x3_)] := hl
  refine W_q (fun Q hQ => ?_)
  refine lv_aload_n hx hb dX2_beginTelling_0 rfl (lv_at hl 0 rfl) ?_
  refine g_getk (C := RX2) (T := TX2) (N := 16) hx hb hts (mc_ inX2) hown hK g rfl 3 (by decide) rfl (hts _ (List.mem_cons_of_mem _ t_419)) (fun _ h9 => h9) 1 rfl dX2_beginTelling_1 ?_
  refine g_geti (C := RX7) (T := TX7) (N := 19) hx hb hts (mc_ inX7) hown hK g mq1_ kq1_ (by decide) rfl 3 (by decide) rfl (hts _ (List.mem_cons_of_mem _ t_638)) (fun _ h9 => h9) rfl dX2_beginTelling_4 (fun x_1 bx_1 g => ?_)
  refine lv_bipush (v := 95) hx hb dX2_beginTelling_7 (by decide) ?_
  have kb_95 : bd 95 95 (95 : Int32) := ⟨by decide, by decide⟩
  refine va_mmin hx hb (hml.trans hl.1.symm) hown (hts _ (List.mem_cons_of_mem _ t_1311)) (hts _ (List.mem_cons_of_mem _ t_998)) (hts _ (List.mem_cons_of_mem _ t_204)) (hts _ (List.mem_cons_of_mem _ t_999)) (Nat.le_of_ble_eq_true rfl) (Nat.le_of_ble_eq_true rfl) (Nat.le_of_ble_eq_true rfl) (Nat.le_of_ble_eq_true rfl) dX2_beginTelling_9 ?_
  refine lv_topi (fun y_2 ey_2 => ?_)
  have ty_2 : y_2.toInt = min x_1.toInt (95 : Int32).toInt := by rw [ey_2]; exact mmin_ok _ _
  have b_3 : bd 0 95 y_2 := min_rg ty_2 bx_1 kb_95 (by decide)
  refine lv_istore (lv' := [(5, .int y_2), (0, .ref a0_), (1, .long x1_), (3, .int x2_), (4, .int x3_)]) hx hb dX2_beginTelling_12 hl (by decide) rfl (fun ls hl => ?_)
  refine lv_aload_n hx hb dX2_beginTelling_14 rfl (lv_at hl 1 rfl) ?_
  refine g_getk (C := RX2) (T := TX2) (N := 16) hx hb hts (mc_ inX2) hown hK g rfl 3 (by decide) rfl (hts _ (List.mem_cons_of_mem _ t_419)) (fun _ h9 => h9) 2 rfl dX2_beginTelling_15 ?_
  refine lv_iload hx hb dX2_beginTelling_18 (lv_at hl 0 rfl) ?_
  refine lv_iconst (v := 1) hx hb dX2_beginTelling_20 (by decide) ?_
  have kb_1 : bd 1 1 (1 : Int32) := ⟨by decide, by decide⟩
  refine lv_iadd hx hb dX2_beginTelling_21 ?_
  refine lv_topi (fun y_4 ey_4 => ?_)
  have ty_4 := add_bd ey_4 b_3 kb_1 (by decide)
  have b_5 : bd 1 96 y_4 := add_rg ty_4 b_3 kb_1 (by decide)
  refine g_put (C := RX7) (T := TX7) (N := 19) hx hb hts (mc_ inX7) tyX7 tyX7_ok nmX7 hown hK g mq1_ kq1_ (by decide) rfl 3 (by decide) (hts _ (List.mem_cons_of_mem _ t_638)) (fun _ h9 => h9) rfl rfl (okV_i (bd_sub b_5 (by decide))) rfl rfl (by decide) (Or.inr (Or.inl (by decide))) (fx' := [(2, 0, a0_, .ref q0_), (2, 3, a0_, .ref q1_), (2, 4, a0_, .ref q2_)]) rfl dX2_beginTelling_22 (fun f H locs hM_6 g => ?_)
  refine lv_iload hx hb dX2_beginTelling_25 (lv_at hl 4 rfl) ?_
  refine lv_iconst (v := (-1)) hx hb dX2_beginTelling_27 (by decide) ?_
  have kb_m1 : bd (-1) (-1) ((-1) : Int32) := ⟨by decide, by decide⟩
  refine lv_icmp_ne (tgt := 41) hx hb dX2_beginTelling_28 (by decide) (fun c_7 => ?_) (fun c_7 => ?_)
  · have fc_7 := neq_f c_7
    refine lv_iload hx hb dX2_beginTelling_41 (lv_at hl 4 rfl) ?_
    refine lv_istore (lv' := [(6, .int x3_), (5, .int y_2), (0, .ref a0_), (1, .long x1_), (3, .int x2_), (4, .int x3_)]) hx hb dX2_beginTelling_43 hl (by decide) rfl (fun ls hl => ?_)
    refine lv_aload_n hx hb dX2_beginTelling_45 rfl (lv_at hl 2 rfl) ?_
    refine lv_aload_n hx hb dX2_beginTelling_46 rfl (lv_at hl 2 rfl) ?_
    refine g_getk (C := RX2) (T := TX2) (N := 16) hx hb hts (mc_ inX2) hown hK g rfl 3 (by decide) rfl (hts _ (List.mem_cons_of_mem _ t_419)) (fun _ h9 => h9) 2 rfl dX2_beginTelling_47 ?_
    refine g_getr (K := 137) (C := RX7) (T := TX7) (N := 19) hx hb hts (mc_ inX7) hown hK g mq1_ kq1_ (by decide) rfl 2 (by decide) rfl (hts _ (List.mem_cons_of_mem _ t_630)) (fun _ h9 => h9) rfl dX2_beginTelling_50 (fun a_8 ma_8 ka_8 g => ?_)
    refine lv_iload hx hb dX2_beginTelling_53 (lv_at hl 1 rfl) ?_
    refine g_aald hx hb hK g ma_8 ka_8 (by decide) rfl (by decide) (in_bd b_3 (by decide)) dX2_beginTelling_55 (fun a_9 ma_9 ua_9 wa_9 => ?_)
    have ka_9 : kd a_9 = 6 := by omega
    refine g_put (C := RX2) (T := TX2) (N := 16) hx hb hts (mc_ inX2) tyX2 tyX2_ok nmX2 hown hK g ma0_ ka0_ (by decide) rfl 5 (by decide) (hts _ (List.mem_cons_of_mem _ t_421)) (fun _ h9 => h9) rfl rfl (okV_n ma_9 ka_9 (by decide)) rfl rfl (by decide) (Or.inr (Or.inl (by decide))) (fx' := [(7, 2, q1_, .ref a_8), (7, 3, q1_, .int y_4), (2, 0, a0_, .ref q0_), (2, 3, a0_, .ref q1_), (2, 4, a0_, .ref q2_)]) rfl dX2_beginTelling_56 (fun f H locs hM_10 g => ?_)
    refine lv_aload_n hx hb dX2_beginTelling_59 rfl (lv_at hl 2 rfl) ?_
    refine g_getk (C := RX2) (T := TX2) (N := 16) hx hb hts (mc_ inX2) hown hK g rfl 5 (by decide) rfl (hts _ (List.mem_cons_of_mem _ t_421)) (fun _ h9 => h9) 0 rfl dX2_beginTelling_60 ?_
    refine lv_lload_n hx hb dX2_beginTelling_63 rfl (lv_at hl 3 rfl) ?_
    refine g_put (C := RX6) (T := TX6) (N := 13) hx hb hts (mc_ inX6) tyX6 tyX6_ok nmX6 hown hK g ma_9 ka_9 (by decide) rfl 0 (by decide) (hts _ (List.mem_cons_of_mem _ t_556)) (fun _ h9 => h9) rfl rfl okV_l rfl rfl (by decide) (Or.inr (Or.inl (by decide))) (fx' := [(2, 5, a0_, .ref a_9), (7, 2, q1_, .ref a_8), (7, 3, q1_, .int y_4), (2, 0, a0_, .ref q0_), (2, 3, a0_, .ref q1_), (2, 4, a0_, .ref q2_)]) rfl dX2_beginTelling_64 (fun f H locs hM_11 g => ?_)
    refine lv_aload_n hx hb dX2_beginTelling_67 rfl (lv_at hl 2 rfl) ?_
    refine g_getk (C := RX2) (T := TX2) (N := 16) hx hb hts (mc_ inX2) hown hK g rfl 5 (by decide) rfl (hts _ (List.mem_cons_of_mem _ t_421)) (fun _ h9 => h9) 1 rfl dX2_beginTelling_68 ?_
    refine lv_iload_n hx hb dX2_beginTelling_71 rfl (lv_at hl 4 rfl) ?_
    refine g_put (C := RX6) (T := TX6) (N := 13) hx hb hts (mc_ inX6) tyX6 tyX6_ok nmX6 hown hK g ma_9 ka_9 (by decide) rfl 1 (by decide) (hts _ (List.mem_cons_of_mem _ t_559)) (fun _ h9 => h9) rfl rfl (okV_i (bdT x2_)) rfl rfl (by decide) (Or.inr (Or.inl (by decide))) (fx' := [(6, 0, a_9, .long x1_), (2, 5, a0_, .ref a_9), (7, 2, q1_, .ref a_8), (7, 3, q1_, .int y_4), (2, 0, a0_, .ref q0_), (2, 3, a0_, .ref q1_), (2, 4, a0_, .ref q2_)]) rfl dX2_beginTelling_72 (fun f H locs hM_12 g => ?_)
    refine lv_aload_n hx hb dX2_beginTelling_75 rfl (lv_at hl 2 rfl) ?_
    refine g_getk (C := RX2) (T := TX2) (N := 16) hx hb hts (mc_ inX2) hown hK g rfl 5 (by decide) rfl (hts _ (List.mem_cons_of_mem _ t_421)) (fun _ h9 => h9) 2 rfl dX2_beginTelling_76 ?_
    refine lv_aload_n hx hb dX2_beginTelling_79 rfl (lv_at hl 2 rfl) ?_
    refine g_getr (K := 5) (C := RX2) (T := TX2) (N := 16) hx hb hts (mc_ inX2) hown hK g ma0_ ka0_ (by decide) rfl 1 (by decide) rfl (hts _ (List.mem_cons_of_mem _ t_417)) (fun _ h9 => h9) rfl dX2_beginTelling_80 (fun a_13 ma_13 ka_13 g => ?_)
    refine g_geti (C := RX5) (T := TX5) (N := 9) hx hb hts (mc_ inX5) hown hK g ma_13 ka_13 (by decide) rfl 2 (by decide) rfl (hts _ (List.mem_cons_of_mem _ t_333)) (fun _ h9 => h9) rfl dX2_beginTelling_83 (fun x_14 bx_14 g => ?_)
    refine g_put (C := RX6) (T := TX6) (N := 13) hx hb hts (mc_ inX6) tyX6 tyX6_ok nmX6 hown hK g ma_9 ka_9 (by decide) rfl 2 (by decide) (hts _ (List.mem_cons_of_mem _ t_561)) (fun _ h9 => h9) rfl rfl (okV_i (bdT x_14)) rfl rfl (by decide) (Or.inr (Or.inl (by decide))) (fx' := [(5, 2, a_13, .int x_14), (2, 1, a0_, .ref a_13), (6, 1, a_9, .int x2_), (6, 0, a_9, .long x1_), (2, 5, a0_, .ref a_9), (7, 2, q1_, .ref a_8), (7, 3, q1_, .int y_4), (2, 0, a0_, .ref q0_), (2, 3, a0_, .ref q1_), (2, 4, a0_, .ref q2_)]) rfl dX2_beginTelling_86 (fun f H locs hM_15 g => ?_)
    refine lv_aload_n hx hb dX2_beginTelling_89 rfl (lv_at hl 2 rfl) ?_
    refine g_getk (C := RX2) (T := TX2) (N := 16) hx hb hts (mc_ inX2) hown hK g rfl 5 (by decide) rfl (hts _ (List.mem_cons_of_mem _ t_421)) (fun _ h9 => h9) 5 rfl dX2_beginTelling_90 ?_
    refine lv_iconst (v := 0) hx hb dX2_beginTelling_93 (by decide) ?_
    have kb_0 : bd 0 0 (0 : Int32) := ⟨by decide, by decide⟩
    refine g_put (C := RX6) (T := TX6) (N := 13) hx hb hts (mc_ inX6) tyX6 tyX6_ok nmX6 hown hK g ma_9 ka_9 (by decide) rfl 3 (by decide) (hts _ (List.mem_cons_of_mem _ t_568)) (fun _ h9 => h9) rfl rfl (okV_i (bd_sub kb_0 (by decide))) rfl rfl (by decide) (Or.inr (Or.inl (by decide))) (fx' := [(6, 2, a_9, .int x_14), (5, 2, a_13, .int x_14), (2, 1, a0_, .ref a_13), (6, 1, a_9, .int x2_), (6, 0, a_9, .long x1_), (2, 5, a0_, .ref a_9), (7, 2, q1_, .ref a_8), (7, 3, q1_, .int y_4), (2, 0, a0_, .ref q0_), (2, 3, a0_, .ref q1_), (2, 4, a0_, .ref q2_)]) rfl dX2_beginTelling_94 (fun f H locs hM_16 g => ?_)
    refine lv_aload_n hx hb dX2_beginTelling_97 rfl (lv_at hl 2 rfl) ?_
    refine g_getk (C := RX2) (T := TX2) (N := 16) hx hb hts (mc_ inX2) hown hK g rfl 5 (by decide) rfl (hts _ (List.mem_cons_of_mem _ t_421)) (fun _ h9 => h9) 6 rfl dX2_beginTelling_98 ?_
    refine lv_iconst (v := 0) hx hb dX2_beginTelling_101 (by decide) ?_
    refine g_put (C := RX6) (T := TX6) (N := 13) hx hb hts (mc_ inX6) tyX6 tyX6_ok nmX6 hown hK g ma_9 ka_9 (by decide) rfl 6 (by decide) (hts _ (List.mem_cons_of_mem _ t_578)) (fun _ h9 => h9) rfl rfl (okV_i (bd_sub kb_0 (by decide))) rfl rfl (by decide) (Or.inr (Or.inl (by decide))) (fx' := [(6, 3, a_9, .int 0), (6, 2, a_9, .int x_14), (5, 2, a_13, .int x_14), (2, 1, a0_, .ref a_13), (6, 1, a_9, .int x2_), (6, 0, a_9, .long x1_), (2, 5, a0_, .ref a_9), (7, 2, q1_, .ref a_8), (7, 3, q1_, .int y_4), (2, 0, a0_, .ref q0_), (2, 3, a0_, .ref q1_), (2, 4, a0_, .ref q2_)]) rfl dX2_beginTelling_102 (fun f H locs hM_17 g => ?_)
    refine lv_aload_n hx hb dX2_beginTelling_105 rfl (lv_at hl 2 rfl) ?_
    refine g_getk (C := RX2) (T := TX2) (N := 16) hx hb hts (mc_ inX2) hown hK g rfl 5 (by decide) rfl (hts _ (List.mem_cons_of_mem _ t_421)) (fun _ h9 => h9) 7 rfl dX2_beginTelling_106 ?_
    refine lv_iload hx hb dX2_beginTelling_109 (lv_at hl 5 rfl) ?_
    refine lv_iconst (v := (-1)) hx hb dX2_beginTelling_111 (by decide) ?_
    refine lv_icmp_ne (tgt := 119) hx hb dX2_beginTelling_112 (by decide) (fun c_18 => ?_) (fun c_18 => ?_)
    · have fc_18 := neq_f c_18
      refine lv_aload_n hx hb dX2_beginTelling_119 rfl (lv_at hl 2 rfl) ?_
      refine g_getk (C := RX2) (T := TX2) (N := 16) hx hb hts (mc_ inX2) hown hK g rfl 4 (by decide) rfl (hts _ (List.mem_cons_of_mem _ t_420)) (fun _ h9 => h9) 12 rfl dX2_beginTelling_120 ?_
      refine g_getr (K := 156) (C := RX9) (T := TX9) (N := 13) hx hb hts (mc_ inX9) hown hK g mq2_ kq2_ (by decide) rfl 9 (by decide) rfl (hts _ (List.mem_cons_of_mem _ t_510)) (fun _ h9 => h9) rfl dX2_beginTelling_123 (fun a_19 ma_19 ka_19 g => ?_)
      refine lv_iload hx hb dX2_beginTelling_126 (lv_at hl 0 rfl) ?_
      refine g_iald hx hb hK g ma_19 ka_19 (by decide) rfl (in_bd bx3_ (by decide)) dX2_beginTelling_128 (fun x_20 bx_20 cx_20 => ?_)
      refine g_put (C := RX6) (T := TX6) (N := 13) hx hb hts (mc_ inX6) tyX6 tyX6_ok nmX6 hown hK g ma_9 ka_9 (by decide) rfl 7 (by decide) (hts _ (List.mem_cons_of_mem _ t_580)) (fun _ h9 => h9) rfl rfl (okV_i (bd_sub bx_20 (by decide))) rfl rfl (by decide) (Or.inr (Or.inl (by decide))) (fx' := [(9, 9, q2_, .ref a_19), (6, 6, a_9, .int 0), (6, 3, a_9, .int 0), (6, 2, a_9, .int x_14), (5, 2, a_13, .int x_14), (2, 1, a0_, .ref a_13), (6, 1, a_9, .int x2_), (6, 0, a_9, .long x1_), (2, 5, a0_, .ref a_9), (7, 2, q1_, .ref a_8), (7, 3, q1_, .int y_4), (2, 0, a0_, .ref q0_), (2, 3, a0_, .ref q1_), (2, 4, a0_, .ref q2_)]) rfl dX2_beginTelling_129 (fun f H locs hM_21 g => ?_)
      refine lv_aload_n hx hb dX2_beginTelling_132 rfl (lv_at hl 2 rfl) ?_
      refine g_getk (C := RX2) (T := TX2) (N := 16) hx hb hts (mc_ inX2) hown hK g rfl 5 (by decide) rfl (hts _ (List.mem_cons_of_mem _ t_421)) (fun _ h9 => h9) 9 rfl dX2_beginTelling_133 ?_
      refine lv_iconst (v := 0) hx hb dX2_beginTelling_136 (by decide) ?_
      refine g_put (C := RX6) (T := TX6) (N := 13) hx hb hts (mc_ inX6) tyX6 tyX6_ok nmX6 hown hK g ma_9 ka_9 (by decide) rfl 8 (by decide) (hts _ (List.mem_cons_of_mem _ t_583)) (fun _ h9 => h9) rfl rfl (okV_i (bd_sub kb_0 (by decide))) rfl rfl (by decide) (Or.inr (Or.inl (by decide))) (fx' := [(6, 7, a_9, .int x_20), (9, 9, q2_, .ref a_19), (6, 6, a_9, .int 0), (6, 3, a_9, .int 0), (6, 2, a_9, .int x_14), (5, 2, a_13, .int x_14), (2, 1, a0_, .ref a_13), (6, 1, a_9, .int x2_), (6, 0, a_9, .long x1_), (2, 5, a0_, .ref a_9), (7, 2, q1_, .ref a_8), (7, 3, q1_, .int y_4), (2, 0, a0_, .ref q0_), (2, 3, a0_, .ref q1_), (2, 4, a0_, .ref q2_)]) rfl dX2_beginTelling_137 (fun f H locs hM_22 g => ?_)
      refine lv_aload_n hx hb dX2_beginTelling_140 rfl (lv_at hl 2 rfl) ?_
      refine g_getk (C := RX2) (T := TX2) (N := 16) hx hb hts (mc_ inX2) hown hK g rfl 5 (by decide) rfl (hts _ (List.mem_cons_of_mem _ t_421)) (fun _ h9 => h9) 10 rfl dX2_beginTelling_141 ?_
      refine lv_aload_n hx hb dX2_beginTelling_144 rfl (lv_at hl 2 rfl) ?_
      refine g_getk (C := RX2) (T := TX2) (N := 16) hx hb hts (mc_ inX2) hown hK g rfl 3 (by decide) rfl (hts _ (List.mem_cons_of_mem _ t_419)) (fun _ h9 => h9) 14 rfl dX2_beginTelling_145 ?_
      refine g_geti (C := RX7) (T := TX7) (N := 19) hx hb hts (mc_ inX7) hown hK g mq1_ kq1_ (by decide) rfl 15 (by decide) rfl (hts _ (List.mem_cons_of_mem _ t_675)) (fun _ h9 => h9) rfl dX2_beginTelling_148 (fun x_23 bx_23 g => ?_)
      refine g_put (C := RX6) (T := TX6) (N := 13) hx hb hts (mc_ inX6) tyX6 tyX6_ok nmX6 hown hK g ma_9 ka_9 (by decide) rfl 9 (by decide) (hts _ (List.mem_cons_of_mem _ t_585)) (fun _ h9 => h9) rfl rfl (okV_i bx_23) rfl rfl (by decide) (Or.inr (Or.inl (by decide))) (fx' := [(7, 15, q1_, .int x_23), (6, 8, a_9, .int 0), (6, 7, a_9, .int x_20), (9, 9, q2_, .ref a_19), (6, 6, a_9, .int 0), (6, 3, a_9, .int 0), (6, 2, a_9, .int x_14), (5, 2, a_13, .int x_14), (2, 1, a0_, .ref a_13), (6, 1, a_9, .int x2_), (6, 0, a_9, .long x1_), (2, 5, a0_, .ref a_9), (7, 2, q1_, .ref a_8), (7, 3, q1_, .int y_4), (2, 0, a0_, .ref q0_), (2, 3, a0_, .ref q1_), (2, 4, a0_, .ref q2_)]) rfl dX2_beginTelling_151 (fun f H locs hM_24 g => ?_)
      refine lv_aload_n hx hb dX2_beginTelling_154 rfl (lv_at hl 2 rfl) ?_
      refine g_getk (C := RX2) (T := TX2) (N := 16) hx hb hts (mc_ inX2) hown hK g rfl 5 (by decide) rfl (hts _ (List.mem_cons_of_mem _ t_421)) (fun _ h9 => h9) 12 rfl dX2_beginTelling_155 ?_
      refine lv_iconst (v := 0) hx hb dX2_beginTelling_158 (by decide) ?_
      refine g_put (C := RX6) (T := TX6) (N := 13) hx hb hts (mc_ inX6) tyX6 tyX6_ok nmX6 hown hK g ma_9 ka_9 (by decide) rfl 10 (by decide) (hts _ (List.mem_cons_of_mem _ t_588)) (fun _ h9 => h9) rfl rfl (okV_i (bd_sub kb_0 (by decide))) rfl rfl (by decide) (Or.inr (Or.inl (by decide))) (fx' := [(6, 9, a_9, .int x_23), (7, 15, q1_, .int x_23), (6, 8, a_9, .int 0), (6, 7, a_9, .int x_20), (9, 9, q2_, .ref a_19), (6, 6, a_9, .int 0), (6, 3, a_9, .int 0), (6, 2, a_9, .int x_14), (5, 2, a_13, .int x_14), (2, 1, a0_, .ref a_13), (6, 1, a_9, .int x2_), (6, 0, a_9, .long x1_), (2, 5, a0_, .ref a_9), (7, 2, q1_, .ref a_8), (7, 3, q1_, .int y_4), (2, 0, a0_, .ref q0_), (2, 3, a0_, .ref q1_), (2, 4, a0_, .ref q2_)]) rfl dX2_beginTelling_159 (fun f H locs hM_25 g => ?_)
      refine lv_aload_n hx hb dX2_beginTelling_162 rfl (lv_at hl 2 rfl) ?_
      refine g_getk (C := RX2) (T := TX2) (N := 16) hx hb hts (mc_ inX2) hown hK g rfl 5 (by decide) rfl (hts _ (List.mem_cons_of_mem _ t_421)) (fun _ h9 => h9) 13 rfl dX2_beginTelling_163 ?_
      refine lv_aload_n hx hb dX2_beginTelling_166 rfl (lv_at hl 2 rfl) ?_
      refine g_getk (C := RX2) (T := TX2) (N := 16) hx hb hts (mc_ inX2) hown hK g rfl 3 (by decide) rfl (hts _ (List.mem_cons_of_mem _ t_419)) (fun _ h9 => h9) 17 rfl dX2_beginTelling_167 ?_
      refine g_geti (C := RX7) (T := TX7) (N := 19) hx hb hts (mc_ inX7) hown hK g mq1_ kq1_ (by decide) rfl 13 (by decide) rfl (hts _ (List.mem_cons_of_mem _ t_668)) (fun _ h9 => h9) rfl dX2_beginTelling_170 (fun x_26 bx_26 g => ?_)
      refine g_put (C := RX6) (T := TX6) (N := 13) hx hb hts (mc_ inX6) tyX6 tyX6_ok nmX6 hown hK g ma_9 ka_9 (by decide) rfl 11 (by decide) (hts _ (List.mem_cons_of_mem _ t_589)) (fun _ h9 => h9) rfl rfl (okV_i bx_26) rfl rfl (by decide) (Or.inr (Or.inl (by decide))) (fx' := [(7, 13, q1_, .int x_26), (6, 10, a_9, .int 0), (6, 9, a_9, .int x_23), (7, 15, q1_, .int x_23), (6, 8, a_9, .int 0), (6, 7, a_9, .int x_20), (9, 9, q2_, .ref a_19), (6, 6, a_9, .int 0), (6, 3, a_9, .int 0), (6, 2, a_9, .int x_14), (5, 2, a_13, .int x_14), (2, 1, a0_, .ref a_13), (6, 1, a_9, .int x2_), (6, 0, a_9, .long x1_), (2, 5, a0_, .ref a_9), (7, 2, q1_, .ref a_8), (7, 3, q1_, .int y_4), (2, 0, a0_, .ref q0_), (2, 3, a0_, .ref q1_), (2, 4, a0_, .ref q2_)]) rfl dX2_beginTelling_173 (fun f H locs hM_27 g => ?_)
      refine lv_aload_n hx hb dX2_beginTelling_176 rfl (lv_at hl 2 rfl) ?_
      refine g_getk (C := RX2) (T := TX2) (N := 16) hx hb hts (mc_ inX2) hown hK g rfl 5 (by decide) rfl (hts _ (List.mem_cons_of_mem _ t_421)) (fun _ h9 => h9) 15 rfl dX2_beginTelling_177 ?_
      refine lv_iconst (v := 0) hx hb dX2_beginTelling_180 (by decide) ?_
      refine g_put (C := RX6) (T := TX6) (N := 13) hx hb hts (mc_ inX6) tyX6 tyX6_ok nmX6 hown hK g ma_9 ka_9 (by decide) rfl 12 (by decide) (hts _ (List.mem_cons_of_mem _ t_591)) (fun _ h9 => h9) rfl rfl (okV_i (bd_sub kb_0 (by decide))) rfl rfl (by decide) (Or.inr (Or.inl (by decide))) (fx' := [(6, 11, a_9, .int x_26), (7, 13, q1_, .int x_26), (6, 10, a_9, .int 0), (6, 9, a_9, .int x_23), (7, 15, q1_, .int x_23), (6, 8, a_9, .int 0), (6, 7, a_9, .int x_20), (9, 9, q2_, .ref a_19), (6, 6, a_9, .int 0), (6, 3, a_9, .int 0), (6, 2, a_9, .int x_14), (5, 2, a_13, .int x_14), (2, 1, a0_, .ref a_13), (6, 1, a_9, .int x2_), (6, 0, a_9, .long x1_), (2, 5, a0_, .ref a_9), (7, 2, q1_, .ref a_8), (7, 3, q1_, .int y_4), (2, 0, a0_, .ref q0_), (2, 3, a0_, .ref q1_), (2, 4, a0_, .ref q2_)]) rfl dX2_beginTelling_181 (fun f H locs hM_28 g => ?_)
      refine lv_aload_n hx hb dX2_beginTelling_184 rfl (lv_at hl 2 rfl) ?_
      refine g_getk (C := RX2) (T := TX2) (N := 16) hx hb hts (mc_ inX2) hown hK g rfl 4 (by decide) rfl (hts _ (List.mem_cons_of_mem _ t_420)) (fun _ h9 => h9) 21 rfl dX2_beginTelling_185 ?_
      refine g_getk (C := RX9) (T := TX9) (N := 13) hx hb hts (mc_ inX9) hown hK g rfl 9 (by decide) rfl (hts _ (List.mem_cons_of_mem _ t_510)) (fun _ h9 => h9) 8 rfl dX2_beginTelling_188 ?_
      refine lv_iload hx hb dX2_beginTelling_191 (lv_at hl 0 rfl) ?_
      refine lv_iload hx hb dX2_beginTelling_193 (lv_at hl 1 rfl) ?_
      refine g_iast hx hb hK g ma_19 ka_19 (by decide) rfl (in_bd bx3_ (by decide)) b_3 (by decide) dX2_beginTelling_195 (fun f H locs hM_29 g => ?_)
      refine lv_aload_n hx hb dX2_beginTelling_196 rfl (lv_at hl 2 rfl) ?_
      refine g_getk (C := RX2) (T := TX2) (N := 16) hx hb hts (mc_ inX2) hown hK g rfl 4 (by decide) rfl (hts _ (List.mem_cons_of_mem _ t_420)) (fun _ h9 => h9) 21 rfl dX2_beginTelling_197 ?_
      refine lv_aload_n hx hb dX2_beginTelling_200 rfl (lv_at hl 2 rfl) ?_
      refine g_getk (C := RX2) (T := TX2) (N := 16) hx hb hts (mc_ inX2) hown hK g rfl 4 (by decide) rfl (hts _ (List.mem_cons_of_mem _ t_420)) (fun _ h9 => h9) 21 rfl dX2_beginTelling_201 ?_
      refine g_geti (C := RX9) (T := TX9) (N := 13) hx hb hts (mc_ inX9) hown hK g mq2_ kq2_ (by decide) rfl 8 (by decide) rfl (hts _ (List.mem_cons_of_mem _ t_502)) (fun _ h9 => h9) rfl dX2_beginTelling_204 (fun x_30 bx_30 g => ?_)
      refine lv_iload hx hb dX2_beginTelling_207 (lv_at hl 0 rfl) ?_
      refine lv_iconst (v := 1) hx hb dX2_beginTelling_209 (by decide) ?_
      refine lv_iadd hx hb dX2_beginTelling_210 ?_
      refine lv_topi (fun y_31 ey_31 => ?_)
      have ty_31 := add_bd ey_31 bx3_ kb_1 (by decide)
      have b_32 : bd 1 12 y_31 := add_rg ty_31 bx3_ kb_1 (by decide)
      refine va_mmax hx hb (hml.trans hl.1.symm) hown (hts _ (List.mem_cons_of_mem _ t_1312)) (hts _ (List.mem_cons_of_mem _ t_1041)) (hts _ (List.mem_cons_of_mem _ t_204)) (hts _ (List.mem_cons_of_mem _ t_1042)) (Nat.le_of_ble_eq_true rfl) (Nat.le_of_ble_eq_true rfl) (Nat.le_of_ble_eq_true rfl) (Nat.le_of_ble_eq_true rfl) dX2_beginTelling_211 ?_
      refine lv_topi (fun y_33 ey_33 => ?_)
      have ty_33 : y_33.toInt = max x_30.toInt y_31.toInt := by rw [ey_33]; exact mmax_ok _ _
      have b_34 : bd 1 12 y_33 := max_rg ty_33 bx_30 b_32 (by decide)
      refine g_put (C := RX9) (T := TX9) (N := 13) hx hb hts (mc_ inX9) tyX9 tyX9_ok nmX9 hown hK g mq2_ kq2_ (by decide) rfl 8 (by decide) (hts _ (List.mem_cons_of_mem _ t_502)) (fun _ h9 => h9) rfl rfl (okV_i (bd_sub b_34 (by decide))) rfl rfl (by decide) (Or.inr (Or.inl (by decide))) (fx' := [(6, 12, a_9, .int 0), (6, 11, a_9, .int x_26), (7, 13, q1_, .int x_26), (6, 10, a_9, .int 0), (6, 9, a_9, .int x_23), (7, 15, q1_, .int x_23), (6, 8, a_9, .int 0), (6, 7, a_9, .int x_20), (9, 9, q2_, .ref a_19), (6, 6, a_9, .int 0), (6, 3, a_9, .int 0), (6, 2, a_9, .int x_14), (5, 2, a_13, .int x_14), (2, 1, a0_, .ref a_13), (6, 1, a_9, .int x2_), (6, 0, a_9, .long x1_), (2, 5, a0_, .ref a_9), (7, 2, q1_, .ref a_8), (7, 3, q1_, .int y_4), (2, 0, a0_, .ref q0_), (2, 3, a0_, .ref q1_), (2, 4, a0_, .ref q2_)]) rfl dX2_beginTelling_214 (fun f H locs hM_35 g => ?_)
      refine lv_aload_n hx hb dX2_beginTelling_217 rfl (lv_at hl 2 rfl) ?_
      refine lv_iconst (v := 0) hx hb dX2_beginTelling_218 (by decide) ?_
      refine g_put (C := RX2) (T := TX2) (N := 16) hx hb hts (mc_ inX2) tyX2 tyX2_ok nmX2 hown hK g ma0_ ka0_ (by decide) rfl 6 (by decide) (hts _ (List.mem_cons_of_mem _ t_422)) (fun _ h9 => h9) rfl rfl (okV_i (bd_sub kb_0 (by decide))) rfl rfl (by decide) (Or.inr (Or.inl (by decide))) (fx' := [(9, 8, q2_, .int y_33), (6, 12, a_9, .int 0), (6, 11, a_9, .int x_26), (7, 13, q1_, .int x_26), (6, 10, a_9, .int 0), (6, 9, a_9, .int x_23), (7, 15, q1_, .int x_23), (6, 8, a_9, .int 0), (6, 7, a_9, .int x_20), (9, 9, q2_, .ref a_19), (6, 6, a_9, .int 0), (6, 3, a_9, .int 0), (6, 2, a_9, .int x_14), (5, 2, a_13, .int x_14), (2, 1, a0_, .ref a_13), (6, 1, a_9, .int x2_), (6, 0, a_9, .long x1_), (2, 5, a0_, .ref a_9), (7, 2, q1_, .ref a_8), (7, 3, q1_, .int y_4), (2, 0, a0_, .ref q0_), (2, 3, a0_, .ref q1_), (2, 4, a0_, .ref q2_)]) rfl dX2_beginTelling_219 (fun f H locs hM_36 g => ?_)
      subst hQ
      exact W.vret hx hb hr (fun t ht hW => ⟨⟨_, rfl, ⟨y_33, b_34, a_9, ⟨ma_9, ka_9⟩, y_4, b_5, (g.fcts [0, 1, 18, 20] rfl)⟩, q3_of g hK ht hW⟩, g.2.2.1.F ht⟩) g.2.2.1.2.2 dX2_beginTelling_222
    · have fc_18 := eq_f c_18
      have b_37 : bd 0 (-1) x3_ := eqX fc_18 bx3_ kb_m1 (by decide)
      exact bd_no b_37 (by decide)
  · have fc_7 := eq_f c_7
    have b_38 : bd 0 (-1) x3_ := eqX fc_7 bx3_ kb_m1 (by decide)
    exact bd_no b_38 (by decide)
set_option maxHeartbeats 4000000 in
set_option maxRecDepth 100000 in
theorem r_X2_readNumber_2 (l : Launch) (dC : Nat → ClassId) (dI : Nat → Nat → Nat) (L : List Nat) (kd : Nat → Nat) (tys : List (ClassId × FieldType)) (f0 : Nat → va_E) (sz : Nat) (hWT : WT L kd tys f0) (a0_ : Nat) (ma0_ : a0_ ∈ L) (ka0_ : kd a0_ = 2) (x1_ : Int32) (q0_ : Nat) (mq0_ : q0_ ∈ L) (kq0_ : kd q0_ = 8) (y0_ : Int32) (by0_ : bd 1201 1201 y0_) (y1_ : Int32) (by1_ : bd 1 7 y1_) (hfx : Fs L kd f0 [(2, 0, a0_, .ref q0_), (8, 6, q0_, .int y0_), (8, 8, q0_, .int y1_)]) : Met l yX2_readNumber (.code yX2_readNumber cX2_readNumber 4 (some .int) :: lw_g) ({ frames := 1, cells := 0, slots := 0, locals := 23 }) (va_Pc [.ref a0_, .int x1_] (P3 (dC, dI) L tys f0 sz)) (va_Qi (fun (r : Int32) (f : Nat → va_E) => (Fs L kd f [(8, 6, q0_, .int 1201)])) (Q3 (dC, dI) L kd tys [(8, 6)] [] f0 sz) (pA L sz)) 0 0 (pA L sz) := by
  refine Met.ofW (cc := cX2_readNumber) (maxL := 4) (ret := (some .int)) (by decide) rfl ?_
  intro p e s m args below meth c s₁ B hml hv
  obtain ⟨rfl, hsz, hP, hK, hD0⟩ := hv
  have hx := B.exec
  have hb := B.bytes
  have hr := B.returns
  have hts := atoms_spec (ws := (.code yX2_readNumber cX2_readNumber 4 (some .int) :: lw_g)) B.pre
  have hown : s.vm.findClass RX2 = some m.cls := findClass_of_methodNamed B.named
  have hlocks := B.notSynchronized
  subst hsz
  have g : G3 (dC, dI) L kd tys s f0 [(8, 6)] [] f0 s.heap [] [(2, 0, a0_, .ref q0_), (8, 6, q0_, .int y0_), (8, 8, q0_, .int y1_)] := G3.start hP hD0 hWT hfx
  have hl := lv_entry ([.ref a0_, .int x1_]) (n := 4) (Nat.le_of_ble_eq_true rfl)
  rw [lg_entry_eq]
  generalize (lg_sl ([.ref a0_, .int x1_]) ++ List.replicate (4 - (lg_sl ([.ref a0_, .int x1_])).length) Slot.unset).toArray = ls at hl ⊢
  have hl : lv_has ls 4 [(0, .ref a0_), (1, .int x1_)] := hl
  refine W_q (fun Q hQ => ?_)
  refine lv_aload_n hx hb dX2_readNumber_0 rfl (lv_at hl 0 rfl) ?_
  refine g_getk (C := RX2) (T := TX2) (N := 16) hx hb hts (mc_ inX2) hown hK g rfl 0 (by decide) rfl (hts _ (List.mem_cons_of_mem _ t_416)) (fun _ h9 => h9) 0 rfl dX2_readNumber_1 ?_
  refine g_calli (va_runV (As := []) (rest := []) ⟨hx, hb, hml, hown, hts⟩ (r_X8_kind_2 l dC dI L kd tys f0 s.heap.size g.2.2.2.1 q0_ mq0_ kq0_ y0_ by0_ (g.fcts [1] rfl)) (cwV 0 hts (gV_ t_1118 t_1119 t_1120 t_184 t_1121) rfl rfl rfl (by decide +kernel) ⟨(Nat.le_of_ble_eq_true rfl), (Nat.le_of_ble_eq_true rfl)⟩) (pre3V g hK mq0_ kq0_ (by decide) (q := (RX8, TX8, 10)) rfl) rfl rfl hl.1 rfl (lv_room (Nat.le_of_ble_eq_true rfl)) dX2_readNumber_4 ⟨(Nat.le_of_ble_eq_true rfl), (Nat.le_of_ble_eq_true rfl)⟩) g hK (by decide) (by decide) (fx' := [(2, 0, a0_, .ref q0_), (8, 6, q0_, .int y0_), (8, 8, q0_, .int y1_)]) rfl (fun r_1 fr_1 H locs hp hMr_1 g => ?_)
  obtain ⟨h_2, -⟩ := hp
  obtain rfl : r_1 = 0 := h_2
  refine lv_bipush (v := 45) hx hb dX2_readNumber_7 (by decide) ?_
  refine lv_icmp_ne (tgt := 16) hx hb dX2_readNumber_9 (by decide) (fun c_ => ?_) (fun c_ => absurd c_ (by decide))
  refine lv_iconst (v := 0) hx hb dX2_readNumber_16 (by decide) ?_
  refine lv_istore_n (lv' := [(2, .int 0), (0, .ref a0_), (1, .int x1_)]) hx hb dX2_readNumber_17 rfl hl (by decide) rfl (fun ls hl => ?_)
  refine lv_iload_n hx hb dX2_readNumber_18 rfl (lv_at hl 0 rfl) ?_
  refine lv_if_eq (tgt := 29) hx hb dX2_readNumber_19 (by decide) (fun c_ => ?_) (fun c_ => absurd (by decide) c_)
  refine lv_iload_n hx hb dX2_readNumber_29 rfl (lv_at hl 0 rfl) ?_
  refine lv_if_eq (tgt := 45) hx hb dX2_readNumber_30 (by decide) (fun c_ => ?_) (fun c_ => absurd (by decide) c_)
  refine lv_aload_n hx hb dX2_readNumber_45 rfl (lv_at hl 1 rfl) ?_
  refine g_getk (C := RX2) (T := TX2) (N := 16) hx hb hts (mc_ inX2) hown hK g rfl 0 (by decide) rfl (hts _ (List.mem_cons_of_mem _ t_416)) (fun _ h9 => h9) 0 rfl dX2_readNumber_46 ?_
  refine g_calll (va_runV (As := []) (rest := []) ⟨hx, hb, hml, hown, hts⟩ (r_X8_value l dC dI L kd tys fr_1 H.size g.2.2.2.1 q0_ mq0_ kq0_) (cwV 0 hts (gV_ t_1114 t_1115 t_1116 t_184 t_1117) rfl rfl rfl (by decide +kernel) ⟨(Nat.le_of_ble_eq_true rfl), (Nat.le_of_ble_eq_true rfl)⟩) (pre3V g hK mq0_ kq0_ (by decide) (q := (RX8, TX8, 10)) rfl) rfl rfl hl.1 rfl (lv_room (Nat.le_of_ble_eq_true rfl)) dX2_readNumber_49 ⟨(Nat.le_of_ble_eq_true rfl), (Nat.le_of_ble_eq_true rfl)⟩) g hK (by decide) (by decide) (fx' := [(2, 0, a0_, .ref q0_), (8, 6, q0_, .int y0_), (8, 8, q0_, .int y1_)]) rfl (fun r_3 fr_3 H locs hp hMr_3 g => ?_)
  refine lv_l2i hx hb dX2_readNumber_52 rfl ?_
  refine lv_topi (fun y_4 ey_4 => ?_)
  refine lv_istore_n (lv' := [(3, .int y_4), (2, .int 0), (0, .ref a0_), (1, .int x1_)]) hx hb dX2_readNumber_53 rfl hl (by decide) rfl (fun ls hl => ?_)
  refine lv_aload_n hx hb dX2_readNumber_54 rfl (lv_at hl 2 rfl) ?_
  refine g_getk (C := RX2) (T := TX2) (N := 16) hx hb hts (mc_ inX2) hown hK g rfl 0 (by decide) rfl (hts _ (List.mem_cons_of_mem _ t_416)) (fun _ h9 => h9) 0 rfl dX2_readNumber_55 ?_
  refine g_calli (va_runV (As := []) (rest := []) ⟨hx, hb, hml, hown, hts⟩ (r_X8_kind_2 l dC dI L kd tys fr_3 H.size g.2.2.2.1 q0_ mq0_ kq0_ y0_ by0_ (g.fcts [1] rfl)) (cwV 0 hts (gV_ t_1118 t_1119 t_1120 t_184 t_1121) rfl rfl rfl (by decide +kernel) ⟨(Nat.le_of_ble_eq_true rfl), (Nat.le_of_ble_eq_true rfl)⟩) (pre3V g hK mq0_ kq0_ (by decide) (q := (RX8, TX8, 10)) rfl) rfl rfl hl.1 rfl (lv_room (Nat.le_of_ble_eq_true rfl)) dX2_readNumber_58 ⟨(Nat.le_of_ble_eq_true rfl), (Nat.le_of_ble_eq_true rfl)⟩) g hK (by decide) (by decide) (fx' := [(2, 0, a0_, .ref q0_), (8, 6, q0_, .int y0_), (8, 8, q0_, .int y1_)]) rfl (fun r_5 fr_5 H locs hp hMr_5 g => ?_)
  obtain ⟨h_6, -⟩ := hp
  obtain rfl : r_5 = 0 := h_6
  refine lv_iconst (v := 4) hx hb dX2_readNumber_61 (by decide) ?_
  refine lv_icmp_eq (tgt := 83) hx hb dX2_readNumber_62 (by decide) (fun c_ => absurd c_ (by decide)) (fun c_ => ?_)
  refine lv_aload_n hx hb dX2_readNumber_65 rfl (lv_at hl 2 rfl) ?_
  refine g_getk (C := RX2) (T := TX2) (N := 16) hx hb hts (mc_ inX2) hown hK g rfl 0 (by decide) rfl (hts _ (List.mem_cons_of_mem _ t_416)) (fun _ h9 => h9) 0 rfl dX2_readNumber_66 ?_
  refine lv_iconst (v := 1) hx hb dX2_readNumber_69 (by decide) ?_
  refine lv_aload_n hx hb dX2_readNumber_70 rfl (lv_at hl 2 rfl) ?_
  refine g_getk (C := RX2) (T := TX2) (N := 16) hx hb hts (mc_ inX2) hown hK g rfl 0 (by decide) rfl (hts _ (List.mem_cons_of_mem _ t_416)) (fun _ h9 => h9) 0 rfl dX2_readNumber_71 ?_
  refine g_calli (va_runV (As := []) (rest := [.int 1, .ref q0_]) ⟨hx, hb, hml, hown, hts⟩ (r_X8_place l dC dI L kd tys fr_5 H.size g.2.2.2.1 q0_ mq0_ kq0_) (cwV 0 hts (gV_ t_1110 t_1111 t_1112 t_184 t_1113) rfl rfl rfl (by decide +kernel) ⟨(Nat.le_of_ble_eq_true rfl), (Nat.le_of_ble_eq_true rfl)⟩) (pre3V g hK mq0_ kq0_ (by decide) (q := (RX8, TX8, 10)) rfl) rfl rfl hl.1 rfl (lv_room (Nat.le_of_ble_eq_true rfl)) dX2_readNumber_74 ⟨(Nat.le_of_ble_eq_true rfl), (Nat.le_of_ble_eq_true rfl)⟩) g hK (by decide) (by decide) (fx' := [(2, 0, a0_, .ref q0_), (8, 6, q0_, .int y0_), (8, 8, q0_, .int y1_)]) rfl (fun r_7 fr_7 H locs hp hMr_7 g => ?_)
  have kb_1 : bd 1 1 (1 : Int32) := ⟨by decide, by decide⟩
  refine g_callv (va_runV (As := [.int 1, .int r_7]) (rest := []) ⟨hx, hb, hml, hown, hts⟩ (r_X8_fail_8 l dC dI L kd tys fr_7 H.size g.2.2.2.1 q0_ mq0_ kq0_ 1 kb_1 r_7 y1_ by1_ (g.fcts [2] rfl)) (cwV 2 hts (gV_ t_1122 t_1107 t_1108 t_184 t_1109) rfl rfl rfl (by decide +kernel) ⟨(Nat.le_of_ble_eq_true rfl), (Nat.le_of_ble_eq_true rfl)⟩) (pre3V g hK mq0_ kq0_ (by decide) (q := (RX8, TX8, 10)) rfl) rfl rfl hl.1 rfl (lv_room (Nat.le_of_ble_eq_true rfl)) dX2_readNumber_77 ⟨(Nat.le_of_ble_eq_true rfl), (Nat.le_of_ble_eq_true rfl)⟩) g hK (by decide) (by decide) (fx' := [(2, 0, a0_, .ref q0_), (8, 8, q0_, .int y1_)]) rfl (fun fr_8 H locs hp hMr_8 g => ?_)
  have hF_9 := hp
  have g := g.more hF_9
  refine lv_goto (tgt := 103) hx hb dX2_readNumber_80 (by decide) ?_
  refine lv_aload_n hx hb dX2_readNumber_103 rfl (lv_at hl 2 rfl) ?_
  refine g_getk (C := RX2) (T := TX2) (N := 16) hx hb hts (mc_ inX2) hown hK g rfl 0 (by decide) rfl (hts _ (List.mem_cons_of_mem _ t_416)) (fun _ h9 => h9) 1 rfl dX2_readNumber_104 ?_
  have kb_1201 : bd 1201 1201 (1201 : Int32) := ⟨by decide, by decide⟩
  refine g_callv (va_runV (As := []) (rest := []) ⟨hx, hb, hml, hown, hts⟩ (r_X8_next_2 l dC dI L kd tys fr_8 H.size g.2.2.2.1 q0_ mq0_ kq0_ 1201 kb_1201 (g.fcts [0] rfl)) (cwV 0 hts (gV_ t_1131 t_1103 t_1104 t_184 t_1105) rfl rfl rfl (by decide +kernel) ⟨(Nat.le_of_ble_eq_true rfl), (Nat.le_of_ble_eq_true rfl)⟩) (pre3V g hK mq0_ kq0_ (by decide) (q := (RX8, TX8, 10)) rfl) rfl rfl hl.1 rfl (lv_room (Nat.le_of_ble_eq_true rfl)) dX2_readNumber_107 ⟨(Nat.le_of_ble_eq_true rfl), (Nat.le_of_ble_eq_true rfl)⟩) g hK (by decide) (by decide) (fx' := [(8, 6, q0_, .int 1201), (2, 0, a0_, .ref q0_), (8, 8, q0_, .int y1_)]) rfl (fun fr_10 H locs hp hMr_10 g => ?_)
  refine lv_iload_n hx hb dX2_readNumber_110 rfl (lv_at hl 0 rfl) ?_
  subst hQ
  exact W.iret (v := y_4) hx hb hr (fun t ht hW => ⟨⟨_, _, rfl, (g.fcts [0] rfl), q3_of g hK ht hW⟩, g.2.2.1.F ht⟩) g.2.2.1.2.2 dX2_readNumber_111
set_option maxHeartbeats 4000000 in
set_option maxRecDepth 100000 in
theorem r_X2_readParam_2 (l : Launch) (dC : Nat → ClassId) (dI : Nat → Nat → Nat) (L : List Nat) (kd : Nat → Nat) (tys : List (ClassId × FieldType)) (f0 : Nat → va_E) (sz : Nat) (hWT : WT L kd tys f0) (a0_ : Nat) (ma0_ : a0_ ∈ L) (ka0_ : kd a0_ = 2) (q0_ : Nat) (mq0_ : q0_ ∈ L) (kq0_ : kd q0_ = 8) (q1_ : Nat) (mq1_ : q1_ ∈ L) (kq1_ : kd q1_ = 5) (q2_ : Nat) (mq2_ : q2_ ∈ L) (kq2_ : kd q2_ = 6) (q3_ : Nat) (mq3_ : q3_ ∈ L) (kq3_ : kd q3_ = 9) (y0_ : Int32) (by0_ : bd 1201 1201 y0_) (y1_ : Int32) (by1_ : bd 1 7 y1_) (hfx : Fs L kd f0 [(2, 0, a0_, .ref q0_), (2, 1, a0_, .ref q1_), (2, 5, a0_, .ref q2_), (5, 1, q1_, .ref q3_), (8, 6, q0_, .int y0_), (8, 8, q0_, .int y1_)]) : Met l yX2_readParam (.code yX2_readParam cX2_readParam 7 none :: lw_g) ({ frames := 2, cells := 0, slots := 0, locals := 46 }) (va_Pc [.ref a0_] (P3 (dC, dI) L tys f0 sz)) (va_Qv (fun (f : Nat → va_E) => (Fs L kd f [(8, 6, q0_, .int 1201)])) (Q3 (dC, dI) L kd tys [(8, 6)] [] f0 sz) (pA L sz)) 0 0 (pA L sz) := by
  refine Met.ofW (cc := cX2_readParam) (maxL := 7) (ret := none) (by decide) rfl ?_
  intro p e s m args below meth c s₁ B hml hv
  obtain ⟨rfl, hsz, hP, hK, hD0⟩ := hv
  have hx := B.exec
  have hb := B.bytes
  have hr := B.returns
  have hts := atoms_spec (ws := (.code yX2_readParam cX2_readParam 7 none :: lw_g)) B.pre
  have hown : s.vm.findClass RX2 = some m.cls := findClass_of_methodNamed B.named
  have hlocks := B.notSynchronized
  subst hsz
  have g : G3 (dC, dI) L kd tys s f0 [(8, 6)] [] f0 s.heap [] [(2, 0, a0_, .ref q0_), (2, 1, a0_, .ref q1_), (2, 5, a0_, .ref q2_), (5, 1, q1_, .ref q3_), (8, 6, q0_, .int y0_), (8, 8, q0_, .int y1_)] := G3.start hP hD0 hWT hfx
  have hl := lv_entry ([.ref a0_]) (n := 7) (Nat.le_of_ble_eq_true rfl)
  rw [lg_entry_eq]
  generalize (lg_sl ([.ref a0_]) ++ List.replicate (7 - (lg_sl ([.ref a0_])).length) Slot.unset).toArray = ls at hl ⊢
  have hl : lv_has ls 7 [(0, .ref a0_)] := hl
  refine W_q (fun Q hQ => ?_)
  refine lv_aload_n hx hb dX2_readParam_0 rfl (lv_at hl 0 rfl) ?_
  refine g_getk (C := RX2) (T := TX2) (N := 16) hx hb hts (mc_ inX2) hown hK g rfl 0 (by decide) rfl (hts _ (List.mem_cons_of_mem _ t_416)) (fun _ h9 => h9) 0 rfl dX2_readParam_1 ?_
  refine g_calli (va_runV (As := []) (rest := []) ⟨hx, hb, hml, hown, hts⟩ (r_X8_place l dC dI L kd tys f0 s.heap.size g.2.2.2.1 q0_ mq0_ kq0_) (cwV 0 hts (gV_ t_1110 t_1111 t_1112 t_184 t_1113) rfl rfl rfl (by decide +kernel) ⟨(Nat.le_of_ble_eq_true rfl), (Nat.le_of_ble_eq_true rfl)⟩) (pre3V g hK mq0_ kq0_ (by decide) (q := (RX8, TX8, 10)) rfl) rfl rfl hl.1 rfl (lv_room (Nat.le_of_ble_eq_true rfl)) dX2_readParam_4 ⟨(Nat.le_of_ble_eq_true rfl), (Nat.le_of_ble_eq_true rfl)⟩) g hK (by decide) (by decide) (fx' := [(2, 0, a0_, .ref q0_), (2, 1, a0_, .ref q1_), (2, 5, a0_, .ref q2_), (5, 1, q1_, .ref q3_), (8, 6, q0_, .int y0_), (8, 8, q0_, .int y1_)]) rfl (fun r_1 fr_1 H locs hp hMr_1 g => ?_)
  refine lv_istore_n (lv' := [(1, .int r_1), (0, .ref a0_)]) hx hb dX2_readParam_7 rfl hl (by decide) rfl (fun ls hl => ?_)
  refine lv_aload_n hx hb dX2_readParam_8 rfl (lv_at hl 1 rfl) ?_
  refine g_getk (C := RX2) (T := TX2) (N := 16) hx hb hts (mc_ inX2) hown hK g rfl 0 (by decide) rfl (hts _ (List.mem_cons_of_mem _ t_416)) (fun _ h9 => h9) 0 rfl dX2_readParam_9 ?_
  refine g_calll (va_runV (As := []) (rest := []) ⟨hx, hb, hml, hown, hts⟩ (r_X8_value l dC dI L kd tys fr_1 H.size g.2.2.2.1 q0_ mq0_ kq0_) (cwV 0 hts (gV_ t_1114 t_1115 t_1116 t_184 t_1117) rfl rfl rfl (by decide +kernel) ⟨(Nat.le_of_ble_eq_true rfl), (Nat.le_of_ble_eq_true rfl)⟩) (pre3V g hK mq0_ kq0_ (by decide) (q := (RX8, TX8, 10)) rfl) rfl rfl hl.1 rfl (lv_room (Nat.le_of_ble_eq_true rfl)) dX2_readParam_12 ⟨(Nat.le_of_ble_eq_true rfl), (Nat.le_of_ble_eq_true rfl)⟩) g hK (by decide) (by decide) (fx' := [(2, 0, a0_, .ref q0_), (2, 1, a0_, .ref q1_), (2, 5, a0_, .ref q2_), (5, 1, q1_, .ref q3_), (8, 6, q0_, .int y0_), (8, 8, q0_, .int y1_)]) rfl (fun r_2 fr_2 H locs hp hMr_2 g => ?_)
  refine lv_lstore_n (lv' := [(2, .long r_2), (1, .int r_1), (0, .ref a0_)]) hx hb dX2_readParam_15 rfl hl (by decide) rfl (fun ls hl => ?_)
  refine lv_aload_n hx hb dX2_readParam_16 rfl (lv_at hl 2 rfl) ?_
  refine g_getk (C := RX2) (T := TX2) (N := 16) hx hb hts (mc_ inX2) hown hK g rfl 5 (by decide) rfl (hts _ (List.mem_cons_of_mem _ t_421)) (fun _ h9 => h9) 2 rfl dX2_readParam_17 ?_
  refine g_geti (C := RX6) (T := TX6) (N := 13) hx hb hts (mc_ inX6) hown hK g mq2_ kq2_ (by decide) rfl 3 (by decide) rfl (hts _ (List.mem_cons_of_mem _ t_568)) (fun _ h9 => h9) rfl dX2_readParam_20 (fun x_3 bx_3 g => ?_)
  refine lv_istore (lv' := [(4, .int x_3), (2, .long r_2), (1, .int r_1), (0, .ref a0_)]) hx hb dX2_readParam_23 hl (by decide) rfl (fun ls hl => ?_)
  refine lv_aload_n hx hb dX2_readParam_25 rfl (lv_at hl 3 rfl) ?_
  refine g_getk (C := RX2) (T := TX2) (N := 16) hx hb hts (mc_ inX2) hown hK g rfl 0 (by decide) rfl (hts _ (List.mem_cons_of_mem _ t_416)) (fun _ h9 => h9) 1 rfl dX2_readParam_26 ?_
  refine g_calli (va_runV (As := []) (rest := []) ⟨hx, hb, hml, hown, hts⟩ (r_X8_kind_2 l dC dI L kd tys fr_2 H.size g.2.2.2.1 q0_ mq0_ kq0_ y0_ by0_ (g.fcts [5] rfl)) (cwV 0 hts (gV_ t_1118 t_1119 t_1120 t_184 t_1121) rfl rfl rfl (by decide +kernel) ⟨(Nat.le_of_ble_eq_true rfl), (Nat.le_of_ble_eq_true rfl)⟩) (pre3V g hK mq0_ kq0_ (by decide) (q := (RX8, TX8, 10)) rfl) rfl rfl hl.1 rfl (lv_room (Nat.le_of_ble_eq_true rfl)) dX2_readParam_29 ⟨(Nat.le_of_ble_eq_true rfl), (Nat.le_of_ble_eq_true rfl)⟩) g hK (by decide) (by decide) (fx' := [(6, 3, q2_, .int x_3), (2, 0, a0_, .ref q0_), (2, 1, a0_, .ref q1_), (2, 5, a0_, .ref q2_), (5, 1, q1_, .ref q3_), (8, 6, q0_, .int y0_), (8, 8, q0_, .int y1_)]) rfl (fun r_4 fr_4 H locs hp hMr_4 g => ?_)
  obtain ⟨h_5, -⟩ := hp
  obtain rfl : r_4 = 0 := h_5
  refine lv_iconst (v := 3) hx hb dX2_readParam_32 (by decide) ?_
  refine lv_icmp_eq (tgt := 48) hx hb dX2_readParam_33 (by decide) (fun c_ => absurd c_ (by decide)) (fun c_ => ?_)
  refine lv_aload_n hx hb dX2_readParam_36 rfl (lv_at hl 3 rfl) ?_
  refine g_getk (C := RX2) (T := TX2) (N := 16) hx hb hts (mc_ inX2) hown hK g rfl 0 (by decide) rfl (hts _ (List.mem_cons_of_mem _ t_416)) (fun _ h9 => h9) 1 rfl dX2_readParam_37 ?_
  refine lv_iconst (v := 1) hx hb dX2_readParam_40 (by decide) ?_
  refine lv_iload_n hx hb dX2_readParam_41 rfl (lv_at hl 2 rfl) ?_
  have kb_1 : bd 1 1 (1 : Int32) := ⟨by decide, by decide⟩
  refine g_callv (va_runV (As := [.int 1, .int r_1]) (rest := []) ⟨hx, hb, hml, hown, hts⟩ (r_X8_fail_8 l dC dI L kd tys fr_4 H.size g.2.2.2.1 q0_ mq0_ kq0_ 1 kb_1 r_1 y1_ by1_ (g.fcts [6] rfl)) (cwV 2 hts (gV_ t_1122 t_1107 t_1108 t_184 t_1109) rfl rfl rfl (by decide +kernel) ⟨(Nat.le_of_ble_eq_true rfl), (Nat.le_of_ble_eq_true rfl)⟩) (pre3V g hK mq0_ kq0_ (by decide) (q := (RX8, TX8, 10)) rfl) rfl rfl hl.1 rfl (lv_room (Nat.le_of_ble_eq_true rfl)) dX2_readParam_42 ⟨(Nat.le_of_ble_eq_true rfl), (Nat.le_of_ble_eq_true rfl)⟩) g hK (by decide) (by decide) (fx' := [(6, 3, q2_, .int x_3), (2, 0, a0_, .ref q0_), (2, 1, a0_, .ref q1_), (2, 5, a0_, .ref q2_), (5, 1, q1_, .ref q3_), (8, 8, q0_, .int y1_)]) rfl (fun fr_6 H locs hp hMr_6 g => ?_)
  have hF_7 := hp
  have g := g.more hF_7
  refine lv_goto (tgt := 87) hx hb dX2_readParam_45 (by decide) ?_
  refine lv_aload_n hx hb dX2_readParam_87 rfl (lv_at hl 3 rfl) ?_
  refine g_getk (C := RX2) (T := TX2) (N := 16) hx hb hts (mc_ inX2) hown hK g rfl 0 (by decide) rfl (hts _ (List.mem_cons_of_mem _ t_416)) (fun _ h9 => h9) 2 rfl dX2_readParam_88 ?_
  have kb_1201 : bd 1201 1201 (1201 : Int32) := ⟨by decide, by decide⟩
  refine g_callv (va_runV (As := []) (rest := []) ⟨hx, hb, hml, hown, hts⟩ (r_X8_next_2 l dC dI L kd tys fr_6 H.size g.2.2.2.1 q0_ mq0_ kq0_ 1201 kb_1201 (g.fcts [0] rfl)) (cwV 0 hts (gV_ t_1131 t_1103 t_1104 t_184 t_1105) rfl rfl rfl (by decide +kernel) ⟨(Nat.le_of_ble_eq_true rfl), (Nat.le_of_ble_eq_true rfl)⟩) (pre3V g hK mq0_ kq0_ (by decide) (q := (RX8, TX8, 10)) rfl) rfl rfl hl.1 rfl (lv_room (Nat.le_of_ble_eq_true rfl)) dX2_readParam_91 ⟨(Nat.le_of_ble_eq_true rfl), (Nat.le_of_ble_eq_true rfl)⟩) g hK (by decide) (by decide) (fx' := [(8, 6, q0_, .int 1201), (6, 3, q2_, .int x_3), (2, 0, a0_, .ref q0_), (2, 1, a0_, .ref q1_), (2, 5, a0_, .ref q2_), (5, 1, q1_, .ref q3_), (8, 8, q0_, .int y1_)]) rfl (fun fr_8 H locs hp hMr_8 g => ?_)
  refine lv_aload_n hx hb dX2_readParam_94 rfl (lv_at hl 3 rfl) ?_
  refine g_getk (C := RX2) (T := TX2) (N := 16) hx hb hts (mc_ inX2) hown hK g rfl 0 (by decide) rfl (hts _ (List.mem_cons_of_mem _ t_416)) (fun _ h9 => h9) 2 rfl dX2_readParam_95 ?_
  refine lv_bipush (v := 15) hx hb dX2_readParam_98 (by decide) ?_
  refine g_callv (va_runV (As := [.int 15]) (rest := []) ⟨hx, hb, hml, hown, hts⟩ (r_X8_take_2 l dC dI L kd tys fr_8 H.size g.2.2.2.1 q0_ mq0_ kq0_ 15 1201 kb_1201 y1_ by1_ (g.fcts [0, 6] rfl)) (cwV 1 hts (gV_ t_1098 t_1099 t_1100 t_184 t_1101) rfl rfl rfl (by decide +kernel) ⟨(Nat.le_of_ble_eq_true rfl), (Nat.le_of_ble_eq_true rfl)⟩) (pre3V g hK mq0_ kq0_ (by decide) (q := (RX8, TX8, 10)) rfl) rfl rfl hl.1 rfl (lv_room (Nat.le_of_ble_eq_true rfl)) dX2_readParam_100 ⟨(Nat.le_of_ble_eq_true rfl), (Nat.le_of_ble_eq_true rfl)⟩) g hK (by decide) (by decide) (fx' := [(6, 3, q2_, .int x_3), (2, 0, a0_, .ref q0_), (2, 1, a0_, .ref q1_), (2, 5, a0_, .ref q2_), (5, 1, q1_, .ref q3_), (8, 8, q0_, .int y1_)]) rfl (fun fr_9 H locs hp hMr_9 g => ?_)
  obtain ⟨x_10, h_11, hF_12⟩ := hp
  have g := g.more hF_12
  refine lv_aload_n hx hb dX2_readParam_103 rfl (lv_at hl 3 rfl) ?_
  refine lv_ldc (v := (-2147483648)) hx hb hown (hts _ (List.mem_cons_of_mem _ t_1159)) dX2_readParam_104 ?_
  refine g_calli (va_runV (As := [.int (-2147483648)]) (rest := []) ⟨hx, hb, hml, hown, hts⟩ (r_X2_readNumber_2 l dC dI L kd tys fr_9 H.size g.2.2.2.1 a0_ ma0_ ka0_ (-2147483648) q0_ mq0_ kq0_ x_10 h_11 y1_ by1_ (g.fcts [2, 0, 6] rfl)) (cwV 1 hts (gV_ t_1160 t_1162 t_11 t_183 t_1163) rfl rfl rfl (by decide +kernel) ⟨(Nat.le_of_ble_eq_true rfl), (Nat.le_of_ble_eq_true rfl)⟩) (pre3V g hK ma0_ ka0_ (by decide) (q := (RX2, TX2, 16)) rfl) rfl rfl hl.1 rfl (lv_room (Nat.le_of_ble_eq_true rfl)) dX2_readParam_106 ⟨(Nat.le_of_ble_eq_true rfl), (Nat.le_of_ble_eq_true rfl)⟩) g hK (by decide) (by decide) (fx' := [(6, 3, q2_, .int x_3), (2, 0, a0_, .ref q0_), (2, 1, a0_, .ref q1_), (2, 5, a0_, .ref q2_), (5, 1, q1_, .ref q3_), (8, 8, q0_, .int y1_)]) rfl (fun r_13 fr_13 H locs hp hMr_13 g => ?_)
  have hF_14 := hp
  have g := g.more hF_14
  refine lv_istore (lv' := [(5, .int r_13), (4, .int x_3), (2, .long r_2), (1, .int r_1), (0, .ref a0_)]) hx hb dX2_readParam_109 hl (by decide) rfl (fun ls hl => ?_)
  refine lv_aload_n hx hb dX2_readParam_111 rfl (lv_at hl 4 rfl) ?_
  refine g_getk (C := RX2) (T := TX2) (N := 16) hx hb hts (mc_ inX2) hown hK g rfl 0 (by decide) rfl (hts _ (List.mem_cons_of_mem _ t_416)) (fun _ h9 => h9) 2 rfl dX2_readParam_112 ?_
  refine lv_sipush (v := 200) hx hb dX2_readParam_115 (by decide) ?_
  refine g_callv (va_runV (As := [.int 200]) (rest := []) ⟨hx, hb, hml, hown, hts⟩ (r_X8_take_2 l dC dI L kd tys fr_13 H.size g.2.2.2.1 q0_ mq0_ kq0_ 200 1201 kb_1201 y1_ by1_ (g.fcts [0, 6] rfl)) (cwV 1 hts (gV_ t_1098 t_1099 t_1100 t_184 t_1101) rfl rfl rfl (by decide +kernel) ⟨(Nat.le_of_ble_eq_true rfl), (Nat.le_of_ble_eq_true rfl)⟩) (pre3V g hK mq0_ kq0_ (by decide) (q := (RX8, TX8, 10)) rfl) rfl rfl hl.1 rfl (lv_room (Nat.le_of_ble_eq_true rfl)) dX2_readParam_118 ⟨(Nat.le_of_ble_eq_true rfl), (Nat.le_of_ble_eq_true rfl)⟩) g hK (by decide) (by decide) (fx' := [(6, 3, q2_, .int x_3), (2, 0, a0_, .ref q0_), (2, 1, a0_, .ref q1_), (2, 5, a0_, .ref q2_), (5, 1, q1_, .ref q3_), (8, 8, q0_, .int y1_)]) rfl (fun fr_15 H locs hp hMr_15 g => ?_)
  obtain ⟨x_16, h_17, hF_18⟩ := hp
  have g := g.more hF_18
  refine lv_aload_n hx hb dX2_readParam_121 rfl (lv_at hl 4 rfl) ?_
  refine lv_iload hx hb dX2_readParam_122 (lv_at hl 0 rfl) ?_
  refine g_calli (va_runV (As := [.int r_13]) (rest := []) ⟨hx, hb, hml, hown, hts⟩ (r_X2_readNumber_2 l dC dI L kd tys fr_15 H.size g.2.2.2.1 a0_ ma0_ ka0_ r_13 q0_ mq0_ kq0_ x_16 h_17 y1_ by1_ (g.fcts [2, 0, 6] rfl)) (cwV 1 hts (gV_ t_1160 t_1162 t_11 t_183 t_1163) rfl rfl rfl (by decide +kernel) ⟨(Nat.le_of_ble_eq_true rfl), (Nat.le_of_ble_eq_true rfl)⟩) (pre3V g hK ma0_ ka0_ (by decide) (q := (RX2, TX2, 16)) rfl) rfl rfl hl.1 rfl (lv_room (Nat.le_of_ble_eq_true rfl)) dX2_readParam_124 ⟨(Nat.le_of_ble_eq_true rfl), (Nat.le_of_ble_eq_true rfl)⟩) g hK (by decide) (by decide) (fx' := [(6, 3, q2_, .int x_3), (2, 0, a0_, .ref q0_), (2, 1, a0_, .ref q1_), (2, 5, a0_, .ref q2_), (5, 1, q1_, .ref q3_), (8, 8, q0_, .int y1_)]) rfl (fun r_19 fr_19 H locs hp hMr_19 g => ?_)
  have hF_20 := hp
  have g := g.more hF_20
  refine lv_istore (lv' := [(6, .int r_19), (5, .int r_13), (4, .int x_3), (2, .long r_2), (1, .int r_1), (0, .ref a0_)]) hx hb dX2_readParam_127 hl (by decide) rfl (fun ls hl => ?_)
  refine lv_aload_n hx hb dX2_readParam_129 rfl (lv_at hl 5 rfl) ?_
  refine g_getk (C := RX2) (T := TX2) (N := 16) hx hb hts (mc_ inX2) hown hK g rfl 0 (by decide) rfl (hts _ (List.mem_cons_of_mem _ t_416)) (fun _ h9 => h9) 2 rfl dX2_readParam_130 ?_
  refine g_getk (C := RX8) (T := TX8) (N := 10) hx hb hts (mc_ inX8) hown hK g rfl 8 (by decide) rfl (hts _ (List.mem_cons_of_mem _ t_294)) (fun _ h9 => h9) 6 rfl dX2_readParam_133 ?_
  have kb_0 : bd 0 0 (0 : Int32) := ⟨by decide, by decide⟩
  refine lv_if_ne (tgt := 202) hx hb dX2_readParam_136 (by decide) (fun c_21 => ?_) (fun c_21 => ?_)
  · have fc_21 := neq_f c_21
    subst hQ
    exact W.vret hx hb hr (fun t ht hW => ⟨⟨_, rfl, (g.fcts [0] rfl), q3_of g hK ht hW⟩, g.2.2.1.F ht⟩) g.2.2.1.2.2 dX2_readParam_202
  · have fc_21 := eq_f c_21
    have b_22 : bd 1 0 y1_ := eqX fc_21 by1_ kb_0 (by decide)
    exact bd_no b_22 (by decide)
set_option maxHeartbeats 4000000 in
set_option maxRecDepth 100000 in
theorem r_X2_readParam_3 (l : Launch) (dC : Nat → ClassId) (dI : Nat → Nat → Nat) (L : List Nat) (kd : Nat → Nat) (tys : List (ClassId × FieldType)) (f0 : Nat → va_E) (sz : Nat) (hWT : WT L kd tys f0) (a0_ : Nat) (ma0_ : a0_ ∈ L) (ka0_ : kd a0_ = 2) (q0_ : Nat) (mq0_ : q0_ ∈ L) (kq0_ : kd q0_ = 8) (q1_ : Nat) (mq1_ : q1_ ∈ L) (kq1_ : kd q1_ = 5) (q2_ : Nat) (mq2_ : q2_ ∈ L) (kq2_ : kd q2_ = 6) (q3_ : Nat) (mq3_ : q3_ ∈ L) (kq3_ : kd q3_ = 9) (hfx : Fs L kd f0 [(2, 0, a0_, .ref q0_), (2, 1, a0_, .ref q1_), (2, 5, a0_, .ref q2_), (5, 1, q1_, .ref q3_)]) : Met l yX2_readParam (.code yX2_readParam cX2_readParam 7 none :: lw_g) ({ frames := 2, cells := 0, slots := 0, locals := 46 }) (va_Pc [.ref a0_] (P3 (dC, dI) L tys f0 sz)) (va_Qv (fun (f : Nat → va_E) => (∃ z0_ : Int32, bd 1 3 z0_ ∧ ∃ z1_ : Int32, bd 1 3 z1_ ∧ ∃ z2_ : Int32, bd 0 0 z2_ ∧ ∃ z3_ : Int32, bd 1 1201 z3_ ∧ Fs L kd f [(6, 3, q2_, .int z0_), (5, 4, q1_, .int z1_), (8, 8, q0_, .int z2_), (8, 6, q0_, .int z3_)]) ∨ (∃ z0_ : Int32, bd 1 1201 z0_ ∧ ∃ z1_ : Int32, bd 1 7 z1_ ∧ Fs L kd f [(8, 6, q0_, .int z0_), (8, 8, q0_, .int z1_)])) (Q3 (dC, dI) L kd tys [(5, 4), (6, 3), (8, 6), (8, 8), (8, 9)] [132, 134, 135] f0 sz) (pA L sz)) 0 0 (pA L sz) := by
  refine Met.ofW (cc := cX2_readParam) (maxL := 7) (ret := none) (by decide) rfl ?_
  intro p e s m args below meth c s₁ B hml hv
  obtain ⟨rfl, hsz, hP, hK, hD0⟩ := hv
  have hx := B.exec
  have hb := B.bytes
  have hr := B.returns
  have hts := atoms_spec (ws := (.code yX2_readParam cX2_readParam 7 none :: lw_g)) B.pre
  have hown : s.vm.findClass RX2 = some m.cls := findClass_of_methodNamed B.named
  have hlocks := B.notSynchronized
  subst hsz
  have g : G3 (dC, dI) L kd tys s f0 [(5, 4), (6, 3), (8, 6), (8, 8), (8, 9)] [132, 134, 135] f0 s.heap [] [(2, 0, a0_, .ref q0_), (2, 1, a0_, .ref q1_), (2, 5, a0_, .ref q2_), (5, 1, q1_, .ref q3_)] := G3.start hP hD0 hWT hfx
  have hl := lv_entry ([.ref a0_]) (n := 7) (Nat.le_of_ble_eq_true rfl)
  rw [lg_entry_eq]
  generalize (lg_sl ([.ref a0_]) ++ List.replicate (7 - (lg_sl ([.ref a0_])).length) Slot.unset).toArray = ls at hl ⊢
  have hl : lv_has ls 7 [(0, .ref a0_)] := hl
  refine W_q (fun Q hQ => ?_)
  refine lv_aload_n hx hb dX2_readParam_0 rfl (lv_at hl 0 rfl) ?_
  refine g_getk (C := RX2) (T := TX2) (N := 16) hx hb hts (mc_ inX2) hown hK g rfl 0 (by decide) rfl (hts _ (List.mem_cons_of_mem _ t_416)) (fun _ h9 => h9) 0 rfl dX2_readParam_1 ?_
  refine g_calli (va_runV (As := []) (rest := []) ⟨hx, hb, hml, hown, hts⟩ (r_X8_place l dC dI L kd tys f0 s.heap.size g.2.2.2.1 q0_ mq0_ kq0_) (cwV 0 hts (gV_ t_1110 t_1111 t_1112 t_184 t_1113) rfl rfl rfl (by decide +kernel) ⟨(Nat.le_of_ble_eq_true rfl), (Nat.le_of_ble_eq_true rfl)⟩) (pre3V g hK mq0_ kq0_ (by decide) (q := (RX8, TX8, 10)) rfl) rfl rfl hl.1 rfl (lv_room (Nat.le_of_ble_eq_true rfl)) dX2_readParam_4 ⟨(Nat.le_of_ble_eq_true rfl), (Nat.le_of_ble_eq_true rfl)⟩) g hK (by decide) (by decide) (fx' := [(2, 0, a0_, .ref q0_), (2, 1, a0_, .ref q1_), (2, 5, a0_, .ref q2_), (5, 1, q1_, .ref q3_)]) rfl (fun r_1 fr_1 H locs hp hMr_1 g => ?_)
  refine lv_istore_n (lv' := [(1, .int r_1), (0, .ref a0_)]) hx hb dX2_readParam_7 rfl hl (by decide) rfl (fun ls hl => ?_)
  refine lv_aload_n hx hb dX2_readParam_8 rfl (lv_at hl 1 rfl) ?_
  refine g_getk (C := RX2) (T := TX2) (N := 16) hx hb hts (mc_ inX2) hown hK g rfl 0 (by decide) rfl (hts _ (List.mem_cons_of_mem _ t_416)) (fun _ h9 => h9) 0 rfl dX2_readParam_9 ?_
  refine g_calll (va_runV (As := []) (rest := []) ⟨hx, hb, hml, hown, hts⟩ (r_X8_value l dC dI L kd tys fr_1 H.size g.2.2.2.1 q0_ mq0_ kq0_) (cwV 0 hts (gV_ t_1114 t_1115 t_1116 t_184 t_1117) rfl rfl rfl (by decide +kernel) ⟨(Nat.le_of_ble_eq_true rfl), (Nat.le_of_ble_eq_true rfl)⟩) (pre3V g hK mq0_ kq0_ (by decide) (q := (RX8, TX8, 10)) rfl) rfl rfl hl.1 rfl (lv_room (Nat.le_of_ble_eq_true rfl)) dX2_readParam_12 ⟨(Nat.le_of_ble_eq_true rfl), (Nat.le_of_ble_eq_true rfl)⟩) g hK (by decide) (by decide) (fx' := [(2, 0, a0_, .ref q0_), (2, 1, a0_, .ref q1_), (2, 5, a0_, .ref q2_), (5, 1, q1_, .ref q3_)]) rfl (fun r_2 fr_2 H locs hp hMr_2 g => ?_)
  refine lv_lstore_n (lv' := [(2, .long r_2), (1, .int r_1), (0, .ref a0_)]) hx hb dX2_readParam_15 rfl hl (by decide) rfl (fun ls hl => ?_)
  refine lv_aload_n hx hb dX2_readParam_16 rfl (lv_at hl 2 rfl) ?_
  refine g_getk (C := RX2) (T := TX2) (N := 16) hx hb hts (mc_ inX2) hown hK g rfl 5 (by decide) rfl (hts _ (List.mem_cons_of_mem _ t_421)) (fun _ h9 => h9) 2 rfl dX2_readParam_17 ?_
  refine g_geti (C := RX6) (T := TX6) (N := 13) hx hb hts (mc_ inX6) hown hK g mq2_ kq2_ (by decide) rfl 3 (by decide) rfl (hts _ (List.mem_cons_of_mem _ t_568)) (fun _ h9 => h9) rfl dX2_readParam_20 (fun x_3 bx_3 g => ?_)
  refine lv_istore (lv' := [(4, .int x_3), (2, .long r_2), (1, .int r_1), (0, .ref a0_)]) hx hb dX2_readParam_23 hl (by decide) rfl (fun ls hl => ?_)
  refine lv_aload_n hx hb dX2_readParam_25 rfl (lv_at hl 3 rfl) ?_
  refine g_getk (C := RX2) (T := TX2) (N := 16) hx hb hts (mc_ inX2) hown hK g rfl 0 (by decide) rfl (hts _ (List.mem_cons_of_mem _ t_416)) (fun _ h9 => h9) 1 rfl dX2_readParam_26 ?_
  refine g_calli (va_runV (As := []) (rest := []) ⟨hx, hb, hml, hown, hts⟩ (r_X8_kind l dC dI L kd tys fr_2 H.size g.2.2.2.1 q0_ mq0_ kq0_) (cwV 0 hts (gV_ t_1118 t_1119 t_1120 t_184 t_1121) rfl rfl rfl (by decide +kernel) ⟨(Nat.le_of_ble_eq_true rfl), (Nat.le_of_ble_eq_true rfl)⟩) (pre3V g hK mq0_ kq0_ (by decide) (q := (RX8, TX8, 10)) rfl) rfl rfl hl.1 rfl (lv_room (Nat.le_of_ble_eq_true rfl)) dX2_readParam_29 ⟨(Nat.le_of_ble_eq_true rfl), (Nat.le_of_ble_eq_true rfl)⟩) g hK (by decide) (by decide) (fx' := [(6, 3, q2_, .int x_3), (2, 0, a0_, .ref q0_), (2, 1, a0_, .ref q1_), (2, 5, a0_, .ref q2_), (5, 1, q1_, .ref q3_)]) rfl (fun r_4 fr_4 H locs hp hMr_4 g => ?_)
  refine lv_iconst (v := 3) hx hb dX2_readParam_32 (by decide) ?_
  have kb_3 : bd 3 3 (3 : Int32) := ⟨by decide, by decide⟩
  refine lv_icmp_eq (tgt := 48) hx hb dX2_readParam_33 (by decide) (fun c_5 => ?_) (fun c_5 => ?_)
  · have fc_5 := eq_f c_5
    have b_6 : bd 3 3 r_4 := eqX fc_5 (bdT r_4) kb_3 (by decide)
    refine lv_aload_n hx hb dX2_readParam_48 rfl (lv_at hl 3 rfl) ?_
    refine g_getk (C := RX2) (T := TX2) (N := 16) hx hb hts (mc_ inX2) hown hK g rfl 1 (by decide) rfl (hts _ (List.mem_cons_of_mem _ t_417)) (fun _ h9 => h9) 2 rfl dX2_readParam_49 ?_
    refine lv_lload_n hx hb dX2_readParam_52 rfl (lv_at hl 1 rfl) ?_
    refine g_calli (va_runV (As := [.long r_2]) (rest := []) ⟨hx, hb, hml, hown, hts⟩ (r_X5_placeNamed l dC dI L kd tys fr_4 H.size g.2.2.2.1 q1_ mq1_ kq1_ r_2 q3_ mq3_ kq3_ (g.fcts [4] rfl)) (cwV 1 hts (gV_ t_1317 t_1252 t_1253 t_189 t_1254) rfl rfl rfl (by decide +kernel) ⟨(Nat.le_of_ble_eq_true rfl), (Nat.le_of_ble_eq_true rfl)⟩) (pre3V g hK mq1_ kq1_ (by decide) (q := (RX5, TX5, 9)) rfl) rfl rfl hl.1 rfl (lv_room (Nat.le_of_ble_eq_true rfl)) dX2_readParam_53 ⟨(Nat.le_of_ble_eq_true rfl), (Nat.le_of_ble_eq_true rfl)⟩) g hK (by decide) (by decide) (fx' := [(6, 3, q2_, .int x_3), (2, 0, a0_, .ref q0_), (2, 1, a0_, .ref q1_), (2, 5, a0_, .ref q2_), (5, 1, q1_, .ref q3_)]) rfl (fun r_7 fr_7 H locs hp hMr_7 g => ?_)
    obtain ⟨h_8, -⟩ := hp
    refine lv_iconst (v := (-1)) hx hb dX2_readParam_56 (by decide) ?_
    have kb_m1 : bd (-1) (-1) ((-1) : Int32) := ⟨by decide, by decide⟩
    refine lv_icmp_eq (tgt := 72) hx hb dX2_readParam_57 (by decide) (fun c_9 => ?_) (fun c_9 => ?_)
    · have fc_9 := eq_f c_9
      have b_10 : bd (-1) (-1) r_7 := eqX fc_9 h_8 kb_m1 (by decide)
      refine lv_iload hx hb dX2_readParam_72 (lv_at hl 0 rfl) ?_
      refine lv_iconst (v := 3) hx hb dX2_readParam_74 (by decide) ?_
      refine lv_icmp_lt (tgt := 87) hx hb dX2_readParam_75 (by decide) (fun c_11 => ?_) (fun c_11 => ?_)
      · have fc_11 := lt_f c_11
        have b_12 : bd 0 2 x_3 := ltL fc_11 bx_3 kb_3 (by decide)
        refine lv_aload_n hx hb dX2_readParam_87 rfl (lv_at hl 3 rfl) ?_
        refine g_getk (C := RX2) (T := TX2) (N := 16) hx hb hts (mc_ inX2) hown hK g rfl 0 (by decide) rfl (hts _ (List.mem_cons_of_mem _ t_416)) (fun _ h9 => h9) 1 rfl dX2_readParam_88 ?_
        refine g_callv (va_runV (As := []) (rest := []) ⟨hx, hb, hml, hown, hts⟩ (r_X8_next l dC dI L kd tys fr_7 H.size g.2.2.2.1 q0_ mq0_ kq0_) (cwV 0 hts (gV_ t_1131 t_1103 t_1104 t_184 t_1105) rfl rfl rfl (by decide +kernel) ⟨(Nat.le_of_ble_eq_true rfl), (Nat.le_of_ble_eq_true rfl)⟩) (pre3V g hK mq0_ kq0_ (by decide) (q := (RX8, TX8, 10)) rfl) rfl rfl hl.1 rfl (lv_room (Nat.le_of_ble_eq_true rfl)) dX2_readParam_91 ⟨(Nat.le_of_ble_eq_true rfl), (Nat.le_of_ble_eq_true rfl)⟩) g hK (by decide) (by decide) (fx' := [(6, 3, q2_, .int x_3), (2, 0, a0_, .ref q0_), (2, 1, a0_, .ref q1_), (2, 5, a0_, .ref q2_), (5, 1, q1_, .ref q3_)]) rfl (fun fr_13 H locs hp hMr_13 g => ?_)
        obtain ⟨x_14, h_15, hF_16⟩ := hp
        have g := g.more hF_16
        refine lv_aload_n hx hb dX2_readParam_94 rfl (lv_at hl 3 rfl) ?_
        refine g_getk (C := RX2) (T := TX2) (N := 16) hx hb hts (mc_ inX2) hown hK g rfl 0 (by decide) rfl (hts _ (List.mem_cons_of_mem _ t_416)) (fun _ h9 => h9) 2 rfl dX2_readParam_95 ?_
        refine lv_bipush (v := 15) hx hb dX2_readParam_98 (by decide) ?_
        refine g_callv (va_runV (As := [.int 15]) (rest := []) ⟨hx, hb, hml, hown, hts⟩ (r_X8_take l dC dI L kd tys fr_13 H.size g.2.2.2.1 q0_ mq0_ kq0_ 15) (cwV 1 hts (gV_ t_1098 t_1099 t_1100 t_184 t_1101) rfl rfl rfl (by decide +kernel) ⟨(Nat.le_of_ble_eq_true rfl), (Nat.le_of_ble_eq_true rfl)⟩) (pre3V g hK mq0_ kq0_ (by decide) (q := (RX8, TX8, 10)) rfl) rfl rfl hl.1 rfl (lv_room (Nat.le_of_ble_eq_true rfl)) dX2_readParam_100 ⟨(Nat.le_of_ble_eq_true rfl), (Nat.le_of_ble_eq_true rfl)⟩) g hK (by decide) (by decide) (fx' := [(6, 3, q2_, .int x_3), (2, 0, a0_, .ref q0_), (2, 1, a0_, .ref q1_), (2, 5, a0_, .ref q2_), (5, 1, q1_, .ref q3_)]) rfl (fun fr_17 H locs hp hMr_17 g => ?_)
        rcases hp with ⟨x_18, h_19, hF_20⟩ | ⟨x_21, h_22, hF_23⟩
        · have g := g.more hF_20
          refine lv_aload_n hx hb dX2_readParam_103 rfl (lv_at hl 3 rfl) ?_
          refine lv_ldc (v := (-2147483648)) hx hb hown (hts _ (List.mem_cons_of_mem _ t_1159)) dX2_readParam_104 ?_
          have kb_1201 : bd 1201 1201 (1201 : Int32) := ⟨by decide, by decide⟩
          refine g_calli (va_runV (As := [.int (-2147483648)]) (rest := []) ⟨hx, hb, hml, hown, hts⟩ (r_X2_readNumber_2 l dC dI L kd tys fr_17 H.size g.2.2.2.1 a0_ ma0_ ka0_ (-2147483648) q0_ mq0_ kq0_ 1201 kb_1201 x_18 h_19 (g.fcts [3, 0, 1] rfl)) (cwV 1 hts (gV_ t_1160 t_1162 t_11 t_183 t_1163) rfl rfl rfl (by decide +kernel) ⟨(Nat.le_of_ble_eq_true rfl), (Nat.le_of_ble_eq_true rfl)⟩) (pre3V g hK ma0_ ka0_ (by decide) (q := (RX2, TX2, 16)) rfl) rfl rfl hl.1 rfl (lv_room (Nat.le_of_ble_eq_true rfl)) dX2_readParam_106 ⟨(Nat.le_of_ble_eq_true rfl), (Nat.le_of_ble_eq_true rfl)⟩) g hK (by decide) (by decide) (fx' := [(8, 8, q0_, .int x_18), (6, 3, q2_, .int x_3), (2, 0, a0_, .ref q0_), (2, 1, a0_, .ref q1_), (2, 5, a0_, .ref q2_), (5, 1, q1_, .ref q3_)]) rfl (fun r_24 fr_24 H locs hp hMr_24 g => ?_)
          have hF_25 := hp
          have g := g.more hF_25
          refine lv_istore (lv' := [(5, .int r_24), (4, .int x_3), (2, .long r_2), (1, .int r_1), (0, .ref a0_)]) hx hb dX2_readParam_109 hl (by decide) rfl (fun ls hl => ?_)
          refine lv_aload_n hx hb dX2_readParam_111 rfl (lv_at hl 4 rfl) ?_
          refine g_getk (C := RX2) (T := TX2) (N := 16) hx hb hts (mc_ inX2) hown hK g rfl 0 (by decide) rfl (hts _ (List.mem_cons_of_mem _ t_416)) (fun _ h9 => h9) 3 rfl dX2_readParam_112 ?_
          refine lv_sipush (v := 200) hx hb dX2_readParam_115 (by decide) ?_
          refine g_callv (va_runV (As := [.int 200]) (rest := []) ⟨hx, hb, hml, hown, hts⟩ (r_X8_take_2 l dC dI L kd tys fr_24 H.size g.2.2.2.1 q0_ mq0_ kq0_ 200 1201 kb_1201 x_18 h_19 (g.fcts [0, 1] rfl)) (cwV 1 hts (gV_ t_1098 t_1099 t_1100 t_184 t_1101) rfl rfl rfl (by decide +kernel) ⟨(Nat.le_of_ble_eq_true rfl), (Nat.le_of_ble_eq_true rfl)⟩) (pre3V g hK mq0_ kq0_ (by decide) (q := (RX8, TX8, 10)) rfl) rfl rfl hl.1 rfl (lv_room (Nat.le_of_ble_eq_true rfl)) dX2_readParam_118 ⟨(Nat.le_of_ble_eq_true rfl), (Nat.le_of_ble_eq_true rfl)⟩) g hK (by decide) (by decide) (fx' := [(8, 8, q0_, .int x_18), (6, 3, q2_, .int x_3), (2, 0, a0_, .ref q0_), (2, 1, a0_, .ref q1_), (2, 5, a0_, .ref q2_), (5, 1, q1_, .ref q3_)]) rfl (fun fr_26 H locs hp hMr_26 g => ?_)
          obtain ⟨x_27, h_28, hF_29⟩ := hp
          have g := g.more hF_29
          refine lv_aload_n hx hb dX2_readParam_121 rfl (lv_at hl 4 rfl) ?_
          refine lv_iload hx hb dX2_readParam_122 (lv_at hl 0 rfl) ?_
          refine g_calli (va_runV (As := [.int r_24]) (rest := []) ⟨hx, hb, hml, hown, hts⟩ (r_X2_readNumber_2 l dC dI L kd tys fr_26 H.size g.2.2.2.1 a0_ ma0_ ka0_ r_24 q0_ mq0_ kq0_ x_27 h_28 x_18 h_19 (g.fcts [3, 0, 1] rfl)) (cwV 1 hts (gV_ t_1160 t_1162 t_11 t_183 t_1163) rfl rfl rfl (by decide +kernel) ⟨(Nat.le_of_ble_eq_true rfl), (Nat.le_of_ble_eq_true rfl)⟩) (pre3V g hK ma0_ ka0_ (by decide) (q := (RX2, TX2, 16)) rfl) rfl rfl hl.1 rfl (lv_room (Nat.le_of_ble_eq_true rfl)) dX2_readParam_124 ⟨(Nat.le_of_ble_eq_true rfl), (Nat.le_of_ble_eq_true rfl)⟩) g hK (by decide) (by decide) (fx' := [(8, 8, q0_, .int x_18), (6, 3, q2_, .int x_3), (2, 0, a0_, .ref q0_), (2, 1, a0_, .ref q1_), (2, 5, a0_, .ref q2_), (5, 1, q1_, .ref q3_)]) rfl (fun r_30 fr_30 H locs hp hMr_30 g => ?_)
          have hF_31 := hp
          have g := g.more hF_31
          refine lv_istore (lv' := [(6, .int r_30), (5, .int r_24), (4, .int x_3), (2, .long r_2), (1, .int r_1), (0, .ref a0_)]) hx hb dX2_readParam_127 hl (by decide) rfl (fun ls hl => ?_)
          refine lv_aload_n hx hb dX2_readParam_129 rfl (lv_at hl 5 rfl) ?_
          refine g_getk (C := RX2) (T := TX2) (N := 16) hx hb hts (mc_ inX2) hown hK g rfl 0 (by decide) rfl (hts _ (List.mem_cons_of_mem _ t_416)) (fun _ h9 => h9) 3 rfl dX2_readParam_130 ?_
          refine g_getk (C := RX8) (T := TX8) (N := 10) hx hb hts (mc_ inX8) hown hK g rfl 8 (by decide) rfl (hts _ (List.mem_cons_of_mem _ t_294)) (fun _ h9 => h9) 1 rfl dX2_readParam_133 ?_
          have kb_0 : bd 0 0 (0 : Int32) := ⟨by decide, by decide⟩
          refine lv_if_ne (tgt := 202) hx hb dX2_readParam_136 (by decide) (fun c_32 => ?_) (fun c_32 => ?_)
          · have fc_32 := neq_f c_32
            subst hQ
            exact W.vret hx hb hr (fun t ht hW => ⟨⟨_, rfl, Or.inr (⟨1201, (bd_sub kb_1201 (by decide)), x_18, h_19, (g.fcts [0, 1] rfl)⟩), q3_of g hK ht hW⟩, g.2.2.1.F ht⟩) g.2.2.1.2.2 dX2_readParam_202
          · have fc_32 := eq_f c_32
            have b_33 : bd 1 0 x_18 := eqX fc_32 h_19 kb_0 (by decide)
            exact bd_no b_33 (by decide)
        · have g := g.more hF_23
          refine lv_aload_n hx hb dX2_readParam_103 rfl (lv_at hl 3 rfl) ?_
          refine lv_ldc (v := (-2147483648)) hx hb hown (hts _ (List.mem_cons_of_mem _ t_1159)) dX2_readParam_104 ?_
          refine g_calli (va_runV (As := [.int (-2147483648)]) (rest := []) ⟨hx, hb, hml, hown, hts⟩ (r_X2_readNumber l dC dI L kd tys fr_17 H.size g.2.2.2.1 a0_ ma0_ ka0_ (-2147483648) q0_ mq0_ kq0_ (g.fcts [2] rfl)) (cwV 1 hts (gV_ t_1160 t_1162 t_11 t_183 t_1163) rfl rfl rfl (by decide +kernel) ⟨(Nat.le_of_ble_eq_true rfl), (Nat.le_of_ble_eq_true rfl)⟩) (pre3V g hK ma0_ ka0_ (by decide) (q := (RX2, TX2, 16)) rfl) rfl rfl hl.1 rfl (lv_room (Nat.le_of_ble_eq_true rfl)) dX2_readParam_106 ⟨(Nat.le_of_ble_eq_true rfl), (Nat.le_of_ble_eq_true rfl)⟩) g hK (by decide) (by decide) (fx' := [(6, 3, q2_, .int x_3), (2, 0, a0_, .ref q0_), (2, 1, a0_, .ref q1_), (2, 5, a0_, .ref q2_), (5, 1, q1_, .ref q3_)]) rfl (fun r_34 fr_34 H locs hp hMr_34 g => ?_)
          rcases hp with ⟨x_35, h_36, hF_37⟩ | ⟨x_38, h_39, hF_40⟩
          · have g := g.more hF_37
            refine lv_istore (lv' := [(5, .int r_34), (4, .int x_3), (2, .long r_2), (1, .int r_1), (0, .ref a0_)]) hx hb dX2_readParam_109 hl (by decide) rfl (fun ls hl => ?_)
            refine lv_aload_n hx hb dX2_readParam_111 rfl (lv_at hl 4 rfl) ?_
            refine g_getk (C := RX2) (T := TX2) (N := 16) hx hb hts (mc_ inX2) hown hK g rfl 0 (by decide) rfl (hts _ (List.mem_cons_of_mem _ t_416)) (fun _ h9 => h9) 3 rfl dX2_readParam_112 ?_
            refine lv_sipush (v := 200) hx hb dX2_readParam_115 (by decide) ?_
            have kb_1201 : bd 1201 1201 (1201 : Int32) := ⟨by decide, by decide⟩
            refine g_callv (va_runV (As := [.int 200]) (rest := []) ⟨hx, hb, hml, hown, hts⟩ (r_X8_take_2 l dC dI L kd tys fr_34 H.size g.2.2.2.1 q0_ mq0_ kq0_ 200 1201 kb_1201 x_35 h_36 (g.fcts [0, 1] rfl)) (cwV 1 hts (gV_ t_1098 t_1099 t_1100 t_184 t_1101) rfl rfl rfl (by decide +kernel) ⟨(Nat.le_of_ble_eq_true rfl), (Nat.le_of_ble_eq_true rfl)⟩) (pre3V g hK mq0_ kq0_ (by decide) (q := (RX8, TX8, 10)) rfl) rfl rfl hl.1 rfl (lv_room (Nat.le_of_ble_eq_true rfl)) dX2_readParam_118 ⟨(Nat.le_of_ble_eq_true rfl), (Nat.le_of_ble_eq_true rfl)⟩) g hK (by decide) (by decide) (fx' := [(8, 8, q0_, .int x_35), (6, 3, q2_, .int x_3), (2, 0, a0_, .ref q0_), (2, 1, a0_, .ref q1_), (2, 5, a0_, .ref q2_), (5, 1, q1_, .ref q3_)]) rfl (fun fr_41 H locs hp hMr_41 g => ?_)
            obtain ⟨x_42, h_43, hF_44⟩ := hp
            have g := g.more hF_44
            refine lv_aload_n hx hb dX2_readParam_121 rfl (lv_at hl 4 rfl) ?_
            refine lv_iload hx hb dX2_readParam_122 (lv_at hl 0 rfl) ?_
            refine g_calli (va_runV (As := [.int r_34]) (rest := []) ⟨hx, hb, hml, hown, hts⟩ (r_X2_readNumber_2 l dC dI L kd tys fr_41 H.size g.2.2.2.1 a0_ ma0_ ka0_ r_34 q0_ mq0_ kq0_ x_42 h_43 x_35 h_36 (g.fcts [3, 0, 1] rfl)) (cwV 1 hts (gV_ t_1160 t_1162 t_11 t_183 t_1163) rfl rfl rfl (by decide +kernel) ⟨(Nat.le_of_ble_eq_true rfl), (Nat.le_of_ble_eq_true rfl)⟩) (pre3V g hK ma0_ ka0_ (by decide) (q := (RX2, TX2, 16)) rfl) rfl rfl hl.1 rfl (lv_room (Nat.le_of_ble_eq_true rfl)) dX2_readParam_124 ⟨(Nat.le_of_ble_eq_true rfl), (Nat.le_of_ble_eq_true rfl)⟩) g hK (by decide) (by decide) (fx' := [(8, 8, q0_, .int x_35), (6, 3, q2_, .int x_3), (2, 0, a0_, .ref q0_), (2, 1, a0_, .ref q1_), (2, 5, a0_, .ref q2_), (5, 1, q1_, .ref q3_)]) rfl (fun r_45 fr_45 H locs hp hMr_45 g => ?_)
            have hF_46 := hp
            have g := g.more hF_46
            refine lv_istore (lv' := [(6, .int r_45), (5, .int r_34), (4, .int x_3), (2, .long r_2), (1, .int r_1), (0, .ref a0_)]) hx hb dX2_readParam_127 hl (by decide) rfl (fun ls hl => ?_)
            refine lv_aload_n hx hb dX2_readParam_129 rfl (lv_at hl 5 rfl) ?_
            refine g_getk (C := RX2) (T := TX2) (N := 16) hx hb hts (mc_ inX2) hown hK g rfl 0 (by decide) rfl (hts _ (List.mem_cons_of_mem _ t_416)) (fun _ h9 => h9) 3 rfl dX2_readParam_130 ?_
            refine g_getk (C := RX8) (T := TX8) (N := 10) hx hb hts (mc_ inX8) hown hK g rfl 8 (by decide) rfl (hts _ (List.mem_cons_of_mem _ t_294)) (fun _ h9 => h9) 1 rfl dX2_readParam_133 ?_
            have kb_0 : bd 0 0 (0 : Int32) := ⟨by decide, by decide⟩
            refine lv_if_ne (tgt := 202) hx hb dX2_readParam_136 (by decide) (fun c_47 => ?_) (fun c_47 => ?_)
            · have fc_47 := neq_f c_47
              subst hQ
              exact W.vret hx hb hr (fun t ht hW => ⟨⟨_, rfl, Or.inr (⟨1201, (bd_sub kb_1201 (by decide)), x_35, h_36, (g.fcts [0, 1] rfl)⟩), q3_of g hK ht hW⟩, g.2.2.1.F ht⟩) g.2.2.1.2.2 dX2_readParam_202
            · have fc_47 := eq_f c_47
              have b_48 : bd 1 0 x_35 := eqX fc_47 h_36 kb_0 (by decide)
              exact bd_no b_48 (by decide)
          · have g := g.more hF_40
            refine lv_istore (lv' := [(5, .int r_34), (4, .int x_3), (2, .long r_2), (1, .int r_1), (0, .ref a0_)]) hx hb dX2_readParam_109 hl (by decide) rfl (fun ls hl => ?_)
            refine lv_aload_n hx hb dX2_readParam_111 rfl (lv_at hl 4 rfl) ?_
            refine g_getk (C := RX2) (T := TX2) (N := 16) hx hb hts (mc_ inX2) hown hK g rfl 0 (by decide) rfl (hts _ (List.mem_cons_of_mem _ t_416)) (fun _ h9 => h9) 2 rfl dX2_readParam_112 ?_
            refine lv_sipush (v := 200) hx hb dX2_readParam_115 (by decide) ?_
            refine g_callv (va_runV (As := [.int 200]) (rest := []) ⟨hx, hb, hml, hown, hts⟩ (r_X8_take l dC dI L kd tys fr_34 H.size g.2.2.2.1 q0_ mq0_ kq0_ 200) (cwV 1 hts (gV_ t_1098 t_1099 t_1100 t_184 t_1101) rfl rfl rfl (by decide +kernel) ⟨(Nat.le_of_ble_eq_true rfl), (Nat.le_of_ble_eq_true rfl)⟩) (pre3V g hK mq0_ kq0_ (by decide) (q := (RX8, TX8, 10)) rfl) rfl rfl hl.1 rfl (lv_room (Nat.le_of_ble_eq_true rfl)) dX2_readParam_118 ⟨(Nat.le_of_ble_eq_true rfl), (Nat.le_of_ble_eq_true rfl)⟩) g hK (by decide) (by decide) (fx' := [(6, 3, q2_, .int x_3), (2, 0, a0_, .ref q0_), (2, 1, a0_, .ref q1_), (2, 5, a0_, .ref q2_), (5, 1, q1_, .ref q3_)]) rfl (fun fr_49 H locs hp hMr_49 g => ?_)
            rcases hp with ⟨x_50, h_51, hF_52⟩ | ⟨x_53, h_54, hF_55⟩
            · have g := g.more hF_52
              refine lv_aload_n hx hb dX2_readParam_121 rfl (lv_at hl 4 rfl) ?_
              refine lv_iload hx hb dX2_readParam_122 (lv_at hl 0 rfl) ?_
              have kb_1201 : bd 1201 1201 (1201 : Int32) := ⟨by decide, by decide⟩
              refine g_calli (va_runV (As := [.int r_34]) (rest := []) ⟨hx, hb, hml, hown, hts⟩ (r_X2_readNumber_2 l dC dI L kd tys fr_49 H.size g.2.2.2.1 a0_ ma0_ ka0_ r_34 q0_ mq0_ kq0_ 1201 kb_1201 x_50 h_51 (g.fcts [3, 0, 1] rfl)) (cwV 1 hts (gV_ t_1160 t_1162 t_11 t_183 t_1163) rfl rfl rfl (by decide +kernel) ⟨(Nat.le_of_ble_eq_true rfl), (Nat.le_of_ble_eq_true rfl)⟩) (pre3V g hK ma0_ ka0_ (by decide) (q := (RX2, TX2, 16)) rfl) rfl rfl hl.1 rfl (lv_room (Nat.le_of_ble_eq_true rfl)) dX2_readParam_124 ⟨(Nat.le_of_ble_eq_true rfl), (Nat.le_of_ble_eq_true rfl)⟩) g hK (by decide) (by decide) (fx' := [(8, 8, q0_, .int x_50), (6, 3, q2_, .int x_3), (2, 0, a0_, .ref q0_), (2, 1, a0_, .ref q1_), (2, 5, a0_, .ref q2_), (5, 1, q1_, .ref q3_)]) rfl (fun r_56 fr_56 H locs hp hMr_56 g => ?_)
              have hF_57 := hp
              have g := g.more hF_57
              refine lv_istore (lv' := [(6, .int r_56), (5, .int r_34), (4, .int x_3), (2, .long r_2), (1, .int r_1), (0, .ref a0_)]) hx hb dX2_readParam_127 hl (by decide) rfl (fun ls hl => ?_)
              refine lv_aload_n hx hb dX2_readParam_129 rfl (lv_at hl 5 rfl) ?_
              refine g_getk (C := RX2) (T := TX2) (N := 16) hx hb hts (mc_ inX2) hown hK g rfl 0 (by decide) rfl (hts _ (List.mem_cons_of_mem _ t_416)) (fun _ h9 => h9) 3 rfl dX2_readParam_130 ?_
              refine g_getk (C := RX8) (T := TX8) (N := 10) hx hb hts (mc_ inX8) hown hK g rfl 8 (by decide) rfl (hts _ (List.mem_cons_of_mem _ t_294)) (fun _ h9 => h9) 1 rfl dX2_readParam_133 ?_
              have kb_0 : bd 0 0 (0 : Int32) := ⟨by decide, by decide⟩
              refine lv_if_ne (tgt := 202) hx hb dX2_readParam_136 (by decide) (fun c_58 => ?_) (fun c_58 => ?_)
              · have fc_58 := neq_f c_58
                subst hQ
                exact W.vret hx hb hr (fun t ht hW => ⟨⟨_, rfl, Or.inr (⟨1201, (bd_sub kb_1201 (by decide)), x_50, h_51, (g.fcts [0, 1] rfl)⟩), q3_of g hK ht hW⟩, g.2.2.1.F ht⟩) g.2.2.1.2.2 dX2_readParam_202
              · have fc_58 := eq_f c_58
                have b_59 : bd 1 0 x_50 := eqX fc_58 h_51 kb_0 (by decide)
                exact bd_no b_59 (by decide)
            · have g := g.more hF_55
              refine lv_aload_n hx hb dX2_readParam_121 rfl (lv_at hl 4 rfl) ?_
              refine lv_iload hx hb dX2_readParam_122 (lv_at hl 0 rfl) ?_
              refine g_calli (va_runV (As := [.int r_34]) (rest := []) ⟨hx, hb, hml, hown, hts⟩ (r_X2_readNumber l dC dI L kd tys fr_49 H.size g.2.2.2.1 a0_ ma0_ ka0_ r_34 q0_ mq0_ kq0_ (g.fcts [2] rfl)) (cwV 1 hts (gV_ t_1160 t_1162 t_11 t_183 t_1163) rfl rfl rfl (by decide +kernel) ⟨(Nat.le_of_ble_eq_true rfl), (Nat.le_of_ble_eq_true rfl)⟩) (pre3V g hK ma0_ ka0_ (by decide) (q := (RX2, TX2, 16)) rfl) rfl rfl hl.1 rfl (lv_room (Nat.le_of_ble_eq_true rfl)) dX2_readParam_124 ⟨(Nat.le_of_ble_eq_true rfl), (Nat.le_of_ble_eq_true rfl)⟩) g hK (by decide) (by decide) (fx' := [(6, 3, q2_, .int x_3), (2, 0, a0_, .ref q0_), (2, 1, a0_, .ref q1_), (2, 5, a0_, .ref q2_), (5, 1, q1_, .ref q3_)]) rfl (fun r_60 fr_60 H locs hp hMr_60 g => ?_)
              rcases hp with ⟨x_61, h_62, hF_63⟩ | ⟨x_64, h_65, hF_66⟩
              · have g := g.more hF_63
                refine lv_istore (lv' := [(6, .int r_60), (5, .int r_34), (4, .int x_3), (2, .long r_2), (1, .int r_1), (0, .ref a0_)]) hx hb dX2_readParam_127 hl (by decide) rfl (fun ls hl => ?_)
                refine lv_aload_n hx hb dX2_readParam_129 rfl (lv_at hl 5 rfl) ?_
                refine g_getk (C := RX2) (T := TX2) (N := 16) hx hb hts (mc_ inX2) hown hK g rfl 0 (by decide) rfl (hts _ (List.mem_cons_of_mem _ t_416)) (fun _ h9 => h9) 3 rfl dX2_readParam_130 ?_
                refine g_getk (C := RX8) (T := TX8) (N := 10) hx hb hts (mc_ inX8) hown hK g rfl 8 (by decide) rfl (hts _ (List.mem_cons_of_mem _ t_294)) (fun _ h9 => h9) 1 rfl dX2_readParam_133 ?_
                have kb_0 : bd 0 0 (0 : Int32) := ⟨by decide, by decide⟩
                refine lv_if_ne (tgt := 202) hx hb dX2_readParam_136 (by decide) (fun c_67 => ?_) (fun c_67 => ?_)
                · have fc_67 := neq_f c_67
                  have kb_1201 : bd 1201 1201 (1201 : Int32) := ⟨by decide, by decide⟩
                  subst hQ
                  exact W.vret hx hb hr (fun t ht hW => ⟨⟨_, rfl, Or.inr (⟨1201, (bd_sub kb_1201 (by decide)), x_61, h_62, (g.fcts [0, 1] rfl)⟩), q3_of g hK ht hW⟩, g.2.2.1.F ht⟩) g.2.2.1.2.2 dX2_readParam_202
                · have fc_67 := eq_f c_67
                  have b_68 : bd 1 0 x_61 := eqX fc_67 h_62 kb_0 (by decide)
                  exact bd_no b_68 (by decide)
              · have g := g.more hF_66
                refine lv_istore (lv' := [(6, .int r_60), (5, .int r_34), (4, .int x_3), (2, .long r_2), (1, .int r_1), (0, .ref a0_)]) hx hb dX2_readParam_127 hl (by decide) rfl (fun ls hl => ?_)
                refine lv_aload_n hx hb dX2_readParam_129 rfl (lv_at hl 5 rfl) ?_
                refine g_getk (C := RX2) (T := TX2) (N := 16) hx hb hts (mc_ inX2) hown hK g rfl 0 (by decide) rfl (hts _ (List.mem_cons_of_mem _ t_416)) (fun _ h9 => h9) 2 rfl dX2_readParam_130 ?_
                refine g_geti (C := RX8) (T := TX8) (N := 10) hx hb hts (mc_ inX8) hown hK g mq0_ kq0_ (by decide) rfl 8 (by decide) rfl (hts _ (List.mem_cons_of_mem _ t_294)) (fun _ h9 => h9) rfl dX2_readParam_133 (fun x_69 bx_69 g => ?_)
                have kb_0 : bd 0 0 (0 : Int32) := ⟨by decide, by decide⟩
                refine lv_if_ne (tgt := 202) hx hb dX2_readParam_136 (by decide) (fun c_70 => ?_) (fun c_70 => ?_)
                · have fc_70 := neq_f c_70
                  have b_71 : bd 1 7 x_69 := neX fc_70 bx_69 kb_0 (by decide)
                  subst hQ
                  exact W.vret hx hb hr (fun t ht hW => ⟨⟨_, rfl, Or.inr (⟨x_64, h_65, x_69, b_71, (g.fcts [1, 0] rfl)⟩), q3_of g hK ht hW⟩, g.2.2.1.F ht⟩) g.2.2.1.2.2 dX2_readParam_202
                · have fc_70 := eq_f c_70
                  have b_72 : bd 0 0 x_69 := eqX fc_70 bx_69 kb_0 (by decide)
                  refine lv_iload hx hb dX2_readParam_139 (lv_at hl 2 rfl) ?_
                  refine lv_iconst (v := 3) hx hb dX2_readParam_141 (by decide) ?_
                  refine lv_icmp_ge (tgt := 202) hx hb dX2_readParam_142 (by decide) (fun c_73 => ?_) (fun c_73 => ?_)
                  · have fc_73 := le_f c_73
                    have b_74 : bd 3 2 (3 : Int32) := leL fc_73 kb_3 b_12 (by decide)
                    exact bd_no (eqX rfl b_74 kb_3 (lo := 3) (hi := 2) (by decide)) (by decide)
                  · have fc_73 := nle_f c_73
                    refine lv_aload_n hx hb dX2_readParam_145 rfl (lv_at hl 5 rfl) ?_
                    refine g_getk (C := RX2) (T := TX2) (N := 16) hx hb hts (mc_ inX2) hown hK g rfl 1 (by decide) rfl (hts _ (List.mem_cons_of_mem _ t_417)) (fun _ h9 => h9) 4 rfl dX2_readParam_146 ?_
                    refine g_getr (K := 132) (C := RX5) (T := TX5) (N := 9) hx hb hts (mc_ inX5) hown hK g mq1_ kq1_ (by decide) rfl 3 (by decide) rfl (hts _ (List.mem_cons_of_mem _ t_335)) (fun _ h9 => h9) rfl dX2_readParam_149 (fun a_75 ma_75 ka_75 g => ?_)
                    refine lv_iload hx hb dX2_readParam_152 (lv_at hl 2 rfl) ?_
                    refine lv_lload_n hx hb dX2_readParam_154 rfl (lv_at hl 3 rfl) ?_
                    refine g_last hx hb hK g ma_75 ka_75 (by decide) rfl (in_bd b_12 (by decide)) (by decide) dX2_readParam_155 (fun f H locs hM_76 g => ?_)
                    refine lv_aload_n hx hb dX2_readParam_156 rfl (lv_at hl 5 rfl) ?_
                    refine g_getk (C := RX2) (T := TX2) (N := 16) hx hb hts (mc_ inX2) hown hK g rfl 1 (by decide) rfl (hts _ (List.mem_cons_of_mem _ t_417)) (fun _ h9 => h9) 5 rfl dX2_readParam_157 ?_
                    refine lv_iload hx hb dX2_readParam_160 (lv_at hl 2 rfl) ?_
                    refine lv_iconst (v := 1) hx hb dX2_readParam_162 (by decide) ?_
                    have kb_1 : bd 1 1 (1 : Int32) := ⟨by decide, by decide⟩
                    refine lv_iadd hx hb dX2_readParam_163 ?_
                    refine lv_topi (fun y_77 ey_77 => ?_)
                    have ty_77 := add_bd ey_77 b_12 kb_1 (by decide)
                    have b_78 : bd 1 3 y_77 := add_rg ty_77 b_12 kb_1 (by decide)
                    refine g_put (C := RX5) (T := TX5) (N := 9) hx hb hts (mc_ inX5) tyX5 tyX5_ok nmX5 hown hK g mq1_ kq1_ (by decide) rfl 4 (by decide) (hts _ (List.mem_cons_of_mem _ t_337)) (fun _ h9 => h9) rfl rfl (okV_i (bd_sub b_78 (by decide))) rfl rfl (by decide) (Or.inr (Or.inl (by decide))) (fx' := [(5, 3, q1_, .ref a_75), (8, 8, q0_, .int x_69), (8, 6, q0_, .int x_64), (6, 3, q2_, .int x_3), (2, 0, a0_, .ref q0_), (2, 1, a0_, .ref q1_), (2, 5, a0_, .ref q2_), (5, 1, q1_, .ref q3_)]) rfl dX2_readParam_164 (fun f H locs hM_79 g => ?_)
                    refine lv_aload_n hx hb dX2_readParam_167 rfl (lv_at hl 5 rfl) ?_
                    refine g_getk (C := RX2) (T := TX2) (N := 16) hx hb hts (mc_ inX2) hown hK g rfl 5 (by decide) rfl (hts _ (List.mem_cons_of_mem _ t_421)) (fun _ h9 => h9) 7 rfl dX2_readParam_168 ?_
                    refine g_getr (K := 134) (C := RX6) (T := TX6) (N := 13) hx hb hts (mc_ inX6) hown hK g mq2_ kq2_ (by decide) rfl 4 (by decide) rfl (hts _ (List.mem_cons_of_mem _ t_572)) (fun _ h9 => h9) rfl dX2_readParam_171 (fun a_80 ma_80 ka_80 g => ?_)
                    refine lv_iload hx hb dX2_readParam_174 (lv_at hl 2 rfl) ?_
                    refine lv_iload hx hb dX2_readParam_176 (lv_at hl 1 rfl) ?_
                    refine g_iast hx hb hK g ma_80 ka_80 (by decide) rfl (in_bd b_12 (by decide)) (bdT r_34) (by decide) dX2_readParam_178 (fun f H locs hM_81 g => ?_)
                    refine lv_aload_n hx hb dX2_readParam_179 rfl (lv_at hl 5 rfl) ?_
                    refine g_getk (C := RX2) (T := TX2) (N := 16) hx hb hts (mc_ inX2) hown hK g rfl 5 (by decide) rfl (hts _ (List.mem_cons_of_mem _ t_421)) (fun _ h9 => h9) 8 rfl dX2_readParam_180 ?_
                    refine g_getr (K := 135) (C := RX6) (T := TX6) (N := 13) hx hb hts (mc_ inX6) hown hK g mq2_ kq2_ (by decide) rfl 5 (by decide) rfl (hts _ (List.mem_cons_of_mem _ t_575)) (fun _ h9 => h9) rfl dX2_readParam_183 (fun a_82 ma_82 ka_82 g => ?_)
                    refine lv_iload hx hb dX2_readParam_186 (lv_at hl 2 rfl) ?_
                    refine lv_iload hx hb dX2_readParam_188 (lv_at hl 0 rfl) ?_
                    refine g_iast hx hb hK g ma_82 ka_82 (by decide) rfl (in_bd b_12 (by decide)) (bdT r_60) (by decide) dX2_readParam_190 (fun f H locs hM_83 g => ?_)
                    refine lv_aload_n hx hb dX2_readParam_191 rfl (lv_at hl 5 rfl) ?_
                    refine g_getk (C := RX2) (T := TX2) (N := 16) hx hb hts (mc_ inX2) hown hK g rfl 5 (by decide) rfl (hts _ (List.mem_cons_of_mem _ t_421)) (fun _ h9 => h9) 9 rfl dX2_readParam_192 ?_
                    refine lv_iload hx hb dX2_readParam_195 (lv_at hl 2 rfl) ?_
                    refine lv_iconst (v := 1) hx hb dX2_readParam_197 (by decide) ?_
                    refine lv_iadd hx hb dX2_readParam_198 ?_
                    refine lv_topi (fun y_84 ey_84 => ?_)
                    obtain rfl : y_77 = y_84 := ey_77.trans ey_84.symm
                    refine g_put (C := RX6) (T := TX6) (N := 13) hx hb hts (mc_ inX6) tyX6 tyX6_ok nmX6 hown hK g mq2_ kq2_ (by decide) rfl 3 (by decide) (hts _ (List.mem_cons_of_mem _ t_568)) (fun _ h9 => h9) rfl rfl (okV_i (bd_sub b_78 (by decide))) rfl rfl (by decide) (Or.inr (Or.inl (by decide))) (fx' := [(6, 5, q2_, .ref a_82), (6, 4, q2_, .ref a_80), (5, 4, q1_, .int y_77), (5, 3, q1_, .ref a_75), (8, 8, q0_, .int x_69), (8, 6, q0_, .int x_64), (2, 0, a0_, .ref q0_), (2, 1, a0_, .ref q1_), (2, 5, a0_, .ref q2_), (5, 1, q1_, .ref q3_)]) rfl dX2_readParam_199 (fun f H locs hM_85 g => ?_)
                    subst hQ
                    exact W.vret hx hb hr (fun t ht hW => ⟨⟨_, rfl, Or.inl ⟨y_77, b_78, y_77, b_78, x_69, b_72, x_64, h_65, (g.fcts [0, 3, 5, 6] rfl)⟩, q3_of g hK ht hW⟩, g.2.2.1.F ht⟩) g.2.2.1.2.2 dX2_readParam_202
      · have fc_11 := nlt_f c_11
        have b_86 : bd 3 3 x_3 := leR fc_11 kb_3 bx_3 (by decide)
        refine lv_aload_n hx hb dX2_readParam_78 rfl (lv_at hl 3 rfl) ?_
        refine g_getk (C := RX2) (T := TX2) (N := 16) hx hb hts (mc_ inX2) hown hK g rfl 0 (by decide) rfl (hts _ (List.mem_cons_of_mem _ t_416)) (fun _ h9 => h9) 1 rfl dX2_readParam_79 ?_
        refine lv_iconst (v := 4) hx hb dX2_readParam_82 (by decide) ?_
        refine lv_iload_n hx hb dX2_readParam_83 rfl (lv_at hl 2 rfl) ?_
        have kb_4 : bd 4 4 (4 : Int32) := ⟨by decide, by decide⟩
        refine g_callv (va_runV (As := [.int 4, .int r_1]) (rest := []) ⟨hx, hb, hml, hown, hts⟩ (r_X8_fail l dC dI L kd tys fr_7 H.size g.2.2.2.1 q0_ mq0_ kq0_ 4 kb_4 r_1) (cwV 2 hts (gV_ t_1122 t_1107 t_1108 t_184 t_1109) rfl rfl rfl (by decide +kernel) ⟨(Nat.le_of_ble_eq_true rfl), (Nat.le_of_ble_eq_true rfl)⟩) (pre3V g hK mq0_ kq0_ (by decide) (q := (RX8, TX8, 10)) rfl) rfl rfl hl.1 rfl (lv_room (Nat.le_of_ble_eq_true rfl)) dX2_readParam_84 ⟨(Nat.le_of_ble_eq_true rfl), (Nat.le_of_ble_eq_true rfl)⟩) g hK (by decide) (by decide) (fx' := [(6, 3, q2_, .int x_3), (2, 0, a0_, .ref q0_), (2, 1, a0_, .ref q1_), (2, 5, a0_, .ref q2_), (5, 1, q1_, .ref q3_)]) rfl (fun fr_87 H locs hp hMr_87 g => ?_)
        obtain ⟨x_88, h_89, hF_90⟩ := hp
        have g := g.more hF_90
        refine lv_aload_n hx hb dX2_readParam_87 rfl (lv_at hl 3 rfl) ?_
        refine g_getk (C := RX2) (T := TX2) (N := 16) hx hb hts (mc_ inX2) hown hK g rfl 0 (by decide) rfl (hts _ (List.mem_cons_of_mem _ t_416)) (fun _ h9 => h9) 3 rfl dX2_readParam_88 ?_
        have kb_1201 : bd 1201 1201 (1201 : Int32) := ⟨by decide, by decide⟩
        refine g_callv (va_runV (As := []) (rest := []) ⟨hx, hb, hml, hown, hts⟩ (r_X8_next_2 l dC dI L kd tys fr_87 H.size g.2.2.2.1 q0_ mq0_ kq0_ 1201 kb_1201 (g.fcts [0] rfl)) (cwV 0 hts (gV_ t_1131 t_1103 t_1104 t_184 t_1105) rfl rfl rfl (by decide +kernel) ⟨(Nat.le_of_ble_eq_true rfl), (Nat.le_of_ble_eq_true rfl)⟩) (pre3V g hK mq0_ kq0_ (by decide) (q := (RX8, TX8, 10)) rfl) rfl rfl hl.1 rfl (lv_room (Nat.le_of_ble_eq_true rfl)) dX2_readParam_91 ⟨(Nat.le_of_ble_eq_true rfl), (Nat.le_of_ble_eq_true rfl)⟩) g hK (by decide) (by decide) (fx' := [(8, 6, q0_, .int 1201), (8, 8, q0_, .int x_88), (6, 3, q2_, .int x_3), (2, 0, a0_, .ref q0_), (2, 1, a0_, .ref q1_), (2, 5, a0_, .ref q2_), (5, 1, q1_, .ref q3_)]) rfl (fun fr_91 H locs hp hMr_91 g => ?_)
        refine lv_aload_n hx hb dX2_readParam_94 rfl (lv_at hl 3 rfl) ?_
        refine g_getk (C := RX2) (T := TX2) (N := 16) hx hb hts (mc_ inX2) hown hK g rfl 0 (by decide) rfl (hts _ (List.mem_cons_of_mem _ t_416)) (fun _ h9 => h9) 3 rfl dX2_readParam_95 ?_
        refine lv_bipush (v := 15) hx hb dX2_readParam_98 (by decide) ?_
        refine g_callv (va_runV (As := [.int 15]) (rest := []) ⟨hx, hb, hml, hown, hts⟩ (r_X8_take_2 l dC dI L kd tys fr_91 H.size g.2.2.2.1 q0_ mq0_ kq0_ 15 1201 kb_1201 x_88 h_89 (g.fcts [0, 1] rfl)) (cwV 1 hts (gV_ t_1098 t_1099 t_1100 t_184 t_1101) rfl rfl rfl (by decide +kernel) ⟨(Nat.le_of_ble_eq_true rfl), (Nat.le_of_ble_eq_true rfl)⟩) (pre3V g hK mq0_ kq0_ (by decide) (q := (RX8, TX8, 10)) rfl) rfl rfl hl.1 rfl (lv_room (Nat.le_of_ble_eq_true rfl)) dX2_readParam_100 ⟨(Nat.le_of_ble_eq_true rfl), (Nat.le_of_ble_eq_true rfl)⟩) g hK (by decide) (by decide) (fx' := [(8, 8, q0_, .int x_88), (6, 3, q2_, .int x_3), (2, 0, a0_, .ref q0_), (2, 1, a0_, .ref q1_), (2, 5, a0_, .ref q2_), (5, 1, q1_, .ref q3_)]) rfl (fun fr_92 H locs hp hMr_92 g => ?_)
        obtain ⟨x_93, h_94, hF_95⟩ := hp
        have g := g.more hF_95
        refine lv_aload_n hx hb dX2_readParam_103 rfl (lv_at hl 3 rfl) ?_
        refine lv_ldc (v := (-2147483648)) hx hb hown (hts _ (List.mem_cons_of_mem _ t_1159)) dX2_readParam_104 ?_
        refine g_calli (va_runV (As := [.int (-2147483648)]) (rest := []) ⟨hx, hb, hml, hown, hts⟩ (r_X2_readNumber_2 l dC dI L kd tys fr_92 H.size g.2.2.2.1 a0_ ma0_ ka0_ (-2147483648) q0_ mq0_ kq0_ x_93 h_94 x_88 h_89 (g.fcts [3, 0, 1] rfl)) (cwV 1 hts (gV_ t_1160 t_1162 t_11 t_183 t_1163) rfl rfl rfl (by decide +kernel) ⟨(Nat.le_of_ble_eq_true rfl), (Nat.le_of_ble_eq_true rfl)⟩) (pre3V g hK ma0_ ka0_ (by decide) (q := (RX2, TX2, 16)) rfl) rfl rfl hl.1 rfl (lv_room (Nat.le_of_ble_eq_true rfl)) dX2_readParam_106 ⟨(Nat.le_of_ble_eq_true rfl), (Nat.le_of_ble_eq_true rfl)⟩) g hK (by decide) (by decide) (fx' := [(8, 8, q0_, .int x_88), (6, 3, q2_, .int x_3), (2, 0, a0_, .ref q0_), (2, 1, a0_, .ref q1_), (2, 5, a0_, .ref q2_), (5, 1, q1_, .ref q3_)]) rfl (fun r_96 fr_96 H locs hp hMr_96 g => ?_)
        have hF_97 := hp
        have g := g.more hF_97
        refine lv_istore (lv' := [(5, .int r_96), (4, .int x_3), (2, .long r_2), (1, .int r_1), (0, .ref a0_)]) hx hb dX2_readParam_109 hl (by decide) rfl (fun ls hl => ?_)
        refine lv_aload_n hx hb dX2_readParam_111 rfl (lv_at hl 4 rfl) ?_
        refine g_getk (C := RX2) (T := TX2) (N := 16) hx hb hts (mc_ inX2) hown hK g rfl 0 (by decide) rfl (hts _ (List.mem_cons_of_mem _ t_416)) (fun _ h9 => h9) 3 rfl dX2_readParam_112 ?_
        refine lv_sipush (v := 200) hx hb dX2_readParam_115 (by decide) ?_
        refine g_callv (va_runV (As := [.int 200]) (rest := []) ⟨hx, hb, hml, hown, hts⟩ (r_X8_take_2 l dC dI L kd tys fr_96 H.size g.2.2.2.1 q0_ mq0_ kq0_ 200 1201 kb_1201 x_88 h_89 (g.fcts [0, 1] rfl)) (cwV 1 hts (gV_ t_1098 t_1099 t_1100 t_184 t_1101) rfl rfl rfl (by decide +kernel) ⟨(Nat.le_of_ble_eq_true rfl), (Nat.le_of_ble_eq_true rfl)⟩) (pre3V g hK mq0_ kq0_ (by decide) (q := (RX8, TX8, 10)) rfl) rfl rfl hl.1 rfl (lv_room (Nat.le_of_ble_eq_true rfl)) dX2_readParam_118 ⟨(Nat.le_of_ble_eq_true rfl), (Nat.le_of_ble_eq_true rfl)⟩) g hK (by decide) (by decide) (fx' := [(8, 8, q0_, .int x_88), (6, 3, q2_, .int x_3), (2, 0, a0_, .ref q0_), (2, 1, a0_, .ref q1_), (2, 5, a0_, .ref q2_), (5, 1, q1_, .ref q3_)]) rfl (fun fr_98 H locs hp hMr_98 g => ?_)
        obtain ⟨x_99, h_100, hF_101⟩ := hp
        have g := g.more hF_101
        refine lv_aload_n hx hb dX2_readParam_121 rfl (lv_at hl 4 rfl) ?_
        refine lv_iload hx hb dX2_readParam_122 (lv_at hl 0 rfl) ?_
        refine g_calli (va_runV (As := [.int r_96]) (rest := []) ⟨hx, hb, hml, hown, hts⟩ (r_X2_readNumber_2 l dC dI L kd tys fr_98 H.size g.2.2.2.1 a0_ ma0_ ka0_ r_96 q0_ mq0_ kq0_ x_99 h_100 x_88 h_89 (g.fcts [3, 0, 1] rfl)) (cwV 1 hts (gV_ t_1160 t_1162 t_11 t_183 t_1163) rfl rfl rfl (by decide +kernel) ⟨(Nat.le_of_ble_eq_true rfl), (Nat.le_of_ble_eq_true rfl)⟩) (pre3V g hK ma0_ ka0_ (by decide) (q := (RX2, TX2, 16)) rfl) rfl rfl hl.1 rfl (lv_room (Nat.le_of_ble_eq_true rfl)) dX2_readParam_124 ⟨(Nat.le_of_ble_eq_true rfl), (Nat.le_of_ble_eq_true rfl)⟩) g hK (by decide) (by decide) (fx' := [(8, 8, q0_, .int x_88), (6, 3, q2_, .int x_3), (2, 0, a0_, .ref q0_), (2, 1, a0_, .ref q1_), (2, 5, a0_, .ref q2_), (5, 1, q1_, .ref q3_)]) rfl (fun r_102 fr_102 H locs hp hMr_102 g => ?_)
        have hF_103 := hp
        have g := g.more hF_103
        refine lv_istore (lv' := [(6, .int r_102), (5, .int r_96), (4, .int x_3), (2, .long r_2), (1, .int r_1), (0, .ref a0_)]) hx hb dX2_readParam_127 hl (by decide) rfl (fun ls hl => ?_)
        refine lv_aload_n hx hb dX2_readParam_129 rfl (lv_at hl 5 rfl) ?_
        refine g_getk (C := RX2) (T := TX2) (N := 16) hx hb hts (mc_ inX2) hown hK g rfl 0 (by decide) rfl (hts _ (List.mem_cons_of_mem _ t_416)) (fun _ h9 => h9) 3 rfl dX2_readParam_130 ?_
        refine g_getk (C := RX8) (T := TX8) (N := 10) hx hb hts (mc_ inX8) hown hK g rfl 8 (by decide) rfl (hts _ (List.mem_cons_of_mem _ t_294)) (fun _ h9 => h9) 1 rfl dX2_readParam_133 ?_
        have kb_0 : bd 0 0 (0 : Int32) := ⟨by decide, by decide⟩
        refine lv_if_ne (tgt := 202) hx hb dX2_readParam_136 (by decide) (fun c_104 => ?_) (fun c_104 => ?_)
        · have fc_104 := neq_f c_104
          subst hQ
          exact W.vret hx hb hr (fun t ht hW => ⟨⟨_, rfl, Or.inr (⟨1201, (bd_sub kb_1201 (by decide)), x_88, h_89, (g.fcts [0, 1] rfl)⟩), q3_of g hK ht hW⟩, g.2.2.1.F ht⟩) g.2.2.1.2.2 dX2_readParam_202
        · have fc_104 := eq_f c_104
          have b_105 : bd 1 0 x_88 := eqX fc_104 h_89 kb_0 (by decide)
          exact bd_no b_105 (by decide)
    · have fc_9 := neq_f c_9
      have b_106 : bd 0 26 r_7 := neX fc_9 h_8 kb_m1 (by decide)
      refine lv_aload_n hx hb dX2_readParam_60 rfl (lv_at hl 3 rfl) ?_
      refine g_getk (C := RX2) (T := TX2) (N := 16) hx hb hts (mc_ inX2) hown hK g rfl 0 (by decide) rfl (hts _ (List.mem_cons_of_mem _ t_416)) (fun _ h9 => h9) 1 rfl dX2_readParam_61 ?_
      refine lv_iconst (v := 2) hx hb dX2_readParam_64 (by decide) ?_
      refine lv_iload_n hx hb dX2_readParam_65 rfl (lv_at hl 2 rfl) ?_
      have kb_2 : bd 2 2 (2 : Int32) := ⟨by decide, by decide⟩
      refine g_callv (va_runV (As := [.int 2, .int r_1]) (rest := []) ⟨hx, hb, hml, hown, hts⟩ (r_X8_fail_3 l dC dI L kd tys fr_7 H.size g.2.2.2.1 q0_ mq0_ kq0_ 2 kb_2 r_1) (cwV 2 hts (gV_ t_1122 t_1107 t_1108 t_184 t_1109) rfl rfl rfl (by decide +kernel) ⟨(Nat.le_of_ble_eq_true rfl), (Nat.le_of_ble_eq_true rfl)⟩) (pre3V g hK mq0_ kq0_ (by decide) (q := (RX8, TX8, 10)) rfl) rfl rfl hl.1 rfl (lv_room (Nat.le_of_ble_eq_true rfl)) dX2_readParam_66 ⟨(Nat.le_of_ble_eq_true rfl), (Nat.le_of_ble_eq_true rfl)⟩) g hK (by decide) (by decide) (fx' := [(6, 3, q2_, .int x_3), (2, 0, a0_, .ref q0_), (2, 1, a0_, .ref q1_), (2, 5, a0_, .ref q2_), (5, 1, q1_, .ref q3_)]) rfl (fun fr_107 H locs hp hMr_107 g => ?_)
      obtain ⟨x_108, h_109, hF_110⟩ := hp
      have g := g.more hF_110
      refine lv_goto (tgt := 87) hx hb dX2_readParam_69 (by decide) ?_
      refine lv_aload_n hx hb dX2_readParam_87 rfl (lv_at hl 3 rfl) ?_
      refine g_getk (C := RX2) (T := TX2) (N := 16) hx hb hts (mc_ inX2) hown hK g rfl 0 (by decide) rfl (hts _ (List.mem_cons_of_mem _ t_416)) (fun _ h9 => h9) 3 rfl dX2_readParam_88 ?_
      have kb_1201 : bd 1201 1201 (1201 : Int32) := ⟨by decide, by decide⟩
      refine g_callv (va_runV (As := []) (rest := []) ⟨hx, hb, hml, hown, hts⟩ (r_X8_next_2 l dC dI L kd tys fr_107 H.size g.2.2.2.1 q0_ mq0_ kq0_ 1201 kb_1201 (g.fcts [0] rfl)) (cwV 0 hts (gV_ t_1131 t_1103 t_1104 t_184 t_1105) rfl rfl rfl (by decide +kernel) ⟨(Nat.le_of_ble_eq_true rfl), (Nat.le_of_ble_eq_true rfl)⟩) (pre3V g hK mq0_ kq0_ (by decide) (q := (RX8, TX8, 10)) rfl) rfl rfl hl.1 rfl (lv_room (Nat.le_of_ble_eq_true rfl)) dX2_readParam_91 ⟨(Nat.le_of_ble_eq_true rfl), (Nat.le_of_ble_eq_true rfl)⟩) g hK (by decide) (by decide) (fx' := [(8, 6, q0_, .int 1201), (8, 8, q0_, .int x_108), (6, 3, q2_, .int x_3), (2, 0, a0_, .ref q0_), (2, 1, a0_, .ref q1_), (2, 5, a0_, .ref q2_), (5, 1, q1_, .ref q3_)]) rfl (fun fr_111 H locs hp hMr_111 g => ?_)
      refine lv_aload_n hx hb dX2_readParam_94 rfl (lv_at hl 3 rfl) ?_
      refine g_getk (C := RX2) (T := TX2) (N := 16) hx hb hts (mc_ inX2) hown hK g rfl 0 (by decide) rfl (hts _ (List.mem_cons_of_mem _ t_416)) (fun _ h9 => h9) 3 rfl dX2_readParam_95 ?_
      refine lv_bipush (v := 15) hx hb dX2_readParam_98 (by decide) ?_
      refine g_callv (va_runV (As := [.int 15]) (rest := []) ⟨hx, hb, hml, hown, hts⟩ (r_X8_take_2 l dC dI L kd tys fr_111 H.size g.2.2.2.1 q0_ mq0_ kq0_ 15 1201 kb_1201 x_108 h_109 (g.fcts [0, 1] rfl)) (cwV 1 hts (gV_ t_1098 t_1099 t_1100 t_184 t_1101) rfl rfl rfl (by decide +kernel) ⟨(Nat.le_of_ble_eq_true rfl), (Nat.le_of_ble_eq_true rfl)⟩) (pre3V g hK mq0_ kq0_ (by decide) (q := (RX8, TX8, 10)) rfl) rfl rfl hl.1 rfl (lv_room (Nat.le_of_ble_eq_true rfl)) dX2_readParam_100 ⟨(Nat.le_of_ble_eq_true rfl), (Nat.le_of_ble_eq_true rfl)⟩) g hK (by decide) (by decide) (fx' := [(8, 8, q0_, .int x_108), (6, 3, q2_, .int x_3), (2, 0, a0_, .ref q0_), (2, 1, a0_, .ref q1_), (2, 5, a0_, .ref q2_), (5, 1, q1_, .ref q3_)]) rfl (fun fr_112 H locs hp hMr_112 g => ?_)
      obtain ⟨x_113, h_114, hF_115⟩ := hp
      have g := g.more hF_115
      refine lv_aload_n hx hb dX2_readParam_103 rfl (lv_at hl 3 rfl) ?_
      refine lv_ldc (v := (-2147483648)) hx hb hown (hts _ (List.mem_cons_of_mem _ t_1159)) dX2_readParam_104 ?_
      refine g_calli (va_runV (As := [.int (-2147483648)]) (rest := []) ⟨hx, hb, hml, hown, hts⟩ (r_X2_readNumber_2 l dC dI L kd tys fr_112 H.size g.2.2.2.1 a0_ ma0_ ka0_ (-2147483648) q0_ mq0_ kq0_ x_113 h_114 x_108 h_109 (g.fcts [3, 0, 1] rfl)) (cwV 1 hts (gV_ t_1160 t_1162 t_11 t_183 t_1163) rfl rfl rfl (by decide +kernel) ⟨(Nat.le_of_ble_eq_true rfl), (Nat.le_of_ble_eq_true rfl)⟩) (pre3V g hK ma0_ ka0_ (by decide) (q := (RX2, TX2, 16)) rfl) rfl rfl hl.1 rfl (lv_room (Nat.le_of_ble_eq_true rfl)) dX2_readParam_106 ⟨(Nat.le_of_ble_eq_true rfl), (Nat.le_of_ble_eq_true rfl)⟩) g hK (by decide) (by decide) (fx' := [(8, 8, q0_, .int x_108), (6, 3, q2_, .int x_3), (2, 0, a0_, .ref q0_), (2, 1, a0_, .ref q1_), (2, 5, a0_, .ref q2_), (5, 1, q1_, .ref q3_)]) rfl (fun r_116 fr_116 H locs hp hMr_116 g => ?_)
      have hF_117 := hp
      have g := g.more hF_117
      refine lv_istore (lv' := [(5, .int r_116), (4, .int x_3), (2, .long r_2), (1, .int r_1), (0, .ref a0_)]) hx hb dX2_readParam_109 hl (by decide) rfl (fun ls hl => ?_)
      refine lv_aload_n hx hb dX2_readParam_111 rfl (lv_at hl 4 rfl) ?_
      refine g_getk (C := RX2) (T := TX2) (N := 16) hx hb hts (mc_ inX2) hown hK g rfl 0 (by decide) rfl (hts _ (List.mem_cons_of_mem _ t_416)) (fun _ h9 => h9) 3 rfl dX2_readParam_112 ?_
      refine lv_sipush (v := 200) hx hb dX2_readParam_115 (by decide) ?_
      refine g_callv (va_runV (As := [.int 200]) (rest := []) ⟨hx, hb, hml, hown, hts⟩ (r_X8_take_2 l dC dI L kd tys fr_116 H.size g.2.2.2.1 q0_ mq0_ kq0_ 200 1201 kb_1201 x_108 h_109 (g.fcts [0, 1] rfl)) (cwV 1 hts (gV_ t_1098 t_1099 t_1100 t_184 t_1101) rfl rfl rfl (by decide +kernel) ⟨(Nat.le_of_ble_eq_true rfl), (Nat.le_of_ble_eq_true rfl)⟩) (pre3V g hK mq0_ kq0_ (by decide) (q := (RX8, TX8, 10)) rfl) rfl rfl hl.1 rfl (lv_room (Nat.le_of_ble_eq_true rfl)) dX2_readParam_118 ⟨(Nat.le_of_ble_eq_true rfl), (Nat.le_of_ble_eq_true rfl)⟩) g hK (by decide) (by decide) (fx' := [(8, 8, q0_, .int x_108), (6, 3, q2_, .int x_3), (2, 0, a0_, .ref q0_), (2, 1, a0_, .ref q1_), (2, 5, a0_, .ref q2_), (5, 1, q1_, .ref q3_)]) rfl (fun fr_118 H locs hp hMr_118 g => ?_)
      obtain ⟨x_119, h_120, hF_121⟩ := hp
      have g := g.more hF_121
      refine lv_aload_n hx hb dX2_readParam_121 rfl (lv_at hl 4 rfl) ?_
      refine lv_iload hx hb dX2_readParam_122 (lv_at hl 0 rfl) ?_
      refine g_calli (va_runV (As := [.int r_116]) (rest := []) ⟨hx, hb, hml, hown, hts⟩ (r_X2_readNumber_2 l dC dI L kd tys fr_118 H.size g.2.2.2.1 a0_ ma0_ ka0_ r_116 q0_ mq0_ kq0_ x_119 h_120 x_108 h_109 (g.fcts [3, 0, 1] rfl)) (cwV 1 hts (gV_ t_1160 t_1162 t_11 t_183 t_1163) rfl rfl rfl (by decide +kernel) ⟨(Nat.le_of_ble_eq_true rfl), (Nat.le_of_ble_eq_true rfl)⟩) (pre3V g hK ma0_ ka0_ (by decide) (q := (RX2, TX2, 16)) rfl) rfl rfl hl.1 rfl (lv_room (Nat.le_of_ble_eq_true rfl)) dX2_readParam_124 ⟨(Nat.le_of_ble_eq_true rfl), (Nat.le_of_ble_eq_true rfl)⟩) g hK (by decide) (by decide) (fx' := [(8, 8, q0_, .int x_108), (6, 3, q2_, .int x_3), (2, 0, a0_, .ref q0_), (2, 1, a0_, .ref q1_), (2, 5, a0_, .ref q2_), (5, 1, q1_, .ref q3_)]) rfl (fun r_122 fr_122 H locs hp hMr_122 g => ?_)
      have hF_123 := hp
      have g := g.more hF_123
      refine lv_istore (lv' := [(6, .int r_122), (5, .int r_116), (4, .int x_3), (2, .long r_2), (1, .int r_1), (0, .ref a0_)]) hx hb dX2_readParam_127 hl (by decide) rfl (fun ls hl => ?_)
      refine lv_aload_n hx hb dX2_readParam_129 rfl (lv_at hl 5 rfl) ?_
      refine g_getk (C := RX2) (T := TX2) (N := 16) hx hb hts (mc_ inX2) hown hK g rfl 0 (by decide) rfl (hts _ (List.mem_cons_of_mem _ t_416)) (fun _ h9 => h9) 3 rfl dX2_readParam_130 ?_
      refine g_getk (C := RX8) (T := TX8) (N := 10) hx hb hts (mc_ inX8) hown hK g rfl 8 (by decide) rfl (hts _ (List.mem_cons_of_mem _ t_294)) (fun _ h9 => h9) 1 rfl dX2_readParam_133 ?_
      have kb_0 : bd 0 0 (0 : Int32) := ⟨by decide, by decide⟩
      refine lv_if_ne (tgt := 202) hx hb dX2_readParam_136 (by decide) (fun c_124 => ?_) (fun c_124 => ?_)
      · have fc_124 := neq_f c_124
        subst hQ
        exact W.vret hx hb hr (fun t ht hW => ⟨⟨_, rfl, Or.inr (⟨1201, (bd_sub kb_1201 (by decide)), x_108, h_109, (g.fcts [0, 1] rfl)⟩), q3_of g hK ht hW⟩, g.2.2.1.F ht⟩) g.2.2.1.2.2 dX2_readParam_202
      · have fc_124 := eq_f c_124
        have b_125 : bd 1 0 x_108 := eqX fc_124 h_109 kb_0 (by decide)
        exact bd_no b_125 (by decide)
  · have fc_5 := neq_f c_5
    refine lv_aload_n hx hb dX2_readParam_36 rfl (lv_at hl 3 rfl) ?_
    refine g_getk (C := RX2) (T := TX2) (N := 16) hx hb hts (mc_ inX2) hown hK g rfl 0 (by decide) rfl (hts _ (List.mem_cons_of_mem _ t_416)) (fun _ h9 => h9) 1 rfl dX2_readParam_37 ?_
    refine lv_iconst (v := 1) hx hb dX2_readParam_40 (by decide) ?_
    refine lv_iload_n hx hb dX2_readParam_41 rfl (lv_at hl 2 rfl) ?_
    have kb_1 : bd 1 1 (1 : Int32) := ⟨by decide, by decide⟩
    refine g_callv (va_runV (As := [.int 1, .int r_1]) (rest := []) ⟨hx, hb, hml, hown, hts⟩ (r_X8_fail_7 l dC dI L kd tys fr_4 H.size g.2.2.2.1 q0_ mq0_ kq0_ 1 kb_1 r_1) (cwV 2 hts (gV_ t_1122 t_1107 t_1108 t_184 t_1109) rfl rfl rfl (by decide +kernel) ⟨(Nat.le_of_ble_eq_true rfl), (Nat.le_of_ble_eq_true rfl)⟩) (pre3V g hK mq0_ kq0_ (by decide) (q := (RX8, TX8, 10)) rfl) rfl rfl hl.1 rfl (lv_room (Nat.le_of_ble_eq_true rfl)) dX2_readParam_42 ⟨(Nat.le_of_ble_eq_true rfl), (Nat.le_of_ble_eq_true rfl)⟩) g hK (by decide) (by decide) (fx' := [(6, 3, q2_, .int x_3), (2, 0, a0_, .ref q0_), (2, 1, a0_, .ref q1_), (2, 5, a0_, .ref q2_), (5, 1, q1_, .ref q3_)]) rfl (fun fr_126 H locs hp hMr_126 g => ?_)
    obtain ⟨x_127, h_128, hF_129⟩ := hp
    have g := g.more hF_129
    refine lv_goto (tgt := 87) hx hb dX2_readParam_45 (by decide) ?_
    refine lv_aload_n hx hb dX2_readParam_87 rfl (lv_at hl 3 rfl) ?_
    refine g_getk (C := RX2) (T := TX2) (N := 16) hx hb hts (mc_ inX2) hown hK g rfl 0 (by decide) rfl (hts _ (List.mem_cons_of_mem _ t_416)) (fun _ h9 => h9) 3 rfl dX2_readParam_88 ?_
    have kb_1201 : bd 1201 1201 (1201 : Int32) := ⟨by decide, by decide⟩
    refine g_callv (va_runV (As := []) (rest := []) ⟨hx, hb, hml, hown, hts⟩ (r_X8_next_2 l dC dI L kd tys fr_126 H.size g.2.2.2.1 q0_ mq0_ kq0_ 1201 kb_1201 (g.fcts [0] rfl)) (cwV 0 hts (gV_ t_1131 t_1103 t_1104 t_184 t_1105) rfl rfl rfl (by decide +kernel) ⟨(Nat.le_of_ble_eq_true rfl), (Nat.le_of_ble_eq_true rfl)⟩) (pre3V g hK mq0_ kq0_ (by decide) (q := (RX8, TX8, 10)) rfl) rfl rfl hl.1 rfl (lv_room (Nat.le_of_ble_eq_true rfl)) dX2_readParam_91 ⟨(Nat.le_of_ble_eq_true rfl), (Nat.le_of_ble_eq_true rfl)⟩) g hK (by decide) (by decide) (fx' := [(8, 6, q0_, .int 1201), (8, 8, q0_, .int x_127), (6, 3, q2_, .int x_3), (2, 0, a0_, .ref q0_), (2, 1, a0_, .ref q1_), (2, 5, a0_, .ref q2_), (5, 1, q1_, .ref q3_)]) rfl (fun fr_130 H locs hp hMr_130 g => ?_)
    refine lv_aload_n hx hb dX2_readParam_94 rfl (lv_at hl 3 rfl) ?_
    refine g_getk (C := RX2) (T := TX2) (N := 16) hx hb hts (mc_ inX2) hown hK g rfl 0 (by decide) rfl (hts _ (List.mem_cons_of_mem _ t_416)) (fun _ h9 => h9) 3 rfl dX2_readParam_95 ?_
    refine lv_bipush (v := 15) hx hb dX2_readParam_98 (by decide) ?_
    refine g_callv (va_runV (As := [.int 15]) (rest := []) ⟨hx, hb, hml, hown, hts⟩ (r_X8_take_2 l dC dI L kd tys fr_130 H.size g.2.2.2.1 q0_ mq0_ kq0_ 15 1201 kb_1201 x_127 h_128 (g.fcts [0, 1] rfl)) (cwV 1 hts (gV_ t_1098 t_1099 t_1100 t_184 t_1101) rfl rfl rfl (by decide +kernel) ⟨(Nat.le_of_ble_eq_true rfl), (Nat.le_of_ble_eq_true rfl)⟩) (pre3V g hK mq0_ kq0_ (by decide) (q := (RX8, TX8, 10)) rfl) rfl rfl hl.1 rfl (lv_room (Nat.le_of_ble_eq_true rfl)) dX2_readParam_100 ⟨(Nat.le_of_ble_eq_true rfl), (Nat.le_of_ble_eq_true rfl)⟩) g hK (by decide) (by decide) (fx' := [(8, 8, q0_, .int x_127), (6, 3, q2_, .int x_3), (2, 0, a0_, .ref q0_), (2, 1, a0_, .ref q1_), (2, 5, a0_, .ref q2_), (5, 1, q1_, .ref q3_)]) rfl (fun fr_131 H locs hp hMr_131 g => ?_)
    obtain ⟨x_132, h_133, hF_134⟩ := hp
    have g := g.more hF_134
    refine lv_aload_n hx hb dX2_readParam_103 rfl (lv_at hl 3 rfl) ?_
    refine lv_ldc (v := (-2147483648)) hx hb hown (hts _ (List.mem_cons_of_mem _ t_1159)) dX2_readParam_104 ?_
    refine g_calli (va_runV (As := [.int (-2147483648)]) (rest := []) ⟨hx, hb, hml, hown, hts⟩ (r_X2_readNumber_2 l dC dI L kd tys fr_131 H.size g.2.2.2.1 a0_ ma0_ ka0_ (-2147483648) q0_ mq0_ kq0_ x_132 h_133 x_127 h_128 (g.fcts [3, 0, 1] rfl)) (cwV 1 hts (gV_ t_1160 t_1162 t_11 t_183 t_1163) rfl rfl rfl (by decide +kernel) ⟨(Nat.le_of_ble_eq_true rfl), (Nat.le_of_ble_eq_true rfl)⟩) (pre3V g hK ma0_ ka0_ (by decide) (q := (RX2, TX2, 16)) rfl) rfl rfl hl.1 rfl (lv_room (Nat.le_of_ble_eq_true rfl)) dX2_readParam_106 ⟨(Nat.le_of_ble_eq_true rfl), (Nat.le_of_ble_eq_true rfl)⟩) g hK (by decide) (by decide) (fx' := [(8, 8, q0_, .int x_127), (6, 3, q2_, .int x_3), (2, 0, a0_, .ref q0_), (2, 1, a0_, .ref q1_), (2, 5, a0_, .ref q2_), (5, 1, q1_, .ref q3_)]) rfl (fun r_135 fr_135 H locs hp hMr_135 g => ?_)
    have hF_136 := hp
    have g := g.more hF_136
    refine lv_istore (lv' := [(5, .int r_135), (4, .int x_3), (2, .long r_2), (1, .int r_1), (0, .ref a0_)]) hx hb dX2_readParam_109 hl (by decide) rfl (fun ls hl => ?_)
    refine lv_aload_n hx hb dX2_readParam_111 rfl (lv_at hl 4 rfl) ?_
    refine g_getk (C := RX2) (T := TX2) (N := 16) hx hb hts (mc_ inX2) hown hK g rfl 0 (by decide) rfl (hts _ (List.mem_cons_of_mem _ t_416)) (fun _ h9 => h9) 3 rfl dX2_readParam_112 ?_
    refine lv_sipush (v := 200) hx hb dX2_readParam_115 (by decide) ?_
    refine g_callv (va_runV (As := [.int 200]) (rest := []) ⟨hx, hb, hml, hown, hts⟩ (r_X8_take_2 l dC dI L kd tys fr_135 H.size g.2.2.2.1 q0_ mq0_ kq0_ 200 1201 kb_1201 x_127 h_128 (g.fcts [0, 1] rfl)) (cwV 1 hts (gV_ t_1098 t_1099 t_1100 t_184 t_1101) rfl rfl rfl (by decide +kernel) ⟨(Nat.le_of_ble_eq_true rfl), (Nat.le_of_ble_eq_true rfl)⟩) (pre3V g hK mq0_ kq0_ (by decide) (q := (RX8, TX8, 10)) rfl) rfl rfl hl.1 rfl (lv_room (Nat.le_of_ble_eq_true rfl)) dX2_readParam_118 ⟨(Nat.le_of_ble_eq_true rfl), (Nat.le_of_ble_eq_true rfl)⟩) g hK (by decide) (by decide) (fx' := [(8, 8, q0_, .int x_127), (6, 3, q2_, .int x_3), (2, 0, a0_, .ref q0_), (2, 1, a0_, .ref q1_), (2, 5, a0_, .ref q2_), (5, 1, q1_, .ref q3_)]) rfl (fun fr_137 H locs hp hMr_137 g => ?_)
    obtain ⟨x_138, h_139, hF_140⟩ := hp
    have g := g.more hF_140
    refine lv_aload_n hx hb dX2_readParam_121 rfl (lv_at hl 4 rfl) ?_
    refine lv_iload hx hb dX2_readParam_122 (lv_at hl 0 rfl) ?_
    refine g_calli (va_runV (As := [.int r_135]) (rest := []) ⟨hx, hb, hml, hown, hts⟩ (r_X2_readNumber_2 l dC dI L kd tys fr_137 H.size g.2.2.2.1 a0_ ma0_ ka0_ r_135 q0_ mq0_ kq0_ x_138 h_139 x_127 h_128 (g.fcts [3, 0, 1] rfl)) (cwV 1 hts (gV_ t_1160 t_1162 t_11 t_183 t_1163) rfl rfl rfl (by decide +kernel) ⟨(Nat.le_of_ble_eq_true rfl), (Nat.le_of_ble_eq_true rfl)⟩) (pre3V g hK ma0_ ka0_ (by decide) (q := (RX2, TX2, 16)) rfl) rfl rfl hl.1 rfl (lv_room (Nat.le_of_ble_eq_true rfl)) dX2_readParam_124 ⟨(Nat.le_of_ble_eq_true rfl), (Nat.le_of_ble_eq_true rfl)⟩) g hK (by decide) (by decide) (fx' := [(8, 8, q0_, .int x_127), (6, 3, q2_, .int x_3), (2, 0, a0_, .ref q0_), (2, 1, a0_, .ref q1_), (2, 5, a0_, .ref q2_), (5, 1, q1_, .ref q3_)]) rfl (fun r_141 fr_141 H locs hp hMr_141 g => ?_)
    have hF_142 := hp
    have g := g.more hF_142
    refine lv_istore (lv' := [(6, .int r_141), (5, .int r_135), (4, .int x_3), (2, .long r_2), (1, .int r_1), (0, .ref a0_)]) hx hb dX2_readParam_127 hl (by decide) rfl (fun ls hl => ?_)
    refine lv_aload_n hx hb dX2_readParam_129 rfl (lv_at hl 5 rfl) ?_
    refine g_getk (C := RX2) (T := TX2) (N := 16) hx hb hts (mc_ inX2) hown hK g rfl 0 (by decide) rfl (hts _ (List.mem_cons_of_mem _ t_416)) (fun _ h9 => h9) 3 rfl dX2_readParam_130 ?_
    refine g_getk (C := RX8) (T := TX8) (N := 10) hx hb hts (mc_ inX8) hown hK g rfl 8 (by decide) rfl (hts _ (List.mem_cons_of_mem _ t_294)) (fun _ h9 => h9) 1 rfl dX2_readParam_133 ?_
    have kb_0 : bd 0 0 (0 : Int32) := ⟨by decide, by decide⟩
    refine lv_if_ne (tgt := 202) hx hb dX2_readParam_136 (by decide) (fun c_143 => ?_) (fun c_143 => ?_)
    · have fc_143 := neq_f c_143
      subst hQ
      exact W.vret hx hb hr (fun t ht hW => ⟨⟨_, rfl, Or.inr (⟨1201, (bd_sub kb_1201 (by decide)), x_127, h_128, (g.fcts [0, 1] rfl)⟩), q3_of g hK ht hW⟩, g.2.2.1.F ht⟩) g.2.2.1.2.2 dX2_readParam_202
    · have fc_143 := eq_f c_143
      have b_144 : bd 1 0 x_127 := eqX fc_143 h_128 kb_0 (by decide)
      exact bd_no b_144 (by decide)
