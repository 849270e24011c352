set_option maxHeartbeats 4000000 in
set_option maxRecDepth 100000 in
theorem r_X2_atMark (l : Launch) (dC : Nat → ClassId) (dI : Nat → Nat → Nat) (L : List Nat) (kd : Nat → Nat) (tys : List (ClassId × FieldType)) (f0 : Nat → va_E) (sz : Nat) (hWT : WT L kd tys f0) (a0_ : Nat) (ma0_ : a0_ ∈ L) (ka0_ : kd a0_ = 2) (q0_ : Nat) (mq0_ : q0_ ∈ L) (kq0_ : kd q0_ = 8) (hfx : Fs L kd f0 [(2, 0, a0_, .ref q0_)]) : Met l yX2_atMark (.code yX2_atMark cX2_atMark 2 (some .boolean) :: lw_g) ({ frames := 1, cells := 0, slots := 0, locals := 20 }) (va_Pc [.ref a0_] (P3 (dC, dI) L tys f0 sz)) (va_Qi (fun (r : Int32) (f : Nat → va_E) => (r = 0 ∧ True) ∨ (r = 1 ∧ True)) (Q3 (dC, dI) L kd tys [] [] f0 sz) (pA L sz)) 0 0 (pA L sz) := by
  refine Met.ofW (cc := cX2_atMark) (maxL := 2) (ret := (some .boolean)) (by decide) rfl ?_
  intro p e s m args below meth c s₁ B hml hv
  obtain ⟨rfl, hsz, hP, hK, hD0⟩ := hv
  have hx := B.exec
  have hb := B.bytes
  have hr := B.returns
  have hts := atoms_spec (ws := (.code yX2_atMark cX2_atMark 2 (some .boolean) :: lw_g)) B.pre
  have hown : s.vm.findClass RX2 = some m.cls := findClass_of_methodNamed B.named
  have hlocks := B.notSynchronized
  subst hsz
  have g : G3 (dC, dI) L kd tys s f0 [] [] f0 s.heap [] [(2, 0, a0_, .ref q0_)] := G3.start hP hD0 hWT hfx
  have hl := lv_entry ([.ref a0_]) (n := 2) (Nat.le_of_ble_eq_true rfl)
  rw [lg_entry_eq]
  generalize (lg_sl ([.ref a0_]) ++ List.replicate (2 - (lg_sl ([.ref a0_])).length) Slot.unset).toArray = ls at hl ⊢
  have hl : lv_has ls 2 [(0, .ref a0_)] := hl
  refine W_q (fun Q hQ => ?_)
  refine lv_aload_n hx hb dX2_atMark_0 rfl (lv_at hl 0 rfl) ?_
  refine g_getk (C := RX2) (T := TX2) (N := 16) hx hb hts (mc_ inX2) hown hK g rfl 0 (by decide) rfl (hts _ (List.mem_cons_of_mem _ t_416)) (fun _ h9 => h9) 0 rfl dX2_atMark_1 ?_
  refine g_calli (va_runV (As := []) (rest := []) ⟨hx, hb, hml, hown, hts⟩ (r_X8_kind l dC dI L kd tys f0 s.heap.size g.2.2.2.1 q0_ mq0_ kq0_) (cwV 0 hts (gV_ t_1118 t_1119 t_1120 t_184 t_1121) rfl rfl rfl (by decide +kernel) ⟨(Nat.le_of_ble_eq_true rfl), (Nat.le_of_ble_eq_true rfl)⟩) (pre3V g hK mq0_ kq0_ (by decide) (q := (RX8, TX8, 10)) rfl) rfl rfl hl.1 rfl (lv_room (Nat.le_of_ble_eq_true rfl)) dX2_atMark_4 ⟨(Nat.le_of_ble_eq_true rfl), (Nat.le_of_ble_eq_true rfl)⟩) g hK (by decide) (by decide) (fx' := [(2, 0, a0_, .ref q0_)]) rfl (fun r_1 fr_1 H locs hp hMr_1 g => ?_)
  refine lv_istore_n (lv' := [(1, .int r_1), (0, .ref a0_)]) hx hb dX2_atMark_7 rfl hl (by decide) rfl (fun ls hl => ?_)
  refine lv_iload_n hx hb dX2_atMark_8 rfl (lv_at hl 0 rfl) ?_
  refine lv_bipush (v := 16) hx hb dX2_atMark_9 (by decide) ?_
  have kb_16 : bd 16 16 (16 : Int32) := ⟨by decide, by decide⟩
  refine lv_icmp_eq (tgt := 38) hx hb dX2_atMark_11 (by decide) (fun c_2 => ?_) (fun c_2 => ?_)
  · have fc_2 := eq_f c_2
    have b_3 : bd 16 16 r_1 := eqX fc_2 (bdT r_1) kb_16 (by decide)
    refine lv_iconst (v := 1) hx hb dX2_atMark_38 (by decide) ?_
    refine lv_goto (tgt := 43) hx hb dX2_atMark_39 (by decide) ?_
    subst hQ
    have kb_1 : bd 1 1 (1 : Int32) := ⟨by decide, by decide⟩
    exact W.zret (v := 1) hx hb hr (nar_z (bd_sub kb_1 (by decide) : bd 0 1 _).1 (bd_sub kb_1 (by decide) : bd 0 1 _).2) (fun t ht hW => ⟨⟨_, _, rfl, Or.inr (⟨rfl, trivial⟩), q3_of g hK ht hW⟩, g.2.2.1.F ht⟩) g.2.2.1.2.2 dX2_atMark_43
  · have fc_2 := neq_f c_2
    refine lv_iload_n hx hb dX2_atMark_14 rfl (lv_at hl 0 rfl) ?_
    refine lv_bipush (v := 17) hx hb dX2_atMark_15 (by decide) ?_
    have kb_17 : bd 17 17 (17 : Int32) := ⟨by decide, by decide⟩
    refine lv_icmp_eq (tgt := 38) hx hb dX2_atMark_17 (by decide) (fun c_4 => ?_) (fun c_4 => ?_)
    · have fc_4 := eq_f c_4
      have b_5 : bd 17 17 r_1 := eqX fc_4 (bdT r_1) kb_17 (by decide)
      refine lv_iconst (v := 1) hx hb dX2_atMark_38 (by decide) ?_
      refine lv_goto (tgt := 43) hx hb dX2_atMark_39 (by decide) ?_
      subst hQ
      have kb_1 : bd 1 1 (1 : Int32) := ⟨by decide, by decide⟩
      exact W.zret (v := 1) hx hb hr (nar_z (bd_sub kb_1 (by decide) : bd 0 1 _).1 (bd_sub kb_1 (by decide) : bd 0 1 _).2) (fun t ht hW => ⟨⟨_, _, rfl, Or.inr (⟨rfl, trivial⟩), q3_of g hK ht hW⟩, g.2.2.1.F ht⟩) g.2.2.1.2.2 dX2_atMark_43
    · have fc_4 := neq_f c_4
      refine lv_iload_n hx hb dX2_atMark_20 rfl (lv_at hl 0 rfl) ?_
      refine lv_bipush (v := 18) hx hb dX2_atMark_21 (by decide) ?_
      have kb_18 : bd 18 18 (18 : Int32) := ⟨by decide, by decide⟩
      refine lv_icmp_eq (tgt := 38) hx hb dX2_atMark_23 (by decide) (fun c_6 => ?_) (fun c_6 => ?_)
      · have fc_6 := eq_f c_6
        have b_7 : bd 18 18 r_1 := eqX fc_6 (bdT r_1) kb_18 (by decide)
        refine lv_iconst (v := 1) hx hb dX2_atMark_38 (by decide) ?_
        refine lv_goto (tgt := 43) hx hb dX2_atMark_39 (by decide) ?_
        subst hQ
        have kb_1 : bd 1 1 (1 : Int32) := ⟨by decide, by decide⟩
        exact W.zret (v := 1) hx hb hr (nar_z (bd_sub kb_1 (by decide) : bd 0 1 _).1 (bd_sub kb_1 (by decide) : bd 0 1 _).2) (fun t ht hW => ⟨⟨_, _, rfl, Or.inr (⟨rfl, trivial⟩), q3_of g hK ht hW⟩, g.2.2.1.F ht⟩) g.2.2.1.2.2 dX2_atMark_43
      · have fc_6 := neq_f c_6
        refine lv_iload_n hx hb dX2_atMark_26 rfl (lv_at hl 0 rfl) ?_
        refine lv_bipush (v := 20) hx hb dX2_atMark_27 (by decide) ?_
        have kb_20 : bd 20 20 (20 : Int32) := ⟨by decide, by decide⟩
        refine lv_icmp_eq (tgt := 38) hx hb dX2_atMark_29 (by decide) (fun c_8 => ?_) (fun c_8 => ?_)
        · have fc_8 := eq_f c_8
          have b_9 : bd 20 20 r_1 := eqX fc_8 (bdT r_1) kb_20 (by decide)
          refine lv_iconst (v := 1) hx hb dX2_atMark_38 (by decide) ?_
          refine lv_goto (tgt := 43) hx hb dX2_atMark_39 (by decide) ?_
          subst hQ
          have kb_1 : bd 1 1 (1 : Int32) := ⟨by decide, by decide⟩
          exact W.zret (v := 1) hx hb hr (nar_z (bd_sub kb_1 (by decide) : bd 0 1 _).1 (bd_sub kb_1 (by decide) : bd 0 1 _).2) (fun t ht hW => ⟨⟨_, _, rfl, Or.inr (⟨rfl, trivial⟩), q3_of g hK ht hW⟩, g.2.2.1.F ht⟩) g.2.2.1.2.2 dX2_atMark_43
        · have fc_8 := neq_f c_8
          refine lv_iload_n hx hb dX2_atMark_32 rfl (lv_at hl 0 rfl) ?_
          refine lv_bipush (v := 21) hx hb dX2_atMark_33 (by decide) ?_
          have kb_21 : bd 21 21 (21 : Int32) := ⟨by decide, by decide⟩
          refine lv_icmp_ne (tgt := 42) hx hb dX2_atMark_35 (by decide) (fun c_10 => ?_) (fun c_10 => ?_)
          · have fc_10 := neq_f c_10
            refine lv_iconst (v := 0) hx hb dX2_atMark_42 (by decide) ?_
            subst hQ
            have kb_0 : bd 0 0 (0 : Int32) := ⟨by decide, by decide⟩
            exact W.zret (v := 0) hx hb hr (nar_z (bd_sub kb_0 (by decide) : bd 0 1 _).1 (bd_sub kb_0 (by decide) : bd 0 1 _).2) (fun t ht hW => ⟨⟨_, _, rfl, Or.inl ⟨rfl, trivial⟩, q3_of g hK ht hW⟩, g.2.2.1.F ht⟩) g.2.2.1.2.2 dX2_atMark_43
          · have fc_10 := eq_f c_10
            have b_11 : bd 21 21 r_1 := eqX fc_10 (bdT r_1) kb_21 (by decide)
            refine lv_iconst (v := 1) hx hb dX2_atMark_38 (by decide) ?_
            refine lv_goto (tgt := 43) hx hb dX2_atMark_39 (by decide) ?_
            subst hQ
            have kb_1 : bd 1 1 (1 : Int32) := ⟨by decide, by decide⟩
            exact W.zret (v := 1) hx hb hr (nar_z (bd_sub kb_1 (by decide) : bd 0 1 _).1 (bd_sub kb_1 (by decide) : bd 0 1 _).2) (fun t ht hW => ⟨⟨_, _, rfl, Or.inr (⟨rfl, trivial⟩), q3_of g hK ht hW⟩, g.2.2.1.F ht⟩) g.2.2.1.2.2 dX2_atMark_43
set_option maxHeartbeats 4000000 in
set_option maxRecDepth 100000 in
theorem r_X7_addMark (l : Launch) (dC : Nat → ClassId) (dI : Nat → Nat → Nat) (L : List Nat) (kd : Nat → Nat) (tys : List (ClassId × FieldType)) (f0 : Nat → va_E) (sz : Nat) (hWT : WT L kd tys f0) (a0_ : Nat) (ma0_ : a0_ ∈ L) (ka0_ : kd a0_ = 7) (x1_ : Int32) (x2_ : Int32) (x3_ : Int32) : Met l yX7_addMark (.code yX7_addMark cX7_addMark 5 (some .int) :: lw_g) ({ frames := 1, cells := 0, slots := 0, locals := 13 }) (va_Pc [.ref a0_, .int x1_, .int x2_, .int x3_] (P3 (dC, dI) L tys f0 sz)) (va_Qi (fun (r : Int32) (f : Nat → va_E) => (bd 0 499 r ∧ ∃ z0_ : Int32, bd 1 500 z0_ ∧ Fs L kd f [(7, 13, a0_, .int z0_)])) (Q3 (dC, dI) L kd tys [(7, 13)] [140, 141, 142, 143, 144, 145] f0 sz) (pA L sz)) 0 0 (pA L sz) := by
  refine Met.ofW (cc := cX7_addMark) (maxL := 5) (ret := (some .int)) (by decide) rfl ?_
  intro p e s m args below meth c s₁ B hml hv
  obtain ⟨rfl, hsz, hP, hK, hD0⟩ := hv
  have hx := B.exec
  have hb := B.bytes
  have hr := B.returns
  have hts := atoms_spec (ws := (.code yX7_addMark cX7_addMark 5 (some .int) :: lw_g)) B.pre
  have hown : s.vm.findClass RX7 = some m.cls := findClass_of_methodNamed B.named
  have hlocks := B.notSynchronized
  subst hsz
  have g : G3 (dC, dI) L kd tys s f0 [(7, 13)] [140, 141, 142, 143, 144, 145] f0 s.heap [] [] := G3.start hP hD0 hWT Fs.nil
  have hl := lv_entry ([.ref a0_, .int x1_, .int x2_, .int x3_]) (n := 5) (Nat.le_of_ble_eq_true rfl)
  rw [lg_entry_eq]
  generalize (lg_sl ([.ref a0_, .int x1_, .int x2_, .int x3_]) ++ List.replicate (5 - (lg_sl ([.ref a0_, .int x1_, .int x2_, .int x3_])).length) Slot.unset).toArray = ls at hl ⊢
  have hl : lv_has ls 5 [(0, .ref a0_), (1, .int x1_), (2, .int x2_), (3, .int x3_)] := hl
  refine W_q (fun Q hQ => ?_)
  refine lv_aload_n hx hb dX7_addMark_0 rfl (lv_at hl 0 rfl) ?_
  refine g_geti (C := RX7) (T := TX7) (N := 19) hx hb hts (mc_ inX7) hown hK g ma0_ ka0_ (by decide) rfl 13 (by decide) rfl (hts _ (List.mem_cons_of_mem _ t_666)) (fun _ h9 => h9) rfl dX7_addMark_1 (fun x_1 bx_1 g => ?_)
  refine lv_sipush (v := 499) hx hb dX7_addMark_4 (by decide) ?_
  have kb_499 : bd 499 499 (499 : Int32) := ⟨by decide, by decide⟩
  refine va_mmin hx hb (hml.trans hl.1.symm) hown (hts _ (List.mem_cons_of_mem _ t_1177)) (hts _ (List.mem_cons_of_mem _ t_998)) (hts _ (List.mem_cons_of_mem _ t_204)) (hts _ (List.mem_cons_of_mem _ t_999)) (Nat.le_of_ble_eq_true rfl) (Nat.le_of_ble_eq_true rfl) (Nat.le_of_ble_eq_true rfl) (Nat.le_of_ble_eq_true rfl) dX7_addMark_7 ?_
  refine lv_topi (fun y_2 ey_2 => ?_)
  have ty_2 : y_2.toInt = min x_1.toInt (499 : Int32).toInt := by rw [ey_2]; exact mmin_ok _ _
  have b_3 : bd 0 499 y_2 := min_rg ty_2 bx_1 kb_499 (by decide)
  refine lv_istore (lv' := [(4, .int y_2), (0, .ref a0_), (1, .int x1_), (2, .int x2_), (3, .int x3_)]) hx hb dX7_addMark_10 hl (by decide) rfl (fun ls hl => ?_)
  refine lv_aload_n hx hb dX7_addMark_12 rfl (lv_at hl 1 rfl) ?_
  refine g_getr (K := 140) (C := RX7) (T := TX7) (N := 19) hx hb hts (mc_ inX7) hown hK g ma0_ ka0_ (by decide) rfl 7 (by decide) rfl (hts _ (List.mem_cons_of_mem _ t_648)) (fun _ h9 => h9) rfl dX7_addMark_13 (fun a_4 ma_4 ka_4 g => ?_)
  refine lv_iload hx hb dX7_addMark_16 (lv_at hl 0 rfl) ?_
  refine lv_iload_n hx hb dX7_addMark_18 rfl (lv_at hl 2 rfl) ?_
  refine g_iast hx hb hK g ma_4 ka_4 (by decide) rfl (in_bd b_3 (by decide)) (bdT x1_) (by decide) dX7_addMark_19 (fun f H locs hM_5 g => ?_)
  refine lv_aload_n hx hb dX7_addMark_20 rfl (lv_at hl 1 rfl) ?_
  refine g_getr (K := 144) (C := RX7) (T := TX7) (N := 19) hx hb hts (mc_ inX7) hown hK g ma0_ ka0_ (by decide) rfl 11 (by decide) rfl (hts _ (List.mem_cons_of_mem _ t_661)) (fun _ h9 => h9) rfl dX7_addMark_21 (fun a_6 ma_6 ka_6 g => ?_)
  refine lv_iload hx hb dX7_addMark_24 (lv_at hl 0 rfl) ?_
  refine lv_iload_n hx hb dX7_addMark_26 rfl (lv_at hl 3 rfl) ?_
  refine g_iast hx hb hK g ma_6 ka_6 (by decide) rfl (in_bd b_3 (by decide)) (bdT x2_) (by decide) dX7_addMark_27 (fun f H locs hM_7 g => ?_)
  refine lv_aload_n hx hb dX7_addMark_28 rfl (lv_at hl 1 rfl) ?_
  refine g_getr (K := 142) (C := RX7) (T := TX7) (N := 19) hx hb hts (mc_ inX7) hown hK g ma0_ ka0_ (by decide) rfl 9 (by decide) rfl (hts _ (List.mem_cons_of_mem _ t_654)) (fun _ h9 => h9) rfl dX7_addMark_29 (fun a_8 ma_8 ka_8 g => ?_)
  refine lv_iload hx hb dX7_addMark_32 (lv_at hl 0 rfl) ?_
  refine lv_iload_n hx hb dX7_addMark_34 rfl (lv_at hl 4 rfl) ?_
  refine g_iast hx hb hK g ma_8 ka_8 (by decide) rfl (in_bd b_3 (by decide)) (bdT x3_) (by decide) dX7_addMark_35 (fun f H locs hM_9 g => ?_)
  refine lv_aload_n hx hb dX7_addMark_36 rfl (lv_at hl 1 rfl) ?_
  refine g_getr (K := 141) (C := RX7) (T := TX7) (N := 19) hx hb hts (mc_ inX7) hown hK g ma0_ ka0_ (by decide) rfl 8 (by decide) rfl (hts _ (List.mem_cons_of_mem _ t_651)) (fun _ h9 => h9) rfl dX7_addMark_37 (fun a_10 ma_10 ka_10 g => ?_)
  refine lv_iload hx hb dX7_addMark_40 (lv_at hl 0 rfl) ?_
  refine lv_aload_n hx hb dX7_addMark_42 rfl (lv_at hl 1 rfl) ?_
  refine g_geti (C := RX7) (T := TX7) (N := 19) hx hb hts (mc_ inX7) hown hK g ma0_ ka0_ (by decide) rfl 6 (by decide) rfl (hts _ (List.mem_cons_of_mem _ t_644)) (fun _ h9 => h9) rfl dX7_addMark_43 (fun x_11 bx_11 g => ?_)
  refine g_iast hx hb hK g ma_10 ka_10 (by decide) rfl (in_bd b_3 (by decide)) (bd_sub bx_11 (by decide)) (by decide) dX7_addMark_46 (fun f H locs hM_12 g => ?_)
  refine lv_aload_n hx hb dX7_addMark_47 rfl (lv_at hl 1 rfl) ?_
  refine g_getr (K := 143) (C := RX7) (T := TX7) (N := 19) hx hb hts (mc_ inX7) hown hK g ma0_ ka0_ (by decide) rfl 10 (by decide) rfl (hts _ (List.mem_cons_of_mem _ t_658)) (fun _ h9 => h9) rfl dX7_addMark_48 (fun a_13 ma_13 ka_13 g => ?_)
  refine lv_iload hx hb dX7_addMark_51 (lv_at hl 0 rfl) ?_
  refine lv_iconst (v := 0) hx hb dX7_addMark_53 (by decide) ?_
  have kb_0 : bd 0 0 (0 : Int32) := ⟨by decide, by decide⟩
  refine g_iast hx hb hK g ma_13 ka_13 (by decide) rfl (in_bd b_3 (by decide)) (bd_sub kb_0 (by decide)) (by decide) dX7_addMark_54 (fun f H locs hM_14 g => ?_)
  refine lv_aload_n hx hb dX7_addMark_55 rfl (lv_at hl 1 rfl) ?_
  refine g_getr (K := 145) (C := RX7) (T := TX7) (N := 19) hx hb hts (mc_ inX7) hown hK g ma0_ ka0_ (by decide) rfl 12 (by decide) rfl (hts _ (List.mem_cons_of_mem _ t_663)) (fun _ h9 => h9) rfl dX7_addMark_56 (fun a_15 ma_15 ka_15 g => ?_)
  refine lv_iload hx hb dX7_addMark_59 (lv_at hl 0 rfl) ?_
  refine lv_lconst (v := 0) hx hb dX7_addMark_61 (by decide) ?_
  refine g_last hx hb hK g ma_15 ka_15 (by decide) rfl (in_bd b_3 (by decide)) (by decide) dX7_addMark_62 (fun f H locs hM_16 g => ?_)
  refine lv_aload_n hx hb dX7_addMark_63 rfl (lv_at hl 1 rfl) ?_
  refine lv_iload hx hb dX7_addMark_64 (lv_at hl 0 rfl) ?_
  refine lv_iconst (v := 1) hx hb dX7_addMark_66 (by decide) ?_
  have kb_1 : bd 1 1 (1 : Int32) := ⟨by decide, by decide⟩
  refine lv_iadd hx hb dX7_addMark_67 ?_
  refine lv_topi (fun y_17 ey_17 => ?_)
  have ty_17 := add_bd ey_17 b_3 kb_1 (by decide)
  have b_18 : bd 1 500 y_17 := add_rg ty_17 b_3 kb_1 (by decide)
  refine g_put (C := RX7) (T := TX7) (N := 19) hx hb hts (mc_ inX7) tyX7 tyX7_ok nmX7 hown hK g ma0_ ka0_ (by decide) rfl 13 (by decide) (hts _ (List.mem_cons_of_mem _ t_666)) (fun _ h9 => h9) rfl rfl (okV_i (bd_sub b_18 (by decide))) rfl rfl (by decide) (Or.inr (Or.inl (by decide))) (fx' := [(7, 12, a0_, .ref a_15), (7, 10, a0_, .ref a_13), (7, 6, a0_, .int x_11), (7, 8, a0_, .ref a_10), (7, 9, a0_, .ref a_8), (7, 11, a0_, .ref a_6), (7, 7, a0_, .ref a_4)]) rfl dX7_addMark_68 (fun f H locs hM_19 g => ?_)
  refine lv_iload hx hb dX7_addMark_71 (lv_at hl 0 rfl) ?_
  subst hQ
  exact W.iret (v := y_2) hx hb hr (fun t ht hW => ⟨⟨_, _, rfl, ⟨b_3, y_17, b_18, (g.fcts [0] rfl)⟩, q3_of g hK ht hW⟩, g.2.2.1.F ht⟩) g.2.2.1.2.2 dX7_addMark_73
set_option maxHeartbeats 4000000 in
set_option maxRecDepth 100000 in
theorem r_X2_readThrownWord (l : Launch) (dC : Nat → ClassId) (dI : Nat → Nat → Nat) (L : List Nat) (kd : Nat → Nat) (tys : List (ClassId × FieldType)) (f0 : Nat → va_E) (sz : Nat) (hWT : WT L kd tys f0) (a0_ : Nat) (ma0_ : a0_ ∈ L) (ka0_ : kd a0_ = 2) (q0_ : Nat) (mq0_ : q0_ ∈ L) (kq0_ : kd q0_ = 8) (q1_ : Nat) (mq1_ : q1_ ∈ L) (kq1_ : kd q1_ = 7) (hfx : Fs L kd f0 [(2, 0, a0_, .ref q0_), (2, 3, a0_, .ref q1_)]) : Met l yX2_readThrownWord (.code yX2_readThrownWord cX2_readThrownWord 2 (some .boolean) :: lw_g) ({ frames := 2, cells := 0, slots := 0, locals := 44 }) (va_Pc [.ref a0_] (P3 (dC, dI) L tys f0 sz)) (va_Qi (fun (r : Int32) (f : Nat → va_E) => (r = 0 ∧ ∃ z1_ : Int32, bd 1 7 z1_ ∧ ∃ z2_ : Int32, bd 1 500 z2_ ∧ Fs L kd f [(8, 6, q0_, .int 1201), (8, 8, q0_, .int z1_), (7, 13, q1_, .int z2_)]) ∨ (r = 0 ∧ ∃ z0_ : Int32, bd 1 1201 z0_ ∧ ∃ z1_ : Int32, bd 1 500 z1_ ∧ Fs L kd f [(8, 6, q0_, .int z0_), (7, 13, q1_, .int z1_)]) ∨ (r = 1 ∧ ∃ z0_ : Int32, bd 1 1201 z0_ ∧ ∃ z1_ : Int32, bd 1 500 z1_ ∧ Fs L kd f [(8, 6, q0_, .int z0_), (7, 13, q1_, .int z1_)])) (Q3 (dC, dI) L kd tys [(7, 13), (8, 6), (8, 8), (8, 9)] [140, 141, 142, 143, 144, 145] f0 sz) (pA L sz)) 0 0 (pA L sz) := by
  refine Met.ofW (cc := cX2_readThrownWord) (maxL := 2) (ret := (some .boolean)) (by decide) rfl ?_
  intro p e s m args below meth c s₁ B hml hv
  obtain ⟨rfl, hsz, hP, hK, hD0⟩ := hv
  have hx := B.exec
  have hb := B.bytes
  have hr := B.returns
  have hts := atoms_spec (ws := (.code yX2_readThrownWord cX2_readThrownWord 2 (some .boolean) :: lw_g)) B.pre
  have hown : s.vm.findClass RX2 = some m.cls := findClass_of_methodNamed B.named
  have hlocks := B.notSynchronized
  subst hsz
  have g : G3 (dC, dI) L kd tys s f0 [(7, 13), (8, 6), (8, 8), (8, 9)] [140, 141, 142, 143, 144, 145] f0 s.heap [] [(2, 0, a0_, .ref q0_), (2, 3, a0_, .ref q1_)] := G3.start hP hD0 hWT hfx
  have hl := lv_entry ([.ref a0_]) (n := 2) (Nat.le_of_ble_eq_true rfl)
  rw [lg_entry_eq]
  generalize (lg_sl ([.ref a0_]) ++ List.replicate (2 - (lg_sl ([.ref a0_])).length) Slot.unset).toArray = ls at hl ⊢
  have hl : lv_has ls 2 [(0, .ref a0_)] := hl
  refine W_q (fun Q hQ => ?_)
  refine lv_aload_n hx hb dX2_readThrownWord_0 rfl (lv_at hl 0 rfl) ?_
  refine g_getk (C := RX2) (T := TX2) (N := 16) hx hb hts (mc_ inX2) hown hK g rfl 3 (by decide) rfl (hts _ (List.mem_cons_of_mem _ t_419)) (fun _ h9 => h9) 1 rfl dX2_readThrownWord_1 ?_
  refine lv_iconst (v := 4) hx hb dX2_readThrownWord_4 (by decide) ?_
  refine lv_aload_n hx hb dX2_readThrownWord_5 rfl (lv_at hl 0 rfl) ?_
  refine g_getr (K := 5) (C := RX2) (T := TX2) (N := 16) hx hb hts (mc_ inX2) hown hK g ma0_ ka0_ (by decide) rfl 1 (by decide) rfl (hts _ (List.mem_cons_of_mem _ t_417)) (fun _ h9 => h9) rfl dX2_readThrownWord_6 (fun a_1 ma_1 ka_1 g => ?_)
  refine g_geti (C := RX5) (T := TX5) (N := 9) hx hb hts (mc_ inX5) hown hK g ma_1 ka_1 (by decide) rfl 2 (by decide) rfl (hts _ (List.mem_cons_of_mem _ t_333)) (fun _ h9 => h9) rfl dX2_readThrownWord_9 (fun x_2 bx_2 g => ?_)
  refine lv_aload_n hx hb dX2_readThrownWord_12 rfl (lv_at hl 0 rfl) ?_
  refine g_getk (C := RX2) (T := TX2) (N := 16) hx hb hts (mc_ inX2) hown hK g rfl 0 (by decide) rfl (hts _ (List.mem_cons_of_mem _ t_416)) (fun _ h9 => h9) 2 rfl dX2_readThrownWord_13 ?_
  refine g_calli (va_runV (As := []) (rest := [.int x_2, .int 4, .ref q1_]) ⟨hx, hb, hml, hown, hts⟩ (r_X8_place l dC dI L kd tys f0 s.heap.size g.2.2.2.1 q0_ mq0_ kq0_) (cwV 0 hts (gV_ t_1110 t_1111 t_1112 t_184 t_1113) rfl rfl rfl (by decide +kernel) ⟨(Nat.le_of_ble_eq_true rfl), (Nat.le_of_ble_eq_true rfl)⟩) (pre3V g hK mq0_ kq0_ (by decide) (q := (RX8, TX8, 10)) rfl) rfl rfl hl.1 rfl (lv_room (Nat.le_of_ble_eq_true rfl)) dX2_readThrownWord_16 ⟨(Nat.le_of_ble_eq_true rfl), (Nat.le_of_ble_eq_true rfl)⟩) g hK (by decide) (by decide) (fx' := [(5, 2, a_1, .int x_2), (2, 1, a0_, .ref a_1), (2, 0, a0_, .ref q0_), (2, 3, a0_, .ref q1_)]) rfl (fun r_3 fr_3 H locs hp hMr_3 g => ?_)
  refine g_calli (va_runV (As := [.int 4, .int x_2, .int r_3]) (rest := []) ⟨hx, hb, hml, hown, hts⟩ (r_X7_addMark l dC dI L kd tys fr_3 H.size g.2.2.2.1 q1_ mq1_ kq1_ 4 x_2 r_3) (cwV 3 hts (gV_ t_1173 t_1174 t_1175 t_191 t_1176) rfl rfl rfl (by decide +kernel) ⟨(Nat.le_of_ble_eq_true rfl), (Nat.le_of_ble_eq_true rfl)⟩) (pre3V g hK mq1_ kq1_ (by decide) (q := (RX7, TX7, 19)) rfl) rfl rfl hl.1 rfl (lv_room (Nat.le_of_ble_eq_true rfl)) dX2_readThrownWord_19 ⟨(Nat.le_of_ble_eq_true rfl), (Nat.le_of_ble_eq_true rfl)⟩) g hK (by decide) (by decide) (fx' := [(5, 2, a_1, .int x_2), (2, 1, a0_, .ref a_1), (2, 0, a0_, .ref q0_), (2, 3, a0_, .ref q1_)]) rfl (fun r_4 fr_4 H locs hp hMr_4 g => ?_)
  obtain ⟨h_5, x_6, h_7, hF_8⟩ := hp
  have g := g.more hF_8
  refine lv_istore_n (lv' := [(1, .int r_4), (0, .ref a0_)]) hx hb dX2_readThrownWord_22 rfl hl (by decide) rfl (fun ls hl => ?_)
  refine lv_aload_n hx hb dX2_readThrownWord_23 rfl (lv_at hl 1 rfl) ?_
  refine g_getk (C := RX2) (T := TX2) (N := 16) hx hb hts (mc_ inX2) hown hK g rfl 3 (by decide) rfl (hts _ (List.mem_cons_of_mem _ t_419)) (fun _ h9 => h9) 4 rfl dX2_readThrownWord_24 ?_
  refine g_getr (K := 145) (C := RX7) (T := TX7) (N := 19) hx hb hts (mc_ inX7) hown hK g mq1_ kq1_ (by decide) rfl 12 (by decide) rfl (hts _ (List.mem_cons_of_mem _ t_664)) (fun _ h9 => h9) rfl dX2_readThrownWord_27 (fun a_9 ma_9 ka_9 g => ?_)
  refine lv_iload_n hx hb dX2_readThrownWord_30 rfl (lv_at hl 0 rfl) ?_
  refine lv_aload_n hx hb dX2_readThrownWord_31 rfl (lv_at hl 1 rfl) ?_
  refine g_getk (C := RX2) (T := TX2) (N := 16) hx hb hts (mc_ inX2) hown hK g rfl 0 (by decide) rfl (hts _ (List.mem_cons_of_mem _ t_416)) (fun _ h9 => h9) 4 rfl dX2_readThrownWord_32 ?_
  refine g_calll (va_runV (As := []) (rest := [.int r_4, .ref a_9]) ⟨hx, hb, hml, hown, hts⟩ (r_X8_value l dC dI L kd tys fr_4 H.size g.2.2.2.1 q0_ mq0_ kq0_) (cwV 0 hts (gV_ t_1114 t_1115 t_1116 t_184 t_1117) rfl rfl rfl (by decide +kernel) ⟨(Nat.le_of_ble_eq_true rfl), (Nat.le_of_ble_eq_true rfl)⟩) (pre3V g hK mq0_ kq0_ (by decide) (q := (RX8, TX8, 10)) rfl) rfl rfl hl.1 rfl (lv_room (Nat.le_of_ble_eq_true rfl)) dX2_readThrownWord_35 ⟨(Nat.le_of_ble_eq_true rfl), (Nat.le_of_ble_eq_true rfl)⟩) g hK (by decide) (by decide) (fx' := [(7, 12, q1_, .ref a_9), (7, 13, q1_, .int x_6), (5, 2, a_1, .int x_2), (2, 1, a0_, .ref a_1), (2, 0, a0_, .ref q0_), (2, 3, a0_, .ref q1_)]) rfl (fun r_10 fr_10 H locs hp hMr_10 g => ?_)
  refine g_last hx hb hK g ma_9 ka_9 (by decide) rfl (in_bd h_5 (by decide)) (by decide) dX2_readThrownWord_38 (fun f H locs hM_11 g => ?_)
  refine lv_aload_n hx hb dX2_readThrownWord_39 rfl (lv_at hl 1 rfl) ?_
  refine g_getk (C := RX2) (T := TX2) (N := 16) hx hb hts (mc_ inX2) hown hK g rfl 0 (by decide) rfl (hts _ (List.mem_cons_of_mem _ t_416)) (fun _ h9 => h9) 4 rfl dX2_readThrownWord_40 ?_
  refine lv_iconst (v := 3) hx hb dX2_readThrownWord_43 (by decide) ?_
  refine g_callv (va_runV (As := [.int 3]) (rest := []) ⟨hx, hb, hml, hown, hts⟩ (r_X8_take l dC dI L kd tys f H.size g.2.2.2.1 q0_ mq0_ kq0_ 3) (cwV 1 hts (gV_ t_1098 t_1099 t_1100 t_184 t_1101) rfl rfl rfl (by decide +kernel) ⟨(Nat.le_of_ble_eq_true rfl), (Nat.le_of_ble_eq_true rfl)⟩) (pre3V g hK mq0_ kq0_ (by decide) (q := (RX8, TX8, 10)) rfl) rfl rfl hl.1 rfl (lv_room (Nat.le_of_ble_eq_true rfl)) dX2_readThrownWord_44 ⟨(Nat.le_of_ble_eq_true rfl), (Nat.le_of_ble_eq_true rfl)⟩) g hK (by decide) (by decide) (fx' := [(7, 12, q1_, .ref a_9), (7, 13, q1_, .int x_6), (5, 2, a_1, .int x_2), (2, 1, a0_, .ref a_1), (2, 0, a0_, .ref q0_), (2, 3, a0_, .ref q1_)]) rfl (fun fr_12 H locs hp hMr_12 g => ?_)
  rcases hp with ⟨x_13, h_14, hF_15⟩ | ⟨x_16, h_17, hF_18⟩
  · have g := g.more hF_15
    refine lv_aload_n hx hb dX2_readThrownWord_47 rfl (lv_at hl 1 rfl) ?_
    refine g_getk (C := RX2) (T := TX2) (N := 16) hx hb hts (mc_ inX2) hown hK g rfl 0 (by decide) rfl (hts _ (List.mem_cons_of_mem _ t_416)) (fun _ h9 => h9) 6 rfl dX2_readThrownWord_48 ?_
    have kb_1201 : bd 1201 1201 (1201 : Int32) := ⟨by decide, by decide⟩
    refine g_calli (va_runV (As := []) (rest := []) ⟨hx, hb, hml, hown, hts⟩ (r_X8_kind_2 l dC dI L kd tys fr_12 H.size g.2.2.2.1 q0_ mq0_ kq0_ 1201 kb_1201 (g.fcts [0] rfl)) (cwV 0 hts (gV_ t_1118 t_1119 t_1120 t_184 t_1121) rfl rfl rfl (by decide +kernel) ⟨(Nat.le_of_ble_eq_true rfl), (Nat.le_of_ble_eq_true rfl)⟩) (pre3V g hK mq0_ kq0_ (by decide) (q := (RX8, TX8, 10)) rfl) rfl rfl hl.1 rfl (lv_room (Nat.le_of_ble_eq_true rfl)) dX2_readThrownWord_51 ⟨(Nat.le_of_ble_eq_true rfl), (Nat.le_of_ble_eq_true rfl)⟩) g hK (by decide) (by decide) (fx' := [(8, 6, q0_, .int 1201), (8, 8, q0_, .int x_13), (7, 12, q1_, .ref a_9), (7, 13, q1_, .int x_6), (5, 2, a_1, .int x_2), (2, 1, a0_, .ref a_1), (2, 0, a0_, .ref q0_), (2, 3, a0_, .ref q1_)]) rfl (fun r_19 fr_19 H locs hp hMr_19 g => ?_)
    obtain ⟨h_20, -⟩ := hp
    obtain rfl : r_19 = 0 := h_20
    refine lv_bipush (v := 19) hx hb dX2_readThrownWord_54 (by decide) ?_
    refine lv_icmp_eq (tgt := 71) hx hb dX2_readThrownWord_56 (by decide) (fun c_ => absurd c_ (by decide)) (fun c_ => ?_)
    refine lv_aload_n hx hb dX2_readThrownWord_59 rfl (lv_at hl 1 rfl) ?_
    refine g_getk (C := RX2) (T := TX2) (N := 16) hx hb hts (mc_ inX2) hown hK g rfl 3 (by decide) rfl (hts _ (List.mem_cons_of_mem _ t_419)) (fun _ h9 => h9) 7 rfl dX2_readThrownWord_60 ?_
    refine g_getr (K := 141) (C := RX7) (T := TX7) (N := 19) hx hb hts (mc_ inX7) hown hK g mq1_ kq1_ (by decide) rfl 8 (by decide) rfl (hts _ (List.mem_cons_of_mem _ t_653)) (fun _ h9 => h9) rfl dX2_readThrownWord_63 (fun a_21 ma_21 ka_21 g => ?_)
    refine lv_iload_n hx hb dX2_readThrownWord_66 rfl (lv_at hl 0 rfl) ?_
    refine lv_iconst (v := (-1)) hx hb dX2_readThrownWord_67 (by decide) ?_
    have kb_m1 : bd (-1) (-1) ((-1) : Int32) := ⟨by decide, by decide⟩
    refine g_iast hx hb hK g ma_21 ka_21 (by decide) rfl (in_bd h_5 (by decide)) (bd_sub kb_m1 (by decide)) (by decide) dX2_readThrownWord_68 (fun f H locs hM_22 g => ?_)
    refine lv_iconst (v := 0) hx hb dX2_readThrownWord_69 (by decide) ?_
    subst hQ
    have kb_0 : bd 0 0 (0 : Int32) := ⟨by decide, by decide⟩
    exact W.zret (v := 0) hx hb hr (nar_z (bd_sub kb_0 (by decide) : bd 0 1 _).1 (bd_sub kb_0 (by decide) : bd 0 1 _).2) (fun t ht hW => ⟨⟨_, _, rfl, Or.inl ⟨rfl, x_13, h_14, x_6, h_7, (g.fcts [1, 2, 4] rfl)⟩, q3_of g hK ht hW⟩, g.2.2.1.F ht⟩) g.2.2.1.2.2 dX2_readThrownWord_70
  · have g := g.more hF_18
    refine lv_aload_n hx hb dX2_readThrownWord_47 rfl (lv_at hl 1 rfl) ?_
    refine g_getk (C := RX2) (T := TX2) (N := 16) hx hb hts (mc_ inX2) hown hK g rfl 0 (by decide) rfl (hts _ (List.mem_cons_of_mem _ t_416)) (fun _ h9 => h9) 5 rfl dX2_readThrownWord_48 ?_
    refine g_calli (va_runV (As := []) (rest := []) ⟨hx, hb, hml, hown, hts⟩ (r_X8_kind l dC dI L kd tys fr_12 H.size g.2.2.2.1 q0_ mq0_ kq0_) (cwV 0 hts (gV_ t_1118 t_1119 t_1120 t_184 t_1121) rfl rfl rfl (by decide +kernel) ⟨(Nat.le_of_ble_eq_true rfl), (Nat.le_of_ble_eq_true rfl)⟩) (pre3V g hK mq0_ kq0_ (by decide) (q := (RX8, TX8, 10)) rfl) rfl rfl hl.1 rfl (lv_room (Nat.le_of_ble_eq_true rfl)) dX2_readThrownWord_51 ⟨(Nat.le_of_ble_eq_true rfl), (Nat.le_of_ble_eq_true rfl)⟩) g hK (by decide) (by decide) (fx' := [(8, 6, q0_, .int x_16), (7, 12, q1_, .ref a_9), (7, 13, q1_, .int x_6), (5, 2, a_1, .int x_2), (2, 1, a0_, .ref a_1), (2, 0, a0_, .ref q0_), (2, 3, a0_, .ref q1_)]) rfl (fun r_23 fr_23 H locs hp hMr_23 g => ?_)
    refine lv_bipush (v := 19) hx hb dX2_readThrownWord_54 (by decide) ?_
    have kb_19 : bd 19 19 (19 : Int32) := ⟨by decide, by decide⟩
    refine lv_icmp_eq (tgt := 71) hx hb dX2_readThrownWord_56 (by decide) (fun c_24 => ?_) (fun c_24 => ?_)
    · have fc_24 := eq_f c_24
      have b_25 : bd 19 19 r_23 := eqX fc_24 (bdT r_23) kb_19 (by decide)
      refine lv_aload_n hx hb dX2_readThrownWord_71 rfl (lv_at hl 1 rfl) ?_
      refine g_getk (C := RX2) (T := TX2) (N := 16) hx hb hts (mc_ inX2) hown hK g rfl 0 (by decide) rfl (hts _ (List.mem_cons_of_mem _ t_416)) (fun _ h9 => h9) 5 rfl dX2_readThrownWord_72 ?_
      refine g_callv (va_runV (As := []) (rest := []) ⟨hx, hb, hml, hown, hts⟩ (r_X8_next l dC dI L kd tys fr_23 H.size g.2.2.2.1 q0_ mq0_ kq0_) (cwV 0 hts (gV_ t_1131 t_1103 t_1104 t_184 t_1105) rfl rfl rfl (by decide +kernel) ⟨(Nat.le_of_ble_eq_true rfl), (Nat.le_of_ble_eq_true rfl)⟩) (pre3V g hK mq0_ kq0_ (by decide) (q := (RX8, TX8, 10)) rfl) rfl rfl hl.1 rfl (lv_room (Nat.le_of_ble_eq_true rfl)) dX2_readThrownWord_75 ⟨(Nat.le_of_ble_eq_true rfl), (Nat.le_of_ble_eq_true rfl)⟩) g hK (by decide) (by decide) (fx' := [(7, 12, q1_, .ref a_9), (7, 13, q1_, .int x_6), (5, 2, a_1, .int x_2), (2, 1, a0_, .ref a_1), (2, 0, a0_, .ref q0_), (2, 3, a0_, .ref q1_)]) rfl (fun fr_26 H locs hp hMr_26 g => ?_)
      obtain ⟨x_27, h_28, hF_29⟩ := hp
      have g := g.more hF_29
      refine lv_aload_n hx hb dX2_readThrownWord_78 rfl (lv_at hl 1 rfl) ?_
      refine g_getk (C := RX2) (T := TX2) (N := 16) hx hb hts (mc_ inX2) hown hK g rfl 3 (by decide) rfl (hts _ (List.mem_cons_of_mem _ t_419)) (fun _ h9 => h9) 6 rfl dX2_readThrownWord_79 ?_
      refine g_getr (K := 142) (C := RX7) (T := TX7) (N := 19) hx hb hts (mc_ inX7) hown hK g mq1_ kq1_ (by decide) rfl 9 (by decide) rfl (hts _ (List.mem_cons_of_mem _ t_657)) (fun _ h9 => h9) rfl dX2_readThrownWord_82 (fun a_30 ma_30 ka_30 g => ?_)
      refine lv_iload_n hx hb dX2_readThrownWord_85 rfl (lv_at hl 0 rfl) ?_
      refine lv_aload_n hx hb dX2_readThrownWord_86 rfl (lv_at hl 1 rfl) ?_
      refine g_getk (C := RX2) (T := TX2) (N := 16) hx hb hts (mc_ inX2) hown hK g rfl 0 (by decide) rfl (hts _ (List.mem_cons_of_mem _ t_416)) (fun _ h9 => h9) 6 rfl dX2_readThrownWord_87 ?_
      refine g_calli (va_runV (As := []) (rest := [.int r_4, .ref a_30]) ⟨hx, hb, hml, hown, hts⟩ (r_X8_place l dC dI L kd tys fr_26 H.size g.2.2.2.1 q0_ mq0_ kq0_) (cwV 0 hts (gV_ t_1110 t_1111 t_1112 t_184 t_1113) rfl rfl rfl (by decide +kernel) ⟨(Nat.le_of_ble_eq_true rfl), (Nat.le_of_ble_eq_true rfl)⟩) (pre3V g hK mq0_ kq0_ (by decide) (q := (RX8, TX8, 10)) rfl) rfl rfl hl.1 rfl (lv_room (Nat.le_of_ble_eq_true rfl)) dX2_readThrownWord_90 ⟨(Nat.le_of_ble_eq_true rfl), (Nat.le_of_ble_eq_true rfl)⟩) g hK (by decide) (by decide) (fx' := [(7, 9, q1_, .ref a_30), (8, 6, q0_, .int x_27), (7, 12, q1_, .ref a_9), (7, 13, q1_, .int x_6), (5, 2, a_1, .int x_2), (2, 1, a0_, .ref a_1), (2, 0, a0_, .ref q0_), (2, 3, a0_, .ref q1_)]) rfl (fun r_31 fr_31 H locs hp hMr_31 g => ?_)
      refine g_iast hx hb hK g ma_30 ka_30 (by decide) rfl (in_bd h_5 (by decide)) (bdT r_31) (by decide) dX2_readThrownWord_93 (fun f H locs hM_32 g => ?_)
      refine lv_iconst (v := 1) hx hb dX2_readThrownWord_94 (by decide) ?_
      subst hQ
      have kb_1 : bd 1 1 (1 : Int32) := ⟨by decide, by decide⟩
      exact W.zret (v := 1) hx hb hr (nar_z (bd_sub kb_1 (by decide) : bd 0 1 _).1 (bd_sub kb_1 (by decide) : bd 0 1 _).2) (fun t ht hW => ⟨⟨_, _, rfl, Or.inr (Or.inr (⟨rfl, x_27, h_28, x_6, h_7, (g.fcts [1, 3] rfl)⟩)), q3_of g hK ht hW⟩, g.2.2.1.F ht⟩) g.2.2.1.2.2 dX2_readThrownWord_95
    · have fc_24 := neq_f c_24
      refine lv_aload_n hx hb dX2_readThrownWord_59 rfl (lv_at hl 1 rfl) ?_
      refine g_getk (C := RX2) (T := TX2) (N := 16) hx hb hts (mc_ inX2) hown hK g rfl 3 (by decide) rfl (hts _ (List.mem_cons_of_mem _ t_419)) (fun _ h9 => h9) 6 rfl dX2_readThrownWord_60 ?_
      refine g_getr (K := 141) (C := RX7) (T := TX7) (N := 19) hx hb hts (mc_ inX7) hown hK g mq1_ kq1_ (by decide) rfl 8 (by decide) rfl (hts _ (List.mem_cons_of_mem _ t_653)) (fun _ h9 => h9) rfl dX2_readThrownWord_63 (fun a_33 ma_33 ka_33 g => ?_)
      refine lv_iload_n hx hb dX2_readThrownWord_66 rfl (lv_at hl 0 rfl) ?_
      refine lv_iconst (v := (-1)) hx hb dX2_readThrownWord_67 (by decide) ?_
      have kb_m1 : bd (-1) (-1) ((-1) : Int32) := ⟨by decide, by decide⟩
      refine g_iast hx hb hK g ma_33 ka_33 (by decide) rfl (in_bd h_5 (by decide)) (bd_sub kb_m1 (by decide)) (by decide) dX2_readThrownWord_68 (fun f H locs hM_34 g => ?_)
      refine lv_iconst (v := 0) hx hb dX2_readThrownWord_69 (by decide) ?_
      subst hQ
      have kb_0 : bd 0 0 (0 : Int32) := ⟨by decide, by decide⟩
      exact W.zret (v := 0) hx hb hr (nar_z (bd_sub kb_0 (by decide) : bd 0 1 _).1 (bd_sub kb_0 (by decide) : bd 0 1 _).2) (fun t ht hW => ⟨⟨_, _, rfl, Or.inr (Or.inl ⟨rfl, x_16, h_17, x_6, h_7, (g.fcts [1, 3] rfl)⟩), q3_of g hK ht hW⟩, g.2.2.1.F ht⟩) g.2.2.1.2.2 dX2_readThrownWord_70
set_option maxHeartbeats 4000000 in
set_option maxRecDepth 100000 in
theorem r_X2_readOnly (l : Launch) (dC : Nat → ClassId) (dI : Nat → Nat → Nat) (L : List Nat) (kd : Nat → Nat) (tys : List (ClassId × FieldType)) (f0 : Nat → va_E) (sz : Nat) (hWT : WT L kd tys f0) (a0_ : Nat) (ma0_ : a0_ ∈ L) (ka0_ : kd a0_ = 2) (q0_ : Nat) (mq0_ : q0_ ∈ L) (kq0_ : kd q0_ = 8) (q1_ : Nat) (mq1_ : q1_ ∈ L) (kq1_ : kd q1_ = 7) (q2_ : Nat) (mq2_ : q2_ ∈ L) (kq2_ : kd q2_ = 9) (hfx : Fs L kd f0 [(2, 0, a0_, .ref q0_), (2, 3, a0_, .ref q1_), (2, 4, a0_, .ref q2_)]) : Met l yX2_readOnly (.code yX2_readOnly cX2_readOnly 5 none :: lw_g) ({ frames := 2, cells := 0, slots := 0, locals := 37 }) (va_Pc [.ref a0_] (P3 (dC, dI) L tys f0 sz)) (va_Qv (fun (f : Nat → va_E) => (∃ z0_ : Int32, bd 1 500 z0_ ∧ Fs L kd f [(7, 13, q1_, .int z0_)])) (Q3 (dC, dI) L kd tys [(7, 13), (8, 6), (8, 8), (8, 9)] [140, 141, 142, 143, 144, 145] f0 sz) (pA L sz)) 0 0 (pA L sz) := by
  refine Met.ofW (cc := cX2_readOnly) (maxL := 5) (ret := none) (by decide) rfl ?_
  intro p e s m args below meth c s₁ B hml hv
  obtain ⟨rfl, hsz, hP, hK, hD0⟩ := hv
  have hx := B.exec
  have hb := B.bytes
  have hr := B.returns
  have hts := atoms_spec (ws := (.code yX2_readOnly cX2_readOnly 5 none :: lw_g)) B.pre
  have hown : s.vm.findClass RX2 = some m.cls := findClass_of_methodNamed B.named
  have hlocks := B.notSynchronized
  subst hsz
  have g : G3 (dC, dI) L kd tys s f0 [(7, 13), (8, 6), (8, 8), (8, 9)] [140, 141, 142, 143, 144, 145] f0 s.heap [] [(2, 0, a0_, .ref q0_), (2, 3, a0_, .ref q1_), (2, 4, a0_, .ref q2_)] := G3.start hP hD0 hWT hfx
  have hl := lv_entry ([.ref a0_]) (n := 5) (Nat.le_of_ble_eq_true rfl)
  rw [lg_entry_eq]
  generalize (lg_sl ([.ref a0_]) ++ List.replicate (5 - (lg_sl ([.ref a0_])).length) Slot.unset).toArray = ls at hl ⊢
  have hl : lv_has ls 5 [(0, .ref a0_)] := hl
  refine W_q (fun Q hQ => ?_)
  refine lv_aload_n hx hb dX2_readOnly_0 rfl (lv_at hl 0 rfl) ?_
  refine g_getk (C := RX2) (T := TX2) (N := 16) hx hb hts (mc_ inX2) hown hK g rfl 3 (by decide) rfl (hts _ (List.mem_cons_of_mem _ t_419)) (fun _ h9 => h9) 1 rfl dX2_readOnly_1 ?_
  refine lv_iconst (v := 5) hx hb dX2_readOnly_4 (by decide) ?_
  refine lv_aload_n hx hb dX2_readOnly_5 rfl (lv_at hl 0 rfl) ?_
  refine g_getr (K := 5) (C := RX2) (T := TX2) (N := 16) hx hb hts (mc_ inX2) hown hK g ma0_ ka0_ (by decide) rfl 1 (by decide) rfl (hts _ (List.mem_cons_of_mem _ t_417)) (fun _ h9 => h9) rfl dX2_readOnly_6 (fun a_1 ma_1 ka_1 g => ?_)
  refine g_geti (C := RX5) (T := TX5) (N := 9) hx hb hts (mc_ inX5) hown hK g ma_1 ka_1 (by decide) rfl 2 (by decide) rfl (hts _ (List.mem_cons_of_mem _ t_333)) (fun _ h9 => h9) rfl dX2_readOnly_9 (fun x_2 bx_2 g => ?_)
  refine lv_aload_n hx hb dX2_readOnly_12 rfl (lv_at hl 0 rfl) ?_
  refine g_getk (C := RX2) (T := TX2) (N := 16) hx hb hts (mc_ inX2) hown hK g rfl 0 (by decide) rfl (hts _ (List.mem_cons_of_mem _ t_416)) (fun _ h9 => h9) 2 rfl dX2_readOnly_13 ?_
  refine g_calli (va_runV (As := []) (rest := [.int x_2, .int 5, .ref q1_]) ⟨hx, hb, hml, hown, hts⟩ (r_X8_place l dC dI L kd tys f0 s.heap.size g.2.2.2.1 q0_ mq0_ kq0_) (cwV 0 hts (gV_ t_1110 t_1111 t_1112 t_184 t_1113) rfl rfl rfl (by decide +kernel) ⟨(Nat.le_of_ble_eq_true rfl), (Nat.le_of_ble_eq_true rfl)⟩) (pre3V g hK mq0_ kq0_ (by decide) (q := (RX8, TX8, 10)) rfl) rfl rfl hl.1 rfl (lv_room (Nat.le_of_ble_eq_true rfl)) dX2_readOnly_16 ⟨(Nat.le_of_ble_eq_true rfl), (Nat.le_of_ble_eq_true rfl)⟩) g hK (by decide) (by decide) (fx' := [(5, 2, a_1, .int x_2), (2, 1, a0_, .ref a_1), (2, 0, a0_, .ref q0_), (2, 3, a0_, .ref q1_), (2, 4, a0_, .ref q2_)]) rfl (fun r_3 fr_3 H locs hp hMr_3 g => ?_)
  refine g_calli (va_runV (As := [.int 5, .int x_2, .int r_3]) (rest := []) ⟨hx, hb, hml, hown, hts⟩ (r_X7_addMark l dC dI L kd tys fr_3 H.size g.2.2.2.1 q1_ mq1_ kq1_ 5 x_2 r_3) (cwV 3 hts (gV_ t_1173 t_1174 t_1175 t_191 t_1176) rfl rfl rfl (by decide +kernel) ⟨(Nat.le_of_ble_eq_true rfl), (Nat.le_of_ble_eq_true rfl)⟩) (pre3V g hK mq1_ kq1_ (by decide) (q := (RX7, TX7, 19)) rfl) rfl rfl hl.1 rfl (lv_room (Nat.le_of_ble_eq_true rfl)) dX2_readOnly_19 ⟨(Nat.le_of_ble_eq_true rfl), (Nat.le_of_ble_eq_true rfl)⟩) g hK (by decide) (by decide) (fx' := [(5, 2, a_1, .int x_2), (2, 1, a0_, .ref a_1), (2, 0, a0_, .ref q0_), (2, 3, a0_, .ref q1_), (2, 4, a0_, .ref q2_)]) rfl (fun r_4 fr_4 H locs hp hMr_4 g => ?_)
  obtain ⟨h_5, x_6, h_7, hF_8⟩ := hp
  have g := g.more hF_8
  refine lv_istore_n (lv' := [(1, .int r_4), (0, .ref a0_)]) hx hb dX2_readOnly_22 rfl hl (by decide) rfl (fun ls hl => ?_)
  refine lv_iconst (v := 1) hx hb dX2_readOnly_23 (by decide) ?_
  refine lv_istore_n (lv' := [(2, .int 1), (1, .int r_4), (0, .ref a0_)]) hx hb dX2_readOnly_24 rfl hl (by decide) rfl (fun ls hl => ?_)
  refine lv_iconst (v := 0) hx hb dX2_readOnly_25 (by decide) ?_
  refine lv_istore_n (lv' := [(3, .int 0), (2, .int 1), (1, .int r_4), (0, .ref a0_)]) hx hb dX2_readOnly_26 rfl hl (by decide) rfl (fun ls hl => ?_)
  have loop_9 : ∀ (n : Nat) (v27_3 : Int32) (v27_2 : Int32), bd 0 1201 v27_3 → bd 0 1 v27_2 → (1201 - v27_3.toInt < (n : Int)) → ∀ (f : Nat → va_E) (H : Heap) (locs : List Loc) (ls : Array Slot), G3 (dC, dI) L kd tys s f0 [(7, 13), (8, 6), (8, 8), (8, 9)] [140, 141, 142, 143, 144, 145] f H locs [(7, 13, q1_, .int x_6), (5, 2, a_1, .int x_2), (2, 1, a0_, .ref a_1), (2, 0, a0_, .ref q0_), (2, 3, a0_, .ref q1_), (2, 4, a0_, .ref q2_)] → lv_has ls 5 [(3, .int v27_3), (2, .int v27_2), (1, .int r_4), (0, .ref a0_)] → W p l e ({ frames := 2, cells := 0, slots := 0, locals := 37 } : Room) s m [.ref a0_].toArray below meth c H locs 0 0 Q (F0 m 27 ls []) := by
    intro n27
    induction n27 with
    | zero =>
      intro v27_3 v27_2 bv27_3 bv27_2 hm27 f H locs ls g  hl
      exact absurd hm27 (by have h9_v27_3 := bv27_3; unfold bd at h9_v27_3; have h9_v27_2 := bv27_2; unfold bd at h9_v27_2; omega)
    | succ n27 ih27 =>
      intro v27_3 v27_2 bv27_3 bv27_2 hm27 f H locs ls g  hl
      refine lv_iload_n hx hb dX2_readOnly_27 rfl (lv_at hl 0 rfl) ?_
      refine lv_sipush (v := 1200) hx hb dX2_readOnly_28 (by decide) ?_
      have kb_1200 : bd 1200 1200 (1200 : Int32) := ⟨by decide, by decide⟩
      refine lv_icmp_gt (tgt := 165) hx hb dX2_readOnly_31 (by decide) (fun c_10 => ?_) (fun c_10 => ?_)
      · have fc_10 := lt_f c_10
        have b_11 : bd 1201 1201 v27_3 := ltR fc_10 kb_1200 bv27_3 (by decide)
        subst hQ
        exact W.vret hx hb hr (fun t ht hW => ⟨⟨_, rfl, ⟨x_6, h_7, (g.fcts [0] rfl)⟩, q3_of g hK ht hW⟩, g.2.2.1.F ht⟩) g.2.2.1.2.2 dX2_readOnly_165
      · have fc_10 := nlt_f c_10
        have b_12 : bd 0 1200 v27_3 := leL fc_10 bv27_3 kb_1200 (by decide)
        refine lv_iload_n hx hb dX2_readOnly_34 rfl (lv_at hl 1 rfl) ?_
        have kb_0 : bd 0 0 (0 : Int32) := ⟨by decide, by decide⟩
        refine lv_if_eq (tgt := 165) hx hb dX2_readOnly_35 (by decide) (fun c_13 => ?_) (fun c_13 => ?_)
        · have fc_13 := eq_f c_13
          have b_14 : bd 0 0 v27_2 := eqX fc_13 bv27_2 kb_0 (by decide)
          subst hQ
          exact W.vret hx hb hr (fun t ht hW => ⟨⟨_, rfl, ⟨x_6, h_7, (g.fcts [0] rfl)⟩, q3_of g hK ht hW⟩, g.2.2.1.F ht⟩) g.2.2.1.2.2 dX2_readOnly_165
        · have fc_13 := neq_f c_13
          have b_15 : bd 1 1 v27_2 := neX fc_13 bv27_2 kb_0 (by decide)
          refine lv_aload_n hx hb dX2_readOnly_38 rfl (lv_at hl 3 rfl) ?_
          refine g_getk (C := RX2) (T := TX2) (N := 16) hx hb hts (mc_ inX2) hown hK g rfl 4 (by decide) rfl (hts _ (List.mem_cons_of_mem _ t_420)) (fun _ h9 => h9) 5 rfl dX2_readOnly_39 ?_
          refine lv_aload_n hx hb dX2_readOnly_42 rfl (lv_at hl 3 rfl) ?_
          refine g_getk (C := RX2) (T := TX2) (N := 16) hx hb hts (mc_ inX2) hown hK g rfl 0 (by decide) rfl (hts _ (List.mem_cons_of_mem _ t_416)) (fun _ h9 => h9) 3 rfl dX2_readOnly_43 ?_
          refine g_calll (va_runV (As := []) (rest := [.ref q2_]) ⟨hx, hb, hml, hown, hts⟩ (r_X8_value l dC dI L kd tys f H.size g.2.2.2.1 q0_ mq0_ kq0_) (cwV 0 hts (gV_ t_1114 t_1115 t_1116 t_184 t_1117) rfl rfl rfl (by decide +kernel) ⟨(Nat.le_of_ble_eq_true rfl), (Nat.le_of_ble_eq_true rfl)⟩) (pre3V g hK mq0_ kq0_ (by decide) (q := (RX8, TX8, 10)) rfl) rfl rfl hl.1 rfl (lv_room (Nat.le_of_ble_eq_true rfl)) dX2_readOnly_46 ⟨(Nat.le_of_ble_eq_true rfl), (Nat.le_of_ble_eq_true rfl)⟩) g hK (by decide) (by decide) (fx' := [(7, 13, q1_, .int x_6), (5, 2, a_1, .int x_2), (2, 1, a0_, .ref a_1), (2, 0, a0_, .ref q0_), (2, 3, a0_, .ref q1_), (2, 4, a0_, .ref q2_)]) rfl (fun r_16 fr_16 H locs hp hMr_16 g => ?_)
          refine g_calli (va_runV (As := [.long r_16]) (rest := []) ⟨hx, hb, hml, hown, hts⟩ (r_X9_fieldNamed l dC dI L kd tys fr_16 H.size g.2.2.2.1 q2_ mq2_ kq2_ r_16) (cwV 1 hts (gV_ t_1147 t_1148 t_1149 t_192 t_1150) rfl rfl rfl (by decide +kernel) ⟨(Nat.le_of_ble_eq_true rfl), (Nat.le_of_ble_eq_true rfl)⟩) (pre3V g hK mq2_ kq2_ (by decide) (q := (RX9, TX9, 13)) rfl) rfl rfl hl.1 rfl (lv_room (Nat.le_of_ble_eq_true rfl)) dX2_readOnly_49 ⟨(Nat.le_of_ble_eq_true rfl), (Nat.le_of_ble_eq_true rfl)⟩) g hK (by decide) (by decide) (fx' := [(7, 13, q1_, .int x_6), (5, 2, a_1, .int x_2), (2, 1, a0_, .ref a_1), (2, 0, a0_, .ref q0_), (2, 3, a0_, .ref q1_), (2, 4, a0_, .ref q2_)]) rfl (fun r_17 fr_17 H locs hp hMr_17 g => ?_)
          obtain ⟨h_18, -⟩ := hp
          refine lv_istore (lv' := [(4, .int r_17), (3, .int v27_3), (2, .int v27_2), (1, .int r_4), (0, .ref a0_)]) hx hb dX2_readOnly_52 hl (by decide) rfl (fun ls hl => ?_)
          refine lv_aload_n hx hb dX2_readOnly_54 rfl (lv_at hl 4 rfl) ?_
          refine g_getk (C := RX2) (T := TX2) (N := 16) hx hb hts (mc_ inX2) hown hK g rfl 0 (by decide) rfl (hts _ (List.mem_cons_of_mem _ t_416)) (fun _ h9 => h9) 3 rfl dX2_readOnly_55 ?_
          refine g_calli (va_runV (As := []) (rest := []) ⟨hx, hb, hml, hown, hts⟩ (r_X8_kind l dC dI L kd tys fr_17 H.size g.2.2.2.1 q0_ mq0_ kq0_) (cwV 0 hts (gV_ t_1118 t_1119 t_1120 t_184 t_1121) rfl rfl rfl (by decide +kernel) ⟨(Nat.le_of_ble_eq_true rfl), (Nat.le_of_ble_eq_true rfl)⟩) (pre3V g hK mq0_ kq0_ (by decide) (q := (RX8, TX8, 10)) rfl) rfl rfl hl.1 rfl (lv_room (Nat.le_of_ble_eq_true rfl)) dX2_readOnly_58 ⟨(Nat.le_of_ble_eq_true rfl), (Nat.le_of_ble_eq_true rfl)⟩) g hK (by decide) (by decide) (fx' := [(7, 13, q1_, .int x_6), (5, 2, a_1, .int x_2), (2, 1, a0_, .ref a_1), (2, 0, a0_, .ref q0_), (2, 3, a0_, .ref q1_), (2, 4, a0_, .ref q2_)]) rfl (fun r_19 fr_19 H locs hp hMr_19 g => ?_)
          refine lv_iconst (v := 3) hx hb dX2_readOnly_61 (by decide) ?_
          have kb_3 : bd 3 3 (3 : Int32) := ⟨by decide, by decide⟩
          refine lv_icmp_eq (tgt := 83) hx hb dX2_readOnly_62 (by decide) (fun c_20 => ?_) (fun c_20 => ?_)
          · have fc_20 := eq_f c_20
            have b_21 : bd 3 3 r_19 := eqX fc_20 (bdT r_19) kb_3 (by decide)
            refine lv_iload hx hb dX2_readOnly_83 (lv_at hl 0 rfl) ?_
            refine lv_iconst (v := (-1)) hx hb dX2_readOnly_85 (by decide) ?_
            have kb_m1 : bd (-1) (-1) ((-1) : Int32) := ⟨by decide, by decide⟩
            refine lv_icmp_ne (tgt := 107) hx hb dX2_readOnly_86 (by decide) (fun c_22 => ?_) (fun c_22 => ?_)
            · have fc_22 := neq_f c_22
              have b_23 : bd 0 9 r_17 := neX fc_22 h_18 kb_m1 (by decide)
              refine lv_aload_n hx hb dX2_readOnly_107 rfl (lv_at hl 4 rfl) ?_
              refine g_getk (C := RX2) (T := TX2) (N := 16) hx hb hts (mc_ inX2) hown hK g rfl 3 (by decide) rfl (hts _ (List.mem_cons_of_mem _ t_419)) (fun _ h9 => h9) 4 rfl dX2_readOnly_108 ?_
              refine g_getr (K := 143) (C := RX7) (T := TX7) (N := 19) hx hb hts (mc_ inX7) hown hK g mq1_ kq1_ (by decide) rfl 10 (by decide) rfl (hts _ (List.mem_cons_of_mem _ t_659)) (fun _ h9 => h9) rfl dX2_readOnly_111 (fun a_24 ma_24 ka_24 g => ?_)
              refine lv_iload_n hx hb dX2_readOnly_114 rfl (lv_at hl 3 rfl) ?_
              refine lv_dup2_11 hx hb dX2_readOnly_115 rfl rfl ?_
              refine g_iald hx hb hK g ma_24 ka_24 (by decide) rfl (in_bd h_5 (by decide)) dX2_readOnly_116 (fun x_25 bx_25 cx_25 => ?_)
              refine lv_iconst (v := 1) hx hb dX2_readOnly_117 (by decide) ?_
              refine lv_iload hx hb dX2_readOnly_118 (lv_at hl 0 rfl) ?_
              refine lv_ishl hx hb dX2_readOnly_120 ?_
              refine lv_topi (fun y_26 ey_26 => ?_)
              refine lv_ior hx hb dX2_readOnly_121 ?_
              refine lv_topi (fun y_27 ey_27 => ?_)
              refine g_iast hx hb hK g ma_24 ka_24 (by decide) rfl (in_bd h_5 (by decide)) (bdT y_27) (by decide) dX2_readOnly_122 (fun f H locs hM_28 g => ?_)
              refine lv_aload_n hx hb dX2_readOnly_123 rfl (lv_at hl 4 rfl) ?_
              refine g_getk (C := RX2) (T := TX2) (N := 16) hx hb hts (mc_ inX2) hown hK g rfl 0 (by decide) rfl (hts _ (List.mem_cons_of_mem _ t_416)) (fun _ h9 => h9) 4 rfl dX2_readOnly_124 ?_
              refine g_callv (va_runV (As := []) (rest := []) ⟨hx, hb, hml, hown, hts⟩ (r_X8_next l dC dI L kd tys f H.size g.2.2.2.1 q0_ mq0_ kq0_) (cwV 0 hts (gV_ t_1131 t_1103 t_1104 t_184 t_1105) rfl rfl rfl (by decide +kernel) ⟨(Nat.le_of_ble_eq_true rfl), (Nat.le_of_ble_eq_true rfl)⟩) (pre3V g hK mq0_ kq0_ (by decide) (q := (RX8, TX8, 10)) rfl) rfl rfl hl.1 rfl (lv_room (Nat.le_of_ble_eq_true rfl)) dX2_readOnly_127 ⟨(Nat.le_of_ble_eq_true rfl), (Nat.le_of_ble_eq_true rfl)⟩) g hK (by decide) (by decide) (fx' := [(7, 10, q1_, .ref a_24), (7, 13, q1_, .int x_6), (5, 2, a_1, .int x_2), (2, 1, a0_, .ref a_1), (2, 0, a0_, .ref q0_), (2, 3, a0_, .ref q1_), (2, 4, a0_, .ref q2_)]) rfl (fun fr_29 H locs hp hMr_29 g => ?_)
              obtain ⟨x_30, h_31, hF_32⟩ := hp
              have g := g.more hF_32
              refine lv_aload_n hx hb dX2_readOnly_130 rfl (lv_at hl 4 rfl) ?_
              refine g_getk (C := RX2) (T := TX2) (N := 16) hx hb hts (mc_ inX2) hown hK g rfl 0 (by decide) rfl (hts _ (List.mem_cons_of_mem _ t_416)) (fun _ h9 => h9) 5 rfl dX2_readOnly_131 ?_
              refine g_calli (va_runV (As := []) (rest := []) ⟨hx, hb, hml, hown, hts⟩ (r_X8_kind l dC dI L kd tys fr_29 H.size g.2.2.2.1 q0_ mq0_ kq0_) (cwV 0 hts (gV_ t_1118 t_1119 t_1120 t_184 t_1121) rfl rfl rfl (by decide +kernel) ⟨(Nat.le_of_ble_eq_true rfl), (Nat.le_of_ble_eq_true rfl)⟩) (pre3V g hK mq0_ kq0_ (by decide) (q := (RX8, TX8, 10)) rfl) rfl rfl hl.1 rfl (lv_room (Nat.le_of_ble_eq_true rfl)) dX2_readOnly_134 ⟨(Nat.le_of_ble_eq_true rfl), (Nat.le_of_ble_eq_true rfl)⟩) g hK (by decide) (by decide) (fx' := [(8, 6, q0_, .int x_30), (7, 10, q1_, .ref a_24), (7, 13, q1_, .int x_6), (5, 2, a_1, .int x_2), (2, 1, a0_, .ref a_1), (2, 0, a0_, .ref q0_), (2, 3, a0_, .ref q1_), (2, 4, a0_, .ref q2_)]) rfl (fun r_33 fr_33 H locs hp hMr_33 g => ?_)
              refine lv_bipush (v := 44) hx hb dX2_readOnly_137 (by decide) ?_
              have kb_44 : bd 44 44 (44 : Int32) := ⟨by decide, by decide⟩
              refine lv_icmp_ne (tgt := 146) hx hb dX2_readOnly_139 (by decide) (fun c_34 => ?_) (fun c_34 => ?_)
              · have fc_34 := neq_f c_34
                refine lv_iconst (v := 0) hx hb dX2_readOnly_146 (by decide) ?_
                refine lv_istore_n (lv' := [(2, .int 0), (4, .int r_17), (3, .int v27_3), (1, .int r_4), (0, .ref a0_)]) hx hb dX2_readOnly_147 rfl hl (by decide) rfl (fun ls hl => ?_)
                refine lv_iload_n hx hb dX2_readOnly_148 rfl (lv_at hl 0 rfl) ?_
                refine lv_if_eq (tgt := 159) hx hb dX2_readOnly_149 (by decide) (fun c_ => ?_) (fun c_ => absurd (by decide) c_)
                have kb_1 : bd 1 1 (1 : Int32) := ⟨by decide, by decide⟩
                obtain ⟨y_35, ey_35⟩ : ∃ z : Int32, z = v27_3 + 1 := ⟨_, rfl⟩
                refine lv_iinc (v := y_35) (lv' := [(3, .int y_35), (2, .int 0), (4, .int r_17), (1, .int r_4), (0, .ref a0_)]) hx hb dX2_readOnly_159 hl (k := 2) rfl (by rw [ey_35]; rfl) (by decide) rfl (fun ls hl => ?_)
                have ty_35 := add_bd ey_35 b_12 kb_1 (by decide)
                have b_36 : bd 1 1201 y_35 := add_rg ty_35 b_12 kb_1 (by decide)
                refine lv_goto (tgt := 27) hx hb dX2_readOnly_162 (by decide) ?_
                have hl9 := lv_sub hl [0, 1, 3, 4] (by rfl : lv_pick [(3, .int y_35), (2, .int 0), (4, .int r_17), (1, .int r_4), (0, .ref a0_)] [0, 1, 3, 4] = [(3, .int y_35), (2, .int 0), (1, .int r_4), (0, .ref a0_)])
                have g9 := g.sub (fx' := [(7, 13, q1_, .int x_6), (5, 2, a_1, .int x_2), (2, 1, a0_, .ref a_1), (2, 0, a0_, .ref q0_), (2, 3, a0_, .ref q1_), (2, 4, a0_, .ref q2_)]) [2, 3, 4, 5, 6, 7] rfl
                exact ih27  y_35 0 (bd_sub b_36 (by decide)) (bd_sub kb_0 (by decide)) (by have h9_0 := b_36; unfold bd at h9_0; have h9_1 := bv27_2; unfold bd at h9_1; have h9_2 := bv27_3; unfold bd at h9_2; have h9_3 := kb_0; unfold bd at h9_3; have h9_4 := kb_1; unfold bd at h9_4; have h9_5 := kb_1200; unfold bd at h9_5; have h9_6 := kb_3; unfold bd at h9_6; have h9_7 := kb_44; unfold bd at h9_7; have h9_8 := kb_m1; unfold bd at h9_8; omega) _ _ _ _ g9  hl9
              · have fc_34 := eq_f c_34
                have b_37 : bd 44 44 r_33 := eqX fc_34 (bdT r_33) kb_44 (by decide)
                refine lv_iconst (v := 1) hx hb dX2_readOnly_142 (by decide) ?_
                refine lv_goto (tgt := 147) hx hb dX2_readOnly_143 (by decide) ?_
                refine lv_istore_n (lv' := [(2, .int 1), (4, .int r_17), (3, .int v27_3), (1, .int r_4), (0, .ref a0_)]) hx hb dX2_readOnly_147 rfl hl (by decide) rfl (fun ls hl => ?_)
                refine lv_iload_n hx hb dX2_readOnly_148 rfl (lv_at hl 0 rfl) ?_
                refine lv_if_eq (tgt := 159) hx hb dX2_readOnly_149 (by decide) (fun c_ => absurd c_ (by decide)) (fun c_ => ?_)
                refine lv_aload_n hx hb dX2_readOnly_152 rfl (lv_at hl 4 rfl) ?_
                refine g_getk (C := RX2) (T := TX2) (N := 16) hx hb hts (mc_ inX2) hown hK g rfl 0 (by decide) rfl (hts _ (List.mem_cons_of_mem _ t_416)) (fun _ h9 => h9) 5 rfl dX2_readOnly_153 ?_
                refine g_callv (va_runV (As := []) (rest := []) ⟨hx, hb, hml, hown, hts⟩ (r_X8_next l dC dI L kd tys fr_33 H.size g.2.2.2.1 q0_ mq0_ kq0_) (cwV 0 hts (gV_ t_1131 t_1103 t_1104 t_184 t_1105) rfl rfl rfl (by decide +kernel) ⟨(Nat.le_of_ble_eq_true rfl), (Nat.le_of_ble_eq_true rfl)⟩) (pre3V g hK mq0_ kq0_ (by decide) (q := (RX8, TX8, 10)) rfl) rfl rfl hl.1 rfl (lv_room (Nat.le_of_ble_eq_true rfl)) dX2_readOnly_156 ⟨(Nat.le_of_ble_eq_true rfl), (Nat.le_of_ble_eq_true rfl)⟩) g hK (by decide) (by decide) (fx' := [(7, 10, q1_, .ref a_24), (7, 13, q1_, .int x_6), (5, 2, a_1, .int x_2), (2, 1, a0_, .ref a_1), (2, 0, a0_, .ref q0_), (2, 3, a0_, .ref q1_), (2, 4, a0_, .ref q2_)]) rfl (fun fr_38 H locs hp hMr_38 g => ?_)
                obtain ⟨x_39, h_40, hF_41⟩ := hp
                have g := g.more hF_41
                have kb_1 : bd 1 1 (1 : Int32) := ⟨by decide, by decide⟩
                obtain ⟨y_42, ey_42⟩ : ∃ z : Int32, z = v27_3 + 1 := ⟨_, rfl⟩
                refine lv_iinc (v := y_42) (lv' := [(3, .int y_42), (2, .int 1), (4, .int r_17), (1, .int r_4), (0, .ref a0_)]) hx hb dX2_readOnly_159 hl (k := 2) rfl (by rw [ey_42]; rfl) (by decide) rfl (fun ls hl => ?_)
                have ty_42 := add_bd ey_42 b_12 kb_1 (by decide)
                have b_43 : bd 1 1201 y_42 := add_rg ty_42 b_12 kb_1 (by decide)
                refine lv_goto (tgt := 27) hx hb dX2_readOnly_162 (by decide) ?_
                have hl9 := lv_sub hl [0, 1, 3, 4] (by rfl : lv_pick [(3, .int y_42), (2, .int 1), (4, .int r_17), (1, .int r_4), (0, .ref a0_)] [0, 1, 3, 4] = [(3, .int y_42), (2, .int 1), (1, .int r_4), (0, .ref a0_)])
                have g9 := g.sub (fx' := [(7, 13, q1_, .int x_6), (5, 2, a_1, .int x_2), (2, 1, a0_, .ref a_1), (2, 0, a0_, .ref q0_), (2, 3, a0_, .ref q1_), (2, 4, a0_, .ref q2_)]) [2, 3, 4, 5, 6, 7] rfl
                exact ih27  y_42 1 (bd_sub b_43 (by decide)) (bd_sub kb_1 (by decide)) (by have h9_0 := b_43; unfold bd at h9_0; have h9_1 := bv27_2; unfold bd at h9_1; have h9_2 := bv27_3; unfold bd at h9_2; have h9_3 := kb_0; unfold bd at h9_3; have h9_4 := kb_1; unfold bd at h9_4; have h9_5 := kb_1200; unfold bd at h9_5; have h9_6 := kb_3; unfold bd at h9_6; have h9_7 := kb_44; unfold bd at h9_7; have h9_8 := kb_m1; unfold bd at h9_8; omega) _ _ _ _ g9  hl9
            · have fc_22 := eq_f c_22
              have b_44 : bd (-1) (-1) r_17 := eqX fc_22 h_18 kb_m1 (by decide)
              refine lv_aload_n hx hb dX2_readOnly_89 rfl (lv_at hl 4 rfl) ?_
              refine g_getk (C := RX2) (T := TX2) (N := 16) hx hb hts (mc_ inX2) hown hK g rfl 0 (by decide) rfl (hts _ (List.mem_cons_of_mem _ t_416)) (fun _ h9 => h9) 3 rfl dX2_readOnly_90 ?_
              refine lv_iconst (v := 2) hx hb dX2_readOnly_93 (by decide) ?_
              refine lv_aload_n hx hb dX2_readOnly_94 rfl (lv_at hl 4 rfl) ?_
              refine g_getk (C := RX2) (T := TX2) (N := 16) hx hb hts (mc_ inX2) hown hK g rfl 0 (by decide) rfl (hts _ (List.mem_cons_of_mem _ t_416)) (fun _ h9 => h9) 3 rfl dX2_readOnly_95 ?_
              refine g_calli (va_runV (As := []) (rest := [.int 2, .ref q0_]) ⟨hx, hb, hml, hown, hts⟩ (r_X8_place l dC dI L kd tys fr_19 H.size g.2.2.2.1 q0_ mq0_ kq0_) (cwV 0 hts (gV_ t_1110 t_1111 t_1112 t_184 t_1113) rfl rfl rfl (by decide +kernel) ⟨(Nat.le_of_ble_eq_true rfl), (Nat.le_of_ble_eq_true rfl)⟩) (pre3V g hK mq0_ kq0_ (by decide) (q := (RX8, TX8, 10)) rfl) rfl rfl hl.1 rfl (lv_room (Nat.le_of_ble_eq_true rfl)) dX2_readOnly_98 ⟨(Nat.le_of_ble_eq_true rfl), (Nat.le_of_ble_eq_true rfl)⟩) g hK (by decide) (by decide) (fx' := [(7, 13, q1_, .int x_6), (5, 2, a_1, .int x_2), (2, 1, a0_, .ref a_1), (2, 0, a0_, .ref q0_), (2, 3, a0_, .ref q1_), (2, 4, a0_, .ref q2_)]) rfl (fun r_45 fr_45 H locs hp hMr_45 g => ?_)
              have kb_2 : bd 2 2 (2 : Int32) := ⟨by decide, by decide⟩
              refine g_callv (va_runV (As := [.int 2, .int r_45]) (rest := []) ⟨hx, hb, hml, hown, hts⟩ (r_X8_fail_3 l dC dI L kd tys fr_45 H.size g.2.2.2.1 q0_ mq0_ kq0_ 2 kb_2 r_45) (cwV 2 hts (gV_ t_1122 t_1107 t_1108 t_184 t_1109) rfl rfl rfl (by decide +kernel) ⟨(Nat.le_of_ble_eq_true rfl), (Nat.le_of_ble_eq_true rfl)⟩) (pre3V g hK mq0_ kq0_ (by decide) (q := (RX8, TX8, 10)) rfl) rfl rfl hl.1 rfl (lv_room (Nat.le_of_ble_eq_true rfl)) dX2_readOnly_101 ⟨(Nat.le_of_ble_eq_true rfl), (Nat.le_of_ble_eq_true rfl)⟩) g hK (by decide) (by decide) (fx' := [(7, 13, q1_, .int x_6), (5, 2, a_1, .int x_2), (2, 1, a0_, .ref a_1), (2, 0, a0_, .ref q0_), (2, 3, a0_, .ref q1_), (2, 4, a0_, .ref q2_)]) rfl (fun fr_46 H locs hp hMr_46 g => ?_)
              obtain ⟨x_47, h_48, hF_49⟩ := hp
              have g := g.more hF_49
              refine lv_goto (tgt := 123) hx hb dX2_readOnly_104 (by decide) ?_
              refine lv_aload_n hx hb dX2_readOnly_123 rfl (lv_at hl 4 rfl) ?_
              refine g_getk (C := RX2) (T := TX2) (N := 16) hx hb hts (mc_ inX2) hown hK g rfl 0 (by decide) rfl (hts _ (List.mem_cons_of_mem _ t_416)) (fun _ h9 => h9) 5 rfl dX2_readOnly_124 ?_
              have kb_1201 : bd 1201 1201 (1201 : Int32) := ⟨by decide, by decide⟩
              refine g_callv (va_runV (As := []) (rest := []) ⟨hx, hb, hml, hown, hts⟩ (r_X8_next_2 l dC dI L kd tys fr_46 H.size g.2.2.2.1 q0_ mq0_ kq0_ 1201 kb_1201 (g.fcts [0] rfl)) (cwV 0 hts (gV_ t_1131 t_1103 t_1104 t_184 t_1105) rfl rfl rfl (by decide +kernel) ⟨(Nat.le_of_ble_eq_true rfl), (Nat.le_of_ble_eq_true rfl)⟩) (pre3V g hK mq0_ kq0_ (by decide) (q := (RX8, TX8, 10)) rfl) rfl rfl hl.1 rfl (lv_room (Nat.le_of_ble_eq_true rfl)) dX2_readOnly_127 ⟨(Nat.le_of_ble_eq_true rfl), (Nat.le_of_ble_eq_true rfl)⟩) g hK (by decide) (by decide) (fx' := [(8, 6, q0_, .int 1201), (8, 8, q0_, .int x_47), (7, 13, q1_, .int x_6), (5, 2, a_1, .int x_2), (2, 1, a0_, .ref a_1), (2, 0, a0_, .ref q0_), (2, 3, a0_, .ref q1_), (2, 4, a0_, .ref q2_)]) rfl (fun fr_50 H locs hp hMr_50 g => ?_)
              refine lv_aload_n hx hb dX2_readOnly_130 rfl (lv_at hl 4 rfl) ?_
              refine g_getk (C := RX2) (T := TX2) (N := 16) hx hb hts (mc_ inX2) hown hK g rfl 0 (by decide) rfl (hts _ (List.mem_cons_of_mem _ t_416)) (fun _ h9 => h9) 5 rfl dX2_readOnly_131 ?_
              refine g_calli (va_runV (As := []) (rest := []) ⟨hx, hb, hml, hown, hts⟩ (r_X8_kind_2 l dC dI L kd tys fr_50 H.size g.2.2.2.1 q0_ mq0_ kq0_ 1201 kb_1201 (g.fcts [0] rfl)) (cwV 0 hts (gV_ t_1118 t_1119 t_1120 t_184 t_1121) rfl rfl rfl (by decide +kernel) ⟨(Nat.le_of_ble_eq_true rfl), (Nat.le_of_ble_eq_true rfl)⟩) (pre3V g hK mq0_ kq0_ (by decide) (q := (RX8, TX8, 10)) rfl) rfl rfl hl.1 rfl (lv_room (Nat.le_of_ble_eq_true rfl)) dX2_readOnly_134 ⟨(Nat.le_of_ble_eq_true rfl), (Nat.le_of_ble_eq_true rfl)⟩) g hK (by decide) (by decide) (fx' := [(8, 6, q0_, .int 1201), (8, 8, q0_, .int x_47), (7, 13, q1_, .int x_6), (5, 2, a_1, .int x_2), (2, 1, a0_, .ref a_1), (2, 0, a0_, .ref q0_), (2, 3, a0_, .ref q1_), (2, 4, a0_, .ref q2_)]) rfl (fun r_51 fr_51 H locs hp hMr_51 g => ?_)
              obtain ⟨h_52, -⟩ := hp
              obtain rfl : r_51 = 0 := h_52
              refine lv_bipush (v := 44) hx hb dX2_readOnly_137 (by decide) ?_
              refine lv_icmp_ne (tgt := 146) hx hb dX2_readOnly_139 (by decide) (fun c_ => ?_) (fun c_ => absurd c_ (by decide))
              refine lv_iconst (v := 0) hx hb dX2_readOnly_146 (by decide) ?_
              refine lv_istore_n (lv' := [(2, .int 0), (4, .int r_17), (3, .int v27_3), (1, .int r_4), (0, .ref a0_)]) hx hb dX2_readOnly_147 rfl hl (by decide) rfl (fun ls hl => ?_)
              refine lv_iload_n hx hb dX2_readOnly_148 rfl (lv_at hl 0 rfl) ?_
              refine lv_if_eq (tgt := 159) hx hb dX2_readOnly_149 (by decide) (fun c_ => ?_) (fun c_ => absurd (by decide) c_)
              have kb_1 : bd 1 1 (1 : Int32) := ⟨by decide, by decide⟩
              obtain ⟨y_53, ey_53⟩ : ∃ z : Int32, z = v27_3 + 1 := ⟨_, rfl⟩
              refine lv_iinc (v := y_53) (lv' := [(3, .int y_53), (2, .int 0), (4, .int r_17), (1, .int r_4), (0, .ref a0_)]) hx hb dX2_readOnly_159 hl (k := 2) rfl (by rw [ey_53]; rfl) (by decide) rfl (fun ls hl => ?_)
              have ty_53 := add_bd ey_53 b_12 kb_1 (by decide)
              have b_54 : bd 1 1201 y_53 := add_rg ty_53 b_12 kb_1 (by decide)
              refine lv_goto (tgt := 27) hx hb dX2_readOnly_162 (by decide) ?_
              have hl9 := lv_sub hl [0, 1, 3, 4] (by rfl : lv_pick [(3, .int y_53), (2, .int 0), (4, .int r_17), (1, .int r_4), (0, .ref a0_)] [0, 1, 3, 4] = [(3, .int y_53), (2, .int 0), (1, .int r_4), (0, .ref a0_)])
              have g9 := g.sub (fx' := [(7, 13, q1_, .int x_6), (5, 2, a_1, .int x_2), (2, 1, a0_, .ref a_1), (2, 0, a0_, .ref q0_), (2, 3, a0_, .ref q1_), (2, 4, a0_, .ref q2_)]) [2, 3, 4, 5, 6, 7] rfl
              exact ih27  y_53 0 (bd_sub b_54 (by decide)) (bd_sub kb_0 (by decide)) (by have h9_0 := b_54; unfold bd at h9_0; have h9_1 := bv27_2; unfold bd at h9_1; have h9_2 := bv27_3; unfold bd at h9_2; have h9_3 := kb_0; unfold bd at h9_3; have h9_4 := kb_1; unfold bd at h9_4; have h9_5 := kb_1200; unfold bd at h9_5; have h9_6 := kb_1201; unfold bd at h9_6; have h9_7 := kb_2; unfold bd at h9_7; have h9_8 := kb_3; unfold bd at h9_8; have h9_9 := kb_m1; unfold bd at h9_9; omega) _ _ _ _ g9  hl9
          · have fc_20 := neq_f c_20
            refine lv_aload_n hx hb dX2_readOnly_65 rfl (lv_at hl 4 rfl) ?_
            refine g_getk (C := RX2) (T := TX2) (N := 16) hx hb hts (mc_ inX2) hown hK g rfl 0 (by decide) rfl (hts _ (List.mem_cons_of_mem _ t_416)) (fun _ h9 => h9) 3 rfl dX2_readOnly_66 ?_
            refine lv_iconst (v := 1) hx hb dX2_readOnly_69 (by decide) ?_
            refine lv_aload_n hx hb dX2_readOnly_70 rfl (lv_at hl 4 rfl) ?_
            refine g_getk (C := RX2) (T := TX2) (N := 16) hx hb hts (mc_ inX2) hown hK g rfl 0 (by decide) rfl (hts _ (List.mem_cons_of_mem _ t_416)) (fun _ h9 => h9) 3 rfl dX2_readOnly_71 ?_
            refine g_calli (va_runV (As := []) (rest := [.int 1, .ref q0_]) ⟨hx, hb, hml, hown, hts⟩ (r_X8_place l dC dI L kd tys fr_19 H.size g.2.2.2.1 q0_ mq0_ kq0_) (cwV 0 hts (gV_ t_1110 t_1111 t_1112 t_184 t_1113) rfl rfl rfl (by decide +kernel) ⟨(Nat.le_of_ble_eq_true rfl), (Nat.le_of_ble_eq_true rfl)⟩) (pre3V g hK mq0_ kq0_ (by decide) (q := (RX8, TX8, 10)) rfl) rfl rfl hl.1 rfl (lv_room (Nat.le_of_ble_eq_true rfl)) dX2_readOnly_74 ⟨(Nat.le_of_ble_eq_true rfl), (Nat.le_of_ble_eq_true rfl)⟩) g hK (by decide) (by decide) (fx' := [(7, 13, q1_, .int x_6), (5, 2, a_1, .int x_2), (2, 1, a0_, .ref a_1), (2, 0, a0_, .ref q0_), (2, 3, a0_, .ref q1_), (2, 4, a0_, .ref q2_)]) rfl (fun r_55 fr_55 H locs hp hMr_55 g => ?_)
            have kb_1 : bd 1 1 (1 : Int32) := ⟨by decide, by decide⟩
            refine g_callv (va_runV (As := [.int 1, .int r_55]) (rest := []) ⟨hx, hb, hml, hown, hts⟩ (r_X8_fail_7 l dC dI L kd tys fr_55 H.size g.2.2.2.1 q0_ mq0_ kq0_ 1 kb_1 r_55) (cwV 2 hts (gV_ t_1122 t_1107 t_1108 t_184 t_1109) rfl rfl rfl (by decide +kernel) ⟨(Nat.le_of_ble_eq_true rfl), (Nat.le_of_ble_eq_true rfl)⟩) (pre3V g hK mq0_ kq0_ (by decide) (q := (RX8, TX8, 10)) rfl) rfl rfl hl.1 rfl (lv_room (Nat.le_of_ble_eq_true rfl)) dX2_readOnly_77 ⟨(Nat.le_of_ble_eq_true rfl), (Nat.le_of_ble_eq_true rfl)⟩) g hK (by decide) (by decide) (fx' := [(7, 13, q1_, .int x_6), (5, 2, a_1, .int x_2), (2, 1, a0_, .ref a_1), (2, 0, a0_, .ref q0_), (2, 3, a0_, .ref q1_), (2, 4, a0_, .ref q2_)]) rfl (fun fr_56 H locs hp hMr_56 g => ?_)
            obtain ⟨x_57, h_58, hF_59⟩ := hp
            have g := g.more hF_59
            refine lv_goto (tgt := 123) hx hb dX2_readOnly_80 (by decide) ?_
            refine lv_aload_n hx hb dX2_readOnly_123 rfl (lv_at hl 4 rfl) ?_
            refine g_getk (C := RX2) (T := TX2) (N := 16) hx hb hts (mc_ inX2) hown hK g rfl 0 (by decide) rfl (hts _ (List.mem_cons_of_mem _ t_416)) (fun _ h9 => h9) 5 rfl dX2_readOnly_124 ?_
            have kb_1201 : bd 1201 1201 (1201 : Int32) := ⟨by decide, by decide⟩
            refine g_callv (va_runV (As := []) (rest := []) ⟨hx, hb, hml, hown, hts⟩ (r_X8_next_2 l dC dI L kd tys fr_56 H.size g.2.2.2.1 q0_ mq0_ kq0_ 1201 kb_1201 (g.fcts [0] rfl)) (cwV 0 hts (gV_ t_1131 t_1103 t_1104 t_184 t_1105) rfl rfl rfl (by decide +kernel) ⟨(Nat.le_of_ble_eq_true rfl), (Nat.le_of_ble_eq_true rfl)⟩) (pre3V g hK mq0_ kq0_ (by decide) (q := (RX8, TX8, 10)) rfl) rfl rfl hl.1 rfl (lv_room (Nat.le_of_ble_eq_true rfl)) dX2_readOnly_127 ⟨(Nat.le_of_ble_eq_true rfl), (Nat.le_of_ble_eq_true rfl)⟩) g hK (by decide) (by decide) (fx' := [(8, 6, q0_, .int 1201), (8, 8, q0_, .int x_57), (7, 13, q1_, .int x_6), (5, 2, a_1, .int x_2), (2, 1, a0_, .ref a_1), (2, 0, a0_, .ref q0_), (2, 3, a0_, .ref q1_), (2, 4, a0_, .ref q2_)]) rfl (fun fr_60 H locs hp hMr_60 g => ?_)
            refine lv_aload_n hx hb dX2_readOnly_130 rfl (lv_at hl 4 rfl) ?_
            refine g_getk (C := RX2) (T := TX2) (N := 16) hx hb hts (mc_ inX2) hown hK g rfl 0 (by decide) rfl (hts _ (List.mem_cons_of_mem _ t_416)) (fun _ h9 => h9) 5 rfl dX2_readOnly_131 ?_
            refine g_calli (va_runV (As := []) (rest := []) ⟨hx, hb, hml, hown, hts⟩ (r_X8_kind_2 l dC dI L kd tys fr_60 H.size g.2.2.2.1 q0_ mq0_ kq0_ 1201 kb_1201 (g.fcts [0] rfl)) (cwV 0 hts (gV_ t_1118 t_1119 t_1120 t_184 t_1121) rfl rfl rfl (by decide +kernel) ⟨(Nat.le_of_ble_eq_true rfl), (Nat.le_of_ble_eq_true rfl)⟩) (pre3V g hK mq0_ kq0_ (by decide) (q := (RX8, TX8, 10)) rfl) rfl rfl hl.1 rfl (lv_room (Nat.le_of_ble_eq_true rfl)) dX2_readOnly_134 ⟨(Nat.le_of_ble_eq_true rfl), (Nat.le_of_ble_eq_true rfl)⟩) g hK (by decide) (by decide) (fx' := [(8, 6, q0_, .int 1201), (8, 8, q0_, .int x_57), (7, 13, q1_, .int x_6), (5, 2, a_1, .int x_2), (2, 1, a0_, .ref a_1), (2, 0, a0_, .ref q0_), (2, 3, a0_, .ref q1_), (2, 4, a0_, .ref q2_)]) rfl (fun r_61 fr_61 H locs hp hMr_61 g => ?_)
            obtain ⟨h_62, -⟩ := hp
            obtain rfl : r_61 = 0 := h_62
            refine lv_bipush (v := 44) hx hb dX2_readOnly_137 (by decide) ?_
            refine lv_icmp_ne (tgt := 146) hx hb dX2_readOnly_139 (by decide) (fun c_ => ?_) (fun c_ => absurd c_ (by decide))
            refine lv_iconst (v := 0) hx hb dX2_readOnly_146 (by decide) ?_
            refine lv_istore_n (lv' := [(2, .int 0), (4, .int r_17), (3, .int v27_3), (1, .int r_4), (0, .ref a0_)]) hx hb dX2_readOnly_147 rfl hl (by decide) rfl (fun ls hl => ?_)
            refine lv_iload_n hx hb dX2_readOnly_148 rfl (lv_at hl 0 rfl) ?_
            refine lv_if_eq (tgt := 159) hx hb dX2_readOnly_149 (by decide) (fun c_ => ?_) (fun c_ => absurd (by decide) c_)
            obtain ⟨y_63, ey_63⟩ : ∃ z : Int32, z = v27_3 + 1 := ⟨_, rfl⟩
            refine lv_iinc (v := y_63) (lv' := [(3, .int y_63), (2, .int 0), (4, .int r_17), (1, .int r_4), (0, .ref a0_)]) hx hb dX2_readOnly_159 hl (k := 2) rfl (by rw [ey_63]; rfl) (by decide) rfl (fun ls hl => ?_)
            have ty_63 := add_bd ey_63 b_12 kb_1 (by decide)
            have b_64 : bd 1 1201 y_63 := add_rg ty_63 b_12 kb_1 (by decide)
            refine lv_goto (tgt := 27) hx hb dX2_readOnly_162 (by decide) ?_
            have hl9 := lv_sub hl [0, 1, 3, 4] (by rfl : lv_pick [(3, .int y_63), (2, .int 0), (4, .int r_17), (1, .int r_4), (0, .ref a0_)] [0, 1, 3, 4] = [(3, .int y_63), (2, .int 0), (1, .int r_4), (0, .ref a0_)])
            have g9 := g.sub (fx' := [(7, 13, q1_, .int x_6), (5, 2, a_1, .int x_2), (2, 1, a0_, .ref a_1), (2, 0, a0_, .ref q0_), (2, 3, a0_, .ref q1_), (2, 4, a0_, .ref q2_)]) [2, 3, 4, 5, 6, 7] rfl
            exact ih27  y_63 0 (bd_sub b_64 (by decide)) (bd_sub kb_0 (by decide)) (by have h9_0 := b_64; unfold bd at h9_0; have h9_1 := bv27_2; unfold bd at h9_1; have h9_2 := bv27_3; unfold bd at h9_2; have h9_3 := kb_0; unfold bd at h9_3; have h9_4 := kb_1; unfold bd at h9_4; have h9_5 := kb_1200; unfold bd at h9_5; have h9_6 := kb_1201; unfold bd at h9_6; have h9_7 := kb_3; unfold bd at h9_7; omega) _ _ _ _ g9  hl9
  have kb_0 : bd 0 0 (0 : Int32) := ⟨by decide, by decide⟩
  have kb_1 : bd 1 1 (1 : Int32) := ⟨by decide, by decide⟩
  have hl9 := lv_sub hl [0, 1, 2, 3] (by rfl : lv_pick [(3, .int 0), (2, .int 1), (1, .int r_4), (0, .ref a0_)] [0, 1, 2, 3] = [(3, .int 0), (2, .int 1), (1, .int r_4), (0, .ref a0_)])
  have g9 := g.sub (fx' := [(7, 13, q1_, .int x_6), (5, 2, a_1, .int x_2), (2, 1, a0_, .ref a_1), (2, 0, a0_, .ref q0_), (2, 3, a0_, .ref q1_), (2, 4, a0_, .ref q2_)]) [0, 1, 2, 3, 4, 5] rfl
  exact loop_9 (2405) 0 1 (bd_sub kb_0 (by decide)) (bd_sub kb_1 (by decide)) (by have h9_0 := kb_0; unfold bd at h9_0; have h9_1 := kb_1; unfold bd at h9_1; omega) _ _ _ _ g9  hl9
set_option maxHeartbeats 4000000 in
set_option maxRecDepth 100000 in
theorem r_X2_openBlock (l : Launch) (dC : Nat → ClassId) (dI : Nat → Nat → Nat) (L : List Nat) (kd : Nat → Nat) (tys : List (ClassId × FieldType)) (f0 : Nat → va_E) (sz : Nat) (hWT : WT L kd tys f0) (a0_ : Nat) (ma0_ : a0_ ∈ L) (ka0_ : kd a0_ = 2) (x1_ : Int32) (x2_ : Int32) (x3_ : Int32) (q0_ : Nat) (mq0_ : q0_ ∈ L) (kq0_ : kd q0_ = 8) (hfx : Fs L kd f0 [(2, 0, a0_, .ref q0_)]) : Met l yX2_openBlock (.code yX2_openBlock cX2_openBlock 4 none :: lw_g) ({ frames := 1, cells := 0, slots := 0, locals := 23 }) (va_Pc [.ref a0_, .int x1_, .int x2_, .int x3_] (P3 (dC, dI) L tys f0 sz)) (va_Qv (fun (f : Nat → va_E) => (∃ z1_ : Int32, bd 1 7 z1_ ∧ Fs L kd f [(8, 6, q0_, .int 1201), (8, 8, q0_, .int z1_)]) ∨ (∃ z0_ : Int32, bd 1 1201 z0_ ∧ ∃ z1_ : Int32, bd 1 8 z1_ ∧ Fs L kd f [(8, 6, q0_, .int z0_), (2, 11, a0_, .int z1_)])) (Q3 (dC, dI) L kd tys [(2, 11), (8, 6), (8, 8), (8, 9)] [118, 119, 120, 121] f0 sz) (pA L sz)) 0 0 (pA L sz) := by
  refine Met.ofW (cc := cX2_openBlock) (maxL := 4) (ret := none) (by decide) rfl ?_
  intro p e s m args below meth c s₁ B hml hv
  obtain ⟨rfl, hsz, hP, hK, hD0⟩ := hv
  have hx := B.exec
  have hb := B.bytes
  have hr := B.returns
  have hts := atoms_spec (ws := (.code yX2_openBlock cX2_openBlock 4 none :: lw_g)) B.pre
  have hown : s.vm.findClass RX2 = some m.cls := findClass_of_methodNamed B.named
  have hlocks := B.notSynchronized
  subst hsz
  have g : G3 (dC, dI) L kd tys s f0 [(2, 11), (8, 6), (8, 8), (8, 9)] [118, 119, 120, 121] f0 s.heap [] [(2, 0, a0_, .ref q0_)] := G3.start hP hD0 hWT hfx
  have hl := lv_entry ([.ref a0_, .int x1_, .int x2_, .int x3_]) (n := 4) (Nat.le_of_ble_eq_true rfl)
  rw [lg_entry_eq]
  generalize (lg_sl ([.ref a0_, .int x1_, .int x2_, .int x3_]) ++ List.replicate (4 - (lg_sl ([.ref a0_, .int x1_, .int x2_, .int x3_])).length) Slot.unset).toArray = ls at hl ⊢
  have hl : lv_has ls 4 [(0, .ref a0_), (1, .int x1_), (2, .int x2_), (3, .int x3_)] := hl
  refine W_q (fun Q hQ => ?_)
  refine lv_aload_n hx hb dX2_openBlock_0 rfl (lv_at hl 0 rfl) ?_
  refine g_getk (C := RX2) (T := TX2) (N := 16) hx hb hts (mc_ inX2) hown hK g rfl 0 (by decide) rfl (hts _ (List.mem_cons_of_mem _ t_416)) (fun _ h9 => h9) 0 rfl dX2_openBlock_1 ?_
  refine g_calli (va_runV (As := []) (rest := []) ⟨hx, hb, hml, hown, hts⟩ (r_X8_kind l dC dI L kd tys f0 s.heap.size g.2.2.2.1 q0_ mq0_ kq0_) (cwV 0 hts (gV_ t_1118 t_1119 t_1120 t_184 t_1121) rfl rfl rfl (by decide +kernel) ⟨(Nat.le_of_ble_eq_true rfl), (Nat.le_of_ble_eq_true rfl)⟩) (pre3V g hK mq0_ kq0_ (by decide) (q := (RX8, TX8, 10)) rfl) rfl rfl hl.1 rfl (lv_room (Nat.le_of_ble_eq_true rfl)) dX2_openBlock_4 ⟨(Nat.le_of_ble_eq_true rfl), (Nat.le_of_ble_eq_true rfl)⟩) g hK (by decide) (by decide) (fx' := [(2, 0, a0_, .ref q0_)]) rfl (fun r_1 fr_1 H locs hp hMr_1 g => ?_)
  refine lv_bipush (v := 123) hx hb dX2_openBlock_7 (by decide) ?_
  have kb_123 : bd 123 123 (123 : Int32) := ⟨by decide, by decide⟩
  refine lv_icmp_eq (tgt := 30) hx hb dX2_openBlock_9 (by decide) (fun c_2 => ?_) (fun c_2 => ?_)
  · have fc_2 := eq_f c_2
    have b_3 : bd 123 123 r_1 := eqX fc_2 (bdT r_1) kb_123 (by decide)
    refine lv_aload_n hx hb dX2_openBlock_30 rfl (lv_at hl 0 rfl) ?_
    refine g_geti (C := RX2) (T := TX2) (N := 16) hx hb hts (mc_ inX2) hown hK g ma0_ ka0_ (by decide) rfl 11 (by decide) rfl (hts _ (List.mem_cons_of_mem _ t_427)) (fun _ h9 => h9) rfl dX2_openBlock_31 (fun x_4 bx_4 g => ?_)
    refine lv_bipush (v := 8) hx hb dX2_openBlock_34 (by decide) ?_
    have kb_8 : bd 8 8 (8 : Int32) := ⟨by decide, by decide⟩
    refine lv_icmp_lt (tgt := 57) hx hb dX2_openBlock_36 (by decide) (fun c_5 => ?_) (fun c_5 => ?_)
    · have fc_5 := lt_f c_5
      have b_6 : bd 0 7 x_4 := ltL fc_5 bx_4 kb_8 (by decide)
      refine lv_aload_n hx hb dX2_openBlock_57 rfl (lv_at hl 0 rfl) ?_
      refine g_getr (K := 118) (C := RX2) (T := TX2) (N := 16) hx hb hts (mc_ inX2) hown hK g ma0_ ka0_ (by decide) rfl 7 (by decide) rfl (hts _ (List.mem_cons_of_mem _ t_423)) (fun _ h9 => h9) rfl dX2_openBlock_58 (fun a_7 ma_7 ka_7 g => ?_)
      refine lv_aload_n hx hb dX2_openBlock_61 rfl (lv_at hl 0 rfl) ?_
      refine g_getk (C := RX2) (T := TX2) (N := 16) hx hb hts (mc_ inX2) hown hK g rfl 11 (by decide) rfl (hts _ (List.mem_cons_of_mem _ t_427)) (fun _ h9 => h9) 1 rfl dX2_openBlock_62 ?_
      refine lv_iload_n hx hb dX2_openBlock_65 rfl (lv_at hl 1 rfl) ?_
      refine g_iast hx hb hK g ma_7 ka_7 (by decide) rfl (in_bd b_6 (by decide)) (bdT x1_) (by decide) dX2_openBlock_66 (fun f H locs hM_8 g => ?_)
      refine lv_aload_n hx hb dX2_openBlock_67 rfl (lv_at hl 0 rfl) ?_
      refine g_getr (K := 119) (C := RX2) (T := TX2) (N := 16) hx hb hts (mc_ inX2) hown hK g ma0_ ka0_ (by decide) rfl 8 (by decide) rfl (hts _ (List.mem_cons_of_mem _ t_424)) (fun _ h9 => h9) rfl dX2_openBlock_68 (fun a_9 ma_9 ka_9 g => ?_)
      refine lv_aload_n hx hb dX2_openBlock_71 rfl (lv_at hl 0 rfl) ?_
      refine g_getk (C := RX2) (T := TX2) (N := 16) hx hb hts (mc_ inX2) hown hK g rfl 11 (by decide) rfl (hts _ (List.mem_cons_of_mem _ t_427)) (fun _ h9 => h9) 2 rfl dX2_openBlock_72 ?_
      refine lv_iload_n hx hb dX2_openBlock_75 rfl (lv_at hl 2 rfl) ?_
      refine g_iast hx hb hK g ma_9 ka_9 (by decide) rfl (in_bd b_6 (by decide)) (bdT x2_) (by decide) dX2_openBlock_76 (fun f H locs hM_10 g => ?_)
      refine lv_aload_n hx hb dX2_openBlock_77 rfl (lv_at hl 0 rfl) ?_
      refine g_getr (K := 120) (C := RX2) (T := TX2) (N := 16) hx hb hts (mc_ inX2) hown hK g ma0_ ka0_ (by decide) rfl 9 (by decide) rfl (hts _ (List.mem_cons_of_mem _ t_425)) (fun _ h9 => h9) rfl dX2_openBlock_78 (fun a_11 ma_11 ka_11 g => ?_)
      refine lv_aload_n hx hb dX2_openBlock_81 rfl (lv_at hl 0 rfl) ?_
      refine g_getk (C := RX2) (T := TX2) (N := 16) hx hb hts (mc_ inX2) hown hK g rfl 11 (by decide) rfl (hts _ (List.mem_cons_of_mem _ t_427)) (fun _ h9 => h9) 3 rfl dX2_openBlock_82 ?_
      refine lv_iload_n hx hb dX2_openBlock_85 rfl (lv_at hl 3 rfl) ?_
      refine g_iast hx hb hK g ma_11 ka_11 (by decide) rfl (in_bd b_6 (by decide)) (bdT x3_) (by decide) dX2_openBlock_86 (fun f H locs hM_12 g => ?_)
      refine lv_aload_n hx hb dX2_openBlock_87 rfl (lv_at hl 0 rfl) ?_
      refine g_getr (K := 121) (C := RX2) (T := TX2) (N := 16) hx hb hts (mc_ inX2) hown hK g ma0_ ka0_ (by decide) rfl 10 (by decide) rfl (hts _ (List.mem_cons_of_mem _ t_426)) (fun _ h9 => h9) rfl dX2_openBlock_88 (fun a_13 ma_13 ka_13 g => ?_)
      refine lv_aload_n hx hb dX2_openBlock_91 rfl (lv_at hl 0 rfl) ?_
      refine g_getk (C := RX2) (T := TX2) (N := 16) hx hb hts (mc_ inX2) hown hK g rfl 11 (by decide) rfl (hts _ (List.mem_cons_of_mem _ t_427)) (fun _ h9 => h9) 4 rfl dX2_openBlock_92 ?_
      refine lv_aload_n hx hb dX2_openBlock_95 rfl (lv_at hl 0 rfl) ?_
      refine g_getr (K := 5) (C := RX2) (T := TX2) (N := 16) hx hb hts (mc_ inX2) hown hK g ma0_ ka0_ (by decide) rfl 1 (by decide) rfl (hts _ (List.mem_cons_of_mem _ t_417)) (fun _ h9 => h9) rfl dX2_openBlock_96 (fun a_14 ma_14 ka_14 g => ?_)
      refine g_geti (C := RX5) (T := TX5) (N := 9) hx hb hts (mc_ inX5) hown hK g ma_14 ka_14 (by decide) rfl 6 (by decide) rfl (hts _ (List.mem_cons_of_mem _ t_341)) (fun _ h9 => h9) rfl dX2_openBlock_99 (fun x_15 bx_15 g => ?_)
      refine g_iast hx hb hK g ma_13 ka_13 (by decide) rfl (in_bd b_6 (by decide)) bx_15 (by decide) dX2_openBlock_102 (fun f H locs hM_16 g => ?_)
      refine lv_aload_n hx hb dX2_openBlock_103 rfl (lv_at hl 0 rfl) ?_
      refine lv_dup hx hb dX2_openBlock_104 rfl ?_
      refine g_getk (C := RX2) (T := TX2) (N := 16) hx hb hts (mc_ inX2) hown hK g rfl 11 (by decide) rfl (hts _ (List.mem_cons_of_mem _ t_427)) (fun _ h9 => h9) 6 rfl dX2_openBlock_105 ?_
      refine lv_iconst (v := 1) hx hb dX2_openBlock_108 (by decide) ?_
      have kb_1 : bd 1 1 (1 : Int32) := ⟨by decide, by decide⟩
      refine lv_iadd hx hb dX2_openBlock_109 ?_
      refine lv_topi (fun y_17 ey_17 => ?_)
      have ty_17 := add_bd ey_17 b_6 kb_1 (by decide)
      have b_18 : bd 1 8 y_17 := add_rg ty_17 b_6 kb_1 (by decide)
      refine g_put (C := RX2) (T := TX2) (N := 16) hx hb hts (mc_ inX2) tyX2 tyX2_ok nmX2 hown hK g ma0_ ka0_ (by decide) rfl 11 (by decide) (hts _ (List.mem_cons_of_mem _ t_427)) (fun _ h9 => h9) rfl rfl (okV_i (bd_sub b_18 (by decide))) rfl rfl (by decide) (Or.inr (Or.inl (by decide))) (fx' := [(5, 6, a_14, .int x_15), (2, 1, a0_, .ref a_14), (2, 10, a0_, .ref a_13), (2, 9, a0_, .ref a_11), (2, 8, a0_, .ref a_9), (2, 7, a0_, .ref a_7), (2, 0, a0_, .ref q0_)]) rfl dX2_openBlock_110 (fun f H locs hM_19 g => ?_)
      refine lv_aload_n hx hb dX2_openBlock_113 rfl (lv_at hl 0 rfl) ?_
      refine g_getk (C := RX2) (T := TX2) (N := 16) hx hb hts (mc_ inX2) hown hK g rfl 0 (by decide) rfl (hts _ (List.mem_cons_of_mem _ t_416)) (fun _ h9 => h9) 7 rfl dX2_openBlock_114 ?_
      refine g_callv (va_runV (As := []) (rest := []) ⟨hx, hb, hml, hown, hts⟩ (r_X8_next l dC dI L kd tys f H.size g.2.2.2.1 q0_ mq0_ kq0_) (cwV 0 hts (gV_ t_1131 t_1103 t_1104 t_184 t_1105) rfl rfl rfl (by decide +kernel) ⟨(Nat.le_of_ble_eq_true rfl), (Nat.le_of_ble_eq_true rfl)⟩) (pre3V g hK mq0_ kq0_ (by decide) (q := (RX8, TX8, 10)) rfl) rfl rfl hl.1 rfl (lv_room (Nat.le_of_ble_eq_true rfl)) dX2_openBlock_117 ⟨(Nat.le_of_ble_eq_true rfl), (Nat.le_of_ble_eq_true rfl)⟩) g hK (by decide) (by decide) (fx' := [(2, 11, a0_, .int y_17), (5, 6, a_14, .int x_15), (2, 1, a0_, .ref a_14), (2, 10, a0_, .ref a_13), (2, 9, a0_, .ref a_11), (2, 8, a0_, .ref a_9), (2, 7, a0_, .ref a_7), (2, 0, a0_, .ref q0_)]) rfl (fun fr_20 H locs hp hMr_20 g => ?_)
      obtain ⟨x_21, h_22, hF_23⟩ := hp
      have g := g.more hF_23
      subst hQ
      exact W.vret hx hb hr (fun t ht hW => ⟨⟨_, rfl, Or.inr (⟨x_21, h_22, y_17, b_18, (g.fcts [0, 1] rfl)⟩), q3_of g hK ht hW⟩, g.2.2.1.F ht⟩) g.2.2.1.2.2 dX2_openBlock_120
    · have fc_5 := nlt_f c_5
      have b_24 : bd 8 8 x_4 := leR fc_5 kb_8 bx_4 (by decide)
      refine lv_aload_n hx hb dX2_openBlock_39 rfl (lv_at hl 0 rfl) ?_
      refine g_getk (C := RX2) (T := TX2) (N := 16) hx hb hts (mc_ inX2) hown hK g rfl 0 (by decide) rfl (hts _ (List.mem_cons_of_mem _ t_416)) (fun _ h9 => h9) 1 rfl dX2_openBlock_40 ?_
      refine lv_iconst (v := 4) hx hb dX2_openBlock_43 (by decide) ?_
      refine lv_aload_n hx hb dX2_openBlock_44 rfl (lv_at hl 0 rfl) ?_
      refine g_getk (C := RX2) (T := TX2) (N := 16) hx hb hts (mc_ inX2) hown hK g rfl 0 (by decide) rfl (hts _ (List.mem_cons_of_mem _ t_416)) (fun _ h9 => h9) 1 rfl dX2_openBlock_45 ?_
      refine g_calli (va_runV (As := []) (rest := [.int 4, .ref q0_]) ⟨hx, hb, hml, hown, hts⟩ (r_X8_place l dC dI L kd tys fr_1 H.size g.2.2.2.1 q0_ mq0_ kq0_) (cwV 0 hts (gV_ t_1110 t_1111 t_1112 t_184 t_1113) rfl rfl rfl (by decide +kernel) ⟨(Nat.le_of_ble_eq_true rfl), (Nat.le_of_ble_eq_true rfl)⟩) (pre3V g hK mq0_ kq0_ (by decide) (q := (RX8, TX8, 10)) rfl) rfl rfl hl.1 rfl (lv_room (Nat.le_of_ble_eq_true rfl)) dX2_openBlock_48 ⟨(Nat.le_of_ble_eq_true rfl), (Nat.le_of_ble_eq_true rfl)⟩) g hK (by decide) (by decide) (fx' := [(2, 11, a0_, .int x_4), (2, 0, a0_, .ref q0_)]) rfl (fun r_25 fr_25 H locs hp hMr_25 g => ?_)
      have kb_4 : bd 4 4 (4 : Int32) := ⟨by decide, by decide⟩
      refine g_callv (va_runV (As := [.int 4, .int r_25]) (rest := []) ⟨hx, hb, hml, hown, hts⟩ (r_X8_fail l dC dI L kd tys fr_25 H.size g.2.2.2.1 q0_ mq0_ kq0_ 4 kb_4 r_25) (cwV 2 hts (gV_ t_1122 t_1107 t_1108 t_184 t_1109) rfl rfl rfl (by decide +kernel) ⟨(Nat.le_of_ble_eq_true rfl), (Nat.le_of_ble_eq_true rfl)⟩) (pre3V g hK mq0_ kq0_ (by decide) (q := (RX8, TX8, 10)) rfl) rfl rfl hl.1 rfl (lv_room (Nat.le_of_ble_eq_true rfl)) dX2_openBlock_51 ⟨(Nat.le_of_ble_eq_true rfl), (Nat.le_of_ble_eq_true rfl)⟩) g hK (by decide) (by decide) (fx' := [(2, 11, a0_, .int x_4), (2, 0, a0_, .ref q0_)]) rfl (fun fr_26 H locs hp hMr_26 g => ?_)
      obtain ⟨x_27, h_28, hF_29⟩ := hp
      have g := g.more hF_29
      refine lv_goto (tgt := 120) hx hb dX2_openBlock_54 (by decide) ?_
      subst hQ
      exact W.vret hx hb hr (fun t ht hW => ⟨⟨_, rfl, Or.inl ⟨x_27, h_28, (g.fcts [0, 1] rfl)⟩, q3_of g hK ht hW⟩, g.2.2.1.F ht⟩) g.2.2.1.2.2 dX2_openBlock_120
  · have fc_2 := neq_f c_2
    refine lv_aload_n hx hb dX2_openBlock_12 rfl (lv_at hl 0 rfl) ?_
    refine g_getk (C := RX2) (T := TX2) (N := 16) hx hb hts (mc_ inX2) hown hK g rfl 0 (by decide) rfl (hts _ (List.mem_cons_of_mem _ t_416)) (fun _ h9 => h9) 0 rfl dX2_openBlock_13 ?_
    refine lv_iconst (v := 1) hx hb dX2_openBlock_16 (by decide) ?_
    refine lv_aload_n hx hb dX2_openBlock_17 rfl (lv_at hl 0 rfl) ?_
    refine g_getk (C := RX2) (T := TX2) (N := 16) hx hb hts (mc_ inX2) hown hK g rfl 0 (by decide) rfl (hts _ (List.mem_cons_of_mem _ t_416)) (fun _ h9 => h9) 0 rfl dX2_openBlock_18 ?_
    refine g_calli (va_runV (As := []) (rest := [.int 1, .ref q0_]) ⟨hx, hb, hml, hown, hts⟩ (r_X8_place l dC dI L kd tys fr_1 H.size g.2.2.2.1 q0_ mq0_ kq0_) (cwV 0 hts (gV_ t_1110 t_1111 t_1112 t_184 t_1113) rfl rfl rfl (by decide +kernel) ⟨(Nat.le_of_ble_eq_true rfl), (Nat.le_of_ble_eq_true rfl)⟩) (pre3V g hK mq0_ kq0_ (by decide) (q := (RX8, TX8, 10)) rfl) rfl rfl hl.1 rfl (lv_room (Nat.le_of_ble_eq_true rfl)) dX2_openBlock_21 ⟨(Nat.le_of_ble_eq_true rfl), (Nat.le_of_ble_eq_true rfl)⟩) g hK (by decide) (by decide) (fx' := [(2, 0, a0_, .ref q0_)]) rfl (fun r_30 fr_30 H locs hp hMr_30 g => ?_)
    have kb_1 : bd 1 1 (1 : Int32) := ⟨by decide, by decide⟩
    refine g_callv (va_runV (As := [.int 1, .int r_30]) (rest := []) ⟨hx, hb, hml, hown, hts⟩ (r_X8_fail_7 l dC dI L kd tys fr_30 H.size g.2.2.2.1 q0_ mq0_ kq0_ 1 kb_1 r_30) (cwV 2 hts (gV_ t_1122 t_1107 t_1108 t_184 t_1109) rfl rfl rfl (by decide +kernel) ⟨(Nat.le_of_ble_eq_true rfl), (Nat.le_of_ble_eq_true rfl)⟩) (pre3V g hK mq0_ kq0_ (by decide) (q := (RX8, TX8, 10)) rfl) rfl rfl hl.1 rfl (lv_room (Nat.le_of_ble_eq_true rfl)) dX2_openBlock_24 ⟨(Nat.le_of_ble_eq_true rfl), (Nat.le_of_ble_eq_true rfl)⟩) g hK (by decide) (by decide) (fx' := [(2, 0, a0_, .ref q0_)]) rfl (fun fr_31 H locs hp hMr_31 g => ?_)
    obtain ⟨x_32, h_33, hF_34⟩ := hp
    have g := g.more hF_34
    refine lv_goto (tgt := 120) hx hb dX2_openBlock_27 (by decide) ?_
    subst hQ
    exact W.vret hx hb hr (fun t ht hW => ⟨⟨_, rfl, Or.inl ⟨x_32, h_33, (g.fcts [0, 1] rfl)⟩, q3_of g hK ht hW⟩, g.2.2.1.F ht⟩) g.2.2.1.2.2 dX2_openBlock_120
set_option maxHeartbeats 4000000 in
set_option maxRecDepth 100000 in
theorem r_X2_openBody (l : Launch) (dC : Nat → ClassId) (dI : Nat → Nat → Nat) (L : List Nat) (kd : Nat → Nat) (tys : List (ClassId × FieldType)) (f0 : Nat → va_E) (sz : Nat) (hWT : WT L kd tys f0) (a0_ : Nat) (ma0_ : a0_ ∈ L) (ka0_ : kd a0_ = 2) (q0_ : Nat) (mq0_ : q0_ ∈ L) (kq0_ : kd q0_ = 8) (q1_ : Nat) (mq1_ : q1_ ∈ L) (kq1_ : kd q1_ = 7) (q2_ : Nat) (mq2_ : q2_ ∈ L) (kq2_ : kd q2_ = 6) (hfx : Fs L kd f0 [(2, 0, a0_, .ref q0_), (2, 3, a0_, .ref q1_), (2, 5, a0_, .ref q2_)]) : Met l yX2_openBody (.code yX2_openBody cX2_openBody 3 none :: lw_g) ({ frames := 2, cells := 0, slots := 0, locals := 46 }) (va_Pc [.ref a0_] (P3 (dC, dI) L tys f0 sz)) (va_Qv (fun (f : Nat → va_E) => (∃ z1_ : Int32, bd 1 7 z1_ ∧ ∃ z2_ : Int32, bd 0 2000 z2_ ∧ Fs L kd f [(8, 6, q0_, .int 1201), (8, 8, q0_, .int z1_), (6, 8, q2_, .int z2_)]) ∨ (∃ z0_ : Int32, bd 1 1201 z0_ ∧ ∃ z1_ : Int32, bd 1 8 z1_ ∧ ∃ z2_ : Int32, bd 0 2000 z2_ ∧ Fs L kd f [(8, 6, q0_, .int z0_), (2, 11, a0_, .int z1_), (6, 8, q2_, .int z2_)])) (Q3 (dC, dI) L kd tys [(2, 11), (6, 8), (8, 6), (8, 8), (8, 9)] [118, 119, 120, 121] f0 sz) (pA L sz)) 0 0 (pA L sz) := by
  refine Met.ofW (cc := cX2_openBody) (maxL := 3) (ret := none) (by decide) rfl ?_
  intro p e s m args below meth c s₁ B hml hv
  obtain ⟨rfl, hsz, hP, hK, hD0⟩ := hv
  have hx := B.exec
  have hb := B.bytes
  have hr := B.returns
  have hts := atoms_spec (ws := (.code yX2_openBody cX2_openBody 3 none :: lw_g)) B.pre
  have hown : s.vm.findClass RX2 = some m.cls := findClass_of_methodNamed B.named
  have hlocks := B.notSynchronized
  subst hsz
  have g : G3 (dC, dI) L kd tys s f0 [(2, 11), (6, 8), (8, 6), (8, 8), (8, 9)] [118, 119, 120, 121] f0 s.heap [] [(2, 0, a0_, .ref q0_), (2, 3, a0_, .ref q1_), (2, 5, a0_, .ref q2_)] := G3.start hP hD0 hWT hfx
  have hl := lv_entry ([.ref a0_]) (n := 3) (Nat.le_of_ble_eq_true rfl)
  rw [lg_entry_eq]
  generalize (lg_sl ([.ref a0_]) ++ List.replicate (3 - (lg_sl ([.ref a0_])).length) Slot.unset).toArray = ls at hl ⊢
  have hl : lv_has ls 3 [(0, .ref a0_)] := hl
  refine W_q (fun Q hQ => ?_)
  refine lv_aload_n hx hb dX2_openBody_0 rfl (lv_at hl 0 rfl) ?_
  refine g_getk (C := RX2) (T := TX2) (N := 16) hx hb hts (mc_ inX2) hown hK g rfl 0 (by decide) rfl (hts _ (List.mem_cons_of_mem _ t_416)) (fun _ h9 => h9) 0 rfl dX2_openBody_1 ?_
  refine g_calli (va_runV (As := []) (rest := []) ⟨hx, hb, hml, hown, hts⟩ (r_X8_place l dC dI L kd tys f0 s.heap.size g.2.2.2.1 q0_ mq0_ kq0_) (cwV 0 hts (gV_ t_1110 t_1111 t_1112 t_184 t_1113) rfl rfl rfl (by decide +kernel) ⟨(Nat.le_of_ble_eq_true rfl), (Nat.le_of_ble_eq_true rfl)⟩) (pre3V g hK mq0_ kq0_ (by decide) (q := (RX8, TX8, 10)) rfl) rfl rfl hl.1 rfl (lv_room (Nat.le_of_ble_eq_true rfl)) dX2_openBody_4 ⟨(Nat.le_of_ble_eq_true rfl), (Nat.le_of_ble_eq_true rfl)⟩) g hK (by decide) (by decide) (fx' := [(2, 0, a0_, .ref q0_), (2, 3, a0_, .ref q1_), (2, 5, a0_, .ref q2_)]) rfl (fun r_1 fr_1 H locs hp hMr_1 g => ?_)
  refine lv_istore_n (lv' := [(1, .int r_1), (0, .ref a0_)]) hx hb dX2_openBody_7 rfl hl (by decide) rfl (fun ls hl => ?_)
  refine lv_aload_n hx hb dX2_openBody_8 rfl (lv_at hl 1 rfl) ?_
  refine lv_iconst (v := 0) hx hb dX2_openBody_9 (by decide) ?_
  have kb_0 : bd 0 0 (0 : Int32) := ⟨by decide, by decide⟩
  refine g_put (C := RX2) (T := TX2) (N := 16) hx hb hts (mc_ inX2) tyX2 tyX2_ok nmX2 hown hK g ma0_ ka0_ (by decide) rfl 11 (by decide) (hts _ (List.mem_cons_of_mem _ t_427)) (fun _ h9 => h9) rfl rfl (okV_i (bd_sub kb_0 (by decide))) rfl rfl (by decide) (Or.inr (Or.inl (by decide))) (fx' := [(2, 0, a0_, .ref q0_), (2, 3, a0_, .ref q1_), (2, 5, a0_, .ref q2_)]) rfl dX2_openBody_10 (fun f H locs hM_2 g => ?_)
  refine lv_aload_n hx hb dX2_openBody_13 rfl (lv_at hl 1 rfl) ?_
  refine g_getk (C := RX2) (T := TX2) (N := 16) hx hb hts (mc_ inX2) hown hK g rfl 5 (by decide) rfl (hts _ (List.mem_cons_of_mem _ t_421)) (fun _ h9 => h9) 3 rfl dX2_openBody_14 ?_
  refine lv_aload_n hx hb dX2_openBody_17 rfl (lv_at hl 1 rfl) ?_
  refine g_getk (C := RX2) (T := TX2) (N := 16) hx hb hts (mc_ inX2) hown hK g rfl 3 (by decide) rfl (hts _ (List.mem_cons_of_mem _ t_419)) (fun _ h9 => h9) 2 rfl dX2_openBody_18 ?_
  refine g_geti (C := RX7) (T := TX7) (N := 19) hx hb hts (mc_ inX7) hown hK g mq1_ kq1_ (by decide) rfl 6 (by decide) rfl (hts _ (List.mem_cons_of_mem _ t_647)) (fun _ h9 => h9) rfl dX2_openBody_21 (fun x_3 bx_3 g => ?_)
  refine g_put (C := RX6) (T := TX6) (N := 13) hx hb hts (mc_ inX6) tyX6 tyX6_ok nmX6 hown hK g mq2_ kq2_ (by decide) rfl 8 (by decide) (hts _ (List.mem_cons_of_mem _ t_583)) (fun _ h9 => h9) rfl rfl (okV_i (bd_sub bx_3 (by decide))) rfl rfl (by decide) (Or.inr (Or.inl (by decide))) (fx' := [(7, 6, q1_, .int x_3), (2, 11, a0_, .int 0), (2, 0, a0_, .ref q0_), (2, 3, a0_, .ref q1_), (2, 5, a0_, .ref q2_)]) rfl dX2_openBody_24 (fun f H locs hM_4 g => ?_)
  refine lv_aload_n hx hb dX2_openBody_27 rfl (lv_at hl 1 rfl) ?_
  refine lv_iconst (v := 0) hx hb dX2_openBody_28 (by decide) ?_
  refine lv_iconst (v := (-1)) hx hb dX2_openBody_29 (by decide) ?_
  refine lv_iconst (v := (-1)) hx hb dX2_openBody_30 (by decide) ?_
  refine g_callv (va_runV (As := [.int 0, .int (-1), .int (-1)]) (rest := []) ⟨hx, hb, hml, hown, hts⟩ (r_X2_openBlock l dC dI L kd tys f H.size g.2.2.2.1 a0_ ma0_ ka0_ 0 (-1) (-1) q0_ mq0_ kq0_ (g.fcts [3] rfl)) (cwV 3 hts (gV_ t_1338 t_1340 t_40 t_183 t_1341) rfl rfl rfl (by decide +kernel) ⟨(Nat.le_of_ble_eq_true rfl), (Nat.le_of_ble_eq_true rfl)⟩) (pre3V g hK ma0_ ka0_ (by decide) (q := (RX2, TX2, 16)) rfl) rfl rfl hl.1 rfl (lv_room (Nat.le_of_ble_eq_true rfl)) dX2_openBody_31 ⟨(Nat.le_of_ble_eq_true rfl), (Nat.le_of_ble_eq_true rfl)⟩) g hK (by decide) (by decide) (fx' := [(6, 8, q2_, .int x_3), (7, 6, q1_, .int x_3), (2, 0, a0_, .ref q0_), (2, 3, a0_, .ref q1_), (2, 5, a0_, .ref q2_)]) rfl (fun fr_5 H locs hp hMr_5 g => ?_)
  rcases hp with ⟨x_6, h_7, hF_8⟩ | ⟨x_9, h_10, x_11, h_12, hF_13⟩
  · have g := g.more hF_8
    refine lv_aload_n hx hb dX2_openBody_34 rfl (lv_at hl 1 rfl) ?_
    refine g_getk (C := RX2) (T := TX2) (N := 16) hx hb hts (mc_ inX2) hown hK g rfl 5 (by decide) rfl (hts _ (List.mem_cons_of_mem _ t_421)) (fun _ h9 => h9) 6 rfl dX2_openBody_35 ?_
    refine g_geti (C := RX6) (T := TX6) (N := 13) hx hb hts (mc_ inX6) hown hK g mq2_ kq2_ (by decide) rfl 7 (by decide) rfl (hts _ (List.mem_cons_of_mem _ t_580)) (fun _ h9 => h9) rfl dX2_openBody_38 (fun x_14 bx_14 g => ?_)
    refine lv_istore_n (lv' := [(2, .int x_14), (1, .int r_1), (0, .ref a0_)]) hx hb dX2_openBody_41 rfl hl (by decide) rfl (fun ls hl => ?_)
    refine lv_iload_n hx hb dX2_openBody_42 rfl (lv_at hl 0 rfl) ?_
    refine lv_if_lt (tgt := 91) hx hb dX2_openBody_43 (by decide) (fun c_15 => ?_) (fun c_15 => ?_)
    · have fc_15 := lt_f c_15
      have b_16 : bd (-1) (-1) x_14 := ltL fc_15 bx_14 kb_0 (by decide)
      subst hQ
      exact W.vret hx hb hr (fun t ht hW => ⟨⟨_, rfl, Or.inl ⟨x_6, h_7, x_3, bx_3, (g.fcts [1, 2, 3] rfl)⟩, q3_of g hK ht hW⟩, g.2.2.1.F ht⟩) g.2.2.1.2.2 dX2_openBody_91
    · have fc_15 := nlt_f c_15
      have b_17 : bd 0 95 x_14 := leR fc_15 kb_0 bx_14 (by decide)
      refine lv_iload_n hx hb dX2_openBody_46 rfl (lv_at hl 0 rfl) ?_
      refine lv_aload_n hx hb dX2_openBody_47 rfl (lv_at hl 2 rfl) ?_
      refine g_getk (C := RX2) (T := TX2) (N := 16) hx hb hts (mc_ inX2) hown hK g rfl 3 (by decide) rfl (hts _ (List.mem_cons_of_mem _ t_419)) (fun _ h9 => h9) 6 rfl dX2_openBody_48 ?_
      refine g_geti (C := RX7) (T := TX7) (N := 19) hx hb hts (mc_ inX7) hown hK g mq1_ kq1_ (by decide) rfl 3 (by decide) rfl (hts _ (List.mem_cons_of_mem _ t_638)) (fun _ h9 => h9) rfl dX2_openBody_51 (fun x_18 bx_18 g => ?_)
      refine lv_icmp_ge (tgt := 91) hx hb dX2_openBody_54 (by decide) (fun c_19 => ?_) (fun c_19 => ?_)
      · have fc_19 := le_f c_19
        have b_20 : bd 0 95 x_18 := leL fc_19 bx_18 b_17 (by decide)
        subst hQ
        exact W.vret hx hb hr (fun t ht hW => ⟨⟨_, rfl, Or.inl ⟨x_6, h_7, x_3, bx_3, (g.fcts [2, 3, 4] rfl)⟩, q3_of g hK ht hW⟩, g.2.2.1.F ht⟩) g.2.2.1.2.2 dX2_openBody_91
      · have fc_19 := nle_f c_19
        have b_21 : bd 1 96 x_18 := ltR fc_19 b_17 bx_18 (by decide)
        refine lv_aload_n hx hb dX2_openBody_57 rfl (lv_at hl 2 rfl) ?_
        refine g_getk (C := RX2) (T := TX2) (N := 16) hx hb hts (mc_ inX2) hown hK g rfl 3 (by decide) rfl (hts _ (List.mem_cons_of_mem _ t_419)) (fun _ h9 => h9) 7 rfl dX2_openBody_58 ?_
        refine g_getr (K := 137) (C := RX7) (T := TX7) (N := 19) hx hb hts (mc_ inX7) hown hK g mq1_ kq1_ (by decide) rfl 2 (by decide) rfl (hts _ (List.mem_cons_of_mem _ t_630)) (fun _ h9 => h9) rfl dX2_openBody_61 (fun a_22 ma_22 ka_22 g => ?_)
        refine lv_iload_n hx hb dX2_openBody_64 rfl (lv_at hl 0 rfl) ?_
        refine g_aald hx hb hK g ma_22 ka_22 (by decide) rfl (by decide) (in_bd b_17 (by decide)) dX2_openBody_65 (fun a_23 ma_23 ua_23 wa_23 => ?_)
        have ka_23 : kd a_23 = 6 := by omega
        refine g_geti (C := RX6) (T := TX6) (N := 13) hx hb hts (mc_ inX6) hown hK g ma_23 ka_23 (by decide) rfl 6 (by decide) rfl (hts _ (List.mem_cons_of_mem _ t_578)) (fun _ h9 => h9) rfl dX2_openBody_66 (fun x_24 bx_24 g => ?_)
        refine lv_if_eq (tgt := 91) hx hb dX2_openBody_69 (by decide) (fun c_25 => ?_) (fun c_25 => ?_)
        · have fc_25 := eq_f c_25
          have b_26 : bd 0 0 x_24 := eqX fc_25 bx_24 kb_0 (by decide)
          subst hQ
          exact W.vret hx hb hr (fun t ht hW => ⟨⟨_, rfl, Or.inl ⟨x_6, h_7, x_3, bx_3, (g.fcts [4, 5, 6] rfl)⟩, q3_of g hK ht hW⟩, g.2.2.1.F ht⟩) g.2.2.1.2.2 dX2_openBody_91
        · have fc_25 := neq_f c_25
          have b_27 : bd 1 1 x_24 := neX fc_25 bx_24 kb_0 (by decide)
          refine lv_aload_n hx hb dX2_openBody_72 rfl (lv_at hl 2 rfl) ?_
          refine g_getk (C := RX2) (T := TX2) (N := 16) hx hb hts (mc_ inX2) hown hK g rfl 5 (by decide) rfl (hts _ (List.mem_cons_of_mem _ t_421)) (fun _ h9 => h9) 10 rfl dX2_openBody_73 ?_
          refine g_geti (C := RX6) (T := TX6) (N := 13) hx hb hts (mc_ inX6) hown hK g mq2_ kq2_ (by decide) rfl 6 (by decide) rfl (hts _ (List.mem_cons_of_mem _ t_578)) (fun _ h9 => h9) rfl dX2_openBody_76 (fun x_28 bx_28 g => ?_)
          refine lv_if_ne (tgt := 91) hx hb dX2_openBody_79 (by decide) (fun c_29 => ?_) (fun c_29 => ?_)
          · have fc_29 := neq_f c_29
            have b_30 : bd 1 1 x_28 := neX fc_29 bx_28 kb_0 (by decide)
            subst hQ
            exact W.vret hx hb hr (fun t ht hW => ⟨⟨_, rfl, Or.inl ⟨x_6, h_7, x_3, bx_3, (g.fcts [5, 6, 7] rfl)⟩, q3_of g hK ht hW⟩, g.2.2.1.F ht⟩) g.2.2.1.2.2 dX2_openBody_91
          · have fc_29 := eq_f c_29
            have b_31 : bd 0 0 x_28 := eqX fc_29 bx_28 kb_0 (by decide)
            refine lv_aload_n hx hb dX2_openBody_82 rfl (lv_at hl 2 rfl) ?_
            refine g_getk (C := RX2) (T := TX2) (N := 16) hx hb hts (mc_ inX2) hown hK g rfl 0 (by decide) rfl (hts _ (List.mem_cons_of_mem _ t_416)) (fun _ h9 => h9) 9 rfl dX2_openBody_83 ?_
            refine lv_iconst (v := 5) hx hb dX2_openBody_86 (by decide) ?_
            refine lv_iload_n hx hb dX2_openBody_87 rfl (lv_at hl 1 rfl) ?_
            have kb_5 : bd 5 5 (5 : Int32) := ⟨by decide, by decide⟩
            refine g_callv (va_runV (As := [.int 5, .int r_1]) (rest := []) ⟨hx, hb, hml, hown, hts⟩ (r_X8_fail_9 l dC dI L kd tys fr_5 H.size g.2.2.2.1 q0_ mq0_ kq0_ 5 kb_5 r_1 x_6 h_7 (g.fcts [6] rfl)) (cwV 2 hts (gV_ t_1122 t_1107 t_1108 t_184 t_1109) rfl rfl rfl (by decide +kernel) ⟨(Nat.le_of_ble_eq_true rfl), (Nat.le_of_ble_eq_true rfl)⟩) (pre3V g hK mq0_ kq0_ (by decide) (q := (RX8, TX8, 10)) rfl) rfl rfl hl.1 rfl (lv_room (Nat.le_of_ble_eq_true rfl)) dX2_openBody_88 ⟨(Nat.le_of_ble_eq_true rfl), (Nat.le_of_ble_eq_true rfl)⟩) g hK (by decide) (by decide) (fx' := [(6, 6, q2_, .int x_28), (6, 6, a_23, .int x_24), (7, 2, q1_, .ref a_22), (7, 3, q1_, .int x_18), (6, 7, q2_, .int x_14), (8, 8, q0_, .int x_6), (6, 8, q2_, .int x_3), (7, 6, q1_, .int x_3), (2, 0, a0_, .ref q0_), (2, 3, a0_, .ref q1_), (2, 5, a0_, .ref q2_)]) rfl (fun fr_32 H locs hp hMr_32 g => ?_)
            have hF_33 := hp
            have g := g.more hF_33
            subst hQ
            exact W.vret hx hb hr (fun t ht hW => ⟨⟨_, rfl, Or.inl ⟨x_6, h_7, x_3, bx_3, (g.fcts [0, 6, 7] rfl)⟩, q3_of g hK ht hW⟩, g.2.2.1.F ht⟩) g.2.2.1.2.2 dX2_openBody_91
  · have g := g.more hF_13
    refine lv_aload_n hx hb dX2_openBody_34 rfl (lv_at hl 1 rfl) ?_
    refine g_getk (C := RX2) (T := TX2) (N := 16) hx hb hts (mc_ inX2) hown hK g rfl 5 (by decide) rfl (hts _ (List.mem_cons_of_mem _ t_421)) (fun _ h9 => h9) 6 rfl dX2_openBody_35 ?_
    refine g_geti (C := RX6) (T := TX6) (N := 13) hx hb hts (mc_ inX6) hown hK g mq2_ kq2_ (by decide) rfl 7 (by decide) rfl (hts _ (List.mem_cons_of_mem _ t_580)) (fun _ h9 => h9) rfl dX2_openBody_38 (fun x_34 bx_34 g => ?_)
    refine lv_istore_n (lv' := [(2, .int x_34), (1, .int r_1), (0, .ref a0_)]) hx hb dX2_openBody_41 rfl hl (by decide) rfl (fun ls hl => ?_)
    refine lv_iload_n hx hb dX2_openBody_42 rfl (lv_at hl 0 rfl) ?_
    refine lv_if_lt (tgt := 91) hx hb dX2_openBody_43 (by decide) (fun c_35 => ?_) (fun c_35 => ?_)
    · have fc_35 := lt_f c_35
      have b_36 : bd (-1) (-1) x_34 := ltL fc_35 bx_34 kb_0 (by decide)
      subst hQ
      exact W.vret hx hb hr (fun t ht hW => ⟨⟨_, rfl, Or.inr (⟨x_9, h_10, x_11, h_12, x_3, bx_3, (g.fcts [1, 2, 3] rfl)⟩), q3_of g hK ht hW⟩, g.2.2.1.F ht⟩) g.2.2.1.2.2 dX2_openBody_91
    · have fc_35 := nlt_f c_35
      have b_37 : bd 0 95 x_34 := leR fc_35 kb_0 bx_34 (by decide)
      refine lv_iload_n hx hb dX2_openBody_46 rfl (lv_at hl 0 rfl) ?_
      refine lv_aload_n hx hb dX2_openBody_47 rfl (lv_at hl 2 rfl) ?_
      refine g_getk (C := RX2) (T := TX2) (N := 16) hx hb hts (mc_ inX2) hown hK g rfl 3 (by decide) rfl (hts _ (List.mem_cons_of_mem _ t_419)) (fun _ h9 => h9) 6 rfl dX2_openBody_48 ?_
      refine g_geti (C := RX7) (T := TX7) (N := 19) hx hb hts (mc_ inX7) hown hK g mq1_ kq1_ (by decide) rfl 3 (by decide) rfl (hts _ (List.mem_cons_of_mem _ t_638)) (fun _ h9 => h9) rfl dX2_openBody_51 (fun x_38 bx_38 g => ?_)
      refine lv_icmp_ge (tgt := 91) hx hb dX2_openBody_54 (by decide) (fun c_39 => ?_) (fun c_39 => ?_)
      · have fc_39 := le_f c_39
        have b_40 : bd 0 95 x_38 := leL fc_39 bx_38 b_37 (by decide)
        subst hQ
        exact W.vret hx hb hr (fun t ht hW => ⟨⟨_, rfl, Or.inr (⟨x_9, h_10, x_11, h_12, x_3, bx_3, (g.fcts [2, 3, 4] rfl)⟩), q3_of g hK ht hW⟩, g.2.2.1.F ht⟩) g.2.2.1.2.2 dX2_openBody_91
      · have fc_39 := nle_f c_39
        have b_41 : bd 1 96 x_38 := ltR fc_39 b_37 bx_38 (by decide)
        refine lv_aload_n hx hb dX2_openBody_57 rfl (lv_at hl 2 rfl) ?_
        refine g_getk (C := RX2) (T := TX2) (N := 16) hx hb hts (mc_ inX2) hown hK g rfl 3 (by decide) rfl (hts _ (List.mem_cons_of_mem _ t_419)) (fun _ h9 => h9) 7 rfl dX2_openBody_58 ?_
        refine g_getr (K := 137) (C := RX7) (T := TX7) (N := 19) hx hb hts (mc_ inX7) hown hK g mq1_ kq1_ (by decide) rfl 2 (by decide) rfl (hts _ (List.mem_cons_of_mem _ t_630)) (fun _ h9 => h9) rfl dX2_openBody_61 (fun a_42 ma_42 ka_42 g => ?_)
        refine lv_iload_n hx hb dX2_openBody_64 rfl (lv_at hl 0 rfl) ?_
        refine g_aald hx hb hK g ma_42 ka_42 (by decide) rfl (by decide) (in_bd b_37 (by decide)) dX2_openBody_65 (fun a_43 ma_43 ua_43 wa_43 => ?_)
        have ka_43 : kd a_43 = 6 := by omega
        refine g_geti (C := RX6) (T := TX6) (N := 13) hx hb hts (mc_ inX6) hown hK g ma_43 ka_43 (by decide) rfl 6 (by decide) rfl (hts _ (List.mem_cons_of_mem _ t_578)) (fun _ h9 => h9) rfl dX2_openBody_66 (fun x_44 bx_44 g => ?_)
        refine lv_if_eq (tgt := 91) hx hb dX2_openBody_69 (by decide) (fun c_45 => ?_) (fun c_45 => ?_)
        · have fc_45 := eq_f c_45
          have b_46 : bd 0 0 x_44 := eqX fc_45 bx_44 kb_0 (by decide)
          subst hQ
          exact W.vret hx hb hr (fun t ht hW => ⟨⟨_, rfl, Or.inr (⟨x_9, h_10, x_11, h_12, x_3, bx_3, (g.fcts [4, 5, 6] rfl)⟩), q3_of g hK ht hW⟩, g.2.2.1.F ht⟩) g.2.2.1.2.2 dX2_openBody_91
        · have fc_45 := neq_f c_45
          have b_47 : bd 1 1 x_44 := neX fc_45 bx_44 kb_0 (by decide)
          refine lv_aload_n hx hb dX2_openBody_72 rfl (lv_at hl 2 rfl) ?_
          refine g_getk (C := RX2) (T := TX2) (N := 16) hx hb hts (mc_ inX2) hown hK g rfl 5 (by decide) rfl (hts _ (List.mem_cons_of_mem _ t_421)) (fun _ h9 => h9) 10 rfl dX2_openBody_73 ?_
          refine g_geti (C := RX6) (T := TX6) (N := 13) hx hb hts (mc_ inX6) hown hK g mq2_ kq2_ (by decide) rfl 6 (by decide) rfl (hts _ (List.mem_cons_of_mem _ t_578)) (fun _ h9 => h9) rfl dX2_openBody_76 (fun x_48 bx_48 g => ?_)
          refine lv_if_ne (tgt := 91) hx hb dX2_openBody_79 (by decide) (fun c_49 => ?_) (fun c_49 => ?_)
          · have fc_49 := neq_f c_49
            have b_50 : bd 1 1 x_48 := neX fc_49 bx_48 kb_0 (by decide)
            subst hQ
            exact W.vret hx hb hr (fun t ht hW => ⟨⟨_, rfl, Or.inr (⟨x_9, h_10, x_11, h_12, x_3, bx_3, (g.fcts [5, 6, 7] rfl)⟩), q3_of g hK ht hW⟩, g.2.2.1.F ht⟩) g.2.2.1.2.2 dX2_openBody_91
          · have fc_49 := eq_f c_49
            have b_51 : bd 0 0 x_48 := eqX fc_49 bx_48 kb_0 (by decide)
            refine lv_aload_n hx hb dX2_openBody_82 rfl (lv_at hl 2 rfl) ?_
            refine g_getk (C := RX2) (T := TX2) (N := 16) hx hb hts (mc_ inX2) hown hK g rfl 0 (by decide) rfl (hts _ (List.mem_cons_of_mem _ t_416)) (fun _ h9 => h9) 9 rfl dX2_openBody_83 ?_
            refine lv_iconst (v := 5) hx hb dX2_openBody_86 (by decide) ?_
            refine lv_iload_n hx hb dX2_openBody_87 rfl (lv_at hl 1 rfl) ?_
            have kb_5 : bd 5 5 (5 : Int32) := ⟨by decide, by decide⟩
            refine g_callv (va_runV (As := [.int 5, .int r_1]) (rest := []) ⟨hx, hb, hml, hown, hts⟩ (r_X8_fail_2 l dC dI L kd tys fr_5 H.size g.2.2.2.1 q0_ mq0_ kq0_ 5 kb_5 r_1) (cwV 2 hts (gV_ t_1122 t_1107 t_1108 t_184 t_1109) rfl rfl rfl (by decide +kernel) ⟨(Nat.le_of_ble_eq_true rfl), (Nat.le_of_ble_eq_true rfl)⟩) (pre3V g hK mq0_ kq0_ (by decide) (q := (RX8, TX8, 10)) rfl) rfl rfl hl.1 rfl (lv_room (Nat.le_of_ble_eq_true rfl)) dX2_openBody_88 ⟨(Nat.le_of_ble_eq_true rfl), (Nat.le_of_ble_eq_true rfl)⟩) g hK (by decide) (by decide) (fx' := [(6, 6, q2_, .int x_48), (6, 6, a_43, .int x_44), (7, 2, q1_, .ref a_42), (7, 3, q1_, .int x_38), (6, 7, q2_, .int x_34), (2, 11, a0_, .int x_11), (6, 8, q2_, .int x_3), (7, 6, q1_, .int x_3), (2, 0, a0_, .ref q0_), (2, 3, a0_, .ref q1_), (2, 5, a0_, .ref q2_)]) rfl (fun fr_52 H locs hp hMr_52 g => ?_)
            obtain ⟨x_53, h_54, hF_55⟩ := hp
            have g := g.more hF_55
            subst hQ
            exact W.vret hx hb hr (fun t ht hW => ⟨⟨_, rfl, Or.inl ⟨x_53, h_54, x_3, bx_3, (g.fcts [0, 1, 8] rfl)⟩, q3_of g hK ht hW⟩, g.2.2.1.F ht⟩) g.2.2.1.2.2 dX2_openBody_91
