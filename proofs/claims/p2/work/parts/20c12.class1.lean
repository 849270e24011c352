set_option maxHeartbeats 4000000 in
set_option maxRecDepth 100000 in
theorem r_X2_atMark (l : Launch) (dC : Nat → ClassId) (dI : Nat → Nat → Nat) (L : List Nat) (kd : Nat → Nat) (tys : List (ClassId × FieldType)) (f0 : Nat → va_E) (sz : Nat) (hWT : WT L kd tys f0) (a0_ : Nat) (ma0_ : a0_ ∈ L) (ka0_ : kd a0_ = 2) : Met l yX2_atMark (.code yX2_atMark cX2_atMark 2 (some .boolean) :: lw_g) ({ frames := 1, cells := 0, slots := 0, locals := 20 }) (va_Pc [.ref a0_] (P3 (dC, dI) L tys f0 sz)) (va_Qi (fun (r : Int32) (f : Nat → va_E) => (r = 0 ∧ True) ∨ (r = 1 ∧ True)) (Q3 (dC, dI) L kd tys [] [] f0 sz) (pA L sz)) 0 0 (pA L sz) := by
  refine Met.ofW (cc := cX2_atMark) (maxL := 2) (ret := (some .boolean)) (by decide) rfl ?_
  intro p e s m args below meth c s₁ B hml hv
  obtain ⟨rfl, hsz, hP, hK, hD0⟩ := hv
  have hx := B.exec
  have hb := B.bytes
  have hr := B.returns
  have hts := atoms_spec (ws := (.code yX2_atMark cX2_atMark 2 (some .boolean) :: lw_g)) B.pre
  have hown : s.vm.findClass RX2 = some m.cls := findClass_of_methodNamed B.named
  have hlocks := B.notSynchronized
  subst hsz
  have g : G3 (dC, dI) L kd tys s f0 [] [] f0 s.heap [] [] := G3.start hP hD0 hWT Fs.nil
  have hl := lv_entry ([.ref a0_]) (n := 2) (Nat.le_of_ble_eq_true rfl)
  rw [lg_entry_eq]
  generalize (lg_sl ([.ref a0_]) ++ List.replicate (2 - (lg_sl ([.ref a0_])).length) Slot.unset).toArray = ls at hl ⊢
  have hl : lv_has ls 2 [(0, .ref a0_)] := hl
  refine W_q (fun Q hQ => ?_)
  refine lv_aload_n hx hb dX2_atMark_0 rfl (lv_at hl 0 rfl) ?_
  refine g_getr (K := 8) (C := RX2) (T := TX2) (N := 16) hx hb hts (mc_ inX2) hown hK g ma0_ ka0_ (by decide) rfl 0 (by decide) rfl (hts _ (List.mem_cons_of_mem _ t_416)) (fun _ h9 => h9) rfl dX2_atMark_1 (fun a_1 ma_1 ka_1 g => ?_)
  refine g_calli (va_runV (As := []) (rest := []) ⟨hx, hb, hml, hown, hts⟩ (r_X8_kind l dC dI L kd tys f0 s.heap.size g.2.2.2.1 a_1 ma_1 ka_1) (cwV 0 hts (gV_ t_1118 t_1119 t_1120 t_184 t_1121) rfl rfl rfl (by decide +kernel) ⟨(Nat.le_of_ble_eq_true rfl), (Nat.le_of_ble_eq_true rfl)⟩) (pre3V g hK ma_1 ka_1 (by decide) (q := (RX8, TX8, 10)) rfl) rfl rfl hl.1 rfl (lv_room (Nat.le_of_ble_eq_true rfl)) dX2_atMark_4 ⟨(Nat.le_of_ble_eq_true rfl), (Nat.le_of_ble_eq_true rfl)⟩) g hK (by decide) (by decide) (fx' := [(2, 0, a0_, .ref a_1)]) rfl (fun r_2 fr_2 H locs hp hMr_2 g => ?_)
  refine lv_istore_n (lv' := [(1, .int r_2), (0, .ref a0_)]) hx hb dX2_atMark_7 rfl hl (by decide) rfl (fun ls hl => ?_)
  refine lv_iload_n hx hb dX2_atMark_8 rfl (lv_at hl 0 rfl) ?_
  refine lv_bipush (v := 16) hx hb dX2_atMark_9 (by decide) ?_
  have kb_16 : bd 16 16 (16 : Int32) := ⟨by decide, by decide⟩
  refine lv_icmp_eq (tgt := 38) hx hb dX2_atMark_11 (by decide) (fun c_3 => ?_) (fun c_3 => ?_)
  · have fc_3 := eq_f c_3
    have b_4 : bd 16 16 r_2 := eqX fc_3 (bdT r_2) kb_16 (by decide)
    refine lv_iconst (v := 1) hx hb dX2_atMark_38 (by decide) ?_
    refine lv_goto (tgt := 43) hx hb dX2_atMark_39 (by decide) ?_
    subst hQ
    have kb_1 : bd 1 1 (1 : Int32) := ⟨by decide, by decide⟩
    exact W.zret (v := 1) hx hb hr (nar_z (bd_sub kb_1 (by decide) : bd 0 1 _).1 (bd_sub kb_1 (by decide) : bd 0 1 _).2) (fun t ht hW => ⟨⟨_, _, rfl, Or.inr (⟨rfl, trivial⟩), q3_of g hK ht hW⟩, g.2.2.1.F ht⟩) g.2.2.1.2.2 dX2_atMark_43
  · have fc_3 := neq_f c_3
    refine lv_iload_n hx hb dX2_atMark_14 rfl (lv_at hl 0 rfl) ?_
    refine lv_bipush (v := 17) hx hb dX2_atMark_15 (by decide) ?_
    have kb_17 : bd 17 17 (17 : Int32) := ⟨by decide, by decide⟩
    refine lv_icmp_eq (tgt := 38) hx hb dX2_atMark_17 (by decide) (fun c_5 => ?_) (fun c_5 => ?_)
    · have fc_5 := eq_f c_5
      have b_6 : bd 17 17 r_2 := eqX fc_5 (bdT r_2) kb_17 (by decide)
      refine lv_iconst (v := 1) hx hb dX2_atMark_38 (by decide) ?_
      refine lv_goto (tgt := 43) hx hb dX2_atMark_39 (by decide) ?_
      subst hQ
      have kb_1 : bd 1 1 (1 : Int32) := ⟨by decide, by decide⟩
      exact W.zret (v := 1) hx hb hr (nar_z (bd_sub kb_1 (by decide) : bd 0 1 _).1 (bd_sub kb_1 (by decide) : bd 0 1 _).2) (fun t ht hW => ⟨⟨_, _, rfl, Or.inr (⟨rfl, trivial⟩), q3_of g hK ht hW⟩, g.2.2.1.F ht⟩) g.2.2.1.2.2 dX2_atMark_43
    · have fc_5 := neq_f c_5
      refine lv_iload_n hx hb dX2_atMark_20 rfl (lv_at hl 0 rfl) ?_
      refine lv_bipush (v := 18) hx hb dX2_atMark_21 (by decide) ?_
      have kb_18 : bd 18 18 (18 : Int32) := ⟨by decide, by decide⟩
      refine lv_icmp_eq (tgt := 38) hx hb dX2_atMark_23 (by decide) (fun c_7 => ?_) (fun c_7 => ?_)
      · have fc_7 := eq_f c_7
        have b_8 : bd 18 18 r_2 := eqX fc_7 (bdT r_2) kb_18 (by decide)
        refine lv_iconst (v := 1) hx hb dX2_atMark_38 (by decide) ?_
        refine lv_goto (tgt := 43) hx hb dX2_atMark_39 (by decide) ?_
        subst hQ
        have kb_1 : bd 1 1 (1 : Int32) := ⟨by decide, by decide⟩
        exact W.zret (v := 1) hx hb hr (nar_z (bd_sub kb_1 (by decide) : bd 0 1 _).1 (bd_sub kb_1 (by decide) : bd 0 1 _).2) (fun t ht hW => ⟨⟨_, _, rfl, Or.inr (⟨rfl, trivial⟩), q3_of g hK ht hW⟩, g.2.2.1.F ht⟩) g.2.2.1.2.2 dX2_atMark_43
      · have fc_7 := neq_f c_7
        refine lv_iload_n hx hb dX2_atMark_26 rfl (lv_at hl 0 rfl) ?_
        refine lv_bipush (v := 20) hx hb dX2_atMark_27 (by decide) ?_
        have kb_20 : bd 20 20 (20 : Int32) := ⟨by decide, by decide⟩
        refine lv_icmp_eq (tgt := 38) hx hb dX2_atMark_29 (by decide) (fun c_9 => ?_) (fun c_9 => ?_)
        · have fc_9 := eq_f c_9
          have b_10 : bd 20 20 r_2 := eqX fc_9 (bdT r_2) kb_20 (by decide)
          refine lv_iconst (v := 1) hx hb dX2_atMark_38 (by decide) ?_
          refine lv_goto (tgt := 43) hx hb dX2_atMark_39 (by decide) ?_
          subst hQ
          have kb_1 : bd 1 1 (1 : Int32) := ⟨by decide, by decide⟩
          exact W.zret (v := 1) hx hb hr (nar_z (bd_sub kb_1 (by decide) : bd 0 1 _).1 (bd_sub kb_1 (by decide) : bd 0 1 _).2) (fun t ht hW => ⟨⟨_, _, rfl, Or.inr (⟨rfl, trivial⟩), q3_of g hK ht hW⟩, g.2.2.1.F ht⟩) g.2.2.1.2.2 dX2_atMark_43
        · have fc_9 := neq_f c_9
          refine lv_iload_n hx hb dX2_atMark_32 rfl (lv_at hl 0 rfl) ?_
          refine lv_bipush (v := 21) hx hb dX2_atMark_33 (by decide) ?_
          have kb_21 : bd 21 21 (21 : Int32) := ⟨by decide, by decide⟩
          refine lv_icmp_ne (tgt := 42) hx hb dX2_atMark_35 (by decide) (fun c_11 => ?_) (fun c_11 => ?_)
          · have fc_11 := neq_f c_11
            refine lv_iconst (v := 0) hx hb dX2_atMark_42 (by decide) ?_
            subst hQ
            have kb_0 : bd 0 0 (0 : Int32) := ⟨by decide, by decide⟩
            exact W.zret (v := 0) hx hb hr (nar_z (bd_sub kb_0 (by decide) : bd 0 1 _).1 (bd_sub kb_0 (by decide) : bd 0 1 _).2) (fun t ht hW => ⟨⟨_, _, rfl, Or.inl ⟨rfl, trivial⟩, q3_of g hK ht hW⟩, g.2.2.1.F ht⟩) g.2.2.1.2.2 dX2_atMark_43
          · have fc_11 := eq_f c_11
            have b_12 : bd 21 21 r_2 := eqX fc_11 (bdT r_2) kb_21 (by decide)
            refine lv_iconst (v := 1) hx hb dX2_atMark_38 (by decide) ?_
            refine lv_goto (tgt := 43) hx hb dX2_atMark_39 (by decide) ?_
            subst hQ
            have kb_1 : bd 1 1 (1 : Int32) := ⟨by decide, by decide⟩
            exact W.zret (v := 1) hx hb hr (nar_z (bd_sub kb_1 (by decide) : bd 0 1 _).1 (bd_sub kb_1 (by decide) : bd 0 1 _).2) (fun t ht hW => ⟨⟨_, _, rfl, Or.inr (⟨rfl, trivial⟩), q3_of g hK ht hW⟩, g.2.2.1.F ht⟩) g.2.2.1.2.2 dX2_atMark_43
set_option maxHeartbeats 4000000 in
set_option maxRecDepth 100000 in
theorem r_X7_addMark (l : Launch) (dC : Nat → ClassId) (dI : Nat → Nat → Nat) (L : List Nat) (kd : Nat → Nat) (tys : List (ClassId × FieldType)) (f0 : Nat → va_E) (sz : Nat) (hWT : WT L kd tys f0) (a0_ : Nat) (ma0_ : a0_ ∈ L) (ka0_ : kd a0_ = 7) (x1_ : Int32) (x2_ : Int32) (x3_ : Int32) : Met l yX7_addMark (.code yX7_addMark cX7_addMark 5 (some .int) :: lw_g) ({ frames := 1, cells := 0, slots := 0, locals := 13 }) (va_Pc [.ref a0_, .int x1_, .int x2_, .int x3_] (P3 (dC, dI) L tys f0 sz)) (va_Qi (fun (r : Int32) (f : Nat → va_E) => (bd 0 499 r ∧ ∃ z0_ : Int32, bd 1 500 z0_ ∧ Fs L kd f [(7, 13, a0_, .int z0_)])) (Q3 (dC, dI) L kd tys [(7, 13)] [140, 141, 142, 143, 144, 145] f0 sz) (pA L sz)) 0 0 (pA L sz) := by
  refine Met.ofW (cc := cX7_addMark) (maxL := 5) (ret := (some .int)) (by decide) rfl ?_
  intro p e s m args below meth c s₁ B hml hv
  obtain ⟨rfl, hsz, hP, hK, hD0⟩ := hv
  have hx := B.exec
  have hb := B.bytes
  have hr := B.returns
  have hts := atoms_spec (ws := (.code yX7_addMark cX7_addMark 5 (some .int) :: lw_g)) B.pre
  have hown : s.vm.findClass RX7 = some m.cls := findClass_of_methodNamed B.named
  have hlocks := B.notSynchronized
  subst hsz
  have g : G3 (dC, dI) L kd tys s f0 [(7, 13)] [140, 141, 142, 143, 144, 145] f0 s.heap [] [] := G3.start hP hD0 hWT Fs.nil
  have hl := lv_entry ([.ref a0_, .int x1_, .int x2_, .int x3_]) (n := 5) (Nat.le_of_ble_eq_true rfl)
  rw [lg_entry_eq]
  generalize (lg_sl ([.ref a0_, .int x1_, .int x2_, .int x3_]) ++ List.replicate (5 - (lg_sl ([.ref a0_, .int x1_, .int x2_, .int x3_])).length) Slot.unset).toArray = ls at hl ⊢
  have hl : lv_has ls 5 [(0, .ref a0_), (1, .int x1_), (2, .int x2_), (3, .int x3_)] := hl
  refine W_q (fun Q hQ => ?_)
  refine lv_aload_n hx hb dX7_addMark_0 rfl (lv_at hl 0 rfl) ?_
  refine g_geti (C := RX7) (T := TX7) (N := 19) hx hb hts (mc_ inX7) hown hK g ma0_ ka0_ (by decide) rfl 13 (by decide) rfl (hts _ (List.mem_cons_of_mem _ t_666)) (fun _ h9 => h9) rfl dX7_addMark_1 (fun x_1 bx_1 g => ?_)
  refine lv_sipush (v := 499) hx hb dX7_addMark_4 (by decide) ?_
  have kb_499 : bd 499 499 (499 : Int32) := ⟨by decide, by decide⟩
  refine va_mmin hx hb (hml.trans hl.1.symm) hown (hts _ (List.mem_cons_of_mem _ t_1177)) (hts _ (List.mem_cons_of_mem _ t_998)) (hts _ (List.mem_cons_of_mem _ t_204)) (hts _ (List.mem_cons_of_mem _ t_999)) (Nat.le_of_ble_eq_true rfl) (Nat.le_of_ble_eq_true rfl) (Nat.le_of_ble_eq_true rfl) (Nat.le_of_ble_eq_true rfl) dX7_addMark_7 ?_
  refine lv_topi (fun y_2 ey_2 => ?_)
  have ty_2 : y_2.toInt = min x_1.toInt (499 : Int32).toInt := by rw [ey_2]; exact mmin_ok _ _
  have b_3 : bd 0 499 y_2 := min_rg ty_2 bx_1 kb_499 (by decide)
  refine lv_istore (lv' := [(4, .int y_2), (0, .ref a0_), (1, .int x1_), (2, .int x2_), (3, .int x3_)]) hx hb dX7_addMark_10 hl (by decide) rfl (fun ls hl => ?_)
  refine lv_aload_n hx hb dX7_addMark_12 rfl (lv_at hl 1 rfl) ?_
  refine g_getr (K := 140) (C := RX7) (T := TX7) (N := 19) hx hb hts (mc_ inX7) hown hK g ma0_ ka0_ (by decide) rfl 7 (by decide) rfl (hts _ (List.mem_cons_of_mem _ t_648)) (fun _ h9 => h9) rfl dX7_addMark_13 (fun a_4 ma_4 ka_4 g => ?_)
  refine lv_iload hx hb dX7_addMark_16 (lv_at hl 0 rfl) ?_
  refine lv_iload_n hx hb dX7_addMark_18 rfl (lv_at hl 2 rfl) ?_
  refine g_iast hx hb hK g ma_4 ka_4 (by decide) rfl (in_bd b_3 (by decide)) (bdT x1_) (by decide) dX7_addMark_19 (fun f H locs hM_5 g => ?_)
  refine lv_aload_n hx hb dX7_addMark_20 rfl (lv_at hl 1 rfl) ?_
  refine g_getr (K := 144) (C := RX7) (T := TX7) (N := 19) hx hb hts (mc_ inX7) hown hK g ma0_ ka0_ (by decide) rfl 11 (by decide) rfl (hts _ (List.mem_cons_of_mem _ t_661)) (fun _ h9 => h9) rfl dX7_addMark_21 (fun a_6 ma_6 ka_6 g => ?_)
  refine lv_iload hx hb dX7_addMark_24 (lv_at hl 0 rfl) ?_
  refine lv_iload_n hx hb dX7_addMark_26 rfl (lv_at hl 3 rfl) ?_
  refine g_iast hx hb hK g ma_6 ka_6 (by decide) rfl (in_bd b_3 (by decide)) (bdT x2_) (by decide) dX7_addMark_27 (fun f H locs hM_7 g => ?_)
  refine lv_aload_n hx hb dX7_addMark_28 rfl (lv_at hl 1 rfl) ?_
  refine g_getr (K := 142) (C := RX7) (T := TX7) (N := 19) hx hb hts (mc_ inX7) hown hK g ma0_ ka0_ (by decide) rfl 9 (by decide) rfl (hts _ (List.mem_cons_of_mem _ t_654)) (fun _ h9 => h9) rfl dX7_addMark_29 (fun a_8 ma_8 ka_8 g => ?_)
  refine lv_iload hx hb dX7_addMark_32 (lv_at hl 0 rfl) ?_
  refine lv_iload_n hx hb dX7_addMark_34 rfl (lv_at hl 4 rfl) ?_
  refine g_iast hx hb hK g ma_8 ka_8 (by decide) rfl (in_bd b_3 (by decide)) (bdT x3_) (by decide) dX7_addMark_35 (fun f H locs hM_9 g => ?_)
  refine lv_aload_n hx hb dX7_addMark_36 rfl (lv_at hl 1 rfl) ?_
  refine g_getr (K := 141) (C := RX7) (T := TX7) (N := 19) hx hb hts (mc_ inX7) hown hK g ma0_ ka0_ (by decide) rfl 8 (by decide) rfl (hts _ (List.mem_cons_of_mem _ t_651)) (fun _ h9 => h9) rfl dX7_addMark_37 (fun a_10 ma_10 ka_10 g => ?_)
  refine lv_iload hx hb dX7_addMark_40 (lv_at hl 0 rfl) ?_
  refine lv_aload_n hx hb dX7_addMark_42 rfl (lv_at hl 1 rfl) ?_
  refine g_geti (C := RX7) (T := TX7) (N := 19) hx hb hts (mc_ inX7) hown hK g ma0_ ka0_ (by decide) rfl 6 (by decide) rfl (hts _ (List.mem_cons_of_mem _ t_644)) (fun _ h9 => h9) rfl dX7_addMark_43 (fun x_11 bx_11 g => ?_)
  refine g_iast hx hb hK g ma_10 ka_10 (by decide) rfl (in_bd b_3 (by decide)) (bd_sub bx_11 (by decide)) (by decide) dX7_addMark_46 (fun f H locs hM_12 g => ?_)
  refine lv_aload_n hx hb dX7_addMark_47 rfl (lv_at hl 1 rfl) ?_
  refine g_getr (K := 143) (C := RX7) (T := TX7) (N := 19) hx hb hts (mc_ inX7) hown hK g ma0_ ka0_ (by decide) rfl 10 (by decide) rfl (hts _ (List.mem_cons_of_mem _ t_658)) (fun _ h9 => h9) rfl dX7_addMark_48 (fun a_13 ma_13 ka_13 g => ?_)
  refine lv_iload hx hb dX7_addMark_51 (lv_at hl 0 rfl) ?_
  refine lv_iconst (v := 0) hx hb dX7_addMark_53 (by decide) ?_
  have kb_0 : bd 0 0 (0 : Int32) := ⟨by decide, by decide⟩
  refine g_iast hx hb hK g ma_13 ka_13 (by decide) rfl (in_bd b_3 (by decide)) (bd_sub kb_0 (by decide)) (by decide) dX7_addMark_54 (fun f H locs hM_14 g => ?_)
  refine lv_aload_n hx hb dX7_addMark_55 rfl (lv_at hl 1 rfl) ?_
  refine g_getr (K := 145) (C := RX7) (T := TX7) (N := 19) hx hb hts (mc_ inX7) hown hK g ma0_ ka0_ (by decide) rfl 12 (by decide) rfl (hts _ (List.mem_cons_of_mem _ t_663)) (fun _ h9 => h9) rfl dX7_addMark_56 (fun a_15 ma_15 ka_15 g => ?_)
  refine lv_iload hx hb dX7_addMark_59 (lv_at hl 0 rfl) ?_
  refine lv_lconst (v := 0) hx hb dX7_addMark_61 (by decide) ?_
  refine g_last hx hb hK g ma_15 ka_15 (by decide) rfl (in_bd b_3 (by decide)) (by decide) dX7_addMark_62 (fun f H locs hM_16 g => ?_)
  refine lv_aload_n hx hb dX7_addMark_63 rfl (lv_at hl 1 rfl) ?_
  refine lv_iload hx hb dX7_addMark_64 (lv_at hl 0 rfl) ?_
  refine lv_iconst (v := 1) hx hb dX7_addMark_66 (by decide) ?_
  have kb_1 : bd 1 1 (1 : Int32) := ⟨by decide, by decide⟩
  refine lv_iadd hx hb dX7_addMark_67 ?_
  refine lv_topi (fun y_17 ey_17 => ?_)
  have ty_17 := add_bd ey_17 b_3 kb_1 (by decide)
  have b_18 : bd 1 500 y_17 := add_rg ty_17 b_3 kb_1 (by decide)
  refine g_put (C := RX7) (T := TX7) (N := 19) hx hb hts (mc_ inX7) tyX7 tyX7_ok nmX7 hown hK g ma0_ ka0_ (by decide) rfl 13 (by decide) (hts _ (List.mem_cons_of_mem _ t_666)) (fun _ h9 => h9) rfl rfl (okV_i (bd_sub b_18 (by decide))) rfl rfl (by decide) (Or.inr (Or.inl (by decide))) (fx' := [(7, 12, a0_, .ref a_15), (7, 10, a0_, .ref a_13), (7, 6, a0_, .int x_11), (7, 8, a0_, .ref a_10), (7, 9, a0_, .ref a_8), (7, 11, a0_, .ref a_6), (7, 7, a0_, .ref a_4)]) rfl dX7_addMark_68 (fun f H locs hM_19 g => ?_)
  refine lv_iload hx hb dX7_addMark_71 (lv_at hl 0 rfl) ?_
  subst hQ
  exact W.iret (v := y_2) hx hb hr (fun t ht hW => ⟨⟨_, _, rfl, ⟨b_3, y_17, b_18, (g.fcts [0] rfl)⟩, q3_of g hK ht hW⟩, g.2.2.1.F ht⟩) g.2.2.1.2.2 dX7_addMark_73
set_option maxHeartbeats 4000000 in
set_option maxRecDepth 100000 in
theorem r_X2_readThrownWord (l : Launch) (dC : Nat → ClassId) (dI : Nat → Nat → Nat) (L : List Nat) (kd : Nat → Nat) (tys : List (ClassId × FieldType)) (f0 : Nat → va_E) (sz : Nat) (hWT : WT L kd tys f0) (a0_ : Nat) (ma0_ : a0_ ∈ L) (ka0_ : kd a0_ = 2) (q0_ : Nat) (mq0_ : q0_ ∈ L) (kq0_ : kd q0_ = 8) (q1_ : Nat) (mq1_ : q1_ ∈ L) (kq1_ : kd q1_ = 7) (hfx : Fs L kd f0 [(2, 0, a0_, .ref q0_), (2, 3, a0_, .ref q1_)]) : Met l yX2_readThrownWord (.code yX2_readThrownWord cX2_readThrownWord 2 (some .boolean) :: lw_g) ({ frames := 2, cells := 0, slots := 0, locals := 44 }) (va_Pc [.ref a0_] (P3 (dC, dI) L tys f0 sz)) (va_Qi (fun (r : Int32) (f : Nat → va_E) => (r = 0 ∧ ∃ z0_ : Int32, bd 1 1201 z0_ ∧ ∃ z1_ : Int32, bd 1 500 z1_ ∧ Fs L kd f [(8, 6, q0_, .int z0_), (7, 13, q1_, .int z1_)]) ∨ (r = 1 ∧ ∃ z0_ : Int32, bd 1 1201 z0_ ∧ ∃ z1_ : Int32, bd 1 500 z1_ ∧ Fs L kd f [(8, 6, q0_, .int z0_), (7, 13, q1_, .int z1_)])) (Q3 (dC, dI) L kd tys [(7, 13), (8, 6), (8, 8), (8, 9)] [140, 141, 142, 143, 144, 145] f0 sz) (pA L sz)) 0 0 (pA L sz) := by
  refine Met.ofW (cc := cX2_readThrownWord) (maxL := 2) (ret := (some .boolean)) (by decide) rfl ?_
  intro p e s m args below meth c s₁ B hml hv
  obtain ⟨rfl, hsz, hP, hK, hD0⟩ := hv
  have hx := B.exec
  have hb := B.bytes
  have hr := B.returns
  have hts := atoms_spec (ws := (.code yX2_readThrownWord cX2_readThrownWord 2 (some .boolean) :: lw_g)) B.pre
  have hown : s.vm.findClass RX2 = some m.cls := findClass_of_methodNamed B.named
  have hlocks := B.notSynchronized
  subst hsz
  have g : G3 (dC, dI) L kd tys s f0 [(7, 13), (8, 6), (8, 8), (8, 9)] [140, 141, 142, 143, 144, 145] f0 s.heap [] [(2, 0, a0_, .ref q0_), (2, 3, a0_, .ref q1_)] := G3.start hP hD0 hWT hfx
  have hl := lv_entry ([.ref a0_]) (n := 2) (Nat.le_of_ble_eq_true rfl)
  rw [lg_entry_eq]
  generalize (lg_sl ([.ref a0_]) ++ List.replicate (2 - (lg_sl ([.ref a0_])).length) Slot.unset).toArray = ls at hl ⊢
  have hl : lv_has ls 2 [(0, .ref a0_)] := hl
  refine W_q (fun Q hQ => ?_)
  refine lv_aload_n hx hb dX2_readThrownWord_0 rfl (lv_at hl 0 rfl) ?_
  refine g_getk (C := RX2) (T := TX2) (N := 16) hx hb hts (mc_ inX2) hown hK g rfl 3 (by decide) rfl (hts _ (List.mem_cons_of_mem _ t_419)) (fun _ h9 => h9) 1 rfl dX2_readThrownWord_1 ?_
  refine lv_iconst (v := 4) hx hb dX2_readThrownWord_4 (by decide) ?_
  refine lv_aload_n hx hb dX2_readThrownWord_5 rfl (lv_at hl 0 rfl) ?_
  refine g_getr (K := 5) (C := RX2) (T := TX2) (N := 16) hx hb hts (mc_ inX2) hown hK g ma0_ ka0_ (by decide) rfl 1 (by decide) rfl (hts _ (List.mem_cons_of_mem _ t_417)) (fun _ h9 => h9) rfl dX2_readThrownWord_6 (fun a_1 ma_1 ka_1 g => ?_)
  refine g_geti (C := RX5) (T := TX5) (N := 9) hx hb hts (mc_ inX5) hown hK g ma_1 ka_1 (by decide) rfl 2 (by decide) rfl (hts _ (List.mem_cons_of_mem _ t_333)) (fun _ h9 => h9) rfl dX2_readThrownWord_9 (fun x_2 bx_2 g => ?_)
  refine lv_aload_n hx hb dX2_readThrownWord_12 rfl (lv_at hl 0 rfl) ?_
  refine g_getk (C := RX2) (T := TX2) (N := 16) hx hb hts (mc_ inX2) hown hK g rfl 0 (by decide) rfl (hts _ (List.mem_cons_of_mem _ t_416)) (fun _ h9 => h9) 2 rfl dX2_readThrownWord_13 ?_
  refine g_calli (va_runV (As := []) (rest := [.int x_2, .int 4, .ref q1_]) ⟨hx, hb, hml, hown, hts⟩ (r_X8_place l dC dI L kd tys f0 s.heap.size g.2.2.2.1 q0_ mq0_ kq0_) (cwV 0 hts (gV_ t_1110 t_1111 t_1112 t_184 t_1113) rfl rfl rfl (by decide +kernel) ⟨(Nat.le_of_ble_eq_true rfl), (Nat.le_of_ble_eq_true rfl)⟩) (pre3V g hK mq0_ kq0_ (by decide) (q := (RX8, TX8, 10)) rfl) rfl rfl hl.1 rfl (lv_room (Nat.le_of_ble_eq_true rfl)) dX2_readThrownWord_16 ⟨(Nat.le_of_ble_eq_true rfl), (Nat.le_of_ble_eq_true rfl)⟩) g hK (by decide) (by decide) (fx' := [(5, 2, a_1, .int x_2), (2, 1, a0_, .ref a_1), (2, 0, a0_, .ref q0_), (2, 3, a0_, .ref q1_)]) rfl (fun r_3 fr_3 H locs hp hMr_3 g => ?_)
  refine g_calli (va_runV (As := [.int 4, .int x_2, .int r_3]) (rest := []) ⟨hx, hb, hml, hown, hts⟩ (r_X7_addMark l dC dI L kd tys fr_3 H.size g.2.2.2.1 q1_ mq1_ kq1_ 4 x_2 r_3) (cwV 3 hts (gV_ t_1173 t_1174 t_1175 t_191 t_1176) rfl rfl rfl (by decide +kernel) ⟨(Nat.le_of_ble_eq_true rfl), (Nat.le_of_ble_eq_true rfl)⟩) (pre3V g hK mq1_ kq1_ (by decide) (q := (RX7, TX7, 19)) rfl) rfl rfl hl.1 rfl (lv_room (Nat.le_of_ble_eq_true rfl)) dX2_readThrownWord_19 ⟨(Nat.le_of_ble_eq_true rfl), (Nat.le_of_ble_eq_true rfl)⟩) g hK (by decide) (by decide) (fx' := [(5, 2, a_1, .int x_2), (2, 1, a0_, .ref a_1), (2, 0, a0_, .ref q0_), (2, 3, a0_, .ref q1_)]) rfl (fun r_4 fr_4 H locs hp hMr_4 g => ?_)
  obtain ⟨h_5, x_6, h_7, hF_8⟩ := hp
  have g := g.more hF_8
  refine lv_istore_n (lv' := [(1, .int r_4), (0, .ref a0_)]) hx hb dX2_readThrownWord_22 rfl hl (by decide) rfl (fun ls hl => ?_)
  refine lv_aload_n hx hb dX2_readThrownWord_23 rfl (lv_at hl 1 rfl) ?_
  refine g_getk (C := RX2) (T := TX2) (N := 16) hx hb hts (mc_ inX2) hown hK g rfl 3 (by decide) rfl (hts _ (List.mem_cons_of_mem _ t_419)) (fun _ h9 => h9) 4 rfl dX2_readThrownWord_24 ?_
  refine g_getr (K := 145) (C := RX7) (T := TX7) (N := 19) hx hb hts (mc_ inX7) hown hK g mq1_ kq1_ (by decide) rfl 12 (by decide) rfl (hts _ (List.mem_cons_of_mem _ t_664)) (fun _ h9 => h9) rfl dX2_readThrownWord_27 (fun a_9 ma_9 ka_9 g => ?_)
  refine lv_iload_n hx hb dX2_readThrownWord_30 rfl (lv_at hl 0 rfl) ?_
  refine lv_aload_n hx hb dX2_readThrownWord_31 rfl (lv_at hl 1 rfl) ?_
  refine g_getk (C := RX2) (T := TX2) (N := 16) hx hb hts (mc_ inX2) hown hK g rfl 0 (by decide) rfl (hts _ (List.mem_cons_of_mem _ t_416)) (fun _ h9 => h9) 4 rfl dX2_readThrownWord_32 ?_
  refine g_calll (va_runV (As := []) (rest := [.int r_4, .ref a_9]) ⟨hx, hb, hml, hown, hts⟩ (r_X8_value l dC dI L kd tys fr_4 H.size g.2.2.2.1 q0_ mq0_ kq0_) (cwV 0 hts (gV_ t_1114 t_1115 t_1116 t_184 t_1117) rfl rfl rfl (by decide +kernel) ⟨(Nat.le_of_ble_eq_true rfl), (Nat.le_of_ble_eq_true rfl)⟩) (pre3V g hK mq0_ kq0_ (by decide) (q := (RX8, TX8, 10)) rfl) rfl rfl hl.1 rfl (lv_room (Nat.le_of_ble_eq_true rfl)) dX2_readThrownWord_35 ⟨(Nat.le_of_ble_eq_true rfl), (Nat.le_of_ble_eq_true rfl)⟩) g hK (by decide) (by decide) (fx' := [(7, 12, q1_, .ref a_9), (7, 13, q1_, .int x_6), (5, 2, a_1, .int x_2), (2, 1, a0_, .ref a_1), (2, 0, a0_, .ref q0_), (2, 3, a0_, .ref q1_)]) rfl (fun r_10 fr_10 H locs hp hMr_10 g => ?_)
  refine g_last hx hb hK g ma_9 ka_9 (by decide) rfl (in_bd h_5 (by decide)) (by decide) dX2_readThrownWord_38 (fun f H locs hM_11 g => ?_)
  refine lv_aload_n hx hb dX2_readThrownWord_39 rfl (lv_at hl 1 rfl) ?_
  refine g_getk (C := RX2) (T := TX2) (N := 16) hx hb hts (mc_ inX2) hown hK g rfl 0 (by decide) rfl (hts _ (List.mem_cons_of_mem _ t_416)) (fun _ h9 => h9) 4 rfl dX2_readThrownWord_40 ?_
  refine lv_iconst (v := 3) hx hb dX2_readThrownWord_43 (by decide) ?_
  refine g_callv (va_runV (As := [.int 3]) (rest := []) ⟨hx, hb, hml, hown, hts⟩ (r_X8_take l dC dI L kd tys f H.size g.2.2.2.1 q0_ mq0_ kq0_ 3) (cwV 1 hts (gV_ t_1098 t_1099 t_1100 t_184 t_1101) rfl rfl rfl (by decide +kernel) ⟨(Nat.le_of_ble_eq_true rfl), (Nat.le_of_ble_eq_true rfl)⟩) (pre3V g hK mq0_ kq0_ (by decide) (q := (RX8, TX8, 10)) rfl) rfl rfl hl.1 rfl (lv_room (Nat.le_of_ble_eq_true rfl)) dX2_readThrownWord_44 ⟨(Nat.le_of_ble_eq_true rfl), (Nat.le_of_ble_eq_true rfl)⟩) g hK (by decide) (by decide) (fx' := [(7, 12, q1_, .ref a_9), (7, 13, q1_, .int x_6), (5, 2, a_1, .int x_2), (2, 1, a0_, .ref a_1), (2, 0, a0_, .ref q0_), (2, 3, a0_, .ref q1_)]) rfl (fun fr_12 H locs hp hMr_12 g => ?_)
  obtain ⟨x_13, h_14, hF_15⟩ := hp
  have g := g.more hF_15
  refine lv_aload_n hx hb dX2_readThrownWord_47 rfl (lv_at hl 1 rfl) ?_
  refine g_getk (C := RX2) (T := TX2) (N := 16) hx hb hts (mc_ inX2) hown hK g rfl 0 (by decide) rfl (hts _ (List.mem_cons_of_mem _ t_416)) (fun _ h9 => h9) 5 rfl dX2_readThrownWord_48 ?_
  refine g_calli (va_runV (As := []) (rest := []) ⟨hx, hb, hml, hown, hts⟩ (r_X8_kind l dC dI L kd tys fr_12 H.size g.2.2.2.1 q0_ mq0_ kq0_) (cwV 0 hts (gV_ t_1118 t_1119 t_1120 t_184 t_1121) rfl rfl rfl (by decide +kernel) ⟨(Nat.le_of_ble_eq_true rfl), (Nat.le_of_ble_eq_true rfl)⟩) (pre3V g hK mq0_ kq0_ (by decide) (q := (RX8, TX8, 10)) rfl) rfl rfl hl.1 rfl (lv_room (Nat.le_of_ble_eq_true rfl)) dX2_readThrownWord_51 ⟨(Nat.le_of_ble_eq_true rfl), (Nat.le_of_ble_eq_true rfl)⟩) g hK (by decide) (by decide) (fx' := [(8, 6, q0_, .int x_13), (7, 12, q1_, .ref a_9), (7, 13, q1_, .int x_6), (5, 2, a_1, .int x_2), (2, 1, a0_, .ref a_1), (2, 0, a0_, .ref q0_), (2, 3, a0_, .ref q1_)]) rfl (fun r_16 fr_16 H locs hp hMr_16 g => ?_)
  refine lv_bipush (v := 19) hx hb dX2_readThrownWord_54 (by decide) ?_
  have kb_19 : bd 19 19 (19 : Int32) := ⟨by decide, by decide⟩
  refine lv_icmp_eq (tgt := 71) hx hb dX2_readThrownWord_56 (by decide) (fun c_17 => ?_) (fun c_17 => ?_)
  · have fc_17 := eq_f c_17
    have b_18 : bd 19 19 r_16 := eqX fc_17 (bdT r_16) kb_19 (by decide)
    refine lv_aload_n hx hb dX2_readThrownWord_71 rfl (lv_at hl 1 rfl) ?_
    refine g_getk (C := RX2) (T := TX2) (N := 16) hx hb hts (mc_ inX2) hown hK g rfl 0 (by decide) rfl (hts _ (List.mem_cons_of_mem _ t_416)) (fun _ h9 => h9) 5 rfl dX2_readThrownWord_72 ?_
    refine g_callv (va_runV (As := []) (rest := []) ⟨hx, hb, hml, hown, hts⟩ (r_X8_next l dC dI L kd tys fr_16 H.size g.2.2.2.1 q0_ mq0_ kq0_) (cwV 0 hts (gV_ t_1131 t_1103 t_1104 t_184 t_1105) rfl rfl rfl (by decide +kernel) ⟨(Nat.le_of_ble_eq_true rfl), (Nat.le_of_ble_eq_true rfl)⟩) (pre3V g hK mq0_ kq0_ (by decide) (q := (RX8, TX8, 10)) rfl) rfl rfl hl.1 rfl (lv_room (Nat.le_of_ble_eq_true rfl)) dX2_readThrownWord_75 ⟨(Nat.le_of_ble_eq_true rfl), (Nat.le_of_ble_eq_true rfl)⟩) g hK (by decide) (by decide) (fx' := [(7, 12, q1_, .ref a_9), (7, 13, q1_, .int x_6), (5, 2, a_1, .int x_2), (2, 1, a0_, .ref a_1), (2, 0, a0_, .ref q0_), (2, 3, a0_, .ref q1_)]) rfl (fun fr_19 H locs hp hMr_19 g => ?_)
    obtain ⟨x_20, h_21, hF_22⟩ := hp
    have g := g.more hF_22
    refine lv_aload_n hx hb dX2_readThrownWord_78 rfl (lv_at hl 1 rfl) ?_
    refine g_getk (C := RX2) (T := TX2) (N := 16) hx hb hts (mc_ inX2) hown hK g rfl 3 (by decide) rfl (hts _ (List.mem_cons_of_mem _ t_419)) (fun _ h9 => h9) 6 rfl dX2_readThrownWord_79 ?_
    refine g_getr (K := 142) (C := RX7) (T := TX7) (N := 19) hx hb hts (mc_ inX7) hown hK g mq1_ kq1_ (by decide) rfl 9 (by decide) rfl (hts _ (List.mem_cons_of_mem _ t_657)) (fun _ h9 => h9) rfl dX2_readThrownWord_82 (fun a_23 ma_23 ka_23 g => ?_)
    refine lv_iload_n hx hb dX2_readThrownWord_85 rfl (lv_at hl 0 rfl) ?_
    refine lv_aload_n hx hb dX2_readThrownWord_86 rfl (lv_at hl 1 rfl) ?_
    refine g_getk (C := RX2) (T := TX2) (N := 16) hx hb hts (mc_ inX2) hown hK g rfl 0 (by decide) rfl (hts _ (List.mem_cons_of_mem _ t_416)) (fun _ h9 => h9) 6 rfl dX2_readThrownWord_87 ?_
    refine g_calli (va_runV (As := []) (rest := [.int r_4, .ref a_23]) ⟨hx, hb, hml, hown, hts⟩ (r_X8_place l dC dI L kd tys fr_19 H.size g.2.2.2.1 q0_ mq0_ kq0_) (cwV 0 hts (gV_ t_1110 t_1111 t_1112 t_184 t_1113) rfl rfl rfl (by decide +kernel) ⟨(Nat.le_of_ble_eq_true rfl), (Nat.le_of_ble_eq_true rfl)⟩) (pre3V g hK mq0_ kq0_ (by decide) (q := (RX8, TX8, 10)) rfl) rfl rfl hl.1 rfl (lv_room (Nat.le_of_ble_eq_true rfl)) dX2_readThrownWord_90 ⟨(Nat.le_of_ble_eq_true rfl), (Nat.le_of_ble_eq_true rfl)⟩) g hK (by decide) (by decide) (fx' := [(7, 9, q1_, .ref a_23), (8, 6, q0_, .int x_20), (7, 12, q1_, .ref a_9), (7, 13, q1_, .int x_6), (5, 2, a_1, .int x_2), (2, 1, a0_, .ref a_1), (2, 0, a0_, .ref q0_), (2, 3, a0_, .ref q1_)]) rfl (fun r_24 fr_24 H locs hp hMr_24 g => ?_)
    refine g_iast hx hb hK g ma_23 ka_23 (by decide) rfl (in_bd h_5 (by decide)) (bdT r_24) (by decide) dX2_readThrownWord_93 (fun f H locs hM_25 g => ?_)
    refine lv_iconst (v := 1) hx hb dX2_readThrownWord_94 (by decide) ?_
    subst hQ
    have kb_1 : bd 1 1 (1 : Int32) := ⟨by decide, by decide⟩
    exact W.zret (v := 1) hx hb hr (nar_z (bd_sub kb_1 (by decide) : bd 0 1 _).1 (bd_sub kb_1 (by decide) : bd 0 1 _).2) (fun t ht hW => ⟨⟨_, _, rfl, Or.inr (⟨rfl, x_20, h_21, x_6, h_7, (g.fcts [1, 3] rfl)⟩), q3_of g hK ht hW⟩, g.2.2.1.F ht⟩) g.2.2.1.2.2 dX2_readThrownWord_95
  · have fc_17 := neq_f c_17
    refine lv_aload_n hx hb dX2_readThrownWord_59 rfl (lv_at hl 1 rfl) ?_
    refine g_getk (C := RX2) (T := TX2) (N := 16) hx hb hts (mc_ inX2) hown hK g rfl 3 (by decide) rfl (hts _ (List.mem_cons_of_mem _ t_419)) (fun _ h9 => h9) 6 rfl dX2_readThrownWord_60 ?_
    refine g_getr (K := 141) (C := RX7) (T := TX7) (N := 19) hx hb hts (mc_ inX7) hown hK g mq1_ kq1_ (by decide) rfl 8 (by decide) rfl (hts _ (List.mem_cons_of_mem _ t_653)) (fun _ h9 => h9) rfl dX2_readThrownWord_63 (fun a_26 ma_26 ka_26 g => ?_)
    refine lv_iload_n hx hb dX2_readThrownWord_66 rfl (lv_at hl 0 rfl) ?_
    refine lv_iconst (v := (-1)) hx hb dX2_readThrownWord_67 (by decide) ?_
    have kb_m1 : bd (-1) (-1) ((-1) : Int32) := ⟨by decide, by decide⟩
    refine g_iast hx hb hK g ma_26 ka_26 (by decide) rfl (in_bd h_5 (by decide)) (bd_sub kb_m1 (by decide)) (by decide) dX2_readThrownWord_68 (fun f H locs hM_27 g => ?_)
    refine lv_iconst (v := 0) hx hb dX2_readThrownWord_69 (by decide) ?_
    subst hQ
    have kb_0 : bd 0 0 (0 : Int32) := ⟨by decide, by decide⟩
    exact W.zret (v := 0) hx hb hr (nar_z (bd_sub kb_0 (by decide) : bd 0 1 _).1 (bd_sub kb_0 (by decide) : bd 0 1 _).2) (fun t ht hW => ⟨⟨_, _, rfl, Or.inl ⟨rfl, x_13, h_14, x_6, h_7, (g.fcts [1, 3] rfl)⟩, q3_of g hK ht hW⟩, g.2.2.1.F ht⟩) g.2.2.1.2.2 dX2_readThrownWord_70
set_option maxHeartbeats 4000000 in
set_option maxRecDepth 100000 in
theorem r_X2_readOnly (l : Launch) (dC : Nat → ClassId) (dI : Nat → Nat → Nat) (L : List Nat) (kd : Nat → Nat) (tys : List (ClassId × FieldType)) (f0 : Nat → va_E) (sz : Nat) (hWT : WT L kd tys f0) (a0_ : Nat) (ma0_ : a0_ ∈ L) (ka0_ : kd a0_ = 2) (q0_ : Nat) (mq0_ : q0_ ∈ L) (kq0_ : kd q0_ = 7) (q1_ : Nat) (mq1_ : q1_ ∈ L) (kq1_ : kd q1_ = 9) (hfx : Fs L kd f0 [(2, 3, a0_, .ref q0_), (2, 4, a0_, .ref q1_)]) : Met l yX2_readOnly (.code yX2_readOnly cX2_readOnly 5 none :: lw_g) ({ frames := 2, cells := 0, slots := 0, locals := 37 }) (va_Pc [.ref a0_] (P3 (dC, dI) L tys f0 sz)) (va_Qv (fun (f : Nat → va_E) => (∃ z0_ : Int32, bd 1 500 z0_ ∧ Fs L kd f [(7, 13, q0_, .int z0_)])) (Q3 (dC, dI) L kd tys [(7, 13), (8, 6), (8, 8), (8, 9)] [140, 141, 142, 143, 144, 145] f0 sz) (pA L sz)) 0 0 (pA L sz) := by
  refine Met.ofW (cc := cX2_readOnly) (maxL := 5) (ret := none) (by decide) rfl ?_
  intro p e s m args below meth c s₁ B hml hv
  obtain ⟨rfl, hsz, hP, hK, hD0⟩ := hv
  have hx := B.exec
  have hb := B.bytes
  have hr := B.returns
  have hts := atoms_spec (ws := (.code yX2_readOnly cX2_readOnly 5 none :: lw_g)) B.pre
  have hown : s.vm.findClass RX2 = some m.cls := findClass_of_methodNamed B.named
  have hlocks := B.notSynchronized
  subst hsz
  have g : G3 (dC, dI) L kd tys s f0 [(7, 13), (8, 6), (8, 8), (8, 9)] [140, 141, 142, 143, 144, 145] f0 s.heap [] [(2, 3, a0_, .ref q0_), (2, 4, a0_, .ref q1_)] := G3.start hP hD0 hWT hfx
  have hl := lv_entry ([.ref a0_]) (n := 5) (Nat.le_of_ble_eq_true rfl)
  rw [lg_entry_eq]
  generalize (lg_sl ([.ref a0_]) ++ List.replicate (5 - (lg_sl ([.ref a0_])).length) Slot.unset).toArray = ls at hl ⊢
  have hl : lv_has ls 5 [(0, .ref a0_)] := hl
  refine W_q (fun Q hQ => ?_)
  refine lv_aload_n hx hb dX2_readOnly_0 rfl (lv_at hl 0 rfl) ?_
  refine g_getk (C := RX2) (T := TX2) (N := 16) hx hb hts (mc_ inX2) hown hK g rfl 3 (by decide) rfl (hts _ (List.mem_cons_of_mem _ t_419)) (fun _ h9 => h9) 0 rfl dX2_readOnly_1 ?_
  refine lv_iconst (v := 5) hx hb dX2_readOnly_4 (by decide) ?_
  refine lv_aload_n hx hb dX2_readOnly_5 rfl (lv_at hl 0 rfl) ?_
  refine g_getr (K := 5) (C := RX2) (T := TX2) (N := 16) hx hb hts (mc_ inX2) hown hK g ma0_ ka0_ (by decide) rfl 1 (by decide) rfl (hts _ (List.mem_cons_of_mem _ t_417)) (fun _ h9 => h9) rfl dX2_readOnly_6 (fun a_1 ma_1 ka_1 g => ?_)
  refine g_geti (C := RX5) (T := TX5) (N := 9) hx hb hts (mc_ inX5) hown hK g ma_1 ka_1 (by decide) rfl 2 (by decide) rfl (hts _ (List.mem_cons_of_mem _ t_333)) (fun _ h9 => h9) rfl dX2_readOnly_9 (fun x_2 bx_2 g => ?_)
  refine lv_aload_n hx hb dX2_readOnly_12 rfl (lv_at hl 0 rfl) ?_
  refine g_getr (K := 8) (C := RX2) (T := TX2) (N := 16) hx hb hts (mc_ inX2) hown hK g ma0_ ka0_ (by decide) rfl 0 (by decide) rfl (hts _ (List.mem_cons_of_mem _ t_416)) (fun _ h9 => h9) rfl dX2_readOnly_13 (fun a_3 ma_3 ka_3 g => ?_)
  refine g_calli (va_runV (As := []) (rest := [.int x_2, .int 5, .ref q0_]) ⟨hx, hb, hml, hown, hts⟩ (r_X8_place l dC dI L kd tys f0 s.heap.size g.2.2.2.1 a_3 ma_3 ka_3) (cwV 0 hts (gV_ t_1110 t_1111 t_1112 t_184 t_1113) rfl rfl rfl (by decide +kernel) ⟨(Nat.le_of_ble_eq_true rfl), (Nat.le_of_ble_eq_true rfl)⟩) (pre3V g hK ma_3 ka_3 (by decide) (q := (RX8, TX8, 10)) rfl) rfl rfl hl.1 rfl (lv_room (Nat.le_of_ble_eq_true rfl)) dX2_readOnly_16 ⟨(Nat.le_of_ble_eq_true rfl), (Nat.le_of_ble_eq_true rfl)⟩) g hK (by decide) (by decide) (fx' := [(2, 0, a0_, .ref a_3), (5, 2, a_1, .int x_2), (2, 1, a0_, .ref a_1), (2, 3, a0_, .ref q0_), (2, 4, a0_, .ref q1_)]) rfl (fun r_4 fr_4 H locs hp hMr_4 g => ?_)
  refine g_calli (va_runV (As := [.int 5, .int x_2, .int r_4]) (rest := []) ⟨hx, hb, hml, hown, hts⟩ (r_X7_addMark l dC dI L kd tys fr_4 H.size g.2.2.2.1 q0_ mq0_ kq0_ 5 x_2 r_4) (cwV 3 hts (gV_ t_1173 t_1174 t_1175 t_191 t_1176) rfl rfl rfl (by decide +kernel) ⟨(Nat.le_of_ble_eq_true rfl), (Nat.le_of_ble_eq_true rfl)⟩) (pre3V g hK mq0_ kq0_ (by decide) (q := (RX7, TX7, 19)) rfl) rfl rfl hl.1 rfl (lv_room (Nat.le_of_ble_eq_true rfl)) dX2_readOnly_19 ⟨(Nat.le_of_ble_eq_true rfl), (Nat.le_of_ble_eq_true rfl)⟩) g hK (by decide) (by decide) (fx' := [(2, 0, a0_, .ref a_3), (5, 2, a_1, .int x_2), (2, 1, a0_, .ref a_1), (2, 3, a0_, .ref q0_), (2, 4, a0_, .ref q1_)]) rfl (fun r_5 fr_5 H locs hp hMr_5 g => ?_)
  obtain ⟨h_6, x_7, h_8, hF_9⟩ := hp
  have g := g.more hF_9
  refine lv_istore_n (lv' := [(1, .int r_5), (0, .ref a0_)]) hx hb dX2_readOnly_22 rfl hl (by decide) rfl (fun ls hl => ?_)
  refine lv_iconst (v := 1) hx hb dX2_readOnly_23 (by decide) ?_
  refine lv_istore_n (lv' := [(2, .int 1), (1, .int r_5), (0, .ref a0_)]) hx hb dX2_readOnly_24 rfl hl (by decide) rfl (fun ls hl => ?_)
  refine lv_iconst (v := 0) hx hb dX2_readOnly_25 (by decide) ?_
  refine lv_istore_n (lv' := [(3, .int 0), (2, .int 1), (1, .int r_5), (0, .ref a0_)]) hx hb dX2_readOnly_26 rfl hl (by decide) rfl (fun ls hl => ?_)
  have loop_10 : ∀ (n : Nat) (v27_3 : Int32) (v27_2 : Int32), bd 0 1201 v27_3 → bd 0 1 v27_2 → (1201 - v27_3.toInt < (n : Int)) → ∀ (f : Nat → va_E) (H : Heap) (locs : List Loc) (ls : Array Slot), G3 (dC, dI) L kd tys s f0 [(7, 13), (8, 6), (8, 8), (8, 9)] [140, 141, 142, 143, 144, 145] f H locs [(7, 13, q0_, .int x_7), (2, 0, a0_, .ref a_3), (5, 2, a_1, .int x_2), (2, 1, a0_, .ref a_1), (2, 3, a0_, .ref q0_), (2, 4, a0_, .ref q1_)] → lv_has ls 5 [(3, .int v27_3), (2, .int v27_2), (1, .int r_5), (0, .ref a0_)] → W p l e ({ frames := 2, cells := 0, slots := 0, locals := 37 } : Room) s m [.ref a0_].toArray below meth c H locs 0 0 Q (F0 m 27 ls []) := by
    intro n27
    induction n27 with
    | zero =>
      intro v27_3 v27_2 bv27_3 bv27_2 hm27 f H locs ls g  hl
      exact absurd hm27 (by have h9_v27_3 := bv27_3; unfold bd at h9_v27_3; have h9_v27_2 := bv27_2; unfold bd at h9_v27_2; omega)
    | succ n27 ih27 =>
      intro v27_3 v27_2 bv27_3 bv27_2 hm27 f H locs ls g  hl
      refine lv_iload_n hx hb dX2_readOnly_27 rfl (lv_at hl 0 rfl) ?_
      refine lv_sipush (v := 1200) hx hb dX2_readOnly_28 (by decide) ?_
      have kb_1200 : bd 1200 1200 (1200 : Int32) := ⟨by decide, by decide⟩
      refine lv_icmp_gt (tgt := 165) hx hb dX2_readOnly_31 (by decide) (fun c_11 => ?_) (fun c_11 => ?_)
      · have fc_11 := lt_f c_11
        have b_12 : bd 1201 1201 v27_3 := ltR fc_11 kb_1200 bv27_3 (by decide)
        subst hQ
        exact W.vret hx hb hr (fun t ht hW => ⟨⟨_, rfl, ⟨x_7, h_8, (g.fcts [0] rfl)⟩, q3_of g hK ht hW⟩, g.2.2.1.F ht⟩) g.2.2.1.2.2 dX2_readOnly_165
      · have fc_11 := nlt_f c_11
        have b_13 : bd 0 1200 v27_3 := leL fc_11 bv27_3 kb_1200 (by decide)
        refine lv_iload_n hx hb dX2_readOnly_34 rfl (lv_at hl 1 rfl) ?_
        have kb_0 : bd 0 0 (0 : Int32) := ⟨by decide, by decide⟩
        refine lv_if_eq (tgt := 165) hx hb dX2_readOnly_35 (by decide) (fun c_14 => ?_) (fun c_14 => ?_)
        · have fc_14 := eq_f c_14
          have b_15 : bd 0 0 v27_2 := eqX fc_14 bv27_2 kb_0 (by decide)
          subst hQ
          exact W.vret hx hb hr (fun t ht hW => ⟨⟨_, rfl, ⟨x_7, h_8, (g.fcts [0] rfl)⟩, q3_of g hK ht hW⟩, g.2.2.1.F ht⟩) g.2.2.1.2.2 dX2_readOnly_165
        · have fc_14 := neq_f c_14
          have b_16 : bd 1 1 v27_2 := neX fc_14 bv27_2 kb_0 (by decide)
          refine lv_aload_n hx hb dX2_readOnly_38 rfl (lv_at hl 3 rfl) ?_
          refine g_getk (C := RX2) (T := TX2) (N := 16) hx hb hts (mc_ inX2) hown hK g rfl 4 (by decide) rfl (hts _ (List.mem_cons_of_mem _ t_420)) (fun _ h9 => h9) 5 rfl dX2_readOnly_39 ?_
          refine lv_aload_n hx hb dX2_readOnly_42 rfl (lv_at hl 3 rfl) ?_
          refine g_getk (C := RX2) (T := TX2) (N := 16) hx hb hts (mc_ inX2) hown hK g rfl 0 (by decide) rfl (hts _ (List.mem_cons_of_mem _ t_416)) (fun _ h9 => h9) 1 rfl dX2_readOnly_43 ?_
          refine g_calll (va_runV (As := []) (rest := [.ref q1_]) ⟨hx, hb, hml, hown, hts⟩ (r_X8_value l dC dI L kd tys f H.size g.2.2.2.1 a_3 ma_3 ka_3) (cwV 0 hts (gV_ t_1114 t_1115 t_1116 t_184 t_1117) rfl rfl rfl (by decide +kernel) ⟨(Nat.le_of_ble_eq_true rfl), (Nat.le_of_ble_eq_true rfl)⟩) (pre3V g hK ma_3 ka_3 (by decide) (q := (RX8, TX8, 10)) rfl) rfl rfl hl.1 rfl (lv_room (Nat.le_of_ble_eq_true rfl)) dX2_readOnly_46 ⟨(Nat.le_of_ble_eq_true rfl), (Nat.le_of_ble_eq_true rfl)⟩) g hK (by decide) (by decide) (fx' := [(7, 13, q0_, .int x_7), (2, 0, a0_, .ref a_3), (5, 2, a_1, .int x_2), (2, 1, a0_, .ref a_1), (2, 3, a0_, .ref q0_), (2, 4, a0_, .ref q1_)]) rfl (fun r_17 fr_17 H locs hp hMr_17 g => ?_)
          refine g_calli (va_runV (As := [.long r_17]) (rest := []) ⟨hx, hb, hml, hown, hts⟩ (r_X9_fieldNamed l dC dI L kd tys fr_17 H.size g.2.2.2.1 q1_ mq1_ kq1_ r_17) (cwV 1 hts (gV_ t_1147 t_1148 t_1149 t_192 t_1150) rfl rfl rfl (by decide +kernel) ⟨(Nat.le_of_ble_eq_true rfl), (Nat.le_of_ble_eq_true rfl)⟩) (pre3V g hK mq1_ kq1_ (by decide) (q := (RX9, TX9, 13)) rfl) rfl rfl hl.1 rfl (lv_room (Nat.le_of_ble_eq_true rfl)) dX2_readOnly_49 ⟨(Nat.le_of_ble_eq_true rfl), (Nat.le_of_ble_eq_true rfl)⟩) g hK (by decide) (by decide) (fx' := [(7, 13, q0_, .int x_7), (2, 0, a0_, .ref a_3), (5, 2, a_1, .int x_2), (2, 1, a0_, .ref a_1), (2, 3, a0_, .ref q0_), (2, 4, a0_, .ref q1_)]) rfl (fun r_18 fr_18 H locs hp hMr_18 g => ?_)
          obtain ⟨h_19, -⟩ := hp
          refine lv_istore (lv' := [(4, .int r_18), (3, .int v27_3), (2, .int v27_2), (1, .int r_5), (0, .ref a0_)]) hx hb dX2_readOnly_52 hl (by decide) rfl (fun ls hl => ?_)
          refine lv_aload_n hx hb dX2_readOnly_54 rfl (lv_at hl 4 rfl) ?_
          refine g_getk (C := RX2) (T := TX2) (N := 16) hx hb hts (mc_ inX2) hown hK g rfl 0 (by decide) rfl (hts _ (List.mem_cons_of_mem _ t_416)) (fun _ h9 => h9) 1 rfl dX2_readOnly_55 ?_
          refine g_calli (va_runV (As := []) (rest := []) ⟨hx, hb, hml, hown, hts⟩ (r_X8_kind l dC dI L kd tys fr_18 H.size g.2.2.2.1 a_3 ma_3 ka_3) (cwV 0 hts (gV_ t_1118 t_1119 t_1120 t_184 t_1121) rfl rfl rfl (by decide +kernel) ⟨(Nat.le_of_ble_eq_true rfl), (Nat.le_of_ble_eq_true rfl)⟩) (pre3V g hK ma_3 ka_3 (by decide) (q := (RX8, TX8, 10)) rfl) rfl rfl hl.1 rfl (lv_room (Nat.le_of_ble_eq_true rfl)) dX2_readOnly_58 ⟨(Nat.le_of_ble_eq_true rfl), (Nat.le_of_ble_eq_true rfl)⟩) g hK (by decide) (by decide) (fx' := [(7, 13, q0_, .int x_7), (2, 0, a0_, .ref a_3), (5, 2, a_1, .int x_2), (2, 1, a0_, .ref a_1), (2, 3, a0_, .ref q0_), (2, 4, a0_, .ref q1_)]) rfl (fun r_20 fr_20 H locs hp hMr_20 g => ?_)
          refine lv_iconst (v := 3) hx hb dX2_readOnly_61 (by decide) ?_
          have kb_3 : bd 3 3 (3 : Int32) := ⟨by decide, by decide⟩
          refine lv_icmp_eq (tgt := 83) hx hb dX2_readOnly_62 (by decide) (fun c_21 => ?_) (fun c_21 => ?_)
          · have fc_21 := eq_f c_21
            have b_22 : bd 3 3 r_20 := eqX fc_21 (bdT r_20) kb_3 (by decide)
            refine lv_iload hx hb dX2_readOnly_83 (lv_at hl 0 rfl) ?_
            refine lv_iconst (v := (-1)) hx hb dX2_readOnly_85 (by decide) ?_
            have kb_m1 : bd (-1) (-1) ((-1) : Int32) := ⟨by decide, by decide⟩
            refine lv_icmp_ne (tgt := 107) hx hb dX2_readOnly_86 (by decide) (fun c_23 => ?_) (fun c_23 => ?_)
            · have fc_23 := neq_f c_23
              have b_24 : bd 0 9 r_18 := neX fc_23 h_19 kb_m1 (by decide)
              refine lv_aload_n hx hb dX2_readOnly_107 rfl (lv_at hl 4 rfl) ?_
              refine g_getk (C := RX2) (T := TX2) (N := 16) hx hb hts (mc_ inX2) hown hK g rfl 3 (by decide) rfl (hts _ (List.mem_cons_of_mem _ t_419)) (fun _ h9 => h9) 4 rfl dX2_readOnly_108 ?_
              refine g_getr (K := 143) (C := RX7) (T := TX7) (N := 19) hx hb hts (mc_ inX7) hown hK g mq0_ kq0_ (by decide) rfl 10 (by decide) rfl (hts _ (List.mem_cons_of_mem _ t_659)) (fun _ h9 => h9) rfl dX2_readOnly_111 (fun a_25 ma_25 ka_25 g => ?_)
              refine lv_iload_n hx hb dX2_readOnly_114 rfl (lv_at hl 3 rfl) ?_
              refine lv_dup2_11 hx hb dX2_readOnly_115 rfl rfl ?_
              refine g_iald hx hb hK g ma_25 ka_25 (by decide) rfl (in_bd h_6 (by decide)) dX2_readOnly_116 (fun x_26 bx_26 cx_26 => ?_)
              refine lv_iconst (v := 1) hx hb dX2_readOnly_117 (by decide) ?_
              refine lv_iload hx hb dX2_readOnly_118 (lv_at hl 0 rfl) ?_
              refine lv_ishl hx hb dX2_readOnly_120 ?_
              refine lv_topi (fun y_27 ey_27 => ?_)
              refine lv_ior hx hb dX2_readOnly_121 ?_
              refine lv_topi (fun y_28 ey_28 => ?_)
              refine g_iast hx hb hK g ma_25 ka_25 (by decide) rfl (in_bd h_6 (by decide)) (bdT y_28) (by decide) dX2_readOnly_122 (fun f H locs hM_29 g => ?_)
              refine lv_aload_n hx hb dX2_readOnly_123 rfl (lv_at hl 4 rfl) ?_
              refine g_getk (C := RX2) (T := TX2) (N := 16) hx hb hts (mc_ inX2) hown hK g rfl 0 (by decide) rfl (hts _ (List.mem_cons_of_mem _ t_416)) (fun _ h9 => h9) 2 rfl dX2_readOnly_124 ?_
              refine g_callv (va_runV (As := []) (rest := []) ⟨hx, hb, hml, hown, hts⟩ (r_X8_next l dC dI L kd tys f H.size g.2.2.2.1 a_3 ma_3 ka_3) (cwV 0 hts (gV_ t_1131 t_1103 t_1104 t_184 t_1105) rfl rfl rfl (by decide +kernel) ⟨(Nat.le_of_ble_eq_true rfl), (Nat.le_of_ble_eq_true rfl)⟩) (pre3V g hK ma_3 ka_3 (by decide) (q := (RX8, TX8, 10)) rfl) rfl rfl hl.1 rfl (lv_room (Nat.le_of_ble_eq_true rfl)) dX2_readOnly_127 ⟨(Nat.le_of_ble_eq_true rfl), (Nat.le_of_ble_eq_true rfl)⟩) g hK (by decide) (by decide) (fx' := [(7, 10, q0_, .ref a_25), (7, 13, q0_, .int x_7), (2, 0, a0_, .ref a_3), (5, 2, a_1, .int x_2), (2, 1, a0_, .ref a_1), (2, 3, a0_, .ref q0_), (2, 4, a0_, .ref q1_)]) rfl (fun fr_30 H locs hp hMr_30 g => ?_)
              obtain ⟨x_31, h_32, hF_33⟩ := hp
              have g := g.more hF_33
              refine lv_aload_n hx hb dX2_readOnly_130 rfl (lv_at hl 4 rfl) ?_
              refine g_getk (C := RX2) (T := TX2) (N := 16) hx hb hts (mc_ inX2) hown hK g rfl 0 (by decide) rfl (hts _ (List.mem_cons_of_mem _ t_416)) (fun _ h9 => h9) 3 rfl dX2_readOnly_131 ?_
              refine g_calli (va_runV (As := []) (rest := []) ⟨hx, hb, hml, hown, hts⟩ (r_X8_kind l dC dI L kd tys fr_30 H.size g.2.2.2.1 a_3 ma_3 ka_3) (cwV 0 hts (gV_ t_1118 t_1119 t_1120 t_184 t_1121) rfl rfl rfl (by decide +kernel) ⟨(Nat.le_of_ble_eq_true rfl), (Nat.le_of_ble_eq_true rfl)⟩) (pre3V g hK ma_3 ka_3 (by decide) (q := (RX8, TX8, 10)) rfl) rfl rfl hl.1 rfl (lv_room (Nat.le_of_ble_eq_true rfl)) dX2_readOnly_134 ⟨(Nat.le_of_ble_eq_true rfl), (Nat.le_of_ble_eq_true rfl)⟩) g hK (by decide) (by decide) (fx' := [(8, 6, a_3, .int x_31), (7, 10, q0_, .ref a_25), (7, 13, q0_, .int x_7), (2, 0, a0_, .ref a_3), (5, 2, a_1, .int x_2), (2, 1, a0_, .ref a_1), (2, 3, a0_, .ref q0_), (2, 4, a0_, .ref q1_)]) rfl (fun r_34 fr_34 H locs hp hMr_34 g => ?_)
              refine lv_bipush (v := 44) hx hb dX2_readOnly_137 (by decide) ?_
              have kb_44 : bd 44 44 (44 : Int32) := ⟨by decide, by decide⟩
              refine lv_icmp_ne (tgt := 146) hx hb dX2_readOnly_139 (by decide) (fun c_35 => ?_) (fun c_35 => ?_)
              · have fc_35 := neq_f c_35
                refine lv_iconst (v := 0) hx hb dX2_readOnly_146 (by decide) ?_
                refine lv_istore_n (lv' := [(2, .int 0), (4, .int r_18), (3, .int v27_3), (1, .int r_5), (0, .ref a0_)]) hx hb dX2_readOnly_147 rfl hl (by decide) rfl (fun ls hl => ?_)
                refine lv_iload_n hx hb dX2_readOnly_148 rfl (lv_at hl 0 rfl) ?_
                refine lv_if_eq (tgt := 159) hx hb dX2_readOnly_149 (by decide) (fun c_ => ?_) (fun c_ => absurd (by decide) c_)
                have kb_1 : bd 1 1 (1 : Int32) := ⟨by decide, by decide⟩
                obtain ⟨y_36, ey_36⟩ : ∃ z : Int32, z = v27_3 + 1 := ⟨_, rfl⟩
                refine lv_iinc (v := y_36) (lv' := [(3, .int y_36), (2, .int 0), (4, .int r_18), (1, .int r_5), (0, .ref a0_)]) hx hb dX2_readOnly_159 hl (k := 2) rfl (by rw [ey_36]; rfl) (by decide) rfl (fun ls hl => ?_)
                have ty_36 := add_bd ey_36 b_13 kb_1 (by decide)
                have b_37 : bd 1 1201 y_36 := add_rg ty_36 b_13 kb_1 (by decide)
                refine lv_goto (tgt := 27) hx hb dX2_readOnly_162 (by decide) ?_
                have hl9 := lv_sub hl [0, 1, 3, 4] (by rfl : lv_pick [(3, .int y_36), (2, .int 0), (4, .int r_18), (1, .int r_5), (0, .ref a0_)] [0, 1, 3, 4] = [(3, .int y_36), (2, .int 0), (1, .int r_5), (0, .ref a0_)])
                have g9 := g.sub (fx' := [(7, 13, q0_, .int x_7), (2, 0, a0_, .ref a_3), (5, 2, a_1, .int x_2), (2, 1, a0_, .ref a_1), (2, 3, a0_, .ref q0_), (2, 4, a0_, .ref q1_)]) [2, 3, 4, 5, 6, 7] rfl
                exact ih27  y_36 0 (bd_sub b_37 (by decide)) (bd_sub kb_0 (by decide)) (by have h9_0 := b_37; unfold bd at h9_0; have h9_1 := bv27_2; unfold bd at h9_1; have h9_2 := bv27_3; unfold bd at h9_2; have h9_3 := kb_0; unfold bd at h9_3; have h9_4 := kb_1; unfold bd at h9_4; have h9_5 := kb_1200; unfold bd at h9_5; have h9_6 := kb_3; unfold bd at h9_6; have h9_7 := kb_44; unfold bd at h9_7; have h9_8 := kb_m1; unfold bd at h9_8; omega) _ _ _ _ g9  hl9
              · have fc_35 := eq_f c_35
                have b_38 : bd 44 44 r_34 := eqX fc_35 (bdT r_34) kb_44 (by decide)
                refine lv_iconst (v := 1) hx hb dX2_readOnly_142 (by decide) ?_
                refine lv_goto (tgt := 147) hx hb dX2_readOnly_143 (by decide) ?_
                refine lv_istore_n (lv' := [(2, .int 1), (4, .int r_18), (3, .int v27_3), (1, .int r_5), (0, .ref a0_)]) hx hb dX2_readOnly_147 rfl hl (by decide) rfl (fun ls hl => ?_)
                refine lv_iload_n hx hb dX2_readOnly_148 rfl (lv_at hl 0 rfl) ?_
                refine lv_if_eq (tgt := 159) hx hb dX2_readOnly_149 (by decide) (fun c_ => absurd c_ (by decide)) (fun c_ => ?_)
                refine lv_aload_n hx hb dX2_readOnly_152 rfl (lv_at hl 4 rfl) ?_
                refine g_getk (C := RX2) (T := TX2) (N := 16) hx hb hts (mc_ inX2) hown hK g rfl 0 (by decide) rfl (hts _ (List.mem_cons_of_mem _ t_416)) (fun _ h9 => h9) 3 rfl dX2_readOnly_153 ?_
                refine g_callv (va_runV (As := []) (rest := []) ⟨hx, hb, hml, hown, hts⟩ (r_X8_next l dC dI L kd tys fr_34 H.size g.2.2.2.1 a_3 ma_3 ka_3) (cwV 0 hts (gV_ t_1131 t_1103 t_1104 t_184 t_1105) rfl rfl rfl (by decide +kernel) ⟨(Nat.le_of_ble_eq_true rfl), (Nat.le_of_ble_eq_true rfl)⟩) (pre3V g hK ma_3 ka_3 (by decide) (q := (RX8, TX8, 10)) rfl) rfl rfl hl.1 rfl (lv_room (Nat.le_of_ble_eq_true rfl)) dX2_readOnly_156 ⟨(Nat.le_of_ble_eq_true rfl), (Nat.le_of_ble_eq_true rfl)⟩) g hK (by decide) (by decide) (fx' := [(7, 10, q0_, .ref a_25), (7, 13, q0_, .int x_7), (2, 0, a0_, .ref a_3), (5, 2, a_1, .int x_2), (2, 1, a0_, .ref a_1), (2, 3, a0_, .ref q0_), (2, 4, a0_, .ref q1_)]) rfl (fun fr_39 H locs hp hMr_39 g => ?_)
                obtain ⟨x_40, h_41, hF_42⟩ := hp
                have g := g.more hF_42
                have kb_1 : bd 1 1 (1 : Int32) := ⟨by decide, by decide⟩
                obtain ⟨y_43, ey_43⟩ : ∃ z : Int32, z = v27_3 + 1 := ⟨_, rfl⟩
                refine lv_iinc (v := y_43) (lv' := [(3, .int y_43), (2, .int 1), (4, .int r_18), (1, .int r_5), (0, .ref a0_)]) hx hb dX2_readOnly_159 hl (k := 2) rfl (by rw [ey_43]; rfl) (by decide) rfl (fun ls hl => ?_)
                have ty_43 := add_bd ey_43 b_13 kb_1 (by decide)
                have b_44 : bd 1 1201 y_43 := add_rg ty_43 b_13 kb_1 (by decide)
                refine lv_goto (tgt := 27) hx hb dX2_readOnly_162 (by decide) ?_
                have hl9 := lv_sub hl [0, 1, 3, 4] (by rfl : lv_pick [(3, .int y_43), (2, .int 1), (4, .int r_18), (1, .int r_5), (0, .ref a0_)] [0, 1, 3, 4] = [(3, .int y_43), (2, .int 1), (1, .int r_5), (0, .ref a0_)])
                have g9 := g.sub (fx' := [(7, 13, q0_, .int x_7), (2, 0, a0_, .ref a_3), (5, 2, a_1, .int x_2), (2, 1, a0_, .ref a_1), (2, 3, a0_, .ref q0_), (2, 4, a0_, .ref q1_)]) [2, 3, 4, 5, 6, 7] rfl
                exact ih27  y_43 1 (bd_sub b_44 (by decide)) (bd_sub kb_1 (by decide)) (by have h9_0 := b_44; unfold bd at h9_0; have h9_1 := bv27_2; unfold bd at h9_1; have h9_2 := bv27_3; unfold bd at h9_2; have h9_3 := kb_0; unfold bd at h9_3; have h9_4 := kb_1; unfold bd at h9_4; have h9_5 := kb_1200; unfold bd at h9_5; have h9_6 := kb_3; unfold bd at h9_6; have h9_7 := kb_44; unfold bd at h9_7; have h9_8 := kb_m1; unfold bd at h9_8; omega) _ _ _ _ g9  hl9
            · have fc_23 := eq_f c_23
              have b_45 : bd (-1) (-1) r_18 := eqX fc_23 h_19 kb_m1 (by decide)
              refine lv_aload_n hx hb dX2_readOnly_89 rfl (lv_at hl 4 rfl) ?_
              refine g_getk (C := RX2) (T := TX2) (N := 16) hx hb hts (mc_ inX2) hown hK g rfl 0 (by decide) rfl (hts _ (List.mem_cons_of_mem _ t_416)) (fun _ h9 => h9) 1 rfl dX2_readOnly_90 ?_
              refine lv_iconst (v := 2) hx hb dX2_readOnly_93 (by decide) ?_
              refine lv_aload_n hx hb dX2_readOnly_94 rfl (lv_at hl 4 rfl) ?_
              refine g_getk (C := RX2) (T := TX2) (N := 16) hx hb hts (mc_ inX2) hown hK g rfl 0 (by decide) rfl (hts _ (List.mem_cons_of_mem _ t_416)) (fun _ h9 => h9) 1 rfl dX2_readOnly_95 ?_
              refine g_calli (va_runV (As := []) (rest := [.int 2, .ref a_3]) ⟨hx, hb, hml, hown, hts⟩ (r_X8_place l dC dI L kd tys fr_20 H.size g.2.2.2.1 a_3 ma_3 ka_3) (cwV 0 hts (gV_ t_1110 t_1111 t_1112 t_184 t_1113) rfl rfl rfl (by decide +kernel) ⟨(Nat.le_of_ble_eq_true rfl), (Nat.le_of_ble_eq_true rfl)⟩) (pre3V g hK ma_3 ka_3 (by decide) (q := (RX8, TX8, 10)) rfl) rfl rfl hl.1 rfl (lv_room (Nat.le_of_ble_eq_true rfl)) dX2_readOnly_98 ⟨(Nat.le_of_ble_eq_true rfl), (Nat.le_of_ble_eq_true rfl)⟩) g hK (by decide) (by decide) (fx' := [(7, 13, q0_, .int x_7), (2, 0, a0_, .ref a_3), (5, 2, a_1, .int x_2), (2, 1, a0_, .ref a_1), (2, 3, a0_, .ref q0_), (2, 4, a0_, .ref q1_)]) rfl (fun r_46 fr_46 H locs hp hMr_46 g => ?_)
              have kb_2 : bd 2 2 (2 : Int32) := ⟨by decide, by decide⟩
              refine g_callv (va_runV (As := [.int 2, .int r_46]) (rest := []) ⟨hx, hb, hml, hown, hts⟩ (r_X8_fail_14 l dC dI L kd tys fr_46 H.size g.2.2.2.1 a_3 ma_3 ka_3 2 kb_2 r_46) (cwV 2 hts (gV_ t_1122 t_1107 t_1108 t_184 t_1109) rfl rfl rfl (by decide +kernel) ⟨(Nat.le_of_ble_eq_true rfl), (Nat.le_of_ble_eq_true rfl)⟩) (pre3V g hK ma_3 ka_3 (by decide) (q := (RX8, TX8, 10)) rfl) rfl rfl hl.1 rfl (lv_room (Nat.le_of_ble_eq_true rfl)) dX2_readOnly_101 ⟨(Nat.le_of_ble_eq_true rfl), (Nat.le_of_ble_eq_true rfl)⟩) g hK (by decide) (by decide) (fx' := [(7, 13, q0_, .int x_7), (2, 0, a0_, .ref a_3), (5, 2, a_1, .int x_2), (2, 1, a0_, .ref a_1), (2, 3, a0_, .ref q0_), (2, 4, a0_, .ref q1_)]) rfl (fun fr_47 H locs hp hMr_47 g => ?_)
              obtain ⟨x_48, h_49, hF_50⟩ := hp
              have g := g.more hF_50
              refine lv_goto (tgt := 123) hx hb dX2_readOnly_104 (by decide) ?_
              refine lv_aload_n hx hb dX2_readOnly_123 rfl (lv_at hl 4 rfl) ?_
              refine g_getk (C := RX2) (T := TX2) (N := 16) hx hb hts (mc_ inX2) hown hK g rfl 0 (by decide) rfl (hts _ (List.mem_cons_of_mem _ t_416)) (fun _ h9 => h9) 3 rfl dX2_readOnly_124 ?_
              refine g_callv (va_runV (As := []) (rest := []) ⟨hx, hb, hml, hown, hts⟩ (r_X8_next l dC dI L kd tys fr_47 H.size g.2.2.2.1 a_3 ma_3 ka_3) (cwV 0 hts (gV_ t_1131 t_1103 t_1104 t_184 t_1105) rfl rfl rfl (by decide +kernel) ⟨(Nat.le_of_ble_eq_true rfl), (Nat.le_of_ble_eq_true rfl)⟩) (pre3V g hK ma_3 ka_3 (by decide) (q := (RX8, TX8, 10)) rfl) rfl rfl hl.1 rfl (lv_room (Nat.le_of_ble_eq_true rfl)) dX2_readOnly_127 ⟨(Nat.le_of_ble_eq_true rfl), (Nat.le_of_ble_eq_true rfl)⟩) g hK (by decide) (by decide) (fx' := [(8, 8, a_3, .int x_48), (7, 13, q0_, .int x_7), (2, 0, a0_, .ref a_3), (5, 2, a_1, .int x_2), (2, 1, a0_, .ref a_1), (2, 3, a0_, .ref q0_), (2, 4, a0_, .ref q1_)]) rfl (fun fr_51 H locs hp hMr_51 g => ?_)
              obtain ⟨x_52, h_53, hF_54⟩ := hp
              have g := g.more hF_54
              refine lv_aload_n hx hb dX2_readOnly_130 rfl (lv_at hl 4 rfl) ?_
              refine g_getk (C := RX2) (T := TX2) (N := 16) hx hb hts (mc_ inX2) hown hK g rfl 0 (by decide) rfl (hts _ (List.mem_cons_of_mem _ t_416)) (fun _ h9 => h9) 3 rfl dX2_readOnly_131 ?_
              refine g_calli (va_runV (As := []) (rest := []) ⟨hx, hb, hml, hown, hts⟩ (r_X8_kind l dC dI L kd tys fr_51 H.size g.2.2.2.1 a_3 ma_3 ka_3) (cwV 0 hts (gV_ t_1118 t_1119 t_1120 t_184 t_1121) rfl rfl rfl (by decide +kernel) ⟨(Nat.le_of_ble_eq_true rfl), (Nat.le_of_ble_eq_true rfl)⟩) (pre3V g hK ma_3 ka_3 (by decide) (q := (RX8, TX8, 10)) rfl) rfl rfl hl.1 rfl (lv_room (Nat.le_of_ble_eq_true rfl)) dX2_readOnly_134 ⟨(Nat.le_of_ble_eq_true rfl), (Nat.le_of_ble_eq_true rfl)⟩) g hK (by decide) (by decide) (fx' := [(8, 6, a_3, .int x_52), (8, 8, a_3, .int x_48), (7, 13, q0_, .int x_7), (2, 0, a0_, .ref a_3), (5, 2, a_1, .int x_2), (2, 1, a0_, .ref a_1), (2, 3, a0_, .ref q0_), (2, 4, a0_, .ref q1_)]) rfl (fun r_55 fr_55 H locs hp hMr_55 g => ?_)
              refine lv_bipush (v := 44) hx hb dX2_readOnly_137 (by decide) ?_
              have kb_44 : bd 44 44 (44 : Int32) := ⟨by decide, by decide⟩
              refine lv_icmp_ne (tgt := 146) hx hb dX2_readOnly_139 (by decide) (fun c_56 => ?_) (fun c_56 => ?_)
              · have fc_56 := neq_f c_56
                refine lv_iconst (v := 0) hx hb dX2_readOnly_146 (by decide) ?_
                refine lv_istore_n (lv' := [(2, .int 0), (4, .int r_18), (3, .int v27_3), (1, .int r_5), (0, .ref a0_)]) hx hb dX2_readOnly_147 rfl hl (by decide) rfl (fun ls hl => ?_)
                refine lv_iload_n hx hb dX2_readOnly_148 rfl (lv_at hl 0 rfl) ?_
                refine lv_if_eq (tgt := 159) hx hb dX2_readOnly_149 (by decide) (fun c_ => ?_) (fun c_ => absurd (by decide) c_)
                have kb_1 : bd 1 1 (1 : Int32) := ⟨by decide, by decide⟩
                obtain ⟨y_57, ey_57⟩ : ∃ z : Int32, z = v27_3 + 1 := ⟨_, rfl⟩
                refine lv_iinc (v := y_57) (lv' := [(3, .int y_57), (2, .int 0), (4, .int r_18), (1, .int r_5), (0, .ref a0_)]) hx hb dX2_readOnly_159 hl (k := 2) rfl (by rw [ey_57]; rfl) (by decide) rfl (fun ls hl => ?_)
                have ty_57 := add_bd ey_57 b_13 kb_1 (by decide)
                have b_58 : bd 1 1201 y_57 := add_rg ty_57 b_13 kb_1 (by decide)
                refine lv_goto (tgt := 27) hx hb dX2_readOnly_162 (by decide) ?_
                have hl9 := lv_sub hl [0, 1, 3, 4] (by rfl : lv_pick [(3, .int y_57), (2, .int 0), (4, .int r_18), (1, .int r_5), (0, .ref a0_)] [0, 1, 3, 4] = [(3, .int y_57), (2, .int 0), (1, .int r_5), (0, .ref a0_)])
                have g9 := g.sub (fx' := [(7, 13, q0_, .int x_7), (2, 0, a0_, .ref a_3), (5, 2, a_1, .int x_2), (2, 1, a0_, .ref a_1), (2, 3, a0_, .ref q0_), (2, 4, a0_, .ref q1_)]) [2, 3, 4, 5, 6, 7] rfl
                exact ih27  y_57 0 (bd_sub b_58 (by decide)) (bd_sub kb_0 (by decide)) (by have h9_0 := b_58; unfold bd at h9_0; have h9_1 := bv27_2; unfold bd at h9_1; have h9_2 := bv27_3; unfold bd at h9_2; have h9_3 := kb_0; unfold bd at h9_3; have h9_4 := kb_1; unfold bd at h9_4; have h9_5 := kb_1200; unfold bd at h9_5; have h9_6 := kb_2; unfold bd at h9_6; have h9_7 := kb_3; unfold bd at h9_7; have h9_8 := kb_44; unfold bd at h9_8; have h9_9 := kb_m1; unfold bd at h9_9; omega) _ _ _ _ g9  hl9
              · have fc_56 := eq_f c_56
                have b_59 : bd 44 44 r_55 := eqX fc_56 (bdT r_55) kb_44 (by decide)
                refine lv_iconst (v := 1) hx hb dX2_readOnly_142 (by decide) ?_
                refine lv_goto (tgt := 147) hx hb dX2_readOnly_143 (by decide) ?_
                refine lv_istore_n (lv' := [(2, .int 1), (4, .int r_18), (3, .int v27_3), (1, .int r_5), (0, .ref a0_)]) hx hb dX2_readOnly_147 rfl hl (by decide) rfl (fun ls hl => ?_)
                refine lv_iload_n hx hb dX2_readOnly_148 rfl (lv_at hl 0 rfl) ?_
                refine lv_if_eq (tgt := 159) hx hb dX2_readOnly_149 (by decide) (fun c_ => absurd c_ (by decide)) (fun c_ => ?_)
                refine lv_aload_n hx hb dX2_readOnly_152 rfl (lv_at hl 4 rfl) ?_
                refine g_getk (C := RX2) (T := TX2) (N := 16) hx hb hts (mc_ inX2) hown hK g rfl 0 (by decide) rfl (hts _ (List.mem_cons_of_mem _ t_416)) (fun _ h9 => h9) 3 rfl dX2_readOnly_153 ?_
                refine g_callv (va_runV (As := []) (rest := []) ⟨hx, hb, hml, hown, hts⟩ (r_X8_next l dC dI L kd tys fr_55 H.size g.2.2.2.1 a_3 ma_3 ka_3) (cwV 0 hts (gV_ t_1131 t_1103 t_1104 t_184 t_1105) rfl rfl rfl (by decide +kernel) ⟨(Nat.le_of_ble_eq_true rfl), (Nat.le_of_ble_eq_true rfl)⟩) (pre3V g hK ma_3 ka_3 (by decide) (q := (RX8, TX8, 10)) rfl) rfl rfl hl.1 rfl (lv_room (Nat.le_of_ble_eq_true rfl)) dX2_readOnly_156 ⟨(Nat.le_of_ble_eq_true rfl), (Nat.le_of_ble_eq_true rfl)⟩) g hK (by decide) (by decide) (fx' := [(8, 8, a_3, .int x_48), (7, 13, q0_, .int x_7), (2, 0, a0_, .ref a_3), (5, 2, a_1, .int x_2), (2, 1, a0_, .ref a_1), (2, 3, a0_, .ref q0_), (2, 4, a0_, .ref q1_)]) rfl (fun fr_60 H locs hp hMr_60 g => ?_)
                obtain ⟨x_61, h_62, hF_63⟩ := hp
                have g := g.more hF_63
                have kb_1 : bd 1 1 (1 : Int32) := ⟨by decide, by decide⟩
                obtain ⟨y_64, ey_64⟩ : ∃ z : Int32, z = v27_3 + 1 := ⟨_, rfl⟩
                refine lv_iinc (v := y_64) (lv' := [(3, .int y_64), (2, .int 1), (4, .int r_18), (1, .int r_5), (0, .ref a0_)]) hx hb dX2_readOnly_159 hl (k := 2) rfl (by rw [ey_64]; rfl) (by decide) rfl (fun ls hl => ?_)
                have ty_64 := add_bd ey_64 b_13 kb_1 (by decide)
                have b_65 : bd 1 1201 y_64 := add_rg ty_64 b_13 kb_1 (by decide)
                refine lv_goto (tgt := 27) hx hb dX2_readOnly_162 (by decide) ?_
                have hl9 := lv_sub hl [0, 1, 3, 4] (by rfl : lv_pick [(3, .int y_64), (2, .int 1), (4, .int r_18), (1, .int r_5), (0, .ref a0_)] [0, 1, 3, 4] = [(3, .int y_64), (2, .int 1), (1, .int r_5), (0, .ref a0_)])
                have g9 := g.sub (fx' := [(7, 13, q0_, .int x_7), (2, 0, a0_, .ref a_3), (5, 2, a_1, .int x_2), (2, 1, a0_, .ref a_1), (2, 3, a0_, .ref q0_), (2, 4, a0_, .ref q1_)]) [2, 3, 4, 5, 6, 7] rfl
                exact ih27  y_64 1 (bd_sub b_65 (by decide)) (bd_sub kb_1 (by decide)) (by have h9_0 := b_65; unfold bd at h9_0; have h9_1 := bv27_2; unfold bd at h9_1; have h9_2 := bv27_3; unfold bd at h9_2; have h9_3 := kb_0; unfold bd at h9_3; have h9_4 := kb_1; unfold bd at h9_4; have h9_5 := kb_1200; unfold bd at h9_5; have h9_6 := kb_2; unfold bd at h9_6; have h9_7 := kb_3; unfold bd at h9_7; have h9_8 := kb_44; unfold bd at h9_8; have h9_9 := kb_m1; unfold bd at h9_9; omega) _ _ _ _ g9  hl9
          · have fc_21 := neq_f c_21
            refine lv_aload_n hx hb dX2_readOnly_65 rfl (lv_at hl 4 rfl) ?_
            refine g_getk (C := RX2) (T := TX2) (N := 16) hx hb hts (mc_ inX2) hown hK g rfl 0 (by decide) rfl (hts _ (List.mem_cons_of_mem _ t_416)) (fun _ h9 => h9) 1 rfl dX2_readOnly_66 ?_
            refine lv_iconst (v := 1) hx hb dX2_readOnly_69 (by decide) ?_
            refine lv_aload_n hx hb dX2_readOnly_70 rfl (lv_at hl 4 rfl) ?_
            refine g_getk (C := RX2) (T := TX2) (N := 16) hx hb hts (mc_ inX2) hown hK g rfl 0 (by decide) rfl (hts _ (List.mem_cons_of_mem _ t_416)) (fun _ h9 => h9) 1 rfl dX2_readOnly_71 ?_
            refine g_calli (va_runV (As := []) (rest := [.int 1, .ref a_3]) ⟨hx, hb, hml, hown, hts⟩ (r_X8_place l dC dI L kd tys fr_20 H.size g.2.2.2.1 a_3 ma_3 ka_3) (cwV 0 hts (gV_ t_1110 t_1111 t_1112 t_184 t_1113) rfl rfl rfl (by decide +kernel) ⟨(Nat.le_of_ble_eq_true rfl), (Nat.le_of_ble_eq_true rfl)⟩) (pre3V g hK ma_3 ka_3 (by decide) (q := (RX8, TX8, 10)) rfl) rfl rfl hl.1 rfl (lv_room (Nat.le_of_ble_eq_true rfl)) dX2_readOnly_74 ⟨(Nat.le_of_ble_eq_true rfl), (Nat.le_of_ble_eq_true rfl)⟩) g hK (by decide) (by decide) (fx' := [(7, 13, q0_, .int x_7), (2, 0, a0_, .ref a_3), (5, 2, a_1, .int x_2), (2, 1, a0_, .ref a_1), (2, 3, a0_, .ref q0_), (2, 4, a0_, .ref q1_)]) rfl (fun r_66 fr_66 H locs hp hMr_66 g => ?_)
            have kb_1 : bd 1 1 (1 : Int32) := ⟨by decide, by decide⟩
            refine g_callv (va_runV (As := [.int 1, .int r_66]) (rest := []) ⟨hx, hb, hml, hown, hts⟩ (r_X8_fail_6 l dC dI L kd tys fr_66 H.size g.2.2.2.1 a_3 ma_3 ka_3 1 kb_1 r_66) (cwV 2 hts (gV_ t_1122 t_1107 t_1108 t_184 t_1109) rfl rfl rfl (by decide +kernel) ⟨(Nat.le_of_ble_eq_true rfl), (Nat.le_of_ble_eq_true rfl)⟩) (pre3V g hK ma_3 ka_3 (by decide) (q := (RX8, TX8, 10)) rfl) rfl rfl hl.1 rfl (lv_room (Nat.le_of_ble_eq_true rfl)) dX2_readOnly_77 ⟨(Nat.le_of_ble_eq_true rfl), (Nat.le_of_ble_eq_true rfl)⟩) g hK (by decide) (by decide) (fx' := [(7, 13, q0_, .int x_7), (2, 0, a0_, .ref a_3), (5, 2, a_1, .int x_2), (2, 1, a0_, .ref a_1), (2, 3, a0_, .ref q0_), (2, 4, a0_, .ref q1_)]) rfl (fun fr_67 H locs hp hMr_67 g => ?_)
            obtain ⟨x_68, h_69, hF_70⟩ := hp
            have g := g.more hF_70
            refine lv_goto (tgt := 123) hx hb dX2_readOnly_80 (by decide) ?_
            refine lv_aload_n hx hb dX2_readOnly_123 rfl (lv_at hl 4 rfl) ?_
            refine g_getk (C := RX2) (T := TX2) (N := 16) hx hb hts (mc_ inX2) hown hK g rfl 0 (by decide) rfl (hts _ (List.mem_cons_of_mem _ t_416)) (fun _ h9 => h9) 3 rfl dX2_readOnly_124 ?_
            refine g_callv (va_runV (As := []) (rest := []) ⟨hx, hb, hml, hown, hts⟩ (r_X8_next l dC dI L kd tys fr_67 H.size g.2.2.2.1 a_3 ma_3 ka_3) (cwV 0 hts (gV_ t_1131 t_1103 t_1104 t_184 t_1105) rfl rfl rfl (by decide +kernel) ⟨(Nat.le_of_ble_eq_true rfl), (Nat.le_of_ble_eq_true rfl)⟩) (pre3V g hK ma_3 ka_3 (by decide) (q := (RX8, TX8, 10)) rfl) rfl rfl hl.1 rfl (lv_room (Nat.le_of_ble_eq_true rfl)) dX2_readOnly_127 ⟨(Nat.le_of_ble_eq_true rfl), (Nat.le_of_ble_eq_true rfl)⟩) g hK (by decide) (by decide) (fx' := [(8, 8, a_3, .int x_68), (7, 13, q0_, .int x_7), (2, 0, a0_, .ref a_3), (5, 2, a_1, .int x_2), (2, 1, a0_, .ref a_1), (2, 3, a0_, .ref q0_), (2, 4, a0_, .ref q1_)]) rfl (fun fr_71 H locs hp hMr_71 g => ?_)
            obtain ⟨x_72, h_73, hF_74⟩ := hp
            have g := g.more hF_74
            refine lv_aload_n hx hb dX2_readOnly_130 rfl (lv_at hl 4 rfl) ?_
            refine g_getk (C := RX2) (T := TX2) (N := 16) hx hb hts (mc_ inX2) hown hK g rfl 0 (by decide) rfl (hts _ (List.mem_cons_of_mem _ t_416)) (fun _ h9 => h9) 3 rfl dX2_readOnly_131 ?_
            refine g_calli (va_runV (As := []) (rest := []) ⟨hx, hb, hml, hown, hts⟩ (r_X8_kind l dC dI L kd tys fr_71 H.size g.2.2.2.1 a_3 ma_3 ka_3) (cwV 0 hts (gV_ t_1118 t_1119 t_1120 t_184 t_1121) rfl rfl rfl (by decide +kernel) ⟨(Nat.le_of_ble_eq_true rfl), (Nat.le_of_ble_eq_true rfl)⟩) (pre3V g hK ma_3 ka_3 (by decide) (q := (RX8, TX8, 10)) rfl) rfl rfl hl.1 rfl (lv_room (Nat.le_of_ble_eq_true rfl)) dX2_readOnly_134 ⟨(Nat.le_of_ble_eq_true rfl), (Nat.le_of_ble_eq_true rfl)⟩) g hK (by decide) (by decide) (fx' := [(8, 6, a_3, .int x_72), (8, 8, a_3, .int x_68), (7, 13, q0_, .int x_7), (2, 0, a0_, .ref a_3), (5, 2, a_1, .int x_2), (2, 1, a0_, .ref a_1), (2, 3, a0_, .ref q0_), (2, 4, a0_, .ref q1_)]) rfl (fun r_75 fr_75 H locs hp hMr_75 g => ?_)
            refine lv_bipush (v := 44) hx hb dX2_readOnly_137 (by decide) ?_
            have kb_44 : bd 44 44 (44 : Int32) := ⟨by decide, by decide⟩
            refine lv_icmp_ne (tgt := 146) hx hb dX2_readOnly_139 (by decide) (fun c_76 => ?_) (fun c_76 => ?_)
            · have fc_76 := neq_f c_76
              refine lv_iconst (v := 0) hx hb dX2_readOnly_146 (by decide) ?_
              refine lv_istore_n (lv' := [(2, .int 0), (4, .int r_18), (3, .int v27_3), (1, .int r_5), (0, .ref a0_)]) hx hb dX2_readOnly_147 rfl hl (by decide) rfl (fun ls hl => ?_)
              refine lv_iload_n hx hb dX2_readOnly_148 rfl (lv_at hl 0 rfl) ?_
              refine lv_if_eq (tgt := 159) hx hb dX2_readOnly_149 (by decide) (fun c_ => ?_) (fun c_ => absurd (by decide) c_)
              obtain ⟨y_77, ey_77⟩ : ∃ z : Int32, z = v27_3 + 1 := ⟨_, rfl⟩
              refine lv_iinc (v := y_77) (lv' := [(3, .int y_77), (2, .int 0), (4, .int r_18), (1, .int r_5), (0, .ref a0_)]) hx hb dX2_readOnly_159 hl (k := 2) rfl (by rw [ey_77]; rfl) (by decide) rfl (fun ls hl => ?_)
              have ty_77 := add_bd ey_77 b_13 kb_1 (by decide)
              have b_78 : bd 1 1201 y_77 := add_rg ty_77 b_13 kb_1 (by decide)
              refine lv_goto (tgt := 27) hx hb dX2_readOnly_162 (by decide) ?_
              have hl9 := lv_sub hl [0, 1, 3, 4] (by rfl : lv_pick [(3, .int y_77), (2, .int 0), (4, .int r_18), (1, .int r_5), (0, .ref a0_)] [0, 1, 3, 4] = [(3, .int y_77), (2, .int 0), (1, .int r_5), (0, .ref a0_)])
              have g9 := g.sub (fx' := [(7, 13, q0_, .int x_7), (2, 0, a0_, .ref a_3), (5, 2, a_1, .int x_2), (2, 1, a0_, .ref a_1), (2, 3, a0_, .ref q0_), (2, 4, a0_, .ref q1_)]) [2, 3, 4, 5, 6, 7] rfl
              exact ih27  y_77 0 (bd_sub b_78 (by decide)) (bd_sub kb_0 (by decide)) (by have h9_0 := b_78; unfold bd at h9_0; have h9_1 := bv27_2; unfold bd at h9_1; have h9_2 := bv27_3; unfold bd at h9_2; have h9_3 := kb_0; unfold bd at h9_3; have h9_4 := kb_1; unfold bd at h9_4; have h9_5 := kb_1200; unfold bd at h9_5; have h9_6 := kb_3; unfold bd at h9_6; have h9_7 := kb_44; unfold bd at h9_7; omega) _ _ _ _ g9  hl9
            · have fc_76 := eq_f c_76
              have b_79 : bd 44 44 r_75 := eqX fc_76 (bdT r_75) kb_44 (by decide)
              refine lv_iconst (v := 1) hx hb dX2_readOnly_142 (by decide) ?_
              refine lv_goto (tgt := 147) hx hb dX2_readOnly_143 (by decide) ?_
              refine lv_istore_n (lv' := [(2, .int 1), (4, .int r_18), (3, .int v27_3), (1, .int r_5), (0, .ref a0_)]) hx hb dX2_readOnly_147 rfl hl (by decide) rfl (fun ls hl => ?_)
              refine lv_iload_n hx hb dX2_readOnly_148 rfl (lv_at hl 0 rfl) ?_
              refine lv_if_eq (tgt := 159) hx hb dX2_readOnly_149 (by decide) (fun c_ => absurd c_ (by decide)) (fun c_ => ?_)
              refine lv_aload_n hx hb dX2_readOnly_152 rfl (lv_at hl 4 rfl) ?_
              refine g_getk (C := RX2) (T := TX2) (N := 16) hx hb hts (mc_ inX2) hown hK g rfl 0 (by decide) rfl (hts _ (List.mem_cons_of_mem _ t_416)) (fun _ h9 => h9) 3 rfl dX2_readOnly_153 ?_
              refine g_callv (va_runV (As := []) (rest := []) ⟨hx, hb, hml, hown, hts⟩ (r_X8_next l dC dI L kd tys fr_75 H.size g.2.2.2.1 a_3 ma_3 ka_3) (cwV 0 hts (gV_ t_1131 t_1103 t_1104 t_184 t_1105) rfl rfl rfl (by decide +kernel) ⟨(Nat.le_of_ble_eq_true rfl), (Nat.le_of_ble_eq_true rfl)⟩) (pre3V g hK ma_3 ka_3 (by decide) (q := (RX8, TX8, 10)) rfl) rfl rfl hl.1 rfl (lv_room (Nat.le_of_ble_eq_true rfl)) dX2_readOnly_156 ⟨(Nat.le_of_ble_eq_true rfl), (Nat.le_of_ble_eq_true rfl)⟩) g hK (by decide) (by decide) (fx' := [(8, 8, a_3, .int x_68), (7, 13, q0_, .int x_7), (2, 0, a0_, .ref a_3), (5, 2, a_1, .int x_2), (2, 1, a0_, .ref a_1), (2, 3, a0_, .ref q0_), (2, 4, a0_, .ref q1_)]) rfl (fun fr_80 H locs hp hMr_80 g => ?_)
              obtain ⟨x_81, h_82, hF_83⟩ := hp
              have g := g.more hF_83
              obtain ⟨y_84, ey_84⟩ : ∃ z : Int32, z = v27_3 + 1 := ⟨_, rfl⟩
              refine lv_iinc (v := y_84) (lv' := [(3, .int y_84), (2, .int 1), (4, .int r_18), (1, .int r_5), (0, .ref a0_)]) hx hb dX2_readOnly_159 hl (k := 2) rfl (by rw [ey_84]; rfl) (by decide) rfl (fun ls hl => ?_)
              have ty_84 := add_bd ey_84 b_13 kb_1 (by decide)
              have b_85 : bd 1 1201 y_84 := add_rg ty_84 b_13 kb_1 (by decide)
              refine lv_goto (tgt := 27) hx hb dX2_readOnly_162 (by decide) ?_
              have hl9 := lv_sub hl [0, 1, 3, 4] (by rfl : lv_pick [(3, .int y_84), (2, .int 1), (4, .int r_18), (1, .int r_5), (0, .ref a0_)] [0, 1, 3, 4] = [(3, .int y_84), (2, .int 1), (1, .int r_5), (0, .ref a0_)])
              have g9 := g.sub (fx' := [(7, 13, q0_, .int x_7), (2, 0, a0_, .ref a_3), (5, 2, a_1, .int x_2), (2, 1, a0_, .ref a_1), (2, 3, a0_, .ref q0_), (2, 4, a0_, .ref q1_)]) [2, 3, 4, 5, 6, 7] rfl
              exact ih27  y_84 1 (bd_sub b_85 (by decide)) (bd_sub kb_1 (by decide)) (by have h9_0 := b_85; unfold bd at h9_0; have h9_1 := bv27_2; unfold bd at h9_1; have h9_2 := bv27_3; unfold bd at h9_2; have h9_3 := kb_0; unfold bd at h9_3; have h9_4 := kb_1; unfold bd at h9_4; have h9_5 := kb_1200; unfold bd at h9_5; have h9_6 := kb_3; unfold bd at h9_6; have h9_7 := kb_44; unfold bd at h9_7; omega) _ _ _ _ g9  hl9
  have kb_0 : bd 0 0 (0 : Int32) := ⟨by decide, by decide⟩
  have kb_1 : bd 1 1 (1 : Int32) := ⟨by decide, by decide⟩
  have hl9 := lv_sub hl [0, 1, 2, 3] (by rfl : lv_pick [(3, .int 0), (2, .int 1), (1, .int r_5), (0, .ref a0_)] [0, 1, 2, 3] = [(3, .int 0), (2, .int 1), (1, .int r_5), (0, .ref a0_)])
  have g9 := g.sub (fx' := [(7, 13, q0_, .int x_7), (2, 0, a0_, .ref a_3), (5, 2, a_1, .int x_2), (2, 1, a0_, .ref a_1), (2, 3, a0_, .ref q0_), (2, 4, a0_, .ref q1_)]) [0, 1, 2, 3, 4, 5] rfl
  exact loop_10 (2405) 0 1 (bd_sub kb_0 (by decide)) (bd_sub kb_1 (by decide)) (by have h9_0 := kb_0; unfold bd at h9_0; have h9_1 := kb_1; unfold bd at h9_1; omega) _ _ _ _ g9  hl9
set_option maxHeartbeats 4000000 in
set_option maxRecDepth 100000 in
theorem r_X2_openBlock (l : Launch) (dC : Nat → ClassId) (dI : Nat → Nat → Nat) (L : List Nat) (kd : Nat → Nat) (tys : List (ClassId × FieldType)) (f0 : Nat → va_E) (sz : Nat) (hWT : WT L kd tys f0) (a0_ : Nat) (ma0_ : a0_ ∈ L) (ka0_ : kd a0_ = 2) (x1_ : Int32) (x2_ : Int32) (x3_ : Int32) (q0_ : Nat) (mq0_ : q0_ ∈ L) (kq0_ : kd q0_ = 8) (hfx : Fs L kd f0 [(2, 0, a0_, .ref q0_)]) : Met l yX2_openBlock (.code yX2_openBlock cX2_openBlock 4 none :: lw_g) ({ frames := 1, cells := 0, slots := 0, locals := 23 }) (va_Pc [.ref a0_, .int x1_, .int x2_, .int x3_] (P3 (dC, dI) L tys f0 sz)) (va_Qv (fun (f : Nat → va_E) => (∃ z0_ : Int32, bd 1 1201 z0_ ∧ Fs L kd f [(8, 6, q0_, .int z0_)])) (Q3 (dC, dI) L kd tys [(2, 11), (8, 6), (8, 8), (8, 9)] [118, 119, 120, 121] f0 sz) (pA L sz)) 0 0 (pA L sz) := by
  refine Met.ofW (cc := cX2_openBlock) (maxL := 4) (ret := none) (by decide) rfl ?_
  intro p e s m args below meth c s₁ B hml hv
  obtain ⟨rfl, hsz, hP, hK, hD0⟩ := hv
  have hx := B.exec
  have hb := B.bytes
  have hr := B.returns
  have hts := atoms_spec (ws := (.code yX2_openBlock cX2_openBlock 4 none :: lw_g)) B.pre
  have hown : s.vm.findClass RX2 = some m.cls := findClass_of_methodNamed B.named
  have hlocks := B.notSynchronized
  subst hsz
  have g : G3 (dC, dI) L kd tys s f0 [(2, 11), (8, 6), (8, 8), (8, 9)] [118, 119, 120, 121] f0 s.heap [] [(2, 0, a0_, .ref q0_)] := G3.start hP hD0 hWT hfx
  have hl := lv_entry ([.ref a0_, .int x1_, .int x2_, .int x3_]) (n := 4) (Nat.le_of_ble_eq_true rfl)
  rw [lg_entry_eq]
  generalize (lg_sl ([.ref a0_, .int x1_, .int x2_, .int x3_]) ++ List.replicate (4 - (lg_sl ([.ref a0_, .int x1_, .int x2_, .int x3_])).length) Slot.unset).toArray = ls at hl ⊢
  have hl : lv_has ls 4 [(0, .ref a0_), (1, .int x1_), (2, .int x2_), (3, .int x3_)] := hl
  refine W_q (fun Q hQ => ?_)
  refine lv_aload_n hx hb dX2_openBlock_0 rfl (lv_at hl 0 rfl) ?_
  refine g_getk (C := RX2) (T := TX2) (N := 16) hx hb hts (mc_ inX2) hown hK g rfl 0 (by decide) rfl (hts _ (List.mem_cons_of_mem _ t_416)) (fun _ h9 => h9) 0 rfl dX2_openBlock_1 ?_
  refine g_calli (va_runV (As := []) (rest := []) ⟨hx, hb, hml, hown, hts⟩ (r_X8_kind l dC dI L kd tys f0 s.heap.size g.2.2.2.1 q0_ mq0_ kq0_) (cwV 0 hts (gV_ t_1118 t_1119 t_1120 t_184 t_1121) rfl rfl rfl (by decide +kernel) ⟨(Nat.le_of_ble_eq_true rfl), (Nat.le_of_ble_eq_true rfl)⟩) (pre3V g hK mq0_ kq0_ (by decide) (q := (RX8, TX8, 10)) rfl) rfl rfl hl.1 rfl (lv_room (Nat.le_of_ble_eq_true rfl)) dX2_openBlock_4 ⟨(Nat.le_of_ble_eq_true rfl), (Nat.le_of_ble_eq_true rfl)⟩) g hK (by decide) (by decide) (fx' := [(2, 0, a0_, .ref q0_)]) rfl (fun r_1 fr_1 H locs hp hMr_1 g => ?_)
  refine lv_bipush (v := 123) hx hb dX2_openBlock_7 (by decide) ?_
  have kb_123 : bd 123 123 (123 : Int32) := ⟨by decide, by decide⟩
  refine lv_icmp_eq (tgt := 30) hx hb dX2_openBlock_9 (by decide) (fun c_2 => ?_) (fun c_2 => ?_)
  · have fc_2 := eq_f c_2
    have b_3 : bd 123 123 r_1 := eqX fc_2 (bdT r_1) kb_123 (by decide)
    refine lv_aload_n hx hb dX2_openBlock_30 rfl (lv_at hl 0 rfl) ?_
    refine g_geti (C := RX2) (T := TX2) (N := 16) hx hb hts (mc_ inX2) hown hK g ma0_ ka0_ (by decide) rfl 11 (by decide) rfl (hts _ (List.mem_cons_of_mem _ t_427)) (fun _ h9 => h9) rfl dX2_openBlock_31 (fun x_4 bx_4 g => ?_)
    refine lv_bipush (v := 8) hx hb dX2_openBlock_34 (by decide) ?_
    have kb_8 : bd 8 8 (8 : Int32) := ⟨by decide, by decide⟩
    refine lv_icmp_lt (tgt := 57) hx hb dX2_openBlock_36 (by decide) (fun c_5 => ?_) (fun c_5 => ?_)
    · have fc_5 := lt_f c_5
      have b_6 : bd 0 7 x_4 := ltL fc_5 bx_4 kb_8 (by decide)
      refine lv_aload_n hx hb dX2_openBlock_57 rfl (lv_at hl 0 rfl) ?_
      refine g_getr (K := 118) (C := RX2) (T := TX2) (N := 16) hx hb hts (mc_ inX2) hown hK g ma0_ ka0_ (by decide) rfl 7 (by decide) rfl (hts _ (List.mem_cons_of_mem _ t_423)) (fun _ h9 => h9) rfl dX2_openBlock_58 (fun a_7 ma_7 ka_7 g => ?_)
      refine lv_aload_n hx hb dX2_openBlock_61 rfl (lv_at hl 0 rfl) ?_
      refine g_getk (C := RX2) (T := TX2) (N := 16) hx hb hts (mc_ inX2) hown hK g rfl 11 (by decide) rfl (hts _ (List.mem_cons_of_mem _ t_427)) (fun _ h9 => h9) 1 rfl dX2_openBlock_62 ?_
      refine lv_iload_n hx hb dX2_openBlock_65 rfl (lv_at hl 1 rfl) ?_
      refine g_iast hx hb hK g ma_7 ka_7 (by decide) rfl (in_bd b_6 (by decide)) (bdT x1_) (by decide) dX2_openBlock_66 (fun f H locs hM_8 g => ?_)
      refine lv_aload_n hx hb dX2_openBlock_67 rfl (lv_at hl 0 rfl) ?_
      refine g_getr (K := 119) (C := RX2) (T := TX2) (N := 16) hx hb hts (mc_ inX2) hown hK g ma0_ ka0_ (by decide) rfl 8 (by decide) rfl (hts _ (List.mem_cons_of_mem _ t_424)) (fun _ h9 => h9) rfl dX2_openBlock_68 (fun a_9 ma_9 ka_9 g => ?_)
      refine lv_aload_n hx hb dX2_openBlock_71 rfl (lv_at hl 0 rfl) ?_
      refine g_getk (C := RX2) (T := TX2) (N := 16) hx hb hts (mc_ inX2) hown hK g rfl 11 (by decide) rfl (hts _ (List.mem_cons_of_mem _ t_427)) (fun _ h9 => h9) 2 rfl dX2_openBlock_72 ?_
      refine lv_iload_n hx hb dX2_openBlock_75 rfl (lv_at hl 2 rfl) ?_
      refine g_iast hx hb hK g ma_9 ka_9 (by decide) rfl (in_bd b_6 (by decide)) (bdT x2_) (by decide) dX2_openBlock_76 (fun f H locs hM_10 g => ?_)
      refine lv_aload_n hx hb dX2_openBlock_77 rfl (lv_at hl 0 rfl) ?_
      refine g_getr (K := 120) (C := RX2) (T := TX2) (N := 16) hx hb hts (mc_ inX2) hown hK g ma0_ ka0_ (by decide) rfl 9 (by decide) rfl (hts _ (List.mem_cons_of_mem _ t_425)) (fun _ h9 => h9) rfl dX2_openBlock_78 (fun a_11 ma_11 ka_11 g => ?_)
      refine lv_aload_n hx hb dX2_openBlock_81 rfl (lv_at hl 0 rfl) ?_
      refine g_getk (C := RX2) (T := TX2) (N := 16) hx hb hts (mc_ inX2) hown hK g rfl 11 (by decide) rfl (hts _ (List.mem_cons_of_mem _ t_427)) (fun _ h9 => h9) 3 rfl dX2_openBlock_82 ?_
      refine lv_iload_n hx hb dX2_openBlock_85 rfl (lv_at hl 3 rfl) ?_
      refine g_iast hx hb hK g ma_11 ka_11 (by decide) rfl (in_bd b_6 (by decide)) (bdT x3_) (by decide) dX2_openBlock_86 (fun f H locs hM_12 g => ?_)
      refine lv_aload_n hx hb dX2_openBlock_87 rfl (lv_at hl 0 rfl) ?_
      refine g_getr (K := 121) (C := RX2) (T := TX2) (N := 16) hx hb hts (mc_ inX2) hown hK g ma0_ ka0_ (by decide) rfl 10 (by decide) rfl (hts _ (List.mem_cons_of_mem _ t_426)) (fun _ h9 => h9) rfl dX2_openBlock_88 (fun a_13 ma_13 ka_13 g => ?_)
      refine lv_aload_n hx hb dX2_openBlock_91 rfl (lv_at hl 0 rfl) ?_
      refine g_getk (C := RX2) (T := TX2) (N := 16) hx hb hts (mc_ inX2) hown hK g rfl 11 (by decide) rfl (hts _ (List.mem_cons_of_mem _ t_427)) (fun _ h9 => h9) 4 rfl dX2_openBlock_92 ?_
      refine lv_aload_n hx hb dX2_openBlock_95 rfl (lv_at hl 0 rfl) ?_
      refine g_getr (K := 5) (C := RX2) (T := TX2) (N := 16) hx hb hts (mc_ inX2) hown hK g ma0_ ka0_ (by decide) rfl 1 (by decide) rfl (hts _ (List.mem_cons_of_mem _ t_417)) (fun _ h9 => h9) rfl dX2_openBlock_96 (fun a_14 ma_14 ka_14 g => ?_)
      refine g_geti (C := RX5) (T := TX5) (N := 9) hx hb hts (mc_ inX5) hown hK g ma_14 ka_14 (by decide) rfl 6 (by decide) rfl (hts _ (List.mem_cons_of_mem _ t_341)) (fun _ h9 => h9) rfl dX2_openBlock_99 (fun x_15 bx_15 g => ?_)
      refine g_iast hx hb hK g ma_13 ka_13 (by decide) rfl (in_bd b_6 (by decide)) bx_15 (by decide) dX2_openBlock_102 (fun f H locs hM_16 g => ?_)
      refine lv_aload_n hx hb dX2_openBlock_103 rfl (lv_at hl 0 rfl) ?_
      refine lv_dup hx hb dX2_openBlock_104 rfl ?_
      refine g_getk (C := RX2) (T := TX2) (N := 16) hx hb hts (mc_ inX2) hown hK g rfl 11 (by decide) rfl (hts _ (List.mem_cons_of_mem _ t_427)) (fun _ h9 => h9) 6 rfl dX2_openBlock_105 ?_
      refine lv_iconst (v := 1) hx hb dX2_openBlock_108 (by decide) ?_
      have kb_1 : bd 1 1 (1 : Int32) := ⟨by decide, by decide⟩
      refine lv_iadd hx hb dX2_openBlock_109 ?_
      refine lv_topi (fun y_17 ey_17 => ?_)
      have ty_17 := add_bd ey_17 b_6 kb_1 (by decide)
      have b_18 : bd 1 8 y_17 := add_rg ty_17 b_6 kb_1 (by decide)
      refine g_put (C := RX2) (T := TX2) (N := 16) hx hb hts (mc_ inX2) tyX2 tyX2_ok nmX2 hown hK g ma0_ ka0_ (by decide) rfl 11 (by decide) (hts _ (List.mem_cons_of_mem _ t_427)) (fun _ h9 => h9) rfl rfl (okV_i (bd_sub b_18 (by decide))) rfl rfl (by decide) (Or.inr (Or.inl (by decide))) (fx' := [(5, 6, a_14, .int x_15), (2, 1, a0_, .ref a_14), (2, 10, a0_, .ref a_13), (2, 9, a0_, .ref a_11), (2, 8, a0_, .ref a_9), (2, 7, a0_, .ref a_7), (2, 0, a0_, .ref q0_)]) rfl dX2_openBlock_110 (fun f H locs hM_19 g => ?_)
      refine lv_aload_n hx hb dX2_openBlock_113 rfl (lv_at hl 0 rfl) ?_
      refine g_getk (C := RX2) (T := TX2) (N := 16) hx hb hts (mc_ inX2) hown hK g rfl 0 (by decide) rfl (hts _ (List.mem_cons_of_mem _ t_416)) (fun _ h9 => h9) 7 rfl dX2_openBlock_114 ?_
      refine g_callv (va_runV (As := []) (rest := []) ⟨hx, hb, hml, hown, hts⟩ (r_X8_next l dC dI L kd tys f H.size g.2.2.2.1 q0_ mq0_ kq0_) (cwV 0 hts (gV_ t_1131 t_1103 t_1104 t_184 t_1105) rfl rfl rfl (by decide +kernel) ⟨(Nat.le_of_ble_eq_true rfl), (Nat.le_of_ble_eq_true rfl)⟩) (pre3V g hK mq0_ kq0_ (by decide) (q := (RX8, TX8, 10)) rfl) rfl rfl hl.1 rfl (lv_room (Nat.le_of_ble_eq_true rfl)) dX2_openBlock_117 ⟨(Nat.le_of_ble_eq_true rfl), (Nat.le_of_ble_eq_true rfl)⟩) g hK (by decide) (by decide) (fx' := [(2, 11, a0_, .int y_17), (5, 6, a_14, .int x_15), (2, 1, a0_, .ref a_14), (2, 10, a0_, .ref a_13), (2, 9, a0_, .ref a_11), (2, 8, a0_, .ref a_9), (2, 7, a0_, .ref a_7), (2, 0, a0_, .ref q0_)]) rfl (fun fr_20 H locs hp hMr_20 g => ?_)
      obtain ⟨x_21, h_22, hF_23⟩ := hp
      have g := g.more hF_23
      subst hQ
      exact W.vret hx hb hr (fun t ht hW => ⟨⟨_, rfl, ⟨x_21, h_22, (g.fcts [0] rfl)⟩, q3_of g hK ht hW⟩, g.2.2.1.F ht⟩) g.2.2.1.2.2 dX2_openBlock_120
    · have fc_5 := nlt_f c_5
      have b_24 : bd 8 8 x_4 := leR fc_5 kb_8 bx_4 (by decide)
      refine lv_aload_n hx hb dX2_openBlock_39 rfl (lv_at hl 0 rfl) ?_
      refine g_getk (C := RX2) (T := TX2) (N := 16) hx hb hts (mc_ inX2) hown hK g rfl 0 (by decide) rfl (hts _ (List.mem_cons_of_mem _ t_416)) (fun _ h9 => h9) 1 rfl dX2_openBlock_40 ?_
      refine lv_iconst (v := 4) hx hb dX2_openBlock_43 (by decide) ?_
      refine lv_aload_n hx hb dX2_openBlock_44 rfl (lv_at hl 0 rfl) ?_
      refine g_getk (C := RX2) (T := TX2) (N := 16) hx hb hts (mc_ inX2) hown hK g rfl 0 (by decide) rfl (hts _ (List.mem_cons_of_mem _ t_416)) (fun _ h9 => h9) 1 rfl dX2_openBlock_45 ?_
      refine g_calli (va_runV (As := []) (rest := [.int 4, .ref q0_]) ⟨hx, hb, hml, hown, hts⟩ (r_X8_place l dC dI L kd tys fr_1 H.size g.2.2.2.1 q0_ mq0_ kq0_) (cwV 0 hts (gV_ t_1110 t_1111 t_1112 t_184 t_1113) rfl rfl rfl (by decide +kernel) ⟨(Nat.le_of_ble_eq_true rfl), (Nat.le_of_ble_eq_true rfl)⟩) (pre3V g hK mq0_ kq0_ (by decide) (q := (RX8, TX8, 10)) rfl) rfl rfl hl.1 rfl (lv_room (Nat.le_of_ble_eq_true rfl)) dX2_openBlock_48 ⟨(Nat.le_of_ble_eq_true rfl), (Nat.le_of_ble_eq_true rfl)⟩) g hK (by decide) (by decide) (fx' := [(2, 11, a0_, .int x_4), (2, 0, a0_, .ref q0_)]) rfl (fun r_25 fr_25 H locs hp hMr_25 g => ?_)
      have kb_4 : bd 4 4 (4 : Int32) := ⟨by decide, by decide⟩
      refine g_callv (va_runV (As := [.int 4, .int r_25]) (rest := []) ⟨hx, hb, hml, hown, hts⟩ (r_X8_fail l dC dI L kd tys fr_25 H.size g.2.2.2.1 q0_ mq0_ kq0_ 4 kb_4 r_25) (cwV 2 hts (gV_ t_1122 t_1107 t_1108 t_184 t_1109) rfl rfl rfl (by decide +kernel) ⟨(Nat.le_of_ble_eq_true rfl), (Nat.le_of_ble_eq_true rfl)⟩) (pre3V g hK mq0_ kq0_ (by decide) (q := (RX8, TX8, 10)) rfl) rfl rfl hl.1 rfl (lv_room (Nat.le_of_ble_eq_true rfl)) dX2_openBlock_51 ⟨(Nat.le_of_ble_eq_true rfl), (Nat.le_of_ble_eq_true rfl)⟩) g hK (by decide) (by decide) (fx' := [(2, 11, a0_, .int x_4), (2, 0, a0_, .ref q0_)]) rfl (fun fr_26 H locs hp hMr_26 g => ?_)
      obtain ⟨x_27, h_28, hF_29⟩ := hp
      have g := g.more hF_29
      refine lv_goto (tgt := 120) hx hb dX2_openBlock_54 (by decide) ?_
      have kb_1201 : bd 1201 1201 (1201 : Int32) := ⟨by decide, by decide⟩
      subst hQ
      exact W.vret hx hb hr (fun t ht hW => ⟨⟨_, rfl, ⟨1201, (bd_sub kb_1201 (by decide)), (g.fcts [0] rfl)⟩, q3_of g hK ht hW⟩, g.2.2.1.F ht⟩) g.2.2.1.2.2 dX2_openBlock_120
  · have fc_2 := neq_f c_2
    refine lv_aload_n hx hb dX2_openBlock_12 rfl (lv_at hl 0 rfl) ?_
    refine g_getk (C := RX2) (T := TX2) (N := 16) hx hb hts (mc_ inX2) hown hK g rfl 0 (by decide) rfl (hts _ (List.mem_cons_of_mem _ t_416)) (fun _ h9 => h9) 0 rfl dX2_openBlock_13 ?_
    refine lv_iconst (v := 1) hx hb dX2_openBlock_16 (by decide) ?_
    refine lv_aload_n hx hb dX2_openBlock_17 rfl (lv_at hl 0 rfl) ?_
    refine g_getk (C := RX2) (T := TX2) (N := 16) hx hb hts (mc_ inX2) hown hK g rfl 0 (by decide) rfl (hts _ (List.mem_cons_of_mem _ t_416)) (fun _ h9 => h9) 0 rfl dX2_openBlock_18 ?_
    refine g_calli (va_runV (As := []) (rest := [.int 1, .ref q0_]) ⟨hx, hb, hml, hown, hts⟩ (r_X8_place l dC dI L kd tys fr_1 H.size g.2.2.2.1 q0_ mq0_ kq0_) (cwV 0 hts (gV_ t_1110 t_1111 t_1112 t_184 t_1113) rfl rfl rfl (by decide +kernel) ⟨(Nat.le_of_ble_eq_true rfl), (Nat.le_of_ble_eq_true rfl)⟩) (pre3V g hK mq0_ kq0_ (by decide) (q := (RX8, TX8, 10)) rfl) rfl rfl hl.1 rfl (lv_room (Nat.le_of_ble_eq_true rfl)) dX2_openBlock_21 ⟨(Nat.le_of_ble_eq_true rfl), (Nat.le_of_ble_eq_true rfl)⟩) g hK (by decide) (by decide) (fx' := [(2, 0, a0_, .ref q0_)]) rfl (fun r_30 fr_30 H locs hp hMr_30 g => ?_)
    have kb_1 : bd 1 1 (1 : Int32) := ⟨by decide, by decide⟩
    refine g_callv (va_runV (As := [.int 1, .int r_30]) (rest := []) ⟨hx, hb, hml, hown, hts⟩ (r_X8_fail_6 l dC dI L kd tys fr_30 H.size g.2.2.2.1 q0_ mq0_ kq0_ 1 kb_1 r_30) (cwV 2 hts (gV_ t_1122 t_1107 t_1108 t_184 t_1109) rfl rfl rfl (by decide +kernel) ⟨(Nat.le_of_ble_eq_true rfl), (Nat.le_of_ble_eq_true rfl)⟩) (pre3V g hK mq0_ kq0_ (by decide) (q := (RX8, TX8, 10)) rfl) rfl rfl hl.1 rfl (lv_room (Nat.le_of_ble_eq_true rfl)) dX2_openBlock_24 ⟨(Nat.le_of_ble_eq_true rfl), (Nat.le_of_ble_eq_true rfl)⟩) g hK (by decide) (by decide) (fx' := [(2, 0, a0_, .ref q0_)]) rfl (fun fr_31 H locs hp hMr_31 g => ?_)
    obtain ⟨x_32, h_33, hF_34⟩ := hp
    have g := g.more hF_34
    refine lv_goto (tgt := 120) hx hb dX2_openBlock_27 (by decide) ?_
    have kb_1201 : bd 1201 1201 (1201 : Int32) := ⟨by decide, by decide⟩
    subst hQ
    exact W.vret hx hb hr (fun t ht hW => ⟨⟨_, rfl, ⟨1201, (bd_sub kb_1201 (by decide)), (g.fcts [0] rfl)⟩, q3_of g hK ht hW⟩, g.2.2.1.F ht⟩) g.2.2.1.2.2 dX2_openBlock_120
set_option maxHeartbeats 4000000 in
set_option maxRecDepth 100000 in
theorem r_X2_openBody (l : Launch) (dC : Nat → ClassId) (dI : Nat → Nat → Nat) (L : List Nat) (kd : Nat → Nat) (tys : List (ClassId × FieldType)) (f0 : Nat → va_E) (sz : Nat) (hWT : WT L kd tys f0) (a0_ : Nat) (ma0_ : a0_ ∈ L) (ka0_ : kd a0_ = 2) (q0_ : Nat) (mq0_ : q0_ ∈ L) (kq0_ : kd q0_ = 8) (q1_ : Nat) (mq1_ : q1_ ∈ L) (kq1_ : kd q1_ = 7) (q2_ : Nat) (mq2_ : q2_ ∈ L) (kq2_ : kd q2_ = 6) (hfx : Fs L kd f0 [(2, 0, a0_, .ref q0_), (2, 3, a0_, .ref q1_), (2, 5, a0_, .ref q2_)]) : Met l yX2_openBody (.code yX2_openBody cX2_openBody 3 none :: lw_g) ({ frames := 2, cells := 0, slots := 0, locals := 46 }) (va_Pc [.ref a0_] (P3 (dC, dI) L tys f0 sz)) (va_Qv (fun (f : Nat → va_E) => (∃ z0_ : Int32, bd 1 1201 z0_ ∧ ∃ z1_ : Int32, bd 0 2000 z1_ ∧ Fs L kd f [(8, 6, q0_, .int z0_), (6, 8, q2_, .int z1_)])) (Q3 (dC, dI) L kd tys [(2, 11), (6, 8), (8, 6), (8, 8), (8, 9)] [118, 119, 120, 121] f0 sz) (pA L sz)) 0 0 (pA L sz) := by
  refine Met.ofW (cc := cX2_openBody) (maxL := 3) (ret := none) (by decide) rfl ?_
  intro p e s m args below meth c s₁ B hml hv
  obtain ⟨rfl, hsz, hP, hK, hD0⟩ := hv
  have hx := B.exec
  have hb := B.bytes
  have hr := B.returns
  have hts := atoms_spec (ws := (.code yX2_openBody cX2_openBody 3 none :: lw_g)) B.pre
  have hown : s.vm.findClass RX2 = some m.cls := findClass_of_methodNamed B.named
  have hlocks := B.notSynchronized
  subst hsz
  have g : G3 (dC, dI) L kd tys s f0 [(2, 11), (6, 8), (8, 6), (8, 8), (8, 9)] [118, 119, 120, 121] f0 s.heap [] [(2, 0, a0_, .ref q0_), (2, 3, a0_, .ref q1_), (2, 5, a0_, .ref q2_)] := G3.start hP hD0 hWT hfx
  have hl := lv_entry ([.ref a0_]) (n := 3) (Nat.le_of_ble_eq_true rfl)
  rw [lg_entry_eq]
  generalize (lg_sl ([.ref a0_]) ++ List.replicate (3 - (lg_sl ([.ref a0_])).length) Slot.unset).toArray = ls at hl ⊢
  have hl : lv_has ls 3 [(0, .ref a0_)] := hl
  refine W_q (fun Q hQ => ?_)
  refine lv_aload_n hx hb dX2_openBody_0 rfl (lv_at hl 0 rfl) ?_
  refine g_getk (C := RX2) (T := TX2) (N := 16) hx hb hts (mc_ inX2) hown hK g rfl 0 (by decide) rfl (hts _ (List.mem_cons_of_mem _ t_416)) (fun _ h9 => h9) 0 rfl dX2_openBody_1 ?_
  refine g_calli (va_runV (As := []) (rest := []) ⟨hx, hb, hml, hown, hts⟩ (r_X8_place l dC dI L kd tys f0 s.heap.size g.2.2.2.1 q0_ mq0_ kq0_) (cwV 0 hts (gV_ t_1110 t_1111 t_1112 t_184 t_1113) rfl rfl rfl (by decide +kernel) ⟨(Nat.le_of_ble_eq_true rfl), (Nat.le_of_ble_eq_true rfl)⟩) (pre3V g hK mq0_ kq0_ (by decide) (q := (RX8, TX8, 10)) rfl) rfl rfl hl.1 rfl (lv_room (Nat.le_of_ble_eq_true rfl)) dX2_openBody_4 ⟨(Nat.le_of_ble_eq_true rfl), (Nat.le_of_ble_eq_true rfl)⟩) g hK (by decide) (by decide) (fx' := [(2, 0, a0_, .ref q0_), (2, 3, a0_, .ref q1_), (2, 5, a0_, .ref q2_)]) rfl (fun r_1 fr_1 H locs hp hMr_1 g => ?_)
  refine lv_istore_n (lv' := [(1, .int r_1), (0, .ref a0_)]) hx hb dX2_openBody_7 rfl hl (by decide) rfl (fun ls hl => ?_)
  refine lv_aload_n hx hb dX2_openBody_8 rfl (lv_at hl 1 rfl) ?_
  refine lv_iconst (v := 0) hx hb dX2_openBody_9 (by decide) ?_
  have kb_0 : bd 0 0 (0 : Int32) := ⟨by decide, by decide⟩
  refine g_put (C := RX2) (T := TX2) (N := 16) hx hb hts (mc_ inX2) tyX2 tyX2_ok nmX2 hown hK g ma0_ ka0_ (by decide) rfl 11 (by decide) (hts _ (List.mem_cons_of_mem _ t_427)) (fun _ h9 => h9) rfl rfl (okV_i (bd_sub kb_0 (by decide))) rfl rfl (by decide) (Or.inr (Or.inl (by decide))) (fx' := [(2, 0, a0_, .ref q0_), (2, 3, a0_, .ref q1_), (2, 5, a0_, .ref q2_)]) rfl dX2_openBody_10 (fun f H locs hM_2 g => ?_)
  refine lv_aload_n hx hb dX2_openBody_13 rfl (lv_at hl 1 rfl) ?_
  refine g_getk (C := RX2) (T := TX2) (N := 16) hx hb hts (mc_ inX2) hown hK g rfl 5 (by decide) rfl (hts _ (List.mem_cons_of_mem _ t_421)) (fun _ h9 => h9) 3 rfl dX2_openBody_14 ?_
  refine lv_aload_n hx hb dX2_openBody_17 rfl (lv_at hl 1 rfl) ?_
  refine g_getk (C := RX2) (T := TX2) (N := 16) hx hb hts (mc_ inX2) hown hK g rfl 3 (by decide) rfl (hts _ (List.mem_cons_of_mem _ t_419)) (fun _ h9 => h9) 2 rfl dX2_openBody_18 ?_
  refine g_geti (C := RX7) (T := TX7) (N := 19) hx hb hts (mc_ inX7) hown hK g mq1_ kq1_ (by decide) rfl 6 (by decide) rfl (hts _ (List.mem_cons_of_mem _ t_647)) (fun _ h9 => h9) rfl dX2_openBody_21 (fun x_3 bx_3 g => ?_)
  refine g_put (C := RX6) (T := TX6) (N := 13) hx hb hts (mc_ inX6) tyX6 tyX6_ok nmX6 hown hK g mq2_ kq2_ (by decide) rfl 8 (by decide) (hts _ (List.mem_cons_of_mem _ t_583)) (fun _ h9 => h9) rfl rfl (okV_i (bd_sub bx_3 (by decide))) rfl rfl (by decide) (Or.inr (Or.inl (by decide))) (fx' := [(7, 6, q1_, .int x_3), (2, 11, a0_, .int 0), (2, 0, a0_, .ref q0_), (2, 3, a0_, .ref q1_), (2, 5, a0_, .ref q2_)]) rfl dX2_openBody_24 (fun f H locs hM_4 g => ?_)
  refine lv_aload_n hx hb dX2_openBody_27 rfl (lv_at hl 1 rfl) ?_
  refine lv_iconst (v := 0) hx hb dX2_openBody_28 (by decide) ?_
  refine lv_iconst (v := (-1)) hx hb dX2_openBody_29 (by decide) ?_
  refine lv_iconst (v := (-1)) hx hb dX2_openBody_30 (by decide) ?_
  refine g_callv (va_runV (As := [.int 0, .int (-1), .int (-1)]) (rest := []) ⟨hx, hb, hml, hown, hts⟩ (r_X2_openBlock l dC dI L kd tys f H.size g.2.2.2.1 a0_ ma0_ ka0_ 0 (-1) (-1) q0_ mq0_ kq0_ (g.fcts [3] rfl)) (cwV 3 hts (gV_ t_1338 t_1340 t_40 t_183 t_1341) rfl rfl rfl (by decide +kernel) ⟨(Nat.le_of_ble_eq_true rfl), (Nat.le_of_ble_eq_true rfl)⟩) (pre3V g hK ma0_ ka0_ (by decide) (q := (RX2, TX2, 16)) rfl) rfl rfl hl.1 rfl (lv_room (Nat.le_of_ble_eq_true rfl)) dX2_openBody_31 ⟨(Nat.le_of_ble_eq_true rfl), (Nat.le_of_ble_eq_true rfl)⟩) g hK (by decide) (by decide) (fx' := [(6, 8, q2_, .int x_3), (7, 6, q1_, .int x_3), (2, 0, a0_, .ref q0_), (2, 3, a0_, .ref q1_), (2, 5, a0_, .ref q2_)]) rfl (fun fr_5 H locs hp hMr_5 g => ?_)
  obtain ⟨x_6, h_7, hF_8⟩ := hp
  have g := g.more hF_8
  refine lv_aload_n hx hb dX2_openBody_34 rfl (lv_at hl 1 rfl) ?_
  refine g_getk (C := RX2) (T := TX2) (N := 16) hx hb hts (mc_ inX2) hown hK g rfl 5 (by decide) rfl (hts _ (List.mem_cons_of_mem _ t_421)) (fun _ h9 => h9) 5 rfl dX2_openBody_35 ?_
  refine g_geti (C := RX6) (T := TX6) (N := 13) hx hb hts (mc_ inX6) hown hK g mq2_ kq2_ (by decide) rfl 7 (by decide) rfl (hts _ (List.mem_cons_of_mem _ t_580)) (fun _ h9 => h9) rfl dX2_openBody_38 (fun x_9 bx_9 g => ?_)
  refine lv_istore_n (lv' := [(2, .int x_9), (1, .int r_1), (0, .ref a0_)]) hx hb dX2_openBody_41 rfl hl (by decide) rfl (fun ls hl => ?_)
  refine lv_iload_n hx hb dX2_openBody_42 rfl (lv_at hl 0 rfl) ?_
  refine lv_if_lt (tgt := 91) hx hb dX2_openBody_43 (by decide) (fun c_10 => ?_) (fun c_10 => ?_)
  · have fc_10 := lt_f c_10
    have b_11 : bd (-1) (-1) x_9 := ltL fc_10 bx_9 kb_0 (by decide)
    subst hQ
    exact W.vret hx hb hr (fun t ht hW => ⟨⟨_, rfl, ⟨x_6, h_7, x_3, bx_3, (g.fcts [1, 2] rfl)⟩, q3_of g hK ht hW⟩, g.2.2.1.F ht⟩) g.2.2.1.2.2 dX2_openBody_91
  · have fc_10 := nlt_f c_10
    have b_12 : bd 0 95 x_9 := leR fc_10 kb_0 bx_9 (by decide)
    refine lv_iload_n hx hb dX2_openBody_46 rfl (lv_at hl 0 rfl) ?_
    refine lv_aload_n hx hb dX2_openBody_47 rfl (lv_at hl 2 rfl) ?_
    refine g_getk (C := RX2) (T := TX2) (N := 16) hx hb hts (mc_ inX2) hown hK g rfl 3 (by decide) rfl (hts _ (List.mem_cons_of_mem _ t_419)) (fun _ h9 => h9) 5 rfl dX2_openBody_48 ?_
    refine g_geti (C := RX7) (T := TX7) (N := 19) hx hb hts (mc_ inX7) hown hK g mq1_ kq1_ (by decide) rfl 3 (by decide) rfl (hts _ (List.mem_cons_of_mem _ t_638)) (fun _ h9 => h9) rfl dX2_openBody_51 (fun x_13 bx_13 g => ?_)
    refine lv_icmp_ge (tgt := 91) hx hb dX2_openBody_54 (by decide) (fun c_14 => ?_) (fun c_14 => ?_)
    · have fc_14 := le_f c_14
      have b_15 : bd 0 95 x_13 := leL fc_14 bx_13 b_12 (by decide)
      subst hQ
      exact W.vret hx hb hr (fun t ht hW => ⟨⟨_, rfl, ⟨x_6, h_7, x_3, bx_3, (g.fcts [2, 3] rfl)⟩, q3_of g hK ht hW⟩, g.2.2.1.F ht⟩) g.2.2.1.2.2 dX2_openBody_91
    · have fc_14 := nle_f c_14
      have b_16 : bd 1 96 x_13 := ltR fc_14 b_12 bx_13 (by decide)
      refine lv_aload_n hx hb dX2_openBody_57 rfl (lv_at hl 2 rfl) ?_
      refine g_getk (C := RX2) (T := TX2) (N := 16) hx hb hts (mc_ inX2) hown hK g rfl 3 (by decide) rfl (hts _ (List.mem_cons_of_mem _ t_419)) (fun _ h9 => h9) 6 rfl dX2_openBody_58 ?_
      refine g_getr (K := 137) (C := RX7) (T := TX7) (N := 19) hx hb hts (mc_ inX7) hown hK g mq1_ kq1_ (by decide) rfl 2 (by decide) rfl (hts _ (List.mem_cons_of_mem _ t_630)) (fun _ h9 => h9) rfl dX2_openBody_61 (fun a_17 ma_17 ka_17 g => ?_)
      refine lv_iload_n hx hb dX2_openBody_64 rfl (lv_at hl 0 rfl) ?_
      refine g_aald hx hb hK g ma_17 ka_17 (by decide) rfl (by decide) (in_bd b_12 (by decide)) dX2_openBody_65 (fun a_18 ma_18 ua_18 wa_18 => ?_)
      have ka_18 : kd a_18 = 6 := by omega
      refine g_geti (C := RX6) (T := TX6) (N := 13) hx hb hts (mc_ inX6) hown hK g ma_18 ka_18 (by decide) rfl 6 (by decide) rfl (hts _ (List.mem_cons_of_mem _ t_578)) (fun _ h9 => h9) rfl dX2_openBody_66 (fun x_19 bx_19 g => ?_)
      refine lv_if_eq (tgt := 91) hx hb dX2_openBody_69 (by decide) (fun c_20 => ?_) (fun c_20 => ?_)
      · have fc_20 := eq_f c_20
        have b_21 : bd 0 0 x_19 := eqX fc_20 bx_19 kb_0 (by decide)
        subst hQ
        exact W.vret hx hb hr (fun t ht hW => ⟨⟨_, rfl, ⟨x_6, h_7, x_3, bx_3, (g.fcts [4, 5] rfl)⟩, q3_of g hK ht hW⟩, g.2.2.1.F ht⟩) g.2.2.1.2.2 dX2_openBody_91
      · have fc_20 := neq_f c_20
        have b_22 : bd 1 1 x_19 := neX fc_20 bx_19 kb_0 (by decide)
        refine lv_aload_n hx hb dX2_openBody_72 rfl (lv_at hl 2 rfl) ?_
        refine g_getk (C := RX2) (T := TX2) (N := 16) hx hb hts (mc_ inX2) hown hK g rfl 5 (by decide) rfl (hts _ (List.mem_cons_of_mem _ t_421)) (fun _ h9 => h9) 9 rfl dX2_openBody_73 ?_
        refine g_geti (C := RX6) (T := TX6) (N := 13) hx hb hts (mc_ inX6) hown hK g mq2_ kq2_ (by decide) rfl 6 (by decide) rfl (hts _ (List.mem_cons_of_mem _ t_578)) (fun _ h9 => h9) rfl dX2_openBody_76 (fun x_23 bx_23 g => ?_)
        refine lv_if_ne (tgt := 91) hx hb dX2_openBody_79 (by decide) (fun c_24 => ?_) (fun c_24 => ?_)
        · have fc_24 := neq_f c_24
          have b_25 : bd 1 1 x_23 := neX fc_24 bx_23 kb_0 (by decide)
          subst hQ
          exact W.vret hx hb hr (fun t ht hW => ⟨⟨_, rfl, ⟨x_6, h_7, x_3, bx_3, (g.fcts [5, 6] rfl)⟩, q3_of g hK ht hW⟩, g.2.2.1.F ht⟩) g.2.2.1.2.2 dX2_openBody_91
        · have fc_24 := eq_f c_24
          have b_26 : bd 0 0 x_23 := eqX fc_24 bx_23 kb_0 (by decide)
          refine lv_aload_n hx hb dX2_openBody_82 rfl (lv_at hl 2 rfl) ?_
          refine g_getk (C := RX2) (T := TX2) (N := 16) hx hb hts (mc_ inX2) hown hK g rfl 0 (by decide) rfl (hts _ (List.mem_cons_of_mem _ t_416)) (fun _ h9 => h9) 8 rfl dX2_openBody_83 ?_
          refine lv_iconst (v := 5) hx hb dX2_openBody_86 (by decide) ?_
          refine lv_iload_n hx hb dX2_openBody_87 rfl (lv_at hl 1 rfl) ?_
          have kb_5 : bd 5 5 (5 : Int32) := ⟨by decide, by decide⟩
          refine g_callv (va_runV (As := [.int 5, .int r_1]) (rest := []) ⟨hx, hb, hml, hown, hts⟩ (r_X8_fail_2 l dC dI L kd tys fr_5 H.size g.2.2.2.1 q0_ mq0_ kq0_ 5 kb_5 r_1 x_6 h_7 (g.fcts [5] rfl)) (cwV 2 hts (gV_ t_1122 t_1107 t_1108 t_184 t_1109) rfl rfl rfl (by decide +kernel) ⟨(Nat.le_of_ble_eq_true rfl), (Nat.le_of_ble_eq_true rfl)⟩) (pre3V g hK mq0_ kq0_ (by decide) (q := (RX8, TX8, 10)) rfl) rfl rfl hl.1 rfl (lv_room (Nat.le_of_ble_eq_true rfl)) dX2_openBody_88 ⟨(Nat.le_of_ble_eq_true rfl), (Nat.le_of_ble_eq_true rfl)⟩) g hK (by decide) (by decide) (fx' := [(6, 6, q2_, .int x_23), (6, 6, a_18, .int x_19), (7, 2, q1_, .ref a_17), (7, 3, q1_, .int x_13), (6, 7, q2_, .int x_9), (6, 8, q2_, .int x_3), (7, 6, q1_, .int x_3), (2, 0, a0_, .ref q0_), (2, 3, a0_, .ref q1_), (2, 5, a0_, .ref q2_)]) rfl (fun fr_27 H locs hp hMr_27 g => ?_)
          obtain ⟨x_28, h_29, hF_30⟩ := hp
          have g := g.more hF_30
          have kb_1201 : bd 1201 1201 (1201 : Int32) := ⟨by decide, by decide⟩
          subst hQ
          exact W.vret hx hb hr (fun t ht hW => ⟨⟨_, rfl, ⟨1201, (bd_sub kb_1201 (by decide)), x_3, bx_3, (g.fcts [0, 7] rfl)⟩, q3_of g hK ht hW⟩, g.2.2.1.F ht⟩) g.2.2.1.2.2 dX2_openBody_91
