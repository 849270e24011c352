set_option maxHeartbeats 4000000 in
set_option maxRecDepth 100000 in
theorem r_X3_addMake (l : Launch) (dC : Nat → ClassId) (dI : Nat → Nat → Nat) (L : List Nat) (kd : Nat → Nat) (tys : List (ClassId × FieldType)) (f0 : Nat → va_E) (sz : Nat) (hWT : WT L kd tys f0) (a0_ : Nat) (ma0_ : a0_ ∈ L) (ka0_ : kd a0_ = 3) (x1_ : Int32) (bx1_ : bd 0 7 x1_) : Met l yX3_addMake (.code yX3_addMake cX3_addMake 2 none :: lw_g) ({ frames := 1, cells := 0, slots := 0, locals := 26 }) (va_Pc [.ref a0_, .int x1_] (P3 (dC, dI) L tys f0 sz)) (va_Qv (fun (f : Nat → va_E) => (True)) (Q3 (dC, dI) L kd tys [(3, 0), (3, 4)] [103, 122, 123, 125] f0 sz) (pA L sz)) 0 0 (pA L sz) := by
  refine Met.ofW (cc := cX3_addMake) (maxL := 2) (ret := none) (by decide) rfl ?_
  intro p e s m args below meth c s₁ B hml hv
  obtain ⟨rfl, hsz, hP, hK, hD0⟩ := hv
  have hx := B.exec
  have hb := B.bytes
  have hr := B.returns
  have hts := atoms_spec (ws := (.code yX3_addMake cX3_addMake 2 none :: lw_g)) B.pre
  have hown : s.vm.findClass RX3 = some m.cls := findClass_of_methodNamed B.named
  have hlocks := B.notSynchronized
  subst hsz
  have g : G3 (dC, dI) L kd tys s f0 [(3, 0), (3, 4)] [103, 122, 123, 125] f0 s.heap [] [] := G3.start hP hD0 hWT Fs.nil
  have hl := lv_entry ([.ref a0_, .int x1_]) (n := 2) (Nat.le_of_ble_eq_true rfl)
  rw [lg_entry_eq]
  generalize (lg_sl ([.ref a0_, .int x1_]) ++ List.replicate (2 - (lg_sl ([.ref a0_, .int x1_])).length) Slot.unset).toArray = ls at hl ⊢
  have hl : lv_has ls 2 [(0, .ref a0_), (1, .int x1_)] := hl
  refine W_q (fun Q hQ => ?_)
  refine lv_aload_n hx hb dX3_addMake_0 rfl (lv_at hl 0 rfl) ?_
  refine g_geti (C := RX3) (T := TX3) (N := 6) hx hb hts (mc_ inX3) hown hK g ma0_ ka0_ (by decide) rfl 0 (by decide) rfl (hts _ (List.mem_cons_of_mem _ t_801)) (fun _ h9 => h9) rfl dX3_addMake_1 (fun x_1 bx_1 g => ?_)
  refine lv_bipush (v := 10) hx hb dX3_addMake_4 (by decide) ?_
  have kb_10 : bd 10 10 (10 : Int32) := ⟨by decide, by decide⟩
  refine lv_icmp_ge (tgt := 63) hx hb dX3_addMake_6 (by decide) (fun c_2 => ?_) (fun c_2 => ?_)
  · have fc_2 := le_f c_2
    have b_3 : bd 10 10 x_1 := leR fc_2 kb_10 bx_1 (by decide)
    subst hQ
    exact W.vret hx hb hr (fun t ht hW => ⟨⟨_, rfl, trivial, q3_of g hK ht hW⟩, g.2.2.1.F ht⟩) g.2.2.1.2.2 dX3_addMake_63
  · have fc_2 := nle_f c_2
    have b_4 : bd 0 9 x_1 := ltL fc_2 bx_1 kb_10 (by decide)
    refine lv_aload_n hx hb dX3_addMake_9 rfl (lv_at hl 0 rfl) ?_
    refine g_geti (C := RX3) (T := TX3) (N := 6) hx hb hts (mc_ inX3) hown hK g ma0_ ka0_ (by decide) rfl 4 (by decide) rfl (hts _ (List.mem_cons_of_mem _ t_813)) (fun _ h9 => h9) rfl dX3_addMake_10 (fun x_5 bx_5 g => ?_)
    refine lv_iconst (v := 3) hx hb dX3_addMake_13 (by decide) ?_
    have kb_3 : bd 3 3 (3 : Int32) := ⟨by decide, by decide⟩
    refine lv_icmp_ge (tgt := 63) hx hb dX3_addMake_14 (by decide) (fun c_6 => ?_) (fun c_6 => ?_)
    · have fc_6 := le_f c_6
      have b_7 : bd 3 3 x_5 := leR fc_6 kb_3 bx_5 (by decide)
      subst hQ
      exact W.vret hx hb hr (fun t ht hW => ⟨⟨_, rfl, trivial, q3_of g hK ht hW⟩, g.2.2.1.F ht⟩) g.2.2.1.2.2 dX3_addMake_63
    · have fc_6 := nle_f c_6
      have b_8 : bd 0 2 x_5 := ltL fc_6 bx_5 kb_3 (by decide)
      refine lv_aload_n hx hb dX3_addMake_17 rfl (lv_at hl 0 rfl) ?_
      refine g_getr (K := 125) (C := RX3) (T := TX3) (N := 6) hx hb hts (mc_ inX3) hown hK g ma0_ ka0_ (by decide) rfl 5 (by decide) rfl (hts _ (List.mem_cons_of_mem _ t_815)) (fun _ h9 => h9) rfl dX3_addMake_18 (fun a_9 ma_9 ka_9 g => ?_)
      refine lv_aload_n hx hb dX3_addMake_21 rfl (lv_at hl 0 rfl) ?_
      refine g_getk (C := RX3) (T := TX3) (N := 6) hx hb hts (mc_ inX3) hown hK g rfl 4 (by decide) rfl (hts _ (List.mem_cons_of_mem _ t_813)) (fun _ h9 => h9) 1 rfl dX3_addMake_22 ?_
      refine lv_iload_n hx hb dX3_addMake_25 rfl (lv_at hl 1 rfl) ?_
      refine g_iast hx hb hK g ma_9 ka_9 (by decide) rfl (in_bd b_8 (by decide)) bx1_ (by decide) dX3_addMake_26 (fun f H locs hM_10 g => ?_)
      refine lv_aload_n hx hb dX3_addMake_27 rfl (lv_at hl 0 rfl) ?_
      refine lv_aload_n hx hb dX3_addMake_28 rfl (lv_at hl 0 rfl) ?_
      refine g_getk (C := RX3) (T := TX3) (N := 6) hx hb hts (mc_ inX3) hown hK g rfl 0 (by decide) rfl (hts _ (List.mem_cons_of_mem _ t_801)) (fun _ h9 => h9) 2 rfl dX3_addMake_29 ?_
      refine lv_aload_n hx hb dX3_addMake_32 rfl (lv_at hl 0 rfl) ?_
      refine g_getk (C := RX3) (T := TX3) (N := 6) hx hb hts (mc_ inX3) hown hK g rfl 4 (by decide) rfl (hts _ (List.mem_cons_of_mem _ t_813)) (fun _ h9 => h9) 1 rfl dX3_addMake_33 ?_
      refine lv_iconst (v := (-1)) hx hb dX3_addMake_36 (by decide) ?_
      refine lv_iload_n hx hb dX3_addMake_37 rfl (lv_at hl 1 rfl) ?_
      refine lv_iconst (v := 0) hx hb dX3_addMake_38 (by decide) ?_
      refine lv_iconst (v := 0) hx hb dX3_addMake_39 (by decide) ?_
      have kb_m1 : bd (-1) (-1) ((-1) : Int32) := ⟨by decide, by decide⟩
      have kb_0 : bd 0 0 (0 : Int32) := ⟨by decide, by decide⟩
      refine g_callv (va_runV (As := [.int x_1, .int x_5, .int (-1), .int x1_, .int 0, .int 0]) (rest := []) ⟨hx, hb, hml, hown, hts⟩ (r_X3_setTo_2 l dC dI L kd tys f H.size g.2.2.2.1 a0_ ma0_ ka0_ x_1 b_4 x_5 b_8 (-1) kb_m1 x1_ bx1_ 0 kb_0 0 kb_0 x_5 b_8 x_1 b_4 (g.fcts [1, 2] rfl)) (cwV 6 hts (gV_ t_1485 t_1487 t_52 t_196 t_1488) rfl rfl rfl (by decide +kernel) ⟨(Nat.le_of_ble_eq_true rfl), (Nat.le_of_ble_eq_true rfl)⟩) (pre3V g hK ma0_ ka0_ (by decide) (q := (RX3, TX3, 6)) rfl) rfl rfl hl.1 rfl (lv_room (Nat.le_of_ble_eq_true rfl)) dX3_addMake_40 ⟨(Nat.le_of_ble_eq_true rfl), (Nat.le_of_ble_eq_true rfl)⟩) g hK (by decide) (by decide) (fx' := [(3, 5, a0_, .ref a_9), (3, 4, a0_, .int x_5), (3, 0, a0_, .int x_1)]) rfl (fun fr_11 H locs hp hMr_11 g => ?_)
      refine lv_aload_n hx hb dX3_addMake_43 rfl (lv_at hl 0 rfl) ?_
      refine lv_dup hx hb dX3_addMake_44 rfl ?_
      refine g_getk (C := RX3) (T := TX3) (N := 6) hx hb hts (mc_ inX3) hown hK g rfl 4 (by decide) rfl (hts _ (List.mem_cons_of_mem _ t_813)) (fun _ h9 => h9) 1 rfl dX3_addMake_45 ?_
      refine lv_iconst (v := 1) hx hb dX3_addMake_48 (by decide) ?_
      have kb_1 : bd 1 1 (1 : Int32) := ⟨by decide, by decide⟩
      refine lv_iadd hx hb dX3_addMake_49 ?_
      refine lv_topi (fun y_12 ey_12 => ?_)
      have ty_12 := add_bd ey_12 b_8 kb_1 (by decide)
      have b_13 : bd 1 3 y_12 := add_rg ty_12 b_8 kb_1 (by decide)
      refine g_put (C := RX3) (T := TX3) (N := 6) hx hb hts (mc_ inX3) tyX3 tyX3_ok nmX3 hown hK g ma0_ ka0_ (by decide) rfl 4 (by decide) (hts _ (List.mem_cons_of_mem _ t_813)) (fun _ h9 => h9) rfl rfl (okV_i (bd_sub b_13 (by decide))) rfl rfl (by decide) (Or.inr (Or.inl (by decide))) (fx' := [(3, 5, a0_, .ref a_9), (3, 0, a0_, .int x_1)]) rfl dX3_addMake_50 (fun f H locs hM_14 g => ?_)
      refine lv_aload_n hx hb dX3_addMake_53 rfl (lv_at hl 0 rfl) ?_
      refine lv_dup hx hb dX3_addMake_54 rfl ?_
      refine g_getk (C := RX3) (T := TX3) (N := 6) hx hb hts (mc_ inX3) hown hK g rfl 0 (by decide) rfl (hts _ (List.mem_cons_of_mem _ t_801)) (fun _ h9 => h9) 2 rfl dX3_addMake_55 ?_
      refine lv_iconst (v := 1) hx hb dX3_addMake_58 (by decide) ?_
      refine lv_iadd hx hb dX3_addMake_59 ?_
      refine lv_topi (fun y_15 ey_15 => ?_)
      have ty_15 := add_bd ey_15 b_4 kb_1 (by decide)
      have b_16 : bd 1 10 y_15 := add_rg ty_15 b_4 kb_1 (by decide)
      refine g_put (C := RX3) (T := TX3) (N := 6) hx hb hts (mc_ inX3) tyX3 tyX3_ok nmX3 hown hK g ma0_ ka0_ (by decide) rfl 0 (by decide) (hts _ (List.mem_cons_of_mem _ t_801)) (fun _ h9 => h9) rfl rfl (okV_i (bd_sub b_16 (by decide))) rfl rfl (by decide) (Or.inr (Or.inl (by decide))) (fx' := [(3, 4, a0_, .int y_12), (3, 5, a0_, .ref a_9)]) rfl dX3_addMake_60 (fun f H locs hM_17 g => ?_)
      subst hQ
      exact W.vret hx hb hr (fun t ht hW => ⟨⟨_, rfl, trivial, q3_of g hK ht hW⟩, g.2.2.1.F ht⟩) g.2.2.1.2.2 dX3_addMake_63
set_option maxHeartbeats 4000000 in
set_option maxRecDepth 100000 in
theorem r_X10_appendMake (l : Launch) (dC : Nat → ClassId) (dI : Nat → Nat → Nat) (L : List Nat) (kd : Nat → Nat) (tys : List (ClassId × FieldType)) (f0 : Nat → va_E) (sz : Nat) (hWT : WT L kd tys f0) (a0_ : Nat) (ma0_ : a0_ ∈ L) (ka0_ : kd a0_ = 10) (x1_ : Int32) (bx1_ : bd 0 7 x1_) : Met l yX10_appendMake (.code yX10_appendMake cX10_appendMake 2 (some .int) :: lw_g) ({ frames := 2, cells := 0, slots := 0, locals := 47 }) (va_Pc [.ref a0_, .int x1_] (P3 (dC, dI) L tys f0 sz)) (va_Qi (fun (r : Int32) (f : Nat → va_E) => (bd (-1) 2 r ∧ Fs L kd f [(10, 8, a0_, .int 0)])) (Q3 (dC, dI) L kd tys [(3, 0), (3, 4), (10, 8)] [103, 122, 123, 125, 130, 131] f0 sz) (pA L sz)) 0 0 (pA L sz) := by
  refine Met.ofW (cc := cX10_appendMake) (maxL := 2) (ret := (some .int)) (by decide) rfl ?_
  intro p e s m args below meth c s₁ B hml hv
  obtain ⟨rfl, hsz, hP, hK, hD0⟩ := hv
  have hx := B.exec
  have hb := B.bytes
  have hr := B.returns
  have hts := atoms_spec (ws := (.code yX10_appendMake cX10_appendMake 2 (some .int) :: lw_g)) B.pre
  have hown : s.vm.findClass RX10 = some m.cls := findClass_of_methodNamed B.named
  have hlocks := B.notSynchronized
  subst hsz
  have g : G3 (dC, dI) L kd tys s f0 [(3, 0), (3, 4), (10, 8)] [103, 122, 123, 125, 130, 131] f0 s.heap [] [] := G3.start hP hD0 hWT Fs.nil
  have hl := lv_entry ([.ref a0_, .int x1_]) (n := 2) (Nat.le_of_ble_eq_true rfl)
  rw [lg_entry_eq]
  generalize (lg_sl ([.ref a0_, .int x1_]) ++ List.replicate (2 - (lg_sl ([.ref a0_, .int x1_])).length) Slot.unset).toArray = ls at hl ⊢
  have hl : lv_has ls 2 [(0, .ref a0_), (1, .int x1_)] := hl
  refine W_q (fun Q hQ => ?_)
  refine lv_aload_n hx hb dX10_appendMake_0 rfl (lv_at hl 0 rfl) ?_
  refine g_getr (K := 4) (C := RX10) (T := TX10) (N := 10) hx hb hts (mc_ inX10) hown hK g ma0_ ka0_ (by decide) rfl 4 (by decide) rfl (hts _ (List.mem_cons_of_mem _ t_917)) (fun _ h9 => h9) rfl dX10_appendMake_1 (fun a_1 ma_1 ka_1 g => ?_)
  refine lv_aload_n hx hb dX10_appendMake_4 rfl (lv_at hl 0 rfl) ?_
  refine g_getr (K := 3) (C := RX10) (T := TX10) (N := 10) hx hb hts (mc_ inX10) hown hK g ma0_ ka0_ (by decide) rfl 2 (by decide) rfl (hts _ (List.mem_cons_of_mem _ t_914)) (fun _ h9 => h9) rfl dX10_appendMake_5 (fun a_2 ma_2 ka_2 g => ?_)
  refine g_geti (C := RX3) (T := TX3) (N := 6) hx hb hts (mc_ inX3) hown hK g ma_2 ka_2 (by decide) rfl 0 (by decide) rfl (hts _ (List.mem_cons_of_mem _ t_802)) (fun _ h9 => h9) rfl dX10_appendMake_8 (fun x_3 bx_3 g => ?_)
  refine g_callv (va_runV (As := [.int x_3]) (rest := []) ⟨hx, hb, hml, hown, hts⟩ (r_X4_forgetCall l dC dI L kd tys f0 s.heap.size g.2.2.2.1 a_1 ma_1 ka_1 x_3) (cwV 1 hts (gV_ t_1480 t_1431 t_1432 t_197 t_1433) rfl rfl rfl (by decide +kernel) ⟨(Nat.le_of_ble_eq_true rfl), (Nat.le_of_ble_eq_true rfl)⟩) (pre3V g hK ma_1 ka_1 (by decide) (q := (RX4, TX4, 17)) rfl) rfl rfl hl.1 rfl (lv_room (Nat.le_of_ble_eq_true rfl)) dX10_appendMake_11 ⟨(Nat.le_of_ble_eq_true rfl), (Nat.le_of_ble_eq_true rfl)⟩) g hK (by decide) (by decide) (fx' := [(3, 0, a_2, .int x_3), (10, 2, a0_, .ref a_2), (10, 4, a0_, .ref a_1)]) rfl (fun fr_4 H locs hp hMr_4 g => ?_)
  refine lv_aload_n hx hb dX10_appendMake_14 rfl (lv_at hl 0 rfl) ?_
  refine g_getk (C := RX10) (T := TX10) (N := 10) hx hb hts (mc_ inX10) hown hK g rfl 2 (by decide) rfl (hts _ (List.mem_cons_of_mem _ t_914)) (fun _ h9 => h9) 1 rfl dX10_appendMake_15 ?_
  refine lv_iload_n hx hb dX10_appendMake_18 rfl (lv_at hl 1 rfl) ?_
  refine g_callv (va_runV (As := [.int x1_]) (rest := []) ⟨hx, hb, hml, hown, hts⟩ (r_X3_addMake l dC dI L kd tys fr_4 H.size g.2.2.2.1 a_2 ma_2 ka_2 x1_ bx1_) (cwV 1 hts (gV_ t_1481 t_1482 t_1483 t_196 t_1484) rfl rfl rfl (by decide +kernel) ⟨(Nat.le_of_ble_eq_true rfl), (Nat.le_of_ble_eq_true rfl)⟩) (pre3V g hK ma_2 ka_2 (by decide) (q := (RX3, TX3, 6)) rfl) rfl rfl hl.1 rfl (lv_room (Nat.le_of_ble_eq_true rfl)) dX10_appendMake_19 ⟨(Nat.le_of_ble_eq_true rfl), (Nat.le_of_ble_eq_true rfl)⟩) g hK (by decide) (by decide) (fx' := [(10, 2, a0_, .ref a_2), (10, 4, a0_, .ref a_1)]) rfl (fun fr_5 H locs hp hMr_5 g => ?_)
  refine lv_aload_n hx hb dX10_appendMake_22 rfl (lv_at hl 0 rfl) ?_
  refine lv_iconst (v := 0) hx hb dX10_appendMake_23 (by decide) ?_
  have kb_0 : bd 0 0 (0 : Int32) := ⟨by decide, by decide⟩
  refine g_put (C := RX10) (T := TX10) (N := 10) hx hb hts (mc_ inX10) tyX10 tyX10_ok nmX10 hown hK g ma0_ ka0_ (by decide) rfl 8 (by decide) (hts _ (List.mem_cons_of_mem _ t_924)) (fun _ h9 => h9) rfl rfl (okV_i (bd_sub kb_0 (by decide))) rfl rfl (by decide) (Or.inr (Or.inl (by decide))) (fx' := [(10, 2, a0_, .ref a_2), (10, 4, a0_, .ref a_1)]) rfl dX10_appendMake_24 (fun f H locs hM_6 g => ?_)
  refine lv_aload_n hx hb dX10_appendMake_27 rfl (lv_at hl 0 rfl) ?_
  refine g_getk (C := RX10) (T := TX10) (N := 10) hx hb hts (mc_ inX10) hown hK g rfl 2 (by decide) rfl (hts _ (List.mem_cons_of_mem _ t_914)) (fun _ h9 => h9) 1 rfl dX10_appendMake_28 ?_
  refine g_geti (C := RX3) (T := TX3) (N := 6) hx hb hts (mc_ inX3) hown hK g ma_2 ka_2 (by decide) rfl 4 (by decide) rfl (hts _ (List.mem_cons_of_mem _ t_814)) (fun _ h9 => h9) rfl dX10_appendMake_31 (fun x_7 bx_7 g => ?_)
  refine lv_iconst (v := 1) hx hb dX10_appendMake_34 (by decide) ?_
  have kb_1 : bd 1 1 (1 : Int32) := ⟨by decide, by decide⟩
  refine lv_isub hx hb dX10_appendMake_35 ?_
  refine lv_topi (fun y_8 ey_8 => ?_)
  have ty_8 := sub_bd ey_8 bx_7 kb_1 (by decide)
  have b_9 : bd (-1) 2 y_8 := sub_rg ty_8 bx_7 kb_1 (by decide)
  subst hQ
  exact W.iret (v := y_8) hx hb hr (fun t ht hW => ⟨⟨_, _, rfl, ⟨b_9, (g.fcts [1] rfl)⟩, q3_of g hK ht hW⟩, g.2.2.1.F ht⟩) g.2.2.1.2.2 dX10_appendMake_36
set_option maxHeartbeats 4000000 in
set_option maxRecDepth 100000 in
theorem r_X11_make (l : Launch) (dC : Nat → ClassId) (dI : Nat → Nat → Nat) (L : List Nat) (kd : Nat → Nat) (tys : List (ClassId × FieldType)) (f0 : Nat → va_E) (sz : Nat) (hWT : WT L kd tys f0) (a0_ : Nat) (ma0_ : a0_ ∈ L) (ka0_ : kd a0_ = 11) (x1_ : Int32) : Met l yX11_make (.code yX11_make cX11_make 2 (some .int) :: lw_g) ({ frames := 3, cells := 0, slots := 0, locals := 68 }) (va_Pc [.ref a0_, .int x1_] (P3 (dC, dI) L tys f0 sz)) (va_Qi (fun (r : Int32) (f : Nat → va_E) => (bd (-3) 2 r ∧ True)) (Q3 (dC, dI) L kd tys [(3, 0), (3, 4), (10, 8)] [103, 122, 123, 125, 130, 131] f0 sz) (pA L sz)) 0 0 (pA L sz) := by
  refine Met.ofW (cc := cX11_make) (maxL := 2) (ret := (some .int)) (by decide) rfl ?_
  intro p e s m args below meth c s₁ B hml hv
  obtain ⟨rfl, hsz, hP, hK, hD0⟩ := hv
  have hx := B.exec
  have hb := B.bytes
  have hr := B.returns
  have hts := atoms_spec (ws := (.code yX11_make cX11_make 2 (some .int) :: lw_g)) B.pre
  have hown : s.vm.findClass RX11 = some m.cls := findClass_of_methodNamed B.named
  have hlocks := B.notSynchronized
  subst hsz
  have g : G3 (dC, dI) L kd tys s f0 [(3, 0), (3, 4), (10, 8)] [103, 122, 123, 125, 130, 131] f0 s.heap [] [] := G3.start hP hD0 hWT Fs.nil
  have hl := lv_entry ([.ref a0_, .int x1_]) (n := 2) (Nat.le_of_ble_eq_true rfl)
  rw [lg_entry_eq]
  generalize (lg_sl ([.ref a0_, .int x1_]) ++ List.replicate (2 - (lg_sl ([.ref a0_, .int x1_])).length) Slot.unset).toArray = ls at hl ⊢
  have hl : lv_has ls 2 [(0, .ref a0_), (1, .int x1_)] := hl
  refine W_q (fun Q hQ => ?_)
  refine lv_aload_n hx hb dX11_make_0 rfl (lv_at hl 0 rfl) ?_
  refine g_getr (K := 7) (C := RX11) (T := TX11) (N := 8) hx hb hts (mc_ inX11) hown hK g ma0_ ka0_ (by decide) rfl 4 (by decide) rfl (hts _ (List.mem_cons_of_mem _ t_952)) (fun _ h9 => h9) rfl dX11_make_1 (fun a_1 ma_1 ka_1 g => ?_)
  refine lv_iload_n hx hb dX11_make_4 rfl (lv_at hl 1 rfl) ?_
  refine g_calli (va_runV (As := [.int x1_]) (rest := []) ⟨hx, hb, hml, hown, hts⟩ (r_X7_hasClass l dC dI L kd tys f0 s.heap.size g.2.2.2.1 a_1 ma_1 ka_1 x1_) (cwV 1 hts (gV_ t_1442 t_1281 t_1282 t_191 t_1283) rfl rfl rfl (by decide +kernel) ⟨(Nat.le_of_ble_eq_true rfl), (Nat.le_of_ble_eq_true rfl)⟩) (pre3V g hK ma_1 ka_1 (by decide) (q := (RX7, TX7, 19)) rfl) rfl rfl hl.1 rfl (lv_room (Nat.le_of_ble_eq_true rfl)) dX11_make_5 ⟨(Nat.le_of_ble_eq_true rfl), (Nat.le_of_ble_eq_true rfl)⟩) g hK (by decide) (by decide) (fx' := [(11, 4, a0_, .ref a_1)]) rfl (fun r_2 fr_2 H locs hp hMr_2 g => ?_)
  rcases hp with ⟨h_3, -⟩ | ⟨h_4, h_5, x_6, h_7, hF_8⟩
  · obtain rfl : r_2 = 0 := h_3
    refine lv_if_ne (tgt := 14) hx hb dX11_make_8 (by decide) (fun c_ => absurd c_ (by decide)) (fun c_ => ?_)
    refine lv_bipush (v := (-2)) hx hb dX11_make_11 (by decide) ?_
    have kb_m2 : bd (-2) (-2) ((-2) : Int32) := ⟨by decide, by decide⟩
    subst hQ
    exact W.iret (v := (-2)) hx hb hr (fun t ht hW => ⟨⟨_, _, rfl, ⟨(bd_sub kb_m2 (by decide)), trivial⟩, q3_of g hK ht hW⟩, g.2.2.1.F ht⟩) g.2.2.1.2.2 dX11_make_13
  · obtain rfl : r_2 = 1 := h_4
    have b_9 : bd 0 7 x1_ := eqX rfl (bdT x1_) h_5 (by decide)
    have g := g.more hF_8
    refine lv_if_ne (tgt := 14) hx hb dX11_make_8 (by decide) (fun c_ => ?_) (fun c_ => absurd c_ (by decide))
    refine lv_aload_n hx hb dX11_make_14 rfl (lv_at hl 0 rfl) ?_
    refine g_getr (K := 10) (C := RX11) (T := TX11) (N := 8) hx hb hts (mc_ inX11) hown hK g ma0_ ka0_ (by decide) rfl 3 (by decide) rfl (hts _ (List.mem_cons_of_mem _ t_951)) (fun _ h9 => h9) rfl dX11_make_15 (fun a_10 ma_10 ka_10 g => ?_)
    refine g_getr (K := 3) (C := RX10) (T := TX10) (N := 10) hx hb hts (mc_ inX10) hown hK g ma_10 ka_10 (by decide) rfl 2 (by decide) rfl (hts _ (List.mem_cons_of_mem _ t_915)) (fun _ h9 => h9) rfl dX11_make_18 (fun a_11 ma_11 ka_11 g => ?_)
    refine g_calli (va_runV (As := []) (rest := []) ⟨hx, hb, hml, hown, hts⟩ (r_X3_roomForMake l dC dI L kd tys fr_2 H.size g.2.2.2.1 a_11 ma_11 ka_11) (cwV 0 hts (gV_ t_1472 t_1473 t_1474 t_196 t_1475) rfl rfl rfl (by decide +kernel) ⟨(Nat.le_of_ble_eq_true rfl), (Nat.le_of_ble_eq_true rfl)⟩) (pre3V g hK ma_11 ka_11 (by decide) (q := (RX3, TX3, 6)) rfl) rfl rfl hl.1 rfl (lv_room (Nat.le_of_ble_eq_true rfl)) dX11_make_21 ⟨(Nat.le_of_ble_eq_true rfl), (Nat.le_of_ble_eq_true rfl)⟩) g hK (by decide) (by decide) (fx' := [(10, 2, a_10, .ref a_11), (11, 3, a0_, .ref a_10), (7, 1, a_1, .int x_6), (11, 4, a0_, .ref a_1)]) rfl (fun r_12 fr_12 H locs hp hMr_12 g => ?_)
    rcases hp with ⟨h_13, -⟩ | ⟨h_14, x_15, h_16, x_17, h_18, hF_19⟩
    · obtain rfl : r_12 = 0 := h_13
      refine lv_if_ne (tgt := 30) hx hb dX11_make_24 (by decide) (fun c_ => absurd c_ (by decide)) (fun c_ => ?_)
      refine lv_bipush (v := (-3)) hx hb dX11_make_27 (by decide) ?_
      have kb_m3 : bd (-3) (-3) ((-3) : Int32) := ⟨by decide, by decide⟩
      subst hQ
      exact W.iret (v := (-3)) hx hb hr (fun t ht hW => ⟨⟨_, _, rfl, ⟨(bd_sub kb_m3 (by decide)), trivial⟩, q3_of g hK ht hW⟩, g.2.2.1.F ht⟩) g.2.2.1.2.2 dX11_make_29
    · obtain rfl : r_12 = 1 := h_14
      have g := g.more hF_19
      refine lv_if_ne (tgt := 30) hx hb dX11_make_24 (by decide) (fun c_ => ?_) (fun c_ => absurd c_ (by decide))
      refine lv_aload_n hx hb dX11_make_30 rfl (lv_at hl 0 rfl) ?_
      refine g_getk (C := RX11) (T := TX11) (N := 8) hx hb hts (mc_ inX11) hown hK g rfl 3 (by decide) rfl (hts _ (List.mem_cons_of_mem _ t_951)) (fun _ h9 => h9) 3 rfl dX11_make_31 ?_
      refine lv_iload_n hx hb dX11_make_34 rfl (lv_at hl 1 rfl) ?_
      refine g_calli (va_runV (As := [.int x1_]) (rest := []) ⟨hx, hb, hml, hown, hts⟩ (r_X10_appendMake l dC dI L kd tys fr_12 H.size g.2.2.2.1 a_10 ma_10 ka_10 x1_ b_9) (cwV 1 hts (gV_ t_1476 t_1477 t_1478 t_194 t_1479) rfl rfl rfl (by decide +kernel) ⟨(Nat.le_of_ble_eq_true rfl), (Nat.le_of_ble_eq_true rfl)⟩) (pre3V g hK ma_10 ka_10 (by decide) (q := (RX10, TX10, 10)) rfl) rfl rfl hl.1 rfl (lv_room (Nat.le_of_ble_eq_true rfl)) dX11_make_35 ⟨(Nat.le_of_ble_eq_true rfl), (Nat.le_of_ble_eq_true rfl)⟩) g hK (by decide) (by decide) (fx' := [(10, 2, a_10, .ref a_11), (11, 3, a0_, .ref a_10), (7, 1, a_1, .int x_6), (11, 4, a0_, .ref a_1)]) rfl (fun r_20 fr_20 H locs hp hMr_20 g => ?_)
      obtain ⟨h_21, hF_22⟩ := hp
      have g := g.more hF_22
      subst hQ
      exact W.iret (v := r_20) hx hb hr (fun t ht hW => ⟨⟨_, _, rfl, ⟨(bd_sub h_21 (by decide)), trivial⟩, q3_of g hK ht hW⟩, g.2.2.1.F ht⟩) g.2.2.1.2.2 dX11_make_38
set_option maxHeartbeats 4000000 in
set_option maxRecDepth 100000 in
theorem r_X3_setTo_3 (l : Launch) (dC : Nat → ClassId) (dI : Nat → Nat → Nat) (L : List Nat) (kd : Nat → Nat) (tys : List (ClassId × FieldType)) (f0 : Nat → va_E) (sz : Nat) (hWT : WT L kd tys f0) (a0_ : Nat) (ma0_ : a0_ ∈ L) (ka0_ : kd a0_ = 3) (x1_ : Int32) (bx1_ : bd 0 9 x1_) (x2_ : Int32) (bx2_ : bd 0 2 x2_) (x3_ : Int32) (bx3_ : bd 0 11 x3_) (x4_ : Int32) (x5_ : Int32) (x6_ : Int32) (y0_ : Int32) (by0_ : bd 0 9 y0_) (y1_ : Int32) (by1_ : bd 1 3 y1_) (hfx : Fs L kd f0 [(3, 0, a0_, .int y0_), (3, 4, a0_, .int y1_)]) : Met l yX3_setTo (.code yX3_setTo cX3_setTo 7 none :: lw_g) ({ frames := 0, cells := 0, slots := 0, locals := 0 }) (va_Pc [.ref a0_, .int x1_, .int x2_, .int x3_, .int x4_, .int x5_, .int x6_] (P3 (dC, dI) L tys f0 sz)) (va_Qv (fun (f : Nat → va_E) => (True)) (Q3 (dC, dI) L kd tys [] [103, 122, 123] f0 sz) (pA L sz)) 0 0 (pA L sz) := by
  refine Met.ofW (cc := cX3_setTo) (maxL := 7) (ret := none) (by decide) rfl ?_
  intro p e s m args below meth c s₁ B hml hv
  obtain ⟨rfl, hsz, hP, hK, hD0⟩ := hv
  have hx := B.exec
  have hb := B.bytes
  have hr := B.returns
  have hts := atoms_spec (ws := (.code yX3_setTo cX3_setTo 7 none :: lw_g)) B.pre
  have hown : s.vm.findClass RX3 = some m.cls := findClass_of_methodNamed B.named
  have hlocks := B.notSynchronized
  subst hsz
  have g : G3 (dC, dI) L kd tys s f0 [] [103, 122, 123] f0 s.heap [] [(3, 0, a0_, .int y0_), (3, 4, a0_, .int y1_)] := G3.start hP hD0 hWT hfx
  have hl := lv_entry ([.ref a0_, .int x1_, .int x2_, .int x3_, .int x4_, .int x5_, .int x6_]) (n := 7) (Nat.le_of_ble_eq_true rfl)
  rw [lg_entry_eq]
  generalize (lg_sl ([.ref a0_, .int x1_, .int x2_, .int x3_, .int x4_, .int x5_, .int x6_]) ++ List.replicate (7 - (lg_sl ([.ref a0_, .int x1_, .int x2_, .int x3_, .int x4_, .int x5_, .int x6_])).length) Slot.unset).toArray = ls at hl ⊢
  have hl : lv_has ls 7 [(0, .ref a0_), (1, .int x1_), (2, .int x2_), (3, .int x3_), (4, .int x4_), (5, .int x5_), (6, .int x6_)] := hl
  refine W_q (fun Q hQ => ?_)
  refine lv_aload_n hx hb dX3_setTo_0 rfl (lv_at hl 0 rfl) ?_
  refine g_getr (K := 122) (C := RX3) (T := TX3) (N := 6) hx hb hts (mc_ inX3) hown hK g ma0_ ka0_ (by decide) rfl 1 (by decide) rfl (hts _ (List.mem_cons_of_mem _ t_804)) (fun _ h9 => h9) rfl dX3_setTo_1 (fun a_1 ma_1 ka_1 g => ?_)
  refine lv_iload_n hx hb dX3_setTo_4 rfl (lv_at hl 1 rfl) ?_
  refine lv_iload_n hx hb dX3_setTo_5 rfl (lv_at hl 2 rfl) ?_
  refine g_iast hx hb hK g ma_1 ka_1 (by decide) rfl (in_bd bx1_ (by decide)) bx2_ (by decide) dX3_setTo_6 (fun f H locs hM_2 g => ?_)
  refine lv_aload_n hx hb dX3_setTo_7 rfl (lv_at hl 0 rfl) ?_
  refine g_getr (K := 123) (C := RX3) (T := TX3) (N := 6) hx hb hts (mc_ inX3) hown hK g ma0_ ka0_ (by decide) rfl 2 (by decide) rfl (hts _ (List.mem_cons_of_mem _ t_807)) (fun _ h9 => h9) rfl dX3_setTo_8 (fun a_3 ma_3 ka_3 g => ?_)
  refine lv_iload_n hx hb dX3_setTo_11 rfl (lv_at hl 1 rfl) ?_
  refine lv_iload_n hx hb dX3_setTo_12 rfl (lv_at hl 3 rfl) ?_
  refine g_iast hx hb hK g ma_3 ka_3 (by decide) rfl (in_bd bx1_ (by decide)) (bd_sub bx3_ (by decide)) (by decide) dX3_setTo_13 (fun f H locs hM_4 g => ?_)
  refine lv_aload_n hx hb dX3_setTo_14 rfl (lv_at hl 0 rfl) ?_
  refine g_getr (K := 124) (C := RX3) (T := TX3) (N := 6) hx hb hts (mc_ inX3) hown hK g ma0_ ka0_ (by decide) rfl 3 (by decide) rfl (hts _ (List.mem_cons_of_mem _ t_810)) (fun _ h9 => h9) rfl dX3_setTo_15 (fun a_5 ma_5 ka_5 g => ?_)
  refine lv_iload_n hx hb dX3_setTo_18 rfl (lv_at hl 1 rfl) ?_
  refine g_aald hx hb hK g ma_5 ka_5 (by decide) rfl (by decide) (in_bd bx1_ (by decide)) dX3_setTo_19 (fun a_6 ma_6 ua_6 wa_6 => ?_)
  have ka_6 : kd a_6 = 103 := by omega
  refine lv_iconst (v := 0) hx hb dX3_setTo_20 (by decide) ?_
  refine lv_iload hx hb dX3_setTo_21 (lv_at hl 4 rfl) ?_
  refine g_iast hx hb hK g ma_6 ka_6 (by decide) rfl (by unfold vp_in; decide) (bdT x4_) (by decide) dX3_setTo_23 (fun f H locs hM_7 g => ?_)
  refine lv_aload_n hx hb dX3_setTo_24 rfl (lv_at hl 0 rfl) ?_
  refine g_getk (C := RX3) (T := TX3) (N := 6) hx hb hts (mc_ inX3) hown hK g rfl 3 (by decide) rfl (hts _ (List.mem_cons_of_mem _ t_810)) (fun _ h9 => h9) 0 rfl dX3_setTo_25 ?_
  refine lv_iload_n hx hb dX3_setTo_28 rfl (lv_at hl 1 rfl) ?_
  refine g_aald hx hb hK g ma_5 ka_5 (by decide) rfl (by decide) (in_bd bx1_ (by decide)) dX3_setTo_29 (fun a_8 ma_8 ua_8 wa_8 => ?_)
  have ka_8 : kd a_8 = 103 := by omega
  refine lv_iconst (v := 1) hx hb dX3_setTo_30 (by decide) ?_
  refine lv_iload hx hb dX3_setTo_31 (lv_at hl 5 rfl) ?_
  refine g_iast hx hb hK g ma_8 ka_8 (by decide) rfl (by unfold vp_in; decide) (bdT x5_) (by decide) dX3_setTo_33 (fun f H locs hM_9 g => ?_)
  refine lv_aload_n hx hb dX3_setTo_34 rfl (lv_at hl 0 rfl) ?_
  refine g_getk (C := RX3) (T := TX3) (N := 6) hx hb hts (mc_ inX3) hown hK g rfl 3 (by decide) rfl (hts _ (List.mem_cons_of_mem _ t_810)) (fun _ h9 => h9) 0 rfl dX3_setTo_35 ?_
  refine lv_iload_n hx hb dX3_setTo_38 rfl (lv_at hl 1 rfl) ?_
  refine g_aald hx hb hK g ma_5 ka_5 (by decide) rfl (by decide) (in_bd bx1_ (by decide)) dX3_setTo_39 (fun a_10 ma_10 ua_10 wa_10 => ?_)
  have ka_10 : kd a_10 = 103 := by omega
  refine lv_iconst (v := 2) hx hb dX3_setTo_40 (by decide) ?_
  refine lv_iload hx hb dX3_setTo_41 (lv_at hl 6 rfl) ?_
  refine g_iast hx hb hK g ma_10 ka_10 (by decide) rfl (by unfold vp_in; decide) (bdT x6_) (by decide) dX3_setTo_43 (fun f H locs hM_11 g => ?_)
  subst hQ
  exact W.vret hx hb hr (fun t ht hW => ⟨⟨_, rfl, trivial, q3_of g hK ht hW⟩, g.2.2.1.F ht⟩) g.2.2.1.2.2 dX3_setTo_44
set_option maxHeartbeats 4000000 in
set_option maxRecDepth 100000 in
theorem r_X3_addCall_2 (l : Launch) (dC : Nat → ClassId) (dI : Nat → Nat → Nat) (L : List Nat) (kd : Nat → Nat) (tys : List (ClassId × FieldType)) (f0 : Nat → va_E) (sz : Nat) (hWT : WT L kd tys f0) (a0_ : Nat) (ma0_ : a0_ ∈ L) (ka0_ : kd a0_ = 3) (x1_ : Int32) (bx1_ : bd 0 2 x1_) (x2_ : Int32) (bx2_ : bd 0 11 x2_) (x3_ : Int32) (x4_ : Int32) (x5_ : Int32) (y0_ : Int32) (by0_ : bd 0 9 y0_) (y1_ : Int32) (by1_ : bd 1 3 y1_) (hfx : Fs L kd f0 [(3, 0, a0_, .int y0_), (3, 4, a0_, .int y1_)]) : Met l yX3_addCall (.code yX3_addCall cX3_addCall 6 none :: lw_g) ({ frames := 1, cells := 0, slots := 0, locals := 26 }) (va_Pc [.ref a0_, .int x1_, .int x2_, .int x3_, .int x4_, .int x5_] (P3 (dC, dI) L tys f0 sz)) (va_Qv (fun (f : Nat → va_E) => (∃ z0_ : Int32, bd 1 10 z0_ ∧ Fs L kd f [(3, 0, a0_, .int z0_)])) (Q3 (dC, dI) L kd tys [(3, 0)] [103, 122, 123] f0 sz) (pA L sz)) 0 0 (pA L sz) := by
  refine Met.ofW (cc := cX3_addCall) (maxL := 6) (ret := none) (by decide) rfl ?_
  intro p e s m args below meth c s₁ B hml hv
  obtain ⟨rfl, hsz, hP, hK, hD0⟩ := hv
  have hx := B.exec
  have hb := B.bytes
  have hr := B.returns
  have hts := atoms_spec (ws := (.code yX3_addCall cX3_addCall 6 none :: lw_g)) B.pre
  have hown : s.vm.findClass RX3 = some m.cls := findClass_of_methodNamed B.named
  have hlocks := B.notSynchronized
  subst hsz
  have g : G3 (dC, dI) L kd tys s f0 [(3, 0)] [103, 122, 123] f0 s.heap [] [(3, 0, a0_, .int y0_), (3, 4, a0_, .int y1_)] := G3.start hP hD0 hWT hfx
  have hl := lv_entry ([.ref a0_, .int x1_, .int x2_, .int x3_, .int x4_, .int x5_]) (n := 6) (Nat.le_of_ble_eq_true rfl)
  rw [lg_entry_eq]
  generalize (lg_sl ([.ref a0_, .int x1_, .int x2_, .int x3_, .int x4_, .int x5_]) ++ List.replicate (6 - (lg_sl ([.ref a0_, .int x1_, .int x2_, .int x3_, .int x4_, .int x5_])).length) Slot.unset).toArray = ls at hl ⊢
  have hl : lv_has ls 6 [(0, .ref a0_), (1, .int x1_), (2, .int x2_), (3, .int x3_), (4, .int x4_), (5, .int x5_)] := hl
  refine W_q (fun Q hQ => ?_)
  refine lv_aload_n hx hb dX3_addCall_0 rfl (lv_at hl 0 rfl) ?_
  refine g_getk (C := RX3) (T := TX3) (N := 6) hx hb hts (mc_ inX3) hown hK g rfl 0 (by decide) rfl (hts _ (List.mem_cons_of_mem _ t_801)) (fun _ h9 => h9) 0 rfl dX3_addCall_1 ?_
  refine lv_bipush (v := 10) hx hb dX3_addCall_4 (by decide) ?_
  have kb_10 : bd 10 10 (10 : Int32) := ⟨by decide, by decide⟩
  refine lv_icmp_ge (tgt := 34) hx hb dX3_addCall_6 (by decide) (fun c_1 => ?_) (fun c_1 => ?_)
  · have fc_1 := le_f c_1
    have b_2 : bd 10 9 (10 : Int32) := leL fc_1 kb_10 by0_ (by decide)
    exact bd_no (eqX rfl b_2 kb_10 (lo := 10) (hi := 9) (by decide)) (by decide)
  · have fc_1 := nle_f c_1
    refine lv_aload_n hx hb dX3_addCall_9 rfl (lv_at hl 0 rfl) ?_
    refine lv_aload_n hx hb dX3_addCall_10 rfl (lv_at hl 0 rfl) ?_
    refine g_getk (C := RX3) (T := TX3) (N := 6) hx hb hts (mc_ inX3) hown hK g rfl 0 (by decide) rfl (hts _ (List.mem_cons_of_mem _ t_801)) (fun _ h9 => h9) 0 rfl dX3_addCall_11 ?_
    refine lv_iload_n hx hb dX3_addCall_14 rfl (lv_at hl 1 rfl) ?_
    refine lv_iload_n hx hb dX3_addCall_15 rfl (lv_at hl 2 rfl) ?_
    refine lv_iload_n hx hb dX3_addCall_16 rfl (lv_at hl 3 rfl) ?_
    refine lv_iload hx hb dX3_addCall_17 (lv_at hl 4 rfl) ?_
    refine lv_iload hx hb dX3_addCall_19 (lv_at hl 5 rfl) ?_
    refine g_callv (va_runV (As := [.int y0_, .int x1_, .int x2_, .int x3_, .int x4_, .int x5_]) (rest := []) ⟨hx, hb, hml, hown, hts⟩ (r_X3_setTo_3 l dC dI L kd tys f0 s.heap.size g.2.2.2.1 a0_ ma0_ ka0_ y0_ by0_ x1_ bx1_ x2_ bx2_ x3_ x4_ x5_ y0_ by0_ y1_ by1_ (g.fcts [0, 1] rfl)) (cwV 6 hts (gV_ t_1485 t_1487 t_52 t_196 t_1488) rfl rfl rfl (by decide +kernel) ⟨(Nat.le_of_ble_eq_true rfl), (Nat.le_of_ble_eq_true rfl)⟩) (pre3V g hK ma0_ ka0_ (by decide) (q := (RX3, TX3, 6)) rfl) rfl rfl hl.1 rfl (lv_room (Nat.le_of_ble_eq_true rfl)) dX3_addCall_21 ⟨(Nat.le_of_ble_eq_true rfl), (Nat.le_of_ble_eq_true rfl)⟩) g hK (by decide) (by decide) (fx' := [(3, 0, a0_, .int y0_), (3, 4, a0_, .int y1_)]) rfl (fun fr_3 H locs hp hMr_3 g => ?_)
    refine lv_aload_n hx hb dX3_addCall_24 rfl (lv_at hl 0 rfl) ?_
    refine lv_dup hx hb dX3_addCall_25 rfl ?_
    refine g_getk (C := RX3) (T := TX3) (N := 6) hx hb hts (mc_ inX3) hown hK g rfl 0 (by decide) rfl (hts _ (List.mem_cons_of_mem _ t_801)) (fun _ h9 => h9) 0 rfl dX3_addCall_26 ?_
    refine lv_iconst (v := 1) hx hb dX3_addCall_29 (by decide) ?_
    have kb_1 : bd 1 1 (1 : Int32) := ⟨by decide, by decide⟩
    refine lv_iadd hx hb dX3_addCall_30 ?_
    refine lv_topi (fun y_4 ey_4 => ?_)
    have ty_4 := add_bd ey_4 by0_ kb_1 (by decide)
    have b_5 : bd 1 10 y_4 := add_rg ty_4 by0_ kb_1 (by decide)
    refine g_put (C := RX3) (T := TX3) (N := 6) hx hb hts (mc_ inX3) tyX3 tyX3_ok nmX3 hown hK g ma0_ ka0_ (by decide) rfl 0 (by decide) (hts _ (List.mem_cons_of_mem _ t_801)) (fun _ h9 => h9) rfl rfl (okV_i (bd_sub b_5 (by decide))) rfl rfl (by decide) (Or.inr (Or.inl (by decide))) (fx' := [(3, 4, a0_, .int y1_)]) rfl dX3_addCall_31 (fun f H locs hM_6 g => ?_)
    subst hQ
    exact W.vret hx hb hr (fun t ht hW => ⟨⟨_, rfl, ⟨y_4, b_5, (g.fcts [0] rfl)⟩, q3_of g hK ht hW⟩, g.2.2.1.F ht⟩) g.2.2.1.2.2 dX3_addCall_34
set_option maxHeartbeats 4000000 in
set_option maxRecDepth 100000 in
theorem r_X10_appendCall (l : Launch) (dC : Nat → ClassId) (dI : Nat → Nat → Nat) (L : List Nat) (kd : Nat → Nat) (tys : List (ClassId × FieldType)) (f0 : Nat → va_E) (sz : Nat) (hWT : WT L kd tys f0) (a0_ : Nat) (ma0_ : a0_ ∈ L) (ka0_ : kd a0_ = 10) (x1_ : Int32) (bx1_ : bd 0 2 x1_) (x2_ : Int32) (bx2_ : bd 0 11 x2_) (x3_ : Int32) (x4_ : Int32) (x5_ : Int32) (q0_ : Nat) (mq0_ : q0_ ∈ L) (kq0_ : kd q0_ = 3) (y0_ : Int32) (by0_ : bd 0 9 y0_) (y1_ : Int32) (by1_ : bd 1 3 y1_) (hfx : Fs L kd f0 [(10, 2, a0_, .ref q0_), (3, 0, q0_, .int y0_), (3, 4, q0_, .int y1_)]) : Met l yX10_appendCall (.code yX10_appendCall cX10_appendCall 6 (some .int) :: lw_g) ({ frames := 2, cells := 0, slots := 0, locals := 51 }) (va_Pc [.ref a0_, .int x1_, .int x2_, .int x3_, .int x4_, .int x5_] (P3 (dC, dI) L tys f0 sz)) (va_Qi (fun (r : Int32) (f : Nat → va_E) => (bd 1 10 r ∧ ∃ z1_ : Int32, bd 1 10 z1_ ∧ Fs L kd f [(10, 8, a0_, .int 0), (3, 0, q0_, .int z1_)])) (Q3 (dC, dI) L kd tys [(3, 0), (10, 8)] [103, 122, 123, 130, 131] f0 sz) (pA L sz)) 0 0 (pA L sz) := by
  refine Met.ofW (cc := cX10_appendCall) (maxL := 6) (ret := (some .int)) (by decide) rfl ?_
  intro p e s m args below meth c s₁ B hml hv
  obtain ⟨rfl, hsz, hP, hK, hD0⟩ := hv
  have hx := B.exec
  have hb := B.bytes
  have hr := B.returns
  have hts := atoms_spec (ws := (.code yX10_appendCall cX10_appendCall 6 (some .int) :: lw_g)) B.pre
  have hown : s.vm.findClass RX10 = some m.cls := findClass_of_methodNamed B.named
  have hlocks := B.notSynchronized
  subst hsz
  have g : G3 (dC, dI) L kd tys s f0 [(3, 0), (10, 8)] [103, 122, 123, 130, 131] f0 s.heap [] [(10, 2, a0_, .ref q0_), (3, 0, q0_, .int y0_), (3, 4, q0_, .int y1_)] := G3.start hP hD0 hWT hfx
  have hl := lv_entry ([.ref a0_, .int x1_, .int x2_, .int x3_, .int x4_, .int x5_]) (n := 6) (Nat.le_of_ble_eq_true rfl)
  rw [lg_entry_eq]
  generalize (lg_sl ([.ref a0_, .int x1_, .int x2_, .int x3_, .int x4_, .int x5_]) ++ List.replicate (6 - (lg_sl ([.ref a0_, .int x1_, .int x2_, .int x3_, .int x4_, .int x5_])).length) Slot.unset).toArray = ls at hl ⊢
  have hl : lv_has ls 6 [(0, .ref a0_), (1, .int x1_), (2, .int x2_), (3, .int x3_), (4, .int x4_), (5, .int x5_)] := hl
  refine W_q (fun Q hQ => ?_)
  refine lv_aload_n hx hb dX10_appendCall_0 rfl (lv_at hl 0 rfl) ?_
  refine g_getr (K := 4) (C := RX10) (T := TX10) (N := 10) hx hb hts (mc_ inX10) hown hK g ma0_ ka0_ (by decide) rfl 4 (by decide) rfl (hts _ (List.mem_cons_of_mem _ t_917)) (fun _ h9 => h9) rfl dX10_appendCall_1 (fun a_1 ma_1 ka_1 g => ?_)
  refine lv_aload_n hx hb dX10_appendCall_4 rfl (lv_at hl 0 rfl) ?_
  refine g_getk (C := RX10) (T := TX10) (N := 10) hx hb hts (mc_ inX10) hown hK g rfl 2 (by decide) rfl (hts _ (List.mem_cons_of_mem _ t_914)) (fun _ h9 => h9) 1 rfl dX10_appendCall_5 ?_
  refine g_getk (C := RX3) (T := TX3) (N := 6) hx hb hts (mc_ inX3) hown hK g rfl 0 (by decide) rfl (hts _ (List.mem_cons_of_mem _ t_802)) (fun _ h9 => h9) 2 rfl dX10_appendCall_8 ?_
  refine g_callv (va_runV (As := [.int y0_]) (rest := []) ⟨hx, hb, hml, hown, hts⟩ (r_X4_forgetCall l dC dI L kd tys f0 s.heap.size g.2.2.2.1 a_1 ma_1 ka_1 y0_) (cwV 1 hts (gV_ t_1480 t_1431 t_1432 t_197 t_1433) rfl rfl rfl (by decide +kernel) ⟨(Nat.le_of_ble_eq_true rfl), (Nat.le_of_ble_eq_true rfl)⟩) (pre3V g hK ma_1 ka_1 (by decide) (q := (RX4, TX4, 17)) rfl) rfl rfl hl.1 rfl (lv_room (Nat.le_of_ble_eq_true rfl)) dX10_appendCall_11 ⟨(Nat.le_of_ble_eq_true rfl), (Nat.le_of_ble_eq_true rfl)⟩) g hK (by decide) (by decide) (fx' := [(10, 4, a0_, .ref a_1), (10, 2, a0_, .ref q0_), (3, 0, q0_, .int y0_), (3, 4, q0_, .int y1_)]) rfl (fun fr_2 H locs hp hMr_2 g => ?_)
  refine lv_aload_n hx hb dX10_appendCall_14 rfl (lv_at hl 0 rfl) ?_
  refine g_getk (C := RX10) (T := TX10) (N := 10) hx hb hts (mc_ inX10) hown hK g rfl 2 (by decide) rfl (hts _ (List.mem_cons_of_mem _ t_914)) (fun _ h9 => h9) 1 rfl dX10_appendCall_15 ?_
  refine lv_iload_n hx hb dX10_appendCall_18 rfl (lv_at hl 1 rfl) ?_
  refine lv_iload_n hx hb dX10_appendCall_19 rfl (lv_at hl 2 rfl) ?_
  refine lv_iload_n hx hb dX10_appendCall_20 rfl (lv_at hl 3 rfl) ?_
  refine lv_iload hx hb dX10_appendCall_21 (lv_at hl 4 rfl) ?_
  refine lv_iload hx hb dX10_appendCall_23 (lv_at hl 5 rfl) ?_
  refine g_callv (va_runV (As := [.int x1_, .int x2_, .int x3_, .int x4_, .int x5_]) (rest := []) ⟨hx, hb, hml, hown, hts⟩ (r_X3_addCall_2 l dC dI L kd tys fr_2 H.size g.2.2.2.1 q0_ mq0_ kq0_ x1_ bx1_ x2_ bx2_ x3_ x4_ x5_ y0_ by0_ y1_ by1_ (g.fcts [2, 3] rfl)) (cwV 5 hts (gV_ t_1514 t_1515 t_1516 t_196 t_1517) rfl rfl rfl (by decide +kernel) ⟨(Nat.le_of_ble_eq_true rfl), (Nat.le_of_ble_eq_true rfl)⟩) (pre3V g hK mq0_ kq0_ (by decide) (q := (RX3, TX3, 6)) rfl) rfl rfl hl.1 rfl (lv_room (Nat.le_of_ble_eq_true rfl)) dX10_appendCall_25 ⟨(Nat.le_of_ble_eq_true rfl), (Nat.le_of_ble_eq_true rfl)⟩) g hK (by decide) (by decide) (fx' := [(10, 4, a0_, .ref a_1), (10, 2, a0_, .ref q0_), (3, 4, q0_, .int y1_)]) rfl (fun fr_3 H locs hp hMr_3 g => ?_)
  obtain ⟨x_4, h_5, hF_6⟩ := hp
  have g := g.more hF_6
  refine lv_aload_n hx hb dX10_appendCall_28 rfl (lv_at hl 0 rfl) ?_
  refine lv_iconst (v := 0) hx hb dX10_appendCall_29 (by decide) ?_
  have kb_0 : bd 0 0 (0 : Int32) := ⟨by decide, by decide⟩
  refine g_put (C := RX10) (T := TX10) (N := 10) hx hb hts (mc_ inX10) tyX10 tyX10_ok nmX10 hown hK g ma0_ ka0_ (by decide) rfl 8 (by decide) (hts _ (List.mem_cons_of_mem _ t_924)) (fun _ h9 => h9) rfl rfl (okV_i (bd_sub kb_0 (by decide))) rfl rfl (by decide) (Or.inr (Or.inl (by decide))) (fx' := [(3, 0, q0_, .int x_4), (10, 4, a0_, .ref a_1), (10, 2, a0_, .ref q0_), (3, 4, q0_, .int y1_)]) rfl dX10_appendCall_30 (fun f H locs hM_7 g => ?_)
  refine lv_aload_n hx hb dX10_appendCall_33 rfl (lv_at hl 0 rfl) ?_
  refine g_getk (C := RX10) (T := TX10) (N := 10) hx hb hts (mc_ inX10) hown hK g rfl 2 (by decide) rfl (hts _ (List.mem_cons_of_mem _ t_914)) (fun _ h9 => h9) 3 rfl dX10_appendCall_34 ?_
  refine g_getk (C := RX3) (T := TX3) (N := 6) hx hb hts (mc_ inX3) hown hK g rfl 0 (by decide) rfl (hts _ (List.mem_cons_of_mem _ t_802)) (fun _ h9 => h9) 1 rfl dX10_appendCall_37 ?_
  subst hQ
  exact W.iret (v := x_4) hx hb hr (fun t ht hW => ⟨⟨_, _, rfl, ⟨h_5, x_4, h_5, (g.fcts [0, 1] rfl)⟩, q3_of g hK ht hW⟩, g.2.2.1.F ht⟩) g.2.2.1.2.2 dX10_appendCall_40
set_option maxHeartbeats 4000000 in
set_option maxRecDepth 100000 in
theorem r_X11_call (l : Launch) (dC : Nat → ClassId) (dI : Nat → Nat → Nat) (L : List Nat) (kd : Nat → Nat) (tys : List (ClassId × FieldType)) (f0 : Nat → va_E) (sz : Nat) (hWT : WT L kd tys f0) (a0_ : Nat) (ma0_ : a0_ ∈ L) (ka0_ : kd a0_ = 11) (x1_ : Int32) (x2_ : Int32) (x3_ : Int32) (x4_ : Int32) (x5_ : Int32) : Met l yX11_call (.code yX11_call cX11_call 6 (some .int) :: lw_g) ({ frames := 3, cells := 0, slots := 0, locals := 76 }) (va_Pc [.ref a0_, .int x1_, .int x2_, .int x3_, .int x4_, .int x5_] (P3 (dC, dI) L tys f0 sz)) (va_Qi (fun (r : Int32) (f : Nat → va_E) => (bd (-3) 10 r ∧ True)) (Q3 (dC, dI) L kd tys [(3, 0), (10, 8)] [103, 122, 123, 130, 131] f0 sz) (pA L sz)) 0 0 (pA L sz) := by
  refine Met.ofW (cc := cX11_call) (maxL := 6) (ret := (some .int)) (by decide) rfl ?_
  intro p e s m args below meth c s₁ B hml hv
  obtain ⟨rfl, hsz, hP, hK, hD0⟩ := hv
  have hx := B.exec
  have hb := B.bytes
  have hr := B.returns
  have hts := atoms_spec (ws := (.code yX11_call cX11_call 6 (some .int) :: lw_g)) B.pre
  have hown : s.vm.findClass RX11 = some m.cls := findClass_of_methodNamed B.named
  have hlocks := B.notSynchronized
  subst hsz
  have g : G3 (dC, dI) L kd tys s f0 [(3, 0), (10, 8)] [103, 122, 123, 130, 131] f0 s.heap [] [] := G3.start hP hD0 hWT Fs.nil
  have hl := lv_entry ([.ref a0_, .int x1_, .int x2_, .int x3_, .int x4_, .int x5_]) (n := 6) (Nat.le_of_ble_eq_true rfl)
  rw [lg_entry_eq]
  generalize (lg_sl ([.ref a0_, .int x1_, .int x2_, .int x3_, .int x4_, .int x5_]) ++ List.replicate (6 - (lg_sl ([.ref a0_, .int x1_, .int x2_, .int x3_, .int x4_, .int x5_])).length) Slot.unset).toArray = ls at hl ⊢
  have hl : lv_has ls 6 [(0, .ref a0_), (1, .int x1_), (2, .int x2_), (3, .int x3_), (4, .int x4_), (5, .int x5_)] := hl
  refine W_q (fun Q hQ => ?_)
  refine lv_aload_n hx hb dX11_call_0 rfl (lv_at hl 0 rfl) ?_
  refine g_getr (K := 10) (C := RX11) (T := TX11) (N := 8) hx hb hts (mc_ inX11) hown hK g ma0_ ka0_ (by decide) rfl 3 (by decide) rfl (hts _ (List.mem_cons_of_mem _ t_951)) (fun _ h9 => h9) rfl dX11_call_1 (fun a_1 ma_1 ka_1 g => ?_)
  refine g_getr (K := 3) (C := RX10) (T := TX10) (N := 10) hx hb hts (mc_ inX10) hown hK g ma_1 ka_1 (by decide) rfl 2 (by decide) rfl (hts _ (List.mem_cons_of_mem _ t_915)) (fun _ h9 => h9) rfl dX11_call_4 (fun a_2 ma_2 ka_2 g => ?_)
  refine lv_aload_n hx hb dX11_call_7 rfl (lv_at hl 0 rfl) ?_
  refine g_getr (K := 7) (C := RX11) (T := TX11) (N := 8) hx hb hts (mc_ inX11) hown hK g ma0_ ka0_ (by decide) rfl 4 (by decide) rfl (hts _ (List.mem_cons_of_mem _ t_952)) (fun _ h9 => h9) rfl dX11_call_8 (fun a_3 ma_3 ka_3 g => ?_)
  refine lv_iload_n hx hb dX11_call_11 rfl (lv_at hl 1 rfl) ?_
  refine lv_iload_n hx hb dX11_call_12 rfl (lv_at hl 2 rfl) ?_
  refine lv_iload_n hx hb dX11_call_13 rfl (lv_at hl 3 rfl) ?_
  refine lv_iload hx hb dX11_call_14 (lv_at hl 4 rfl) ?_
  refine lv_iload hx hb dX11_call_16 (lv_at hl 5 rfl) ?_
  refine g_calli (va_runV (As := [.ref a_3, .int x1_, .int x2_, .int x3_, .int x4_, .int x5_]) (rest := []) ⟨hx, hb, hml, hown, hts⟩ (r_X3_mayTake l dC dI L kd tys f0 s.heap.size g.2.2.2.1 a_2 ma_2 ka_2 a_3 ma_3 ka_3 x1_ x2_ x3_ x4_ x5_) (cwV 6 hts (gV_ t_1493 t_1494 t_1495 t_196 t_1496) rfl rfl rfl (by decide +kernel) ⟨(Nat.le_of_ble_eq_true rfl), (Nat.le_of_ble_eq_true rfl)⟩) (pre3V g hK ma_2 ka_2 (by decide) (q := (RX3, TX3, 6)) rfl) rfl rfl hl.1 rfl (lv_room (Nat.le_of_ble_eq_true rfl)) dX11_call_18 ⟨(Nat.le_of_ble_eq_true rfl), (Nat.le_of_ble_eq_true rfl)⟩) g hK (by decide) (by decide) (fx' := [(11, 4, a0_, .ref a_3), (10, 2, a_1, .ref a_2), (11, 3, a0_, .ref a_1)]) rfl (fun r_4 fr_4 H locs hp hMr_4 g => ?_)
  rcases hp with ⟨h_5, -⟩ | ⟨h_6, h_7, h_8, x_9, h_10, x_11, h_12, hF_13⟩
  · obtain rfl : r_4 = 0 := h_5
    refine lv_if_ne (tgt := 27) hx hb dX11_call_21 (by decide) (fun c_ => absurd c_ (by decide)) (fun c_ => ?_)
    refine lv_bipush (v := (-2)) hx hb dX11_call_24 (by decide) ?_
    have kb_m2 : bd (-2) (-2) ((-2) : Int32) := ⟨by decide, by decide⟩
    subst hQ
    exact W.iret (v := (-2)) hx hb hr (fun t ht hW => ⟨⟨_, _, rfl, ⟨(bd_sub kb_m2 (by decide)), trivial⟩, q3_of g hK ht hW⟩, g.2.2.1.F ht⟩) g.2.2.1.2.2 dX11_call_26
  · obtain rfl : r_4 = 1 := h_6
    have b_14 : bd 0 2 x1_ := eqX rfl (bdT x1_) h_7 (by decide)
    have b_15 : bd 0 11 x2_ := eqX rfl (bdT x2_) h_8 (by decide)
    have g := g.more hF_13
    refine lv_if_ne (tgt := 27) hx hb dX11_call_21 (by decide) (fun c_ => ?_) (fun c_ => absurd c_ (by decide))
    refine lv_aload_n hx hb dX11_call_27 rfl (lv_at hl 0 rfl) ?_
    refine g_getk (C := RX11) (T := TX11) (N := 8) hx hb hts (mc_ inX11) hown hK g rfl 3 (by decide) rfl (hts _ (List.mem_cons_of_mem _ t_951)) (fun _ h9 => h9) 4 rfl dX11_call_28 ?_
    refine g_getk (C := RX10) (T := TX10) (N := 10) hx hb hts (mc_ inX10) hown hK g rfl 2 (by decide) rfl (hts _ (List.mem_cons_of_mem _ t_915)) (fun _ h9 => h9) 3 rfl dX11_call_31 ?_
    refine g_calli (va_runV (As := []) (rest := []) ⟨hx, hb, hml, hown, hts⟩ (r_X3_roomForCall l dC dI L kd tys fr_4 H.size g.2.2.2.1 a_2 ma_2 ka_2) (cwV 0 hts (gV_ t_1506 t_1507 t_1508 t_196 t_1509) rfl rfl rfl (by decide +kernel) ⟨(Nat.le_of_ble_eq_true rfl), (Nat.le_of_ble_eq_true rfl)⟩) (pre3V g hK ma_2 ka_2 (by decide) (q := (RX3, TX3, 6)) rfl) rfl rfl hl.1 rfl (lv_room (Nat.le_of_ble_eq_true rfl)) dX11_call_34 ⟨(Nat.le_of_ble_eq_true rfl), (Nat.le_of_ble_eq_true rfl)⟩) g hK (by decide) (by decide) (fx' := [(7, 1, a_3, .int x_9), (3, 4, a_2, .int x_11), (11, 4, a0_, .ref a_3), (10, 2, a_1, .ref a_2), (11, 3, a0_, .ref a_1)]) rfl (fun r_16 fr_16 H locs hp hMr_16 g => ?_)
    rcases hp with ⟨h_17, x_18, h_19, hF_20⟩ | ⟨h_21, x_22, h_23, hF_24⟩
    · obtain rfl : r_16 = 0 := h_17
      have g := g.more hF_20
      refine lv_if_ne (tgt := 43) hx hb dX11_call_37 (by decide) (fun c_ => absurd c_ (by decide)) (fun c_ => ?_)
      refine lv_bipush (v := (-3)) hx hb dX11_call_40 (by decide) ?_
      have kb_m3 : bd (-3) (-3) ((-3) : Int32) := ⟨by decide, by decide⟩
      subst hQ
      exact W.iret (v := (-3)) hx hb hr (fun t ht hW => ⟨⟨_, _, rfl, ⟨(bd_sub kb_m3 (by decide)), trivial⟩, q3_of g hK ht hW⟩, g.2.2.1.F ht⟩) g.2.2.1.2.2 dX11_call_42
    · obtain rfl : r_16 = 1 := h_21
      have g := g.more hF_24
      refine lv_if_ne (tgt := 43) hx hb dX11_call_37 (by decide) (fun c_ => ?_) (fun c_ => absurd c_ (by decide))
      refine lv_aload_n hx hb dX11_call_43 rfl (lv_at hl 0 rfl) ?_
      refine g_getk (C := RX11) (T := TX11) (N := 8) hx hb hts (mc_ inX11) hown hK g rfl 3 (by decide) rfl (hts _ (List.mem_cons_of_mem _ t_951)) (fun _ h9 => h9) 5 rfl dX11_call_44 ?_
      refine lv_iload_n hx hb dX11_call_47 rfl (lv_at hl 1 rfl) ?_
      refine lv_iload_n hx hb dX11_call_48 rfl (lv_at hl 2 rfl) ?_
      refine lv_iload_n hx hb dX11_call_49 rfl (lv_at hl 3 rfl) ?_
      refine lv_iload hx hb dX11_call_50 (lv_at hl 4 rfl) ?_
      refine lv_iload hx hb dX11_call_52 (lv_at hl 5 rfl) ?_
      refine g_calli (va_runV (As := [.int x1_, .int x2_, .int x3_, .int x4_, .int x5_]) (rest := []) ⟨hx, hb, hml, hown, hts⟩ (r_X10_appendCall l dC dI L kd tys fr_16 H.size g.2.2.2.1 a_1 ma_1 ka_1 x1_ b_14 x2_ b_15 x3_ x4_ x5_ a_2 ma_2 ka_2 x_22 h_23 x_11 h_12 (g.fcts [4, 0, 2] rfl)) (cwV 5 hts (gV_ t_1510 t_1511 t_1512 t_194 t_1513) rfl rfl rfl (by decide +kernel) ⟨(Nat.le_of_ble_eq_true rfl), (Nat.le_of_ble_eq_true rfl)⟩) (pre3V g hK ma_1 ka_1 (by decide) (q := (RX10, TX10, 10)) rfl) rfl rfl hl.1 rfl (lv_room (Nat.le_of_ble_eq_true rfl)) dX11_call_54 ⟨(Nat.le_of_ble_eq_true rfl), (Nat.le_of_ble_eq_true rfl)⟩) g hK (by decide) (by decide) (fx' := [(7, 1, a_3, .int x_9), (3, 4, a_2, .int x_11), (11, 4, a0_, .ref a_3), (10, 2, a_1, .ref a_2), (11, 3, a0_, .ref a_1)]) rfl (fun r_25 fr_25 H locs hp hMr_25 g => ?_)
      obtain ⟨h_26, x_27, h_28, hF_29⟩ := hp
      have g := g.more hF_29
      subst hQ
      exact W.iret (v := r_25) hx hb hr (fun t ht hW => ⟨⟨_, _, rfl, ⟨(bd_sub h_26 (by decide)), trivial⟩, q3_of g hK ht hW⟩, g.2.2.1.F ht⟩) g.2.2.1.2.2 dX11_call_57
set_option maxHeartbeats 4000000 in
set_option maxRecDepth 100000 in
theorem r_X11_run (l : Launch) (dC : Nat → ClassId) (dI : Nat → Nat → Nat) (L : List Nat) (kd : Nat → Nat) (tys : List (ClassId × FieldType)) (f0 : Nat → va_E) (sz : Nat) (hWT : WT L kd tys f0) (a0_ : Nat) (ma0_ : a0_ ∈ L) (ka0_ : kd a0_ = 11) (q0_ : Nat) (mq0_ : q0_ ∈ L) (kq0_ : kd q0_ = 10) (q1_ : Nat) (mq1_ : q1_ ∈ L) (kq1_ : kd q1_ = 7) (hGq1_ : cOK f0 q1_) (hfx : Fs L kd f0 [(11, 3, a0_, .ref q0_), (10, 0, q0_, .ref q1_)]) : Met l yX11_run (.code yX11_run cX11_run 1 (some .int) :: lw_g) ({ frames := 7, cells := 0, slots := 0, locals := 175 }) (va_Pc [.ref a0_] (P3 (dC, dI) L tys f0 sz)) (va_Qi (fun (r : Int32) (f : Nat → va_E) => (True)) (Q3 (dC, dI) L kd tys [(1, 0), (1, 1), (1, 2), (1, 3), (1, 4), (1, 5), (1, 6), (1, 8), (1, 11), (1, 12), (1, 13), (1, 14), (1, 15), (1, 16), (1, 17), (4, 0), (4, 1), (4, 2), (4, 3), (4, 4), (4, 5), (4, 6), (4, 14), (4, 15), (4, 16), (10, 8)] [100, 101, 102, 103, 116, 117, 126, 127, 130, 131, 146] f0 sz) (pA L sz)) 0 0 (pA L sz) := by
  refine Met.ofW (cc := cX11_run) (maxL := 1) (ret := (some .int)) (by decide) rfl ?_
  intro p e s m args below meth c s₁ B hml hv
  obtain ⟨rfl, hsz, hP, hK, hD0⟩ := hv
  have hx := B.exec
  have hb := B.bytes
  have hr := B.returns
  have hts := atoms_spec (ws := (.code yX11_run cX11_run 1 (some .int) :: lw_g)) B.pre
  have hown : s.vm.findClass RX11 = some m.cls := findClass_of_methodNamed B.named
  have hlocks := B.notSynchronized
  subst hsz
  have g : G3 (dC, dI) L kd tys s f0 [(1, 0), (1, 1), (1, 2), (1, 3), (1, 4), (1, 5), (1, 6), (1, 8), (1, 11), (1, 12), (1, 13), (1, 14), (1, 15), (1, 16), (1, 17), (4, 0), (4, 1), (4, 2), (4, 3), (4, 4), (4, 5), (4, 6), (4, 14), (4, 15), (4, 16), (10, 8)] [100, 101, 102, 103, 116, 117, 126, 127, 130, 131, 146] f0 s.heap [] [(11, 3, a0_, .ref q0_), (10, 0, q0_, .ref q1_)] := G3.start hP hD0 hWT hfx
  have hl := lv_entry ([.ref a0_]) (n := 1) (Nat.le_of_ble_eq_true rfl)
  rw [lg_entry_eq]
  generalize (lg_sl ([.ref a0_]) ++ List.replicate (1 - (lg_sl ([.ref a0_])).length) Slot.unset).toArray = ls at hl ⊢
  have hl : lv_has ls 1 [(0, .ref a0_)] := hl
  refine W_q (fun Q hQ => ?_)
  refine lv_aload_n hx hb dX11_run_0 rfl (lv_at hl 0 rfl) ?_
  refine g_getk (C := RX11) (T := TX11) (N := 8) hx hb hts (mc_ inX11) hown hK g rfl 3 (by decide) rfl (hts _ (List.mem_cons_of_mem _ t_951)) (fun _ h9 => h9) 0 rfl dX11_run_1 ?_
  refine g_getr (K := 3) (C := RX10) (T := TX10) (N := 10) hx hb hts (mc_ inX10) hown hK g mq0_ kq0_ (by decide) rfl 2 (by decide) rfl (hts _ (List.mem_cons_of_mem _ t_915)) (fun _ h9 => h9) rfl dX11_run_4 (fun a_1 ma_1 ka_1 g => ?_)
  refine g_geti (C := RX3) (T := TX3) (N := 6) hx hb hts (mc_ inX3) hown hK g ma_1 ka_1 (by decide) rfl 0 (by decide) rfl (hts _ (List.mem_cons_of_mem _ t_803)) (fun _ h9 => h9) rfl dX11_run_7 (fun x_2 bx_2 g => ?_)
  have kb_0 : bd 0 0 (0 : Int32) := ⟨by decide, by decide⟩
  refine lv_if_ne (tgt := 16) hx hb dX11_run_10 (by decide) (fun c_3 => ?_) (fun c_3 => ?_)
  · have fc_3 := neq_f c_3
    have b_4 : bd 1 10 x_2 := neX fc_3 bx_2 kb_0 (by decide)
    refine lv_aload_n hx hb dX11_run_16 rfl (lv_at hl 0 rfl) ?_
    refine g_getk (C := RX11) (T := TX11) (N := 8) hx hb hts (mc_ inX11) hown hK g rfl 3 (by decide) rfl (hts _ (List.mem_cons_of_mem _ t_951)) (fun _ h9 => h9) 2 rfl dX11_run_17 ?_
    obtain ⟨a_5, ma_5, ka_5, g⟩ := g_factr (K := 4) g mq0_ kq0_ (by decide) 4 rfl
    have go_ := g
    refine g_callv (va_runV (As := []) (rest := []) ⟨hx, hb, hml, hown, hts⟩ (r_X10_runOwnRow l dC dI L kd tys f0 s.heap.size g.2.2.2.1 q0_ mq0_ kq0_ q1_ mq1_ kq1_ a_5 ma_5 ka_5 hGq1_ (g.fcts [4, 0] rfl)) (cwV 0 hts (gV_ t_1522 t_1523 t_1524 t_194 t_1525) rfl rfl rfl (by decide +kernel) ⟨(Nat.le_of_ble_eq_true rfl), (Nat.le_of_ble_eq_true rfl)⟩) (pre3V g hK mq0_ kq0_ (by decide) (q := (RX10, TX10, 10)) rfl) rfl rfl hl.1 rfl (lv_room (Nat.le_of_ble_eq_true rfl)) dX11_run_20 ⟨(Nat.le_of_ble_eq_true rfl), (Nat.le_of_ble_eq_true rfl)⟩) g hK (by decide) (by decide) (fx' := [(10, 4, q0_, .ref a_5), (3, 0, a_1, .int x_2), (10, 2, q0_, .ref a_1), (11, 3, a0_, .ref q0_), (10, 0, q0_, .ref q1_)]) rfl (fun fr_6 H locs hp hMr_6 g => ?_)
    have hG_7 := cOK.frame hMr_6 go_.2.2.2.1 mq1_ kq1_ (by decide) (by decide) hGq1_
    obtain ⟨x_8, h_9, hF_10⟩ := hp
    have g := g.more hF_10
    refine lv_aload_n hx hb dX11_run_23 rfl (lv_at hl 0 rfl) ?_
    refine g_getk (C := RX11) (T := TX11) (N := 8) hx hb hts (mc_ inX11) hown hK g rfl 3 (by decide) rfl (hts _ (List.mem_cons_of_mem _ t_951)) (fun _ h9 => h9) 5 rfl dX11_run_24 ?_
    refine g_getk (C := RX10) (T := TX10) (N := 10) hx hb hts (mc_ inX10) hown hK g rfl 4 (by decide) rfl (hts _ (List.mem_cons_of_mem _ t_918)) (fun _ h9 => h9) 2 rfl dX11_run_27 ?_
    refine g_geti (C := RX4) (T := TX4) (N := 17) hx hb hts (mc_ inX4) hown hK g ma_5 ka_5 (by decide) rfl 0 (by decide) rfl (hts _ (List.mem_cons_of_mem _ t_838)) (fun _ h9 => h9) rfl dX11_run_30 (fun x_11 bx_11 g => ?_)
    subst hQ
    exact W.iret (v := x_11) hx hb hr (fun t ht hW => ⟨⟨_, _, rfl, trivial, q3_of g hK ht hW⟩, g.2.2.1.F ht⟩) g.2.2.1.2.2 dX11_run_33
  · have fc_3 := eq_f c_3
    have b_12 : bd 0 0 x_2 := eqX fc_3 bx_2 kb_0 (by decide)
    refine lv_bipush (v := (-2)) hx hb dX11_run_13 (by decide) ?_
    subst hQ
    exact W.iret (v := (-2)) hx hb hr (fun t ht hW => ⟨⟨_, _, rfl, trivial, q3_of g hK ht hW⟩, g.2.2.1.F ht⟩) g.2.2.1.2.2 dX11_run_15
set_option maxHeartbeats 4000000 in
set_option maxRecDepth 100000 in
theorem r_X3_setTo_4 (l : Launch) (dC : Nat → ClassId) (dI : Nat → Nat → Nat) (L : List Nat) (kd : Nat → Nat) (tys : List (ClassId × FieldType)) (f0 : Nat → va_E) (sz : Nat) (hWT : WT L kd tys f0) (a0_ : Nat) (ma0_ : a0_ ∈ L) (ka0_ : kd a0_ = 3) (x1_ : Int32) (bx1_ : bd 0 0 x1_) (x2_ : Int32) (bx2_ : bd 0 0 x2_) (x3_ : Int32) (bx3_ : bd (-1) (-1) x3_) (x4_ : Int32) (bx4_ : bd 0 7 x4_) (x5_ : Int32) (bx5_ : bd 0 0 x5_) (x6_ : Int32) (bx6_ : bd 0 0 x6_) (y0_ : Int32) (by0_ : bd 0 0 y0_) (y1_ : Int32) (by1_ : bd 0 0 y1_) (hfx : Fs L kd f0 [(3, 4, a0_, .int y0_), (3, 0, a0_, .int y1_)]) : Met l yX3_setTo (.code yX3_setTo cX3_setTo 7 none :: lw_g) ({ frames := 0, cells := 0, slots := 0, locals := 0 }) (va_Pc [.ref a0_, .int x1_, .int x2_, .int x3_, .int x4_, .int x5_, .int x6_] (P3 (dC, dI) L tys f0 sz)) (va_Qv (fun (f : Nat → va_E) => (True)) (Q3 (dC, dI) L kd tys [] [103, 122, 123] f0 sz) (pA L sz)) 0 0 (pA L sz) := by
  refine Met.ofW (cc := cX3_setTo) (maxL := 7) (ret := none) (by decide) rfl ?_
  intro p e s m args below meth c s₁ B hml hv
  obtain ⟨rfl, hsz, hP, hK, hD0⟩ := hv
  have hx := B.exec
  have hb := B.bytes
  have hr := B.returns
  have hts := atoms_spec (ws := (.code yX3_setTo cX3_setTo 7 none :: lw_g)) B.pre
  have hown : s.vm.findClass RX3 = some m.cls := findClass_of_methodNamed B.named
  have hlocks := B.notSynchronized
  subst hsz
  have g : G3 (dC, dI) L kd tys s f0 [] [103, 122, 123] f0 s.heap [] [(3, 4, a0_, .int y0_), (3, 0, a0_, .int y1_)] := G3.start hP hD0 hWT hfx
  have hl := lv_entry ([.ref a0_, .int x1_, .int x2_, .int x3_, .int x4_, .int x5_, .int x6_]) (n := 7) (Nat.le_of_ble_eq_true rfl)
  rw [lg_entry_eq]
  generalize (lg_sl ([.ref a0_, .int x1_, .int x2_, .int x3_, .int x4_, .int x5_, .int x6_]) ++ List.replicate (7 - (lg_sl ([.ref a0_, .int x1_, .int x2_, .int x3_, .int x4_, .int x5_, .int x6_])).length) Slot.unset).toArray = ls at hl ⊢
  have hl : lv_has ls 7 [(0, .ref a0_), (1, .int x1_), (2, .int x2_), (3, .int x3_), (4, .int x4_), (5, .int x5_), (6, .int x6_)] := hl
  refine W_q (fun Q hQ => ?_)
  refine lv_aload_n hx hb dX3_setTo_0 rfl (lv_at hl 0 rfl) ?_
  refine g_getr (K := 122) (C := RX3) (T := TX3) (N := 6) hx hb hts (mc_ inX3) hown hK g ma0_ ka0_ (by decide) rfl 1 (by decide) rfl (hts _ (List.mem_cons_of_mem _ t_804)) (fun _ h9 => h9) rfl dX3_setTo_1 (fun a_1 ma_1 ka_1 g => ?_)
  refine lv_iload_n hx hb dX3_setTo_4 rfl (lv_at hl 1 rfl) ?_
  refine lv_iload_n hx hb dX3_setTo_5 rfl (lv_at hl 2 rfl) ?_
  refine g_iast hx hb hK g ma_1 ka_1 (by decide) rfl (in_bd bx1_ (by decide)) (bd_sub bx2_ (by decide)) (by decide) dX3_setTo_6 (fun f H locs hM_2 g => ?_)
  refine lv_aload_n hx hb dX3_setTo_7 rfl (lv_at hl 0 rfl) ?_
  refine g_getr (K := 123) (C := RX3) (T := TX3) (N := 6) hx hb hts (mc_ inX3) hown hK g ma0_ ka0_ (by decide) rfl 2 (by decide) rfl (hts _ (List.mem_cons_of_mem _ t_807)) (fun _ h9 => h9) rfl dX3_setTo_8 (fun a_3 ma_3 ka_3 g => ?_)
  refine lv_iload_n hx hb dX3_setTo_11 rfl (lv_at hl 1 rfl) ?_
  refine lv_iload_n hx hb dX3_setTo_12 rfl (lv_at hl 3 rfl) ?_
  refine g_iast hx hb hK g ma_3 ka_3 (by decide) rfl (in_bd bx1_ (by decide)) (bd_sub bx3_ (by decide)) (by decide) dX3_setTo_13 (fun f H locs hM_4 g => ?_)
  refine lv_aload_n hx hb dX3_setTo_14 rfl (lv_at hl 0 rfl) ?_
  refine g_getr (K := 124) (C := RX3) (T := TX3) (N := 6) hx hb hts (mc_ inX3) hown hK g ma0_ ka0_ (by decide) rfl 3 (by decide) rfl (hts _ (List.mem_cons_of_mem _ t_810)) (fun _ h9 => h9) rfl dX3_setTo_15 (fun a_5 ma_5 ka_5 g => ?_)
  refine lv_iload_n hx hb dX3_setTo_18 rfl (lv_at hl 1 rfl) ?_
  refine g_aald hx hb hK g ma_5 ka_5 (by decide) rfl (by decide) (in_bd bx1_ (by decide)) dX3_setTo_19 (fun a_6 ma_6 ua_6 wa_6 => ?_)
  have ka_6 : kd a_6 = 103 := by omega
  refine lv_iconst (v := 0) hx hb dX3_setTo_20 (by decide) ?_
  refine lv_iload hx hb dX3_setTo_21 (lv_at hl 4 rfl) ?_
  refine g_iast hx hb hK g ma_6 ka_6 (by decide) rfl (by unfold vp_in; decide) (bd_sub bx4_ (by decide)) (by decide) dX3_setTo_23 (fun f H locs hM_7 g => ?_)
  refine lv_aload_n hx hb dX3_setTo_24 rfl (lv_at hl 0 rfl) ?_
  refine g_getk (C := RX3) (T := TX3) (N := 6) hx hb hts (mc_ inX3) hown hK g rfl 3 (by decide) rfl (hts _ (List.mem_cons_of_mem _ t_810)) (fun _ h9 => h9) 0 rfl dX3_setTo_25 ?_
  refine lv_iload_n hx hb dX3_setTo_28 rfl (lv_at hl 1 rfl) ?_
  refine g_aald hx hb hK g ma_5 ka_5 (by decide) rfl (by decide) (in_bd bx1_ (by decide)) dX3_setTo_29 (fun a_8 ma_8 ua_8 wa_8 => ?_)
  have ka_8 : kd a_8 = 103 := by omega
  refine lv_iconst (v := 1) hx hb dX3_setTo_30 (by decide) ?_
  refine lv_iload hx hb dX3_setTo_31 (lv_at hl 5 rfl) ?_
  refine g_iast hx hb hK g ma_8 ka_8 (by decide) rfl (by unfold vp_in; decide) (bd_sub bx5_ (by decide)) (by decide) dX3_setTo_33 (fun f H locs hM_9 g => ?_)
  refine lv_aload_n hx hb dX3_setTo_34 rfl (lv_at hl 0 rfl) ?_
  refine g_getk (C := RX3) (T := TX3) (N := 6) hx hb hts (mc_ inX3) hown hK g rfl 3 (by decide) rfl (hts _ (List.mem_cons_of_mem _ t_810)) (fun _ h9 => h9) 0 rfl dX3_setTo_35 ?_
  refine lv_iload_n hx hb dX3_setTo_38 rfl (lv_at hl 1 rfl) ?_
  refine g_aald hx hb hK g ma_5 ka_5 (by decide) rfl (by decide) (in_bd bx1_ (by decide)) dX3_setTo_39 (fun a_10 ma_10 ua_10 wa_10 => ?_)
  have ka_10 : kd a_10 = 103 := by omega
  refine lv_iconst (v := 2) hx hb dX3_setTo_40 (by decide) ?_
  refine lv_iload hx hb dX3_setTo_41 (lv_at hl 6 rfl) ?_
  refine g_iast hx hb hK g ma_10 ka_10 (by decide) rfl (by unfold vp_in; decide) (bd_sub bx6_ (by decide)) (by decide) dX3_setTo_43 (fun f H locs hM_11 g => ?_)
  subst hQ
  exact W.vret hx hb hr (fun t ht hW => ⟨⟨_, rfl, trivial, q3_of g hK ht hW⟩, g.2.2.1.F ht⟩) g.2.2.1.2.2 dX3_setTo_44
set_option maxHeartbeats 4000000 in
set_option maxRecDepth 100000 in
theorem r_X3_addMake_2 (l : Launch) (dC : Nat → ClassId) (dI : Nat → Nat → Nat) (L : List Nat) (kd : Nat → Nat) (tys : List (ClassId × FieldType)) (f0 : Nat → va_E) (sz : Nat) (hWT : WT L kd tys f0) (a0_ : Nat) (ma0_ : a0_ ∈ L) (ka0_ : kd a0_ = 3) (x1_ : Int32) (bx1_ : bd 0 7 x1_) (y0_ : Int32) (by0_ : bd 0 0 y0_) (y1_ : Int32) (by1_ : bd 0 0 y1_) (hfx : Fs L kd f0 [(3, 4, a0_, .int y0_), (3, 0, a0_, .int y1_)]) : Met l yX3_addMake (.code yX3_addMake cX3_addMake 2 none :: lw_g) ({ frames := 1, cells := 0, slots := 0, locals := 26 }) (va_Pc [.ref a0_, .int x1_] (P3 (dC, dI) L tys f0 sz)) (va_Qv (fun (f : Nat → va_E) => (∃ z0_ : Int32, bd 1 1 z0_ ∧ ∃ z1_ : Int32, bd 1 1 z1_ ∧ Fs L kd f [(3, 0, a0_, .int z0_), (3, 4, a0_, .int z1_)])) (Q3 (dC, dI) L kd tys [(3, 0), (3, 4)] [103, 122, 123, 125] f0 sz) (pA L sz)) 0 0 (pA L sz) := by
  refine Met.ofW (cc := cX3_addMake) (maxL := 2) (ret := none) (by decide) rfl ?_
  intro p e s m args below meth c s₁ B hml hv
  obtain ⟨rfl, hsz, hP, hK, hD0⟩ := hv
  have hx := B.exec
  have hb := B.bytes
  have hr := B.returns
  have hts := atoms_spec (ws := (.code yX3_addMake cX3_addMake 2 none :: lw_g)) B.pre
  have hown : s.vm.findClass RX3 = some m.cls := findClass_of_methodNamed B.named
  have hlocks := B.notSynchronized
  subst hsz
  have g : G3 (dC, dI) L kd tys s f0 [(3, 0), (3, 4)] [103, 122, 123, 125] f0 s.heap [] [(3, 4, a0_, .int y0_), (3, 0, a0_, .int y1_)] := G3.start hP hD0 hWT hfx
  have hl := lv_entry ([.ref a0_, .int x1_]) (n := 2) (Nat.le_of_ble_eq_true rfl)
  rw [lg_entry_eq]
  generalize (lg_sl ([.ref a0_, .int x1_]) ++ List.replicate (2 - (lg_sl ([.ref a0_, .int x1_])).length) Slot.unset).toArray = ls at hl ⊢
  have hl : lv_has ls 2 [(0, .ref a0_), (1, .int x1_)] := hl
  refine W_q (fun Q hQ => ?_)
  refine lv_aload_n hx hb dX3_addMake_0 rfl (lv_at hl 0 rfl) ?_
  refine g_getk (C := RX3) (T := TX3) (N := 6) hx hb hts (mc_ inX3) hown hK g rfl 0 (by decide) rfl (hts _ (List.mem_cons_of_mem _ t_801)) (fun _ h9 => h9) 1 rfl dX3_addMake_1 ?_
  refine lv_bipush (v := 10) hx hb dX3_addMake_4 (by decide) ?_
  have kb_10 : bd 10 10 (10 : Int32) := ⟨by decide, by decide⟩
  refine lv_icmp_ge (tgt := 63) hx hb dX3_addMake_6 (by decide) (fun c_1 => ?_) (fun c_1 => ?_)
  · have fc_1 := le_f c_1
    have b_2 : bd 10 0 (10 : Int32) := leL fc_1 kb_10 by1_ (by decide)
    exact bd_no (eqX rfl b_2 kb_10 (lo := 10) (hi := 0) (by decide)) (by decide)
  · have fc_1 := nle_f c_1
    refine lv_aload_n hx hb dX3_addMake_9 rfl (lv_at hl 0 rfl) ?_
    refine g_getk (C := RX3) (T := TX3) (N := 6) hx hb hts (mc_ inX3) hown hK g rfl 4 (by decide) rfl (hts _ (List.mem_cons_of_mem _ t_813)) (fun _ h9 => h9) 0 rfl dX3_addMake_10 ?_
    refine lv_iconst (v := 3) hx hb dX3_addMake_13 (by decide) ?_
    have kb_3 : bd 3 3 (3 : Int32) := ⟨by decide, by decide⟩
    refine lv_icmp_ge (tgt := 63) hx hb dX3_addMake_14 (by decide) (fun c_3 => ?_) (fun c_3 => ?_)
    · have fc_3 := le_f c_3
      have b_4 : bd 3 0 (3 : Int32) := leL fc_3 kb_3 by0_ (by decide)
      exact bd_no (eqX rfl b_4 kb_3 (lo := 3) (hi := 0) (by decide)) (by decide)
    · have fc_3 := nle_f c_3
      refine lv_aload_n hx hb dX3_addMake_17 rfl (lv_at hl 0 rfl) ?_
      refine g_getr (K := 125) (C := RX3) (T := TX3) (N := 6) hx hb hts (mc_ inX3) hown hK g ma0_ ka0_ (by decide) rfl 5 (by decide) rfl (hts _ (List.mem_cons_of_mem _ t_815)) (fun _ h9 => h9) rfl dX3_addMake_18 (fun a_5 ma_5 ka_5 g => ?_)
      refine lv_aload_n hx hb dX3_addMake_21 rfl (lv_at hl 0 rfl) ?_
      refine g_getk (C := RX3) (T := TX3) (N := 6) hx hb hts (mc_ inX3) hown hK g rfl 4 (by decide) rfl (hts _ (List.mem_cons_of_mem _ t_813)) (fun _ h9 => h9) 1 rfl dX3_addMake_22 ?_
      refine lv_iload_n hx hb dX3_addMake_25 rfl (lv_at hl 1 rfl) ?_
      refine g_iast hx hb hK g ma_5 ka_5 (by decide) rfl (in_bd by0_ (by decide)) bx1_ (by decide) dX3_addMake_26 (fun f H locs hM_6 g => ?_)
      refine lv_aload_n hx hb dX3_addMake_27 rfl (lv_at hl 0 rfl) ?_
      refine lv_aload_n hx hb dX3_addMake_28 rfl (lv_at hl 0 rfl) ?_
      refine g_getk (C := RX3) (T := TX3) (N := 6) hx hb hts (mc_ inX3) hown hK g rfl 0 (by decide) rfl (hts _ (List.mem_cons_of_mem _ t_801)) (fun _ h9 => h9) 2 rfl dX3_addMake_29 ?_
      refine lv_aload_n hx hb dX3_addMake_32 rfl (lv_at hl 0 rfl) ?_
      refine g_getk (C := RX3) (T := TX3) (N := 6) hx hb hts (mc_ inX3) hown hK g rfl 4 (by decide) rfl (hts _ (List.mem_cons_of_mem _ t_813)) (fun _ h9 => h9) 1 rfl dX3_addMake_33 ?_
      refine lv_iconst (v := (-1)) hx hb dX3_addMake_36 (by decide) ?_
      refine lv_iload_n hx hb dX3_addMake_37 rfl (lv_at hl 1 rfl) ?_
      refine lv_iconst (v := 0) hx hb dX3_addMake_38 (by decide) ?_
      refine lv_iconst (v := 0) hx hb dX3_addMake_39 (by decide) ?_
      have kb_m1 : bd (-1) (-1) ((-1) : Int32) := ⟨by decide, by decide⟩
      have kb_0 : bd 0 0 (0 : Int32) := ⟨by decide, by decide⟩
      refine g_callv (va_runV (As := [.int y1_, .int y0_, .int (-1), .int x1_, .int 0, .int 0]) (rest := []) ⟨hx, hb, hml, hown, hts⟩ (r_X3_setTo_4 l dC dI L kd tys f H.size g.2.2.2.1 a0_ ma0_ ka0_ y1_ by1_ y0_ by0_ (-1) kb_m1 x1_ bx1_ 0 kb_0 0 kb_0 y0_ by0_ y1_ by1_ (g.fcts [1, 2] rfl)) (cwV 6 hts (gV_ t_1485 t_1487 t_52 t_196 t_1488) rfl rfl rfl (by decide +kernel) ⟨(Nat.le_of_ble_eq_true rfl), (Nat.le_of_ble_eq_true rfl)⟩) (pre3V g hK ma0_ ka0_ (by decide) (q := (RX3, TX3, 6)) rfl) rfl rfl hl.1 rfl (lv_room (Nat.le_of_ble_eq_true rfl)) dX3_addMake_40 ⟨(Nat.le_of_ble_eq_true rfl), (Nat.le_of_ble_eq_true rfl)⟩) g hK (by decide) (by decide) (fx' := [(3, 5, a0_, .ref a_5), (3, 4, a0_, .int y0_), (3, 0, a0_, .int y1_)]) rfl (fun fr_7 H locs hp hMr_7 g => ?_)
      refine lv_aload_n hx hb dX3_addMake_43 rfl (lv_at hl 0 rfl) ?_
      refine lv_dup hx hb dX3_addMake_44 rfl ?_
      refine g_getk (C := RX3) (T := TX3) (N := 6) hx hb hts (mc_ inX3) hown hK g rfl 4 (by decide) rfl (hts _ (List.mem_cons_of_mem _ t_813)) (fun _ h9 => h9) 1 rfl dX3_addMake_45 ?_
      refine lv_iconst (v := 1) hx hb dX3_addMake_48 (by decide) ?_
      have kb_1 : bd 1 1 (1 : Int32) := ⟨by decide, by decide⟩
      refine lv_iadd hx hb dX3_addMake_49 ?_
      refine lv_topi (fun y_8 ey_8 => ?_)
      have ty_8 := add_bd ey_8 by0_ kb_1 (by decide)
      have b_9 : bd 1 1 y_8 := add_rg ty_8 by0_ kb_1 (by decide)
      refine g_put (C := RX3) (T := TX3) (N := 6) hx hb hts (mc_ inX3) tyX3 tyX3_ok nmX3 hown hK g ma0_ ka0_ (by decide) rfl 4 (by decide) (hts _ (List.mem_cons_of_mem _ t_813)) (fun _ h9 => h9) rfl rfl (okV_i (bd_sub b_9 (by decide))) rfl rfl (by decide) (Or.inr (Or.inl (by decide))) (fx' := [(3, 5, a0_, .ref a_5), (3, 0, a0_, .int y1_)]) rfl dX3_addMake_50 (fun f H locs hM_10 g => ?_)
      refine lv_aload_n hx hb dX3_addMake_53 rfl (lv_at hl 0 rfl) ?_
      refine lv_dup hx hb dX3_addMake_54 rfl ?_
      refine g_getk (C := RX3) (T := TX3) (N := 6) hx hb hts (mc_ inX3) hown hK g rfl 0 (by decide) rfl (hts _ (List.mem_cons_of_mem _ t_801)) (fun _ h9 => h9) 2 rfl dX3_addMake_55 ?_
      refine lv_iconst (v := 1) hx hb dX3_addMake_58 (by decide) ?_
      refine lv_iadd hx hb dX3_addMake_59 ?_
      refine lv_topi (fun y_11 ey_11 => ?_)
      have ty_11 := add_bd ey_11 by1_ kb_1 (by decide)
      have b_12 : bd 1 1 y_11 := add_rg ty_11 by1_ kb_1 (by decide)
      refine g_put (C := RX3) (T := TX3) (N := 6) hx hb hts (mc_ inX3) tyX3 tyX3_ok nmX3 hown hK g ma0_ ka0_ (by decide) rfl 0 (by decide) (hts _ (List.mem_cons_of_mem _ t_801)) (fun _ h9 => h9) rfl rfl (okV_i (bd_sub b_12 (by decide))) rfl rfl (by decide) (Or.inr (Or.inl (by decide))) (fx' := [(3, 4, a0_, .int y_8), (3, 5, a0_, .ref a_5)]) rfl dX3_addMake_60 (fun f H locs hM_13 g => ?_)
      subst hQ
      exact W.vret hx hb hr (fun t ht hW => ⟨⟨_, rfl, ⟨y_11, b_12, y_8, b_9, (g.fcts [0, 1] rfl)⟩, q3_of g hK ht hW⟩, g.2.2.1.F ht⟩) g.2.2.1.2.2 dX3_addMake_63
set_option maxHeartbeats 4000000 in
set_option maxRecDepth 100000 in
theorem r_X3_addMake_4 (l : Launch) (dC : Nat → ClassId) (dI : Nat → Nat → Nat) (L : List Nat) (kd : Nat → Nat) (tys : List (ClassId × FieldType)) (f0 : Nat → va_E) (sz : Nat) (hWT : WT L kd tys f0) (a0_ : Nat) (ma0_ : a0_ ∈ L) (ka0_ : kd a0_ = 3) (x1_ : Int32) (bx1_ : bd 0 7 x1_) (y0_ : Int32) (by0_ : bd 1 10 y0_) (y1_ : Int32) (by1_ : bd 3 3 y1_) (hfx : Fs L kd f0 [(3, 0, a0_, .int y0_), (3, 4, a0_, .int y1_)]) : Met l yX3_addMake (.code yX3_addMake cX3_addMake 2 none :: lw_g) ({ frames := 0, cells := 0, slots := 0, locals := 0 }) (va_Pc [.ref a0_, .int x1_] (P3 (dC, dI) L tys f0 sz)) (va_Qv (fun (f : Nat → va_E) => (True)) (Q3 (dC, dI) L kd tys [] [] f0 sz) (pA L sz)) 0 0 (pA L sz) := by
  refine Met.ofW (cc := cX3_addMake) (maxL := 2) (ret := none) (by decide) rfl ?_
  intro p e s m args below meth c s₁ B hml hv
  obtain ⟨rfl, hsz, hP, hK, hD0⟩ := hv
  have hx := B.exec
  have hb := B.bytes
  have hr := B.returns
  have hts := atoms_spec (ws := (.code yX3_addMake cX3_addMake 2 none :: lw_g)) B.pre
  have hown : s.vm.findClass RX3 = some m.cls := findClass_of_methodNamed B.named
  have hlocks := B.notSynchronized
  subst hsz
  have g : G3 (dC, dI) L kd tys s f0 [] [] f0 s.heap [] [(3, 0, a0_, .int y0_), (3, 4, a0_, .int y1_)] := G3.start hP hD0 hWT hfx
  have hl := lv_entry ([.ref a0_, .int x1_]) (n := 2) (Nat.le_of_ble_eq_true rfl)
  rw [lg_entry_eq]
  generalize (lg_sl ([.ref a0_, .int x1_]) ++ List.replicate (2 - (lg_sl ([.ref a0_, .int x1_])).length) Slot.unset).toArray = ls at hl ⊢
  have hl : lv_has ls 2 [(0, .ref a0_), (1, .int x1_)] := hl
  refine W_q (fun Q hQ => ?_)
  refine lv_aload_n hx hb dX3_addMake_0 rfl (lv_at hl 0 rfl) ?_
  refine g_getk (C := RX3) (T := TX3) (N := 6) hx hb hts (mc_ inX3) hown hK g rfl 0 (by decide) rfl (hts _ (List.mem_cons_of_mem _ t_801)) (fun _ h9 => h9) 0 rfl dX3_addMake_1 ?_
  refine lv_bipush (v := 10) hx hb dX3_addMake_4 (by decide) ?_
  have kb_10 : bd 10 10 (10 : Int32) := ⟨by decide, by decide⟩
  refine lv_icmp_ge (tgt := 63) hx hb dX3_addMake_6 (by decide) (fun c_1 => ?_) (fun c_1 => ?_)
  · have fc_1 := le_f c_1
    have b_2 : bd 10 10 y0_ := leR fc_1 kb_10 by0_ (by decide)
    subst hQ
    exact W.vret hx hb hr (fun t ht hW => ⟨⟨_, rfl, trivial, q3_of g hK ht hW⟩, g.2.2.1.F ht⟩) g.2.2.1.2.2 dX3_addMake_63
  · have fc_1 := nle_f c_1
    have b_3 : bd 1 9 y0_ := ltL fc_1 by0_ kb_10 (by decide)
    refine lv_aload_n hx hb dX3_addMake_9 rfl (lv_at hl 0 rfl) ?_
    refine g_getk (C := RX3) (T := TX3) (N := 6) hx hb hts (mc_ inX3) hown hK g rfl 4 (by decide) rfl (hts _ (List.mem_cons_of_mem _ t_813)) (fun _ h9 => h9) 1 rfl dX3_addMake_10 ?_
    refine lv_iconst (v := 3) hx hb dX3_addMake_13 (by decide) ?_
    have kb_3 : bd 3 3 (3 : Int32) := ⟨by decide, by decide⟩
    refine lv_icmp_ge (tgt := 63) hx hb dX3_addMake_14 (by decide) (fun c_4 => ?_) (fun c_4 => ?_)
    · have fc_4 := le_f c_4
      subst hQ
      exact W.vret hx hb hr (fun t ht hW => ⟨⟨_, rfl, trivial, q3_of g hK ht hW⟩, g.2.2.1.F ht⟩) g.2.2.1.2.2 dX3_addMake_63
    · have fc_4 := nle_f c_4
      have b_5 : bd 3 2 y1_ := ltL fc_4 by1_ kb_3 (by decide)
      exact bd_no b_5 (by decide)
set_option maxHeartbeats 4000000 in
set_option maxRecDepth 100000 in
theorem r_X3_setTo_6 (l : Launch) (dC : Nat → ClassId) (dI : Nat → Nat → Nat) (L : List Nat) (kd : Nat → Nat) (tys : List (ClassId × FieldType)) (f0 : Nat → va_E) (sz : Nat) (hWT : WT L kd tys f0) (a0_ : Nat) (ma0_ : a0_ ∈ L) (ka0_ : kd a0_ = 3) (x1_ : Int32) (bx1_ : bd 1 9 x1_) (x2_ : Int32) (bx2_ : bd 1 2 x2_) (x3_ : Int32) (bx3_ : bd (-1) (-1) x3_) (x4_ : Int32) (bx4_ : bd 0 7 x4_) (x5_ : Int32) (bx5_ : bd 0 0 x5_) (x6_ : Int32) (bx6_ : bd 0 0 x6_) (y0_ : Int32) (by0_ : bd 1 9 y0_) (y1_ : Int32) (by1_ : bd 1 2 y1_) (hfx : Fs L kd f0 [(3, 0, a0_, .int y0_), (3, 4, a0_, .int y1_)]) : Met l yX3_setTo (.code yX3_setTo cX3_setTo 7 none :: lw_g) ({ frames := 0, cells := 0, slots := 0, locals := 0 }) (va_Pc [.ref a0_, .int x1_, .int x2_, .int x3_, .int x4_, .int x5_, .int x6_] (P3 (dC, dI) L tys f0 sz)) (va_Qv (fun (f : Nat → va_E) => (True)) (Q3 (dC, dI) L kd tys [] [103, 122, 123] f0 sz) (pA L sz)) 0 0 (pA L sz) := by
  refine Met.ofW (cc := cX3_setTo) (maxL := 7) (ret := none) (by decide) rfl ?_
  intro p e s m args below meth c s₁ B hml hv
  obtain ⟨rfl, hsz, hP, hK, hD0⟩ := hv
  have hx := B.exec
  have hb := B.bytes
  have hr := B.returns
  have hts := atoms_spec (ws := (.code yX3_setTo cX3_setTo 7 none :: lw_g)) B.pre
  have hown : s.vm.findClass RX3 = some m.cls := findClass_of_methodNamed B.named
  have hlocks := B.notSynchronized
  subst hsz
  have g : G3 (dC, dI) L kd tys s f0 [] [103, 122, 123] f0 s.heap [] [(3, 0, a0_, .int y0_), (3, 4, a0_, .int y1_)] := G3.start hP hD0 hWT hfx
  have hl := lv_entry ([.ref a0_, .int x1_, .int x2_, .int x3_, .int x4_, .int x5_, .int x6_]) (n := 7) (Nat.le_of_ble_eq_true rfl)
  rw [lg_entry_eq]
  generalize (lg_sl ([.ref a0_, .int x1_, .int x2_, .int x3_, .int x4_, .int x5_, .int x6_]) ++ List.replicate (7 - (lg_sl ([.ref a0_, .int x1_, .int x2_, .int x3_, .int x4_, .int x5_, .int x6_])).length) Slot.unset).toArray = ls at hl ⊢
  have hl : lv_has ls 7 [(0, .ref a0_), (1, .int x1_), (2, .int x2_), (3, .int x3_), (4, .int x4_), (5, .int x5_), (6, .int x6_)] := hl
  refine W_q (fun Q hQ => ?_)
  refine lv_aload_n hx hb dX3_setTo_0 rfl (lv_at hl 0 rfl) ?_
  refine g_getr (K := 122) (C := RX3) (T := TX3) (N := 6) hx hb hts (mc_ inX3) hown hK g ma0_ ka0_ (by decide) rfl 1 (by decide) rfl (hts _ (List.mem_cons_of_mem _ t_804)) (fun _ h9 => h9) rfl dX3_setTo_1 (fun a_1 ma_1 ka_1 g => ?_)
  refine lv_iload_n hx hb dX3_setTo_4 rfl (lv_at hl 1 rfl) ?_
  refine lv_iload_n hx hb dX3_setTo_5 rfl (lv_at hl 2 rfl) ?_
  refine g_iast hx hb hK g ma_1 ka_1 (by decide) rfl (in_bd bx1_ (by decide)) (bd_sub bx2_ (by decide)) (by decide) dX3_setTo_6 (fun f H locs hM_2 g => ?_)
  refine lv_aload_n hx hb dX3_setTo_7 rfl (lv_at hl 0 rfl) ?_
  refine g_getr (K := 123) (C := RX3) (T := TX3) (N := 6) hx hb hts (mc_ inX3) hown hK g ma0_ ka0_ (by decide) rfl 2 (by decide) rfl (hts _ (List.mem_cons_of_mem _ t_807)) (fun _ h9 => h9) rfl dX3_setTo_8 (fun a_3 ma_3 ka_3 g => ?_)
  refine lv_iload_n hx hb dX3_setTo_11 rfl (lv_at hl 1 rfl) ?_
  refine lv_iload_n hx hb dX3_setTo_12 rfl (lv_at hl 3 rfl) ?_
  refine g_iast hx hb hK g ma_3 ka_3 (by decide) rfl (in_bd bx1_ (by decide)) (bd_sub bx3_ (by decide)) (by decide) dX3_setTo_13 (fun f H locs hM_4 g => ?_)
  refine lv_aload_n hx hb dX3_setTo_14 rfl (lv_at hl 0 rfl) ?_
  refine g_getr (K := 124) (C := RX3) (T := TX3) (N := 6) hx hb hts (mc_ inX3) hown hK g ma0_ ka0_ (by decide) rfl 3 (by decide) rfl (hts _ (List.mem_cons_of_mem _ t_810)) (fun _ h9 => h9) rfl dX3_setTo_15 (fun a_5 ma_5 ka_5 g => ?_)
  refine lv_iload_n hx hb dX3_setTo_18 rfl (lv_at hl 1 rfl) ?_
  refine g_aald hx hb hK g ma_5 ka_5 (by decide) rfl (by decide) (in_bd bx1_ (by decide)) dX3_setTo_19 (fun a_6 ma_6 ua_6 wa_6 => ?_)
  have ka_6 : kd a_6 = 103 := by omega
  refine lv_iconst (v := 0) hx hb dX3_setTo_20 (by decide) ?_
  refine lv_iload hx hb dX3_setTo_21 (lv_at hl 4 rfl) ?_
  refine g_iast hx hb hK g ma_6 ka_6 (by decide) rfl (by unfold vp_in; decide) (bd_sub bx4_ (by decide)) (by decide) dX3_setTo_23 (fun f H locs hM_7 g => ?_)
  refine lv_aload_n hx hb dX3_setTo_24 rfl (lv_at hl 0 rfl) ?_
  refine g_getk (C := RX3) (T := TX3) (N := 6) hx hb hts (mc_ inX3) hown hK g rfl 3 (by decide) rfl (hts _ (List.mem_cons_of_mem _ t_810)) (fun _ h9 => h9) 0 rfl dX3_setTo_25 ?_
  refine lv_iload_n hx hb dX3_setTo_28 rfl (lv_at hl 1 rfl) ?_
  refine g_aald hx hb hK g ma_5 ka_5 (by decide) rfl (by decide) (in_bd bx1_ (by decide)) dX3_setTo_29 (fun a_8 ma_8 ua_8 wa_8 => ?_)
  have ka_8 : kd a_8 = 103 := by omega
  refine lv_iconst (v := 1) hx hb dX3_setTo_30 (by decide) ?_
  refine lv_iload hx hb dX3_setTo_31 (lv_at hl 5 rfl) ?_
  refine g_iast hx hb hK g ma_8 ka_8 (by decide) rfl (by unfold vp_in; decide) (bd_sub bx5_ (by decide)) (by decide) dX3_setTo_33 (fun f H locs hM_9 g => ?_)
  refine lv_aload_n hx hb dX3_setTo_34 rfl (lv_at hl 0 rfl) ?_
  refine g_getk (C := RX3) (T := TX3) (N := 6) hx hb hts (mc_ inX3) hown hK g rfl 3 (by decide) rfl (hts _ (List.mem_cons_of_mem _ t_810)) (fun _ h9 => h9) 0 rfl dX3_setTo_35 ?_
  refine lv_iload_n hx hb dX3_setTo_38 rfl (lv_at hl 1 rfl) ?_
  refine g_aald hx hb hK g ma_5 ka_5 (by decide) rfl (by decide) (in_bd bx1_ (by decide)) dX3_setTo_39 (fun a_10 ma_10 ua_10 wa_10 => ?_)
  have ka_10 : kd a_10 = 103 := by omega
  refine lv_iconst (v := 2) hx hb dX3_setTo_40 (by decide) ?_
  refine lv_iload hx hb dX3_setTo_41 (lv_at hl 6 rfl) ?_
  refine g_iast hx hb hK g ma_10 ka_10 (by decide) rfl (by unfold vp_in; decide) (bd_sub bx6_ (by decide)) (by decide) dX3_setTo_43 (fun f H locs hM_11 g => ?_)
  subst hQ
  exact W.vret hx hb hr (fun t ht hW => ⟨⟨_, rfl, trivial, q3_of g hK ht hW⟩, g.2.2.1.F ht⟩) g.2.2.1.2.2 dX3_setTo_44
set_option maxHeartbeats 4000000 in
set_option maxRecDepth 100000 in
theorem r_X3_addMake_5 (l : Launch) (dC : Nat → ClassId) (dI : Nat → Nat → Nat) (L : List Nat) (kd : Nat → Nat) (tys : List (ClassId × FieldType)) (f0 : Nat → va_E) (sz : Nat) (hWT : WT L kd tys f0) (a0_ : Nat) (ma0_ : a0_ ∈ L) (ka0_ : kd a0_ = 3) (x1_ : Int32) (bx1_ : bd 0 7 x1_) (y0_ : Int32) (by0_ : bd 1 10 y0_) (y1_ : Int32) (by1_ : bd 1 2 y1_) (hfx : Fs L kd f0 [(3, 0, a0_, .int y0_), (3, 4, a0_, .int y1_)]) : Met l yX3_addMake (.code yX3_addMake cX3_addMake 2 none :: lw_g) ({ frames := 1, cells := 0, slots := 0, locals := 26 }) (va_Pc [.ref a0_, .int x1_] (P3 (dC, dI) L tys f0 sz)) (va_Qv (fun (f : Nat → va_E) => (∃ z0_ : Int32, bd 2 10 z0_ ∧ ∃ z1_ : Int32, bd 1 3 z1_ ∧ Fs L kd f [(3, 0, a0_, .int z0_), (3, 4, a0_, .int z1_)])) (Q3 (dC, dI) L kd tys [(3, 0), (3, 4)] [103, 122, 123, 125] f0 sz) (pA L sz)) 0 0 (pA L sz) := by
  refine Met.ofW (cc := cX3_addMake) (maxL := 2) (ret := none) (by decide) rfl ?_
  intro p e s m args below meth c s₁ B hml hv
  obtain ⟨rfl, hsz, hP, hK, hD0⟩ := hv
  have hx := B.exec
  have hb := B.bytes
  have hr := B.returns
  have hts := atoms_spec (ws := (.code yX3_addMake cX3_addMake 2 none :: lw_g)) B.pre
  have hown : s.vm.findClass RX3 = some m.cls := findClass_of_methodNamed B.named
  have hlocks := B.notSynchronized
  subst hsz
  have g : G3 (dC, dI) L kd tys s f0 [(3, 0), (3, 4)] [103, 122, 123, 125] f0 s.heap [] [(3, 0, a0_, .int y0_), (3, 4, a0_, .int y1_)] := G3.start hP hD0 hWT hfx
  have hl := lv_entry ([.ref a0_, .int x1_]) (n := 2) (Nat.le_of_ble_eq_true rfl)
  rw [lg_entry_eq]
  generalize (lg_sl ([.ref a0_, .int x1_]) ++ List.replicate (2 - (lg_sl ([.ref a0_, .int x1_])).length) Slot.unset).toArray = ls at hl ⊢
  have hl : lv_has ls 2 [(0, .ref a0_), (1, .int x1_)] := hl
  refine W_q (fun Q hQ => ?_)
  refine lv_aload_n hx hb dX3_addMake_0 rfl (lv_at hl 0 rfl) ?_
  refine g_getk (C := RX3) (T := TX3) (N := 6) hx hb hts (mc_ inX3) hown hK g rfl 0 (by decide) rfl (hts _ (List.mem_cons_of_mem _ t_801)) (fun _ h9 => h9) 0 rfl dX3_addMake_1 ?_
  refine lv_bipush (v := 10) hx hb dX3_addMake_4 (by decide) ?_
  have kb_10 : bd 10 10 (10 : Int32) := ⟨by decide, by decide⟩
  refine lv_icmp_ge (tgt := 63) hx hb dX3_addMake_6 (by decide) (fun c_1 => ?_) (fun c_1 => ?_)
  · have fc_1 := le_f c_1
    have b_2 : bd 10 10 y0_ := leR fc_1 kb_10 by0_ (by decide)
    subst hQ
    exact W.vret hx hb hr (fun t ht hW => ⟨⟨_, rfl, ⟨y0_, (bd_sub b_2 (by decide)), y1_, (bd_sub by1_ (by decide)), (g.fcts [0, 1] rfl)⟩, q3_of g hK ht hW⟩, g.2.2.1.F ht⟩) g.2.2.1.2.2 dX3_addMake_63
  · have fc_1 := nle_f c_1
    have b_3 : bd 1 9 y0_ := ltL fc_1 by0_ kb_10 (by decide)
    refine lv_aload_n hx hb dX3_addMake_9 rfl (lv_at hl 0 rfl) ?_
    refine g_getk (C := RX3) (T := TX3) (N := 6) hx hb hts (mc_ inX3) hown hK g rfl 4 (by decide) rfl (hts _ (List.mem_cons_of_mem _ t_813)) (fun _ h9 => h9) 1 rfl dX3_addMake_10 ?_
    refine lv_iconst (v := 3) hx hb dX3_addMake_13 (by decide) ?_
    have kb_3 : bd 3 3 (3 : Int32) := ⟨by decide, by decide⟩
    refine lv_icmp_ge (tgt := 63) hx hb dX3_addMake_14 (by decide) (fun c_4 => ?_) (fun c_4 => ?_)
    · have fc_4 := le_f c_4
      have b_5 : bd 3 2 (3 : Int32) := leL fc_4 kb_3 by1_ (by decide)
      exact bd_no (eqX rfl b_5 kb_3 (lo := 3) (hi := 2) (by decide)) (by decide)
    · have fc_4 := nle_f c_4
      refine lv_aload_n hx hb dX3_addMake_17 rfl (lv_at hl 0 rfl) ?_
      refine g_getr (K := 125) (C := RX3) (T := TX3) (N := 6) hx hb hts (mc_ inX3) hown hK g ma0_ ka0_ (by decide) rfl 5 (by decide) rfl (hts _ (List.mem_cons_of_mem _ t_815)) (fun _ h9 => h9) rfl dX3_addMake_18 (fun a_6 ma_6 ka_6 g => ?_)
      refine lv_aload_n hx hb dX3_addMake_21 rfl (lv_at hl 0 rfl) ?_
      refine g_getk (C := RX3) (T := TX3) (N := 6) hx hb hts (mc_ inX3) hown hK g rfl 4 (by decide) rfl (hts _ (List.mem_cons_of_mem _ t_813)) (fun _ h9 => h9) 2 rfl dX3_addMake_22 ?_
      refine lv_iload_n hx hb dX3_addMake_25 rfl (lv_at hl 1 rfl) ?_
      refine g_iast hx hb hK g ma_6 ka_6 (by decide) rfl (in_bd by1_ (by decide)) bx1_ (by decide) dX3_addMake_26 (fun f H locs hM_7 g => ?_)
      refine lv_aload_n hx hb dX3_addMake_27 rfl (lv_at hl 0 rfl) ?_
      refine lv_aload_n hx hb dX3_addMake_28 rfl (lv_at hl 0 rfl) ?_
      refine g_getk (C := RX3) (T := TX3) (N := 6) hx hb hts (mc_ inX3) hown hK g rfl 0 (by decide) rfl (hts _ (List.mem_cons_of_mem _ t_801)) (fun _ h9 => h9) 1 rfl dX3_addMake_29 ?_
      refine lv_aload_n hx hb dX3_addMake_32 rfl (lv_at hl 0 rfl) ?_
      refine g_getk (C := RX3) (T := TX3) (N := 6) hx hb hts (mc_ inX3) hown hK g rfl 4 (by decide) rfl (hts _ (List.mem_cons_of_mem _ t_813)) (fun _ h9 => h9) 2 rfl dX3_addMake_33 ?_
      refine lv_iconst (v := (-1)) hx hb dX3_addMake_36 (by decide) ?_
      refine lv_iload_n hx hb dX3_addMake_37 rfl (lv_at hl 1 rfl) ?_
      refine lv_iconst (v := 0) hx hb dX3_addMake_38 (by decide) ?_
      refine lv_iconst (v := 0) hx hb dX3_addMake_39 (by decide) ?_
      have kb_m1 : bd (-1) (-1) ((-1) : Int32) := ⟨by decide, by decide⟩
      have kb_0 : bd 0 0 (0 : Int32) := ⟨by decide, by decide⟩
      refine g_callv (va_runV (As := [.int y0_, .int y1_, .int (-1), .int x1_, .int 0, .int 0]) (rest := []) ⟨hx, hb, hml, hown, hts⟩ (r_X3_setTo_6 l dC dI L kd tys f H.size g.2.2.2.1 a0_ ma0_ ka0_ y0_ b_3 y1_ by1_ (-1) kb_m1 x1_ bx1_ 0 kb_0 0 kb_0 y0_ b_3 y1_ by1_ (g.fcts [1, 2] rfl)) (cwV 6 hts (gV_ t_1485 t_1487 t_52 t_196 t_1488) rfl rfl rfl (by decide +kernel) ⟨(Nat.le_of_ble_eq_true rfl), (Nat.le_of_ble_eq_true rfl)⟩) (pre3V g hK ma0_ ka0_ (by decide) (q := (RX3, TX3, 6)) rfl) rfl rfl hl.1 rfl (lv_room (Nat.le_of_ble_eq_true rfl)) dX3_addMake_40 ⟨(Nat.le_of_ble_eq_true rfl), (Nat.le_of_ble_eq_true rfl)⟩) g hK (by decide) (by decide) (fx' := [(3, 5, a0_, .ref a_6), (3, 0, a0_, .int y0_), (3, 4, a0_, .int y1_)]) rfl (fun fr_8 H locs hp hMr_8 g => ?_)
      refine lv_aload_n hx hb dX3_addMake_43 rfl (lv_at hl 0 rfl) ?_
      refine lv_dup hx hb dX3_addMake_44 rfl ?_
      refine g_getk (C := RX3) (T := TX3) (N := 6) hx hb hts (mc_ inX3) hown hK g rfl 4 (by decide) rfl (hts _ (List.mem_cons_of_mem _ t_813)) (fun _ h9 => h9) 2 rfl dX3_addMake_45 ?_
      refine lv_iconst (v := 1) hx hb dX3_addMake_48 (by decide) ?_
      have kb_1 : bd 1 1 (1 : Int32) := ⟨by decide, by decide⟩
      refine lv_iadd hx hb dX3_addMake_49 ?_
      refine lv_topi (fun y_9 ey_9 => ?_)
      have ty_9 := add_bd ey_9 by1_ kb_1 (by decide)
      have b_10 : bd 2 3 y_9 := add_rg ty_9 by1_ kb_1 (by decide)
      refine g_put (C := RX3) (T := TX3) (N := 6) hx hb hts (mc_ inX3) tyX3 tyX3_ok nmX3 hown hK g ma0_ ka0_ (by decide) rfl 4 (by decide) (hts _ (List.mem_cons_of_mem _ t_813)) (fun _ h9 => h9) rfl rfl (okV_i (bd_sub b_10 (by decide))) rfl rfl (by decide) (Or.inr (Or.inl (by decide))) (fx' := [(3, 5, a0_, .ref a_6), (3, 0, a0_, .int y0_)]) rfl dX3_addMake_50 (fun f H locs hM_11 g => ?_)
      refine lv_aload_n hx hb dX3_addMake_53 rfl (lv_at hl 0 rfl) ?_
      refine lv_dup hx hb dX3_addMake_54 rfl ?_
      refine g_getk (C := RX3) (T := TX3) (N := 6) hx hb hts (mc_ inX3) hown hK g rfl 0 (by decide) rfl (hts _ (List.mem_cons_of_mem _ t_801)) (fun _ h9 => h9) 2 rfl dX3_addMake_55 ?_
      refine lv_iconst (v := 1) hx hb dX3_addMake_58 (by decide) ?_
      refine lv_iadd hx hb dX3_addMake_59 ?_
      refine lv_topi (fun y_12 ey_12 => ?_)
      have ty_12 := add_bd ey_12 b_3 kb_1 (by decide)
      have b_13 : bd 2 10 y_12 := add_rg ty_12 b_3 kb_1 (by decide)
      refine g_put (C := RX3) (T := TX3) (N := 6) hx hb hts (mc_ inX3) tyX3 tyX3_ok nmX3 hown hK g ma0_ ka0_ (by decide) rfl 0 (by decide) (hts _ (List.mem_cons_of_mem _ t_801)) (fun _ h9 => h9) rfl rfl (okV_i (bd_sub b_13 (by decide))) rfl rfl (by decide) (Or.inr (Or.inl (by decide))) (fx' := [(3, 4, a0_, .int y_9), (3, 5, a0_, .ref a_6)]) rfl dX3_addMake_60 (fun f H locs hM_14 g => ?_)
      subst hQ
      exact W.vret hx hb hr (fun t ht hW => ⟨⟨_, rfl, ⟨y_12, b_13, y_9, (bd_sub b_10 (by decide)), (g.fcts [0, 1] rfl)⟩, q3_of g hK ht hW⟩, g.2.2.1.F ht⟩) g.2.2.1.2.2 dX3_addMake_63
