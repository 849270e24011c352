set_option maxHeartbeats 4000000 in
set_option maxRecDepth 100000 in
theorem r_X9_addField_6 (l : Launch) (dC : Nat → ClassId) (dI : Nat → Nat → Nat) (L : List Nat) (kd : Nat → Nat) (tys : List (ClassId × FieldType)) (f0 : Nat → va_E) (sz : Nat) (hWT : WT L kd tys f0) (a0_ : Nat) (ma0_ : a0_ ∈ L) (ka0_ : kd a0_ = 9) (x1_ : Int64) (x2_ : Int32) (bx2_ : bd 2 2 x2_) (x3_ : Int32) (y0_ : Int32) (by0_ : bd 0 22 y0_) (y1_ : Int32) (by1_ : bd 0 9 y1_) (hfx : Fs L kd f0 [(9, 7, a0_, .int y0_), (9, 2, a0_, .int y1_)]) : Met l yX9_addField (.code yX9_addField cX9_addField 5 none :: lw_g) ({ frames := 1, cells := 0, slots := 0, locals := 15 }) (va_Pc [.ref a0_, .long x1_, .int x2_, .int x3_] (P3 (dC, dI) L tys f0 sz)) (va_Qv (fun (f : Nat → va_E) => (∃ z0_ : Int32, bd 1 10 z0_ ∧ ∃ z1_ : Int32, bd 2 24 z1_ ∧ Fs L kd f [(9, 2, a0_, .int z0_), (9, 7, a0_, .int z1_)])) (Q3 (dC, dI) L kd tys [(9, 2), (9, 7)] [152, 153, 154, 155] f0 sz) (pA L sz)) 0 0 (pA L sz) := by
  refine Met.ofW (cc := cX9_addField) (maxL := 5) (ret := none) (by decide) rfl ?_
  intro p e s m args below meth c s₁ B hml hv
  obtain ⟨rfl, hsz, hP, hK, hD0⟩ := hv
  have hx := B.exec
  have hb := B.bytes
  have hr := B.returns
  have hts := atoms_spec (ws := (.code yX9_addField cX9_addField 5 none :: lw_g)) B.pre
  have hown : s.vm.findClass RX9 = some m.cls := findClass_of_methodNamed B.named
  have hlocks := B.notSynchronized
  subst hsz
  have g : G3 (dC, dI) L kd tys s f0 [(9, 2), (9, 7)] [152, 153, 154, 155] f0 s.heap [] [(9, 7, a0_, .int y0_), (9, 2, a0_, .int y1_)] := G3.start hP hD0 hWT hfx
  have hl := lv_entry ([.ref a0_, .long x1_, .int x2_, .int x3_]) (n := 5) (Nat.le_of_ble_eq_true rfl)
  rw [lg_entry_eq]
  generalize (lg_sl ([.ref a0_, .long x1_, .int x2_, .int x3_]) ++ List.replicate (5 - (lg_sl ([.ref a0_, .long x1_, .int x2_, .int x3_])).length) Slot.unset).toArray = ls at hl ⊢
  have hl : lv_has ls 5 [(0, .ref a0_), (1, .long x1_), (3, .int x2_), (4, .int x3_)] := hl
  refine W_q (fun Q hQ => ?_)
  refine lv_aload_n hx hb dX9_addField_0 rfl (lv_at hl 0 rfl) ?_
  refine g_getk (C := RX9) (T := TX9) (N := 13) hx hb hts (mc_ inX9) hown hK g rfl 2 (by decide) rfl (hts _ (List.mem_cons_of_mem _ t_485)) (fun _ h9 => h9) 1 rfl dX9_addField_1 ?_
  refine lv_bipush (v := 10) hx hb dX9_addField_4 (by decide) ?_
  have kb_10 : bd 10 10 (10 : Int32) := ⟨by decide, by decide⟩
  refine lv_icmp_ge (tgt := 77) hx hb dX9_addField_6 (by decide) (fun c_1 => ?_) (fun c_1 => ?_)
  · have fc_1 := le_f c_1
    have b_2 : bd 10 9 (10 : Int32) := leL fc_1 kb_10 by1_ (by decide)
    exact bd_no (eqX rfl b_2 kb_10 (lo := 10) (hi := 9) (by decide)) (by decide)
  · have fc_1 := nle_f c_1
    refine lv_aload_n hx hb dX9_addField_9 rfl (lv_at hl 0 rfl) ?_
    refine g_getr (K := 152) (C := RX9) (T := TX9) (N := 13) hx hb hts (mc_ inX9) hown hK g ma0_ ka0_ (by decide) rfl 3 (by decide) rfl (hts _ (List.mem_cons_of_mem _ t_488)) (fun _ h9 => h9) rfl dX9_addField_10 (fun a_3 ma_3 ka_3 g => ?_)
    refine lv_aload_n hx hb dX9_addField_13 rfl (lv_at hl 0 rfl) ?_
    refine g_getk (C := RX9) (T := TX9) (N := 13) hx hb hts (mc_ inX9) hown hK g rfl 2 (by decide) rfl (hts _ (List.mem_cons_of_mem _ t_485)) (fun _ h9 => h9) 2 rfl dX9_addField_14 ?_
    refine lv_lload_n hx hb dX9_addField_17 rfl (lv_at hl 1 rfl) ?_
    refine g_last hx hb hK g ma_3 ka_3 (by decide) rfl (in_bd by1_ (by decide)) (by decide) dX9_addField_18 (fun f H locs hM_4 g => ?_)
    refine lv_aload_n hx hb dX9_addField_19 rfl (lv_at hl 0 rfl) ?_
    refine g_getr (K := 153) (C := RX9) (T := TX9) (N := 13) hx hb hts (mc_ inX9) hown hK g ma0_ ka0_ (by decide) rfl 4 (by decide) rfl (hts _ (List.mem_cons_of_mem _ t_489)) (fun _ h9 => h9) rfl dX9_addField_20 (fun a_5 ma_5 ka_5 g => ?_)
    refine lv_aload_n hx hb dX9_addField_23 rfl (lv_at hl 0 rfl) ?_
    refine g_getk (C := RX9) (T := TX9) (N := 13) hx hb hts (mc_ inX9) hown hK g rfl 2 (by decide) rfl (hts _ (List.mem_cons_of_mem _ t_485)) (fun _ h9 => h9) 3 rfl dX9_addField_24 ?_
    refine lv_aload_n hx hb dX9_addField_27 rfl (lv_at hl 0 rfl) ?_
    refine g_getk (C := RX9) (T := TX9) (N := 13) hx hb hts (mc_ inX9) hown hK g rfl 7 (by decide) rfl (hts _ (List.mem_cons_of_mem _ t_493)) (fun _ h9 => h9) 2 rfl dX9_addField_28 ?_
    refine g_iast hx hb hK g ma_5 ka_5 (by decide) rfl (in_bd by1_ (by decide)) (bd_sub by0_ (by decide)) (by decide) dX9_addField_31 (fun f H locs hM_6 g => ?_)
    refine lv_aload_n hx hb dX9_addField_32 rfl (lv_at hl 0 rfl) ?_
    refine g_getr (K := 154) (C := RX9) (T := TX9) (N := 13) hx hb hts (mc_ inX9) hown hK g ma0_ ka0_ (by decide) rfl 5 (by decide) rfl (hts _ (List.mem_cons_of_mem _ t_490)) (fun _ h9 => h9) rfl dX9_addField_33 (fun a_7 ma_7 ka_7 g => ?_)
    refine lv_aload_n hx hb dX9_addField_36 rfl (lv_at hl 0 rfl) ?_
    refine g_getk (C := RX9) (T := TX9) (N := 13) hx hb hts (mc_ inX9) hown hK g rfl 2 (by decide) rfl (hts _ (List.mem_cons_of_mem _ t_485)) (fun _ h9 => h9) 4 rfl dX9_addField_37 ?_
    refine lv_iload_n hx hb dX9_addField_40 rfl (lv_at hl 2 rfl) ?_
    refine g_iast hx hb hK g ma_7 ka_7 (by decide) rfl (in_bd by1_ (by decide)) (bd_sub bx2_ (by decide)) (by decide) dX9_addField_41 (fun f H locs hM_8 g => ?_)
    refine lv_aload_n hx hb dX9_addField_42 rfl (lv_at hl 0 rfl) ?_
    refine g_getr (K := 155) (C := RX9) (T := TX9) (N := 13) hx hb hts (mc_ inX9) hown hK g ma0_ ka0_ (by decide) rfl 6 (by decide) rfl (hts _ (List.mem_cons_of_mem _ t_492)) (fun _ h9 => h9) rfl dX9_addField_43 (fun a_9 ma_9 ka_9 g => ?_)
    refine lv_aload_n hx hb dX9_addField_46 rfl (lv_at hl 0 rfl) ?_
    refine g_getk (C := RX9) (T := TX9) (N := 13) hx hb hts (mc_ inX9) hown hK g rfl 2 (by decide) rfl (hts _ (List.mem_cons_of_mem _ t_485)) (fun _ h9 => h9) 5 rfl dX9_addField_47 ?_
    refine lv_iload hx hb dX9_addField_50 (lv_at hl 3 rfl) ?_
    refine g_iast hx hb hK g ma_9 ka_9 (by decide) rfl (in_bd by1_ (by decide)) (bdT x3_) (by decide) dX9_addField_52 (fun f H locs hM_10 g => ?_)
    refine lv_aload_n hx hb dX9_addField_53 rfl (lv_at hl 0 rfl) ?_
    refine lv_dup hx hb dX9_addField_54 rfl ?_
    refine g_getk (C := RX9) (T := TX9) (N := 13) hx hb hts (mc_ inX9) hown hK g rfl 7 (by decide) rfl (hts _ (List.mem_cons_of_mem _ t_493)) (fun _ h9 => h9) 4 rfl dX9_addField_55 ?_
    refine lv_iload_n hx hb dX9_addField_58 rfl (lv_at hl 2 rfl) ?_
    refine lv_iconst (v := 1) hx hb dX9_addField_59 (by decide) ?_
    have kb_1 : bd 1 1 (1 : Int32) := ⟨by decide, by decide⟩
    refine va_mmax hx hb (hml.trans hl.1.symm) hown (hts _ (List.mem_cons_of_mem _ t_1168)) (hts _ (List.mem_cons_of_mem _ t_1041)) (hts _ (List.mem_cons_of_mem _ t_204)) (hts _ (List.mem_cons_of_mem _ t_1042)) (Nat.le_of_ble_eq_true rfl) (Nat.le_of_ble_eq_true rfl) (Nat.le_of_ble_eq_true rfl) (Nat.le_of_ble_eq_true rfl) dX9_addField_60 ?_
    refine lv_topi (fun y_11 ey_11 => ?_)
    have ty_11 : y_11.toInt = max x2_.toInt (1 : Int32).toInt := by rw [ey_11]; exact mmax_ok _ _
    have b_12 : bd 2 2 y_11 := max_rg ty_11 bx2_ kb_1 (by decide)
    refine lv_iadd hx hb dX9_addField_63 ?_
    refine lv_topi (fun y_13 ey_13 => ?_)
    have ty_13 := add_bd ey_13 by0_ b_12 (by decide)
    have b_14 : bd 2 24 y_13 := add_rg ty_13 by0_ b_12 (by decide)
    refine g_put (C := RX9) (T := TX9) (N := 13) hx hb hts (mc_ inX9) tyX9 tyX9_ok nmX9 hown hK g ma0_ ka0_ (by decide) rfl 7 (by decide) (hts _ (List.mem_cons_of_mem _ t_493)) (fun _ h9 => h9) rfl rfl (okV_i (bd_sub b_14 (by decide))) rfl rfl (by decide) (Or.inr (Or.inl (by decide))) (fx' := [(9, 6, a0_, .ref a_9), (9, 5, a0_, .ref a_7), (9, 4, a0_, .ref a_5), (9, 3, a0_, .ref a_3), (9, 2, a0_, .int y1_)]) rfl dX9_addField_64 (fun f H locs hM_15 g => ?_)
    refine lv_aload_n hx hb dX9_addField_67 rfl (lv_at hl 0 rfl) ?_
    refine lv_dup hx hb dX9_addField_68 rfl ?_
    refine g_getk (C := RX9) (T := TX9) (N := 13) hx hb hts (mc_ inX9) hown hK g rfl 2 (by decide) rfl (hts _ (List.mem_cons_of_mem _ t_485)) (fun _ h9 => h9) 5 rfl dX9_addField_69 ?_
    refine lv_iconst (v := 1) hx hb dX9_addField_72 (by decide) ?_
    refine lv_iadd hx hb dX9_addField_73 ?_
    refine lv_topi (fun y_16 ey_16 => ?_)
    have ty_16 := add_bd ey_16 by1_ kb_1 (by decide)
    have b_17 : bd 1 10 y_16 := add_rg ty_16 by1_ kb_1 (by decide)
    refine g_put (C := RX9) (T := TX9) (N := 13) hx hb hts (mc_ inX9) tyX9 tyX9_ok nmX9 hown hK g ma0_ ka0_ (by decide) rfl 2 (by decide) (hts _ (List.mem_cons_of_mem _ t_485)) (fun _ h9 => h9) rfl rfl (okV_i (bd_sub b_17 (by decide))) rfl rfl (by decide) (Or.inr (Or.inl (by decide))) (fx' := [(9, 7, a0_, .int y_13), (9, 6, a0_, .ref a_9), (9, 5, a0_, .ref a_7), (9, 4, a0_, .ref a_5), (9, 3, a0_, .ref a_3)]) rfl dX9_addField_74 (fun f H locs hM_18 g => ?_)
    subst hQ
    exact W.vret hx hb hr (fun t ht hW => ⟨⟨_, rfl, ⟨y_16, b_17, y_13, b_14, (g.fcts [0, 1] rfl)⟩, q3_of g hK ht hW⟩, g.2.2.1.F ht⟩) g.2.2.1.2.2 dX9_addField_77
set_option maxHeartbeats 4000000 in
set_option maxRecDepth 100000 in
theorem r_X9_addField_7 (l : Launch) (dC : Nat → ClassId) (dI : Nat → Nat → Nat) (L : List Nat) (kd : Nat → Nat) (tys : List (ClassId × FieldType)) (f0 : Nat → va_E) (sz : Nat) (hWT : WT L kd tys f0) (a0_ : Nat) (ma0_ : a0_ ∈ L) (ka0_ : kd a0_ = 9) (x1_ : Int64) (x2_ : Int32) (bx2_ : bd 3 3 x2_) (x3_ : Int32) (bx3_ : bd 0 0 x3_) (y0_ : Int32) (by0_ : bd 0 21 y0_) (y1_ : Int32) (by1_ : bd 0 9 y1_) (hfx : Fs L kd f0 [(9, 7, a0_, .int y0_), (9, 2, a0_, .int y1_)]) : Met l yX9_addField (.code yX9_addField cX9_addField 5 none :: lw_g) ({ frames := 1, cells := 0, slots := 0, locals := 15 }) (va_Pc [.ref a0_, .long x1_, .int x2_, .int x3_] (P3 (dC, dI) L tys f0 sz)) (va_Qv (fun (f : Nat → va_E) => (∃ z0_ : Int32, bd 1 10 z0_ ∧ ∃ z1_ : Int32, bd 3 24 z1_ ∧ Fs L kd f [(9, 2, a0_, .int z0_), (9, 7, a0_, .int z1_)])) (Q3 (dC, dI) L kd tys [(9, 2), (9, 7)] [152, 153, 154, 155] f0 sz) (pA L sz)) 0 0 (pA L sz) := by
  refine Met.ofW (cc := cX9_addField) (maxL := 5) (ret := none) (by decide) rfl ?_
  intro p e s m args below meth c s₁ B hml hv
  obtain ⟨rfl, hsz, hP, hK, hD0⟩ := hv
  have hx := B.exec
  have hb := B.bytes
  have hr := B.returns
  have hts := atoms_spec (ws := (.code yX9_addField cX9_addField 5 none :: lw_g)) B.pre
  have hown : s.vm.findClass RX9 = some m.cls := findClass_of_methodNamed B.named
  have hlocks := B.notSynchronized
  subst hsz
  have g : G3 (dC, dI) L kd tys s f0 [(9, 2), (9, 7)] [152, 153, 154, 155] f0 s.heap [] [(9, 7, a0_, .int y0_), (9, 2, a0_, .int y1_)] := G3.start hP hD0 hWT hfx
  have hl := lv_entry ([.ref a0_, .long x1_, .int x2_, .int x3_]) (n := 5) (Nat.le_of_ble_eq_true rfl)
  rw [lg_entry_eq]
  generalize (lg_sl ([.ref a0_, .long x1_, .int x2_, .int x3_]) ++ List.replicate (5 - (lg_sl ([.ref a0_, .long x1_, .int x2_, .int x3_])).length) Slot.unset).toArray = ls at hl ⊢
  have hl : lv_has ls 5 [(0, .ref a0_), (1, .long x1_), (3, .int x2_), (4, .int x3_)] := hl
  refine W_q (fun Q hQ => ?_)
  refine lv_aload_n hx hb dX9_addField_0 rfl (lv_at hl 0 rfl) ?_
  refine g_getk (C := RX9) (T := TX9) (N := 13) hx hb hts (mc_ inX9) hown hK g rfl 2 (by decide) rfl (hts _ (List.mem_cons_of_mem _ t_485)) (fun _ h9 => h9) 1 rfl dX9_addField_1 ?_
  refine lv_bipush (v := 10) hx hb dX9_addField_4 (by decide) ?_
  have kb_10 : bd 10 10 (10 : Int32) := ⟨by decide, by decide⟩
  refine lv_icmp_ge (tgt := 77) hx hb dX9_addField_6 (by decide) (fun c_1 => ?_) (fun c_1 => ?_)
  · have fc_1 := le_f c_1
    have b_2 : bd 10 9 (10 : Int32) := leL fc_1 kb_10 by1_ (by decide)
    exact bd_no (eqX rfl b_2 kb_10 (lo := 10) (hi := 9) (by decide)) (by decide)
  · have fc_1 := nle_f c_1
    refine lv_aload_n hx hb dX9_addField_9 rfl (lv_at hl 0 rfl) ?_
    refine g_getr (K := 152) (C := RX9) (T := TX9) (N := 13) hx hb hts (mc_ inX9) hown hK g ma0_ ka0_ (by decide) rfl 3 (by decide) rfl (hts _ (List.mem_cons_of_mem _ t_488)) (fun _ h9 => h9) rfl dX9_addField_10 (fun a_3 ma_3 ka_3 g => ?_)
    refine lv_aload_n hx hb dX9_addField_13 rfl (lv_at hl 0 rfl) ?_
    refine g_getk (C := RX9) (T := TX9) (N := 13) hx hb hts (mc_ inX9) hown hK g rfl 2 (by decide) rfl (hts _ (List.mem_cons_of_mem _ t_485)) (fun _ h9 => h9) 2 rfl dX9_addField_14 ?_
    refine lv_lload_n hx hb dX9_addField_17 rfl (lv_at hl 1 rfl) ?_
    refine g_last hx hb hK g ma_3 ka_3 (by decide) rfl (in_bd by1_ (by decide)) (by decide) dX9_addField_18 (fun f H locs hM_4 g => ?_)
    refine lv_aload_n hx hb dX9_addField_19 rfl (lv_at hl 0 rfl) ?_
    refine g_getr (K := 153) (C := RX9) (T := TX9) (N := 13) hx hb hts (mc_ inX9) hown hK g ma0_ ka0_ (by decide) rfl 4 (by decide) rfl (hts _ (List.mem_cons_of_mem _ t_489)) (fun _ h9 => h9) rfl dX9_addField_20 (fun a_5 ma_5 ka_5 g => ?_)
    refine lv_aload_n hx hb dX9_addField_23 rfl (lv_at hl 0 rfl) ?_
    refine g_getk (C := RX9) (T := TX9) (N := 13) hx hb hts (mc_ inX9) hown hK g rfl 2 (by decide) rfl (hts _ (List.mem_cons_of_mem _ t_485)) (fun _ h9 => h9) 3 rfl dX9_addField_24 ?_
    refine lv_aload_n hx hb dX9_addField_27 rfl (lv_at hl 0 rfl) ?_
    refine g_getk (C := RX9) (T := TX9) (N := 13) hx hb hts (mc_ inX9) hown hK g rfl 7 (by decide) rfl (hts _ (List.mem_cons_of_mem _ t_493)) (fun _ h9 => h9) 2 rfl dX9_addField_28 ?_
    refine g_iast hx hb hK g ma_5 ka_5 (by decide) rfl (in_bd by1_ (by decide)) (bd_sub by0_ (by decide)) (by decide) dX9_addField_31 (fun f H locs hM_6 g => ?_)
    refine lv_aload_n hx hb dX9_addField_32 rfl (lv_at hl 0 rfl) ?_
    refine g_getr (K := 154) (C := RX9) (T := TX9) (N := 13) hx hb hts (mc_ inX9) hown hK g ma0_ ka0_ (by decide) rfl 5 (by decide) rfl (hts _ (List.mem_cons_of_mem _ t_490)) (fun _ h9 => h9) rfl dX9_addField_33 (fun a_7 ma_7 ka_7 g => ?_)
    refine lv_aload_n hx hb dX9_addField_36 rfl (lv_at hl 0 rfl) ?_
    refine g_getk (C := RX9) (T := TX9) (N := 13) hx hb hts (mc_ inX9) hown hK g rfl 2 (by decide) rfl (hts _ (List.mem_cons_of_mem _ t_485)) (fun _ h9 => h9) 4 rfl dX9_addField_37 ?_
    refine lv_iload_n hx hb dX9_addField_40 rfl (lv_at hl 2 rfl) ?_
    refine g_iast hx hb hK g ma_7 ka_7 (by decide) rfl (in_bd by1_ (by decide)) (bd_sub bx2_ (by decide)) (by decide) dX9_addField_41 (fun f H locs hM_8 g => ?_)
    refine lv_aload_n hx hb dX9_addField_42 rfl (lv_at hl 0 rfl) ?_
    refine g_getr (K := 155) (C := RX9) (T := TX9) (N := 13) hx hb hts (mc_ inX9) hown hK g ma0_ ka0_ (by decide) rfl 6 (by decide) rfl (hts _ (List.mem_cons_of_mem _ t_492)) (fun _ h9 => h9) rfl dX9_addField_43 (fun a_9 ma_9 ka_9 g => ?_)
    refine lv_aload_n hx hb dX9_addField_46 rfl (lv_at hl 0 rfl) ?_
    refine g_getk (C := RX9) (T := TX9) (N := 13) hx hb hts (mc_ inX9) hown hK g rfl 2 (by decide) rfl (hts _ (List.mem_cons_of_mem _ t_485)) (fun _ h9 => h9) 5 rfl dX9_addField_47 ?_
    refine lv_iload hx hb dX9_addField_50 (lv_at hl 3 rfl) ?_
    refine g_iast hx hb hK g ma_9 ka_9 (by decide) rfl (in_bd by1_ (by decide)) (bd_sub bx3_ (by decide)) (by decide) dX9_addField_52 (fun f H locs hM_10 g => ?_)
    refine lv_aload_n hx hb dX9_addField_53 rfl (lv_at hl 0 rfl) ?_
    refine lv_dup hx hb dX9_addField_54 rfl ?_
    refine g_getk (C := RX9) (T := TX9) (N := 13) hx hb hts (mc_ inX9) hown hK g rfl 7 (by decide) rfl (hts _ (List.mem_cons_of_mem _ t_493)) (fun _ h9 => h9) 4 rfl dX9_addField_55 ?_
    refine lv_iload_n hx hb dX9_addField_58 rfl (lv_at hl 2 rfl) ?_
    refine lv_iconst (v := 1) hx hb dX9_addField_59 (by decide) ?_
    have kb_1 : bd 1 1 (1 : Int32) := ⟨by decide, by decide⟩
    refine va_mmax hx hb (hml.trans hl.1.symm) hown (hts _ (List.mem_cons_of_mem _ t_1168)) (hts _ (List.mem_cons_of_mem _ t_1041)) (hts _ (List.mem_cons_of_mem _ t_204)) (hts _ (List.mem_cons_of_mem _ t_1042)) (Nat.le_of_ble_eq_true rfl) (Nat.le_of_ble_eq_true rfl) (Nat.le_of_ble_eq_true rfl) (Nat.le_of_ble_eq_true rfl) dX9_addField_60 ?_
    refine lv_topi (fun y_11 ey_11 => ?_)
    have ty_11 : y_11.toInt = max x2_.toInt (1 : Int32).toInt := by rw [ey_11]; exact mmax_ok _ _
    have b_12 : bd 3 3 y_11 := max_rg ty_11 bx2_ kb_1 (by decide)
    refine lv_iadd hx hb dX9_addField_63 ?_
    refine lv_topi (fun y_13 ey_13 => ?_)
    have ty_13 := add_bd ey_13 by0_ b_12 (by decide)
    have b_14 : bd 3 24 y_13 := add_rg ty_13 by0_ b_12 (by decide)
    refine g_put (C := RX9) (T := TX9) (N := 13) hx hb hts (mc_ inX9) tyX9 tyX9_ok nmX9 hown hK g ma0_ ka0_ (by decide) rfl 7 (by decide) (hts _ (List.mem_cons_of_mem _ t_493)) (fun _ h9 => h9) rfl rfl (okV_i (bd_sub b_14 (by decide))) rfl rfl (by decide) (Or.inr (Or.inl (by decide))) (fx' := [(9, 6, a0_, .ref a_9), (9, 5, a0_, .ref a_7), (9, 4, a0_, .ref a_5), (9, 3, a0_, .ref a_3), (9, 2, a0_, .int y1_)]) rfl dX9_addField_64 (fun f H locs hM_15 g => ?_)
    refine lv_aload_n hx hb dX9_addField_67 rfl (lv_at hl 0 rfl) ?_
    refine lv_dup hx hb dX9_addField_68 rfl ?_
    refine g_getk (C := RX9) (T := TX9) (N := 13) hx hb hts (mc_ inX9) hown hK g rfl 2 (by decide) rfl (hts _ (List.mem_cons_of_mem _ t_485)) (fun _ h9 => h9) 5 rfl dX9_addField_69 ?_
    refine lv_iconst (v := 1) hx hb dX9_addField_72 (by decide) ?_
    refine lv_iadd hx hb dX9_addField_73 ?_
    refine lv_topi (fun y_16 ey_16 => ?_)
    have ty_16 := add_bd ey_16 by1_ kb_1 (by decide)
    have b_17 : bd 1 10 y_16 := add_rg ty_16 by1_ kb_1 (by decide)
    refine g_put (C := RX9) (T := TX9) (N := 13) hx hb hts (mc_ inX9) tyX9 tyX9_ok nmX9 hown hK g ma0_ ka0_ (by decide) rfl 2 (by decide) (hts _ (List.mem_cons_of_mem _ t_485)) (fun _ h9 => h9) rfl rfl (okV_i (bd_sub b_17 (by decide))) rfl rfl (by decide) (Or.inr (Or.inl (by decide))) (fx' := [(9, 7, a0_, .int y_13), (9, 6, a0_, .ref a_9), (9, 5, a0_, .ref a_7), (9, 4, a0_, .ref a_5), (9, 3, a0_, .ref a_3)]) rfl dX9_addField_74 (fun f H locs hM_18 g => ?_)
    subst hQ
    exact W.vret hx hb hr (fun t ht hW => ⟨⟨_, rfl, ⟨y_16, b_17, y_13, b_14, (g.fcts [0, 1] rfl)⟩, q3_of g hK ht hW⟩, g.2.2.1.F ht⟩) g.2.2.1.2.2 dX9_addField_77
set_option maxHeartbeats 4000000 in
set_option maxRecDepth 100000 in
theorem r_X9_addField_8 (l : Launch) (dC : Nat → ClassId) (dI : Nat → Nat → Nat) (L : List Nat) (kd : Nat → Nat) (tys : List (ClassId × FieldType)) (f0 : Nat → va_E) (sz : Nat) (hWT : WT L kd tys f0) (a0_ : Nat) (ma0_ : a0_ ∈ L) (ka0_ : kd a0_ = 9) (x1_ : Int64) (x2_ : Int32) (bx2_ : bd 3 3 x2_) (x3_ : Int32) (y0_ : Int32) (by0_ : bd 0 21 y0_) (y1_ : Int32) (by1_ : bd 0 9 y1_) (hfx : Fs L kd f0 [(9, 7, a0_, .int y0_), (9, 2, a0_, .int y1_)]) : Met l yX9_addField (.code yX9_addField cX9_addField 5 none :: lw_g) ({ frames := 1, cells := 0, slots := 0, locals := 15 }) (va_Pc [.ref a0_, .long x1_, .int x2_, .int x3_] (P3 (dC, dI) L tys f0 sz)) (va_Qv (fun (f : Nat → va_E) => (∃ z0_ : Int32, bd 1 10 z0_ ∧ ∃ z1_ : Int32, bd 3 24 z1_ ∧ Fs L kd f [(9, 2, a0_, .int z0_), (9, 7, a0_, .int z1_)])) (Q3 (dC, dI) L kd tys [(9, 2), (9, 7)] [152, 153, 154, 155] f0 sz) (pA L sz)) 0 0 (pA L sz) := by
  refine Met.ofW (cc := cX9_addField) (maxL := 5) (ret := none) (by decide) rfl ?_
  intro p e s m args below meth c s₁ B hml hv
  obtain ⟨rfl, hsz, hP, hK, hD0⟩ := hv
  have hx := B.exec
  have hb := B.bytes
  have hr := B.returns
  have hts := atoms_spec (ws := (.code yX9_addField cX9_addField 5 none :: lw_g)) B.pre
  have hown : s.vm.findClass RX9 = some m.cls := findClass_of_methodNamed B.named
  have hlocks := B.notSynchronized
  subst hsz
  have g : G3 (dC, dI) L kd tys s f0 [(9, 2), (9, 7)] [152, 153, 154, 155] f0 s.heap [] [(9, 7, a0_, .int y0_), (9, 2, a0_, .int y1_)] := G3.start hP hD0 hWT hfx
  have hl := lv_entry ([.ref a0_, .long x1_, .int x2_, .int x3_]) (n := 5) (Nat.le_of_ble_eq_true rfl)
  rw [lg_entry_eq]
  generalize (lg_sl ([.ref a0_, .long x1_, .int x2_, .int x3_]) ++ List.replicate (5 - (lg_sl ([.ref a0_, .long x1_, .int x2_, .int x3_])).length) Slot.unset).toArray = ls at hl ⊢
  have hl : lv_has ls 5 [(0, .ref a0_), (1, .long x1_), (3, .int x2_), (4, .int x3_)] := hl
  refine W_q (fun Q hQ => ?_)
  refine lv_aload_n hx hb dX9_addField_0 rfl (lv_at hl 0 rfl) ?_
  refine g_getk (C := RX9) (T := TX9) (N := 13) hx hb hts (mc_ inX9) hown hK g rfl 2 (by decide) rfl (hts _ (List.mem_cons_of_mem _ t_485)) (fun _ h9 => h9) 1 rfl dX9_addField_1 ?_
  refine lv_bipush (v := 10) hx hb dX9_addField_4 (by decide) ?_
  have kb_10 : bd 10 10 (10 : Int32) := ⟨by decide, by decide⟩
  refine lv_icmp_ge (tgt := 77) hx hb dX9_addField_6 (by decide) (fun c_1 => ?_) (fun c_1 => ?_)
  · have fc_1 := le_f c_1
    have b_2 : bd 10 9 (10 : Int32) := leL fc_1 kb_10 by1_ (by decide)
    exact bd_no (eqX rfl b_2 kb_10 (lo := 10) (hi := 9) (by decide)) (by decide)
  · have fc_1 := nle_f c_1
    refine lv_aload_n hx hb dX9_addField_9 rfl (lv_at hl 0 rfl) ?_
    refine g_getr (K := 152) (C := RX9) (T := TX9) (N := 13) hx hb hts (mc_ inX9) hown hK g ma0_ ka0_ (by decide) rfl 3 (by decide) rfl (hts _ (List.mem_cons_of_mem _ t_488)) (fun _ h9 => h9) rfl dX9_addField_10 (fun a_3 ma_3 ka_3 g => ?_)
    refine lv_aload_n hx hb dX9_addField_13 rfl (lv_at hl 0 rfl) ?_
    refine g_getk (C := RX9) (T := TX9) (N := 13) hx hb hts (mc_ inX9) hown hK g rfl 2 (by decide) rfl (hts _ (List.mem_cons_of_mem _ t_485)) (fun _ h9 => h9) 2 rfl dX9_addField_14 ?_
    refine lv_lload_n hx hb dX9_addField_17 rfl (lv_at hl 1 rfl) ?_
    refine g_last hx hb hK g ma_3 ka_3 (by decide) rfl (in_bd by1_ (by decide)) (by decide) dX9_addField_18 (fun f H locs hM_4 g => ?_)
    refine lv_aload_n hx hb dX9_addField_19 rfl (lv_at hl 0 rfl) ?_
    refine g_getr (K := 153) (C := RX9) (T := TX9) (N := 13) hx hb hts (mc_ inX9) hown hK g ma0_ ka0_ (by decide) rfl 4 (by decide) rfl (hts _ (List.mem_cons_of_mem _ t_489)) (fun _ h9 => h9) rfl dX9_addField_20 (fun a_5 ma_5 ka_5 g => ?_)
    refine lv_aload_n hx hb dX9_addField_23 rfl (lv_at hl 0 rfl) ?_
    refine g_getk (C := RX9) (T := TX9) (N := 13) hx hb hts (mc_ inX9) hown hK g rfl 2 (by decide) rfl (hts _ (List.mem_cons_of_mem _ t_485)) (fun _ h9 => h9) 3 rfl dX9_addField_24 ?_
    refine lv_aload_n hx hb dX9_addField_27 rfl (lv_at hl 0 rfl) ?_
    refine g_getk (C := RX9) (T := TX9) (N := 13) hx hb hts (mc_ inX9) hown hK g rfl 7 (by decide) rfl (hts _ (List.mem_cons_of_mem _ t_493)) (fun _ h9 => h9) 2 rfl dX9_addField_28 ?_
    refine g_iast hx hb hK g ma_5 ka_5 (by decide) rfl (in_bd by1_ (by decide)) (bd_sub by0_ (by decide)) (by decide) dX9_addField_31 (fun f H locs hM_6 g => ?_)
    refine lv_aload_n hx hb dX9_addField_32 rfl (lv_at hl 0 rfl) ?_
    refine g_getr (K := 154) (C := RX9) (T := TX9) (N := 13) hx hb hts (mc_ inX9) hown hK g ma0_ ka0_ (by decide) rfl 5 (by decide) rfl (hts _ (List.mem_cons_of_mem _ t_490)) (fun _ h9 => h9) rfl dX9_addField_33 (fun a_7 ma_7 ka_7 g => ?_)
    refine lv_aload_n hx hb dX9_addField_36 rfl (lv_at hl 0 rfl) ?_
    refine g_getk (C := RX9) (T := TX9) (N := 13) hx hb hts (mc_ inX9) hown hK g rfl 2 (by decide) rfl (hts _ (List.mem_cons_of_mem _ t_485)) (fun _ h9 => h9) 4 rfl dX9_addField_37 ?_
    refine lv_iload_n hx hb dX9_addField_40 rfl (lv_at hl 2 rfl) ?_
    refine g_iast hx hb hK g ma_7 ka_7 (by decide) rfl (in_bd by1_ (by decide)) (bd_sub bx2_ (by decide)) (by decide) dX9_addField_41 (fun f H locs hM_8 g => ?_)
    refine lv_aload_n hx hb dX9_addField_42 rfl (lv_at hl 0 rfl) ?_
    refine g_getr (K := 155) (C := RX9) (T := TX9) (N := 13) hx hb hts (mc_ inX9) hown hK g ma0_ ka0_ (by decide) rfl 6 (by decide) rfl (hts _ (List.mem_cons_of_mem _ t_492)) (fun _ h9 => h9) rfl dX9_addField_43 (fun a_9 ma_9 ka_9 g => ?_)
    refine lv_aload_n hx hb dX9_addField_46 rfl (lv_at hl 0 rfl) ?_
    refine g_getk (C := RX9) (T := TX9) (N := 13) hx hb hts (mc_ inX9) hown hK g rfl 2 (by decide) rfl (hts _ (List.mem_cons_of_mem _ t_485)) (fun _ h9 => h9) 5 rfl dX9_addField_47 ?_
    refine lv_iload hx hb dX9_addField_50 (lv_at hl 3 rfl) ?_
    refine g_iast hx hb hK g ma_9 ka_9 (by decide) rfl (in_bd by1_ (by decide)) (bdT x3_) (by decide) dX9_addField_52 (fun f H locs hM_10 g => ?_)
    refine lv_aload_n hx hb dX9_addField_53 rfl (lv_at hl 0 rfl) ?_
    refine lv_dup hx hb dX9_addField_54 rfl ?_
    refine g_getk (C := RX9) (T := TX9) (N := 13) hx hb hts (mc_ inX9) hown hK g rfl 7 (by decide) rfl (hts _ (List.mem_cons_of_mem _ t_493)) (fun _ h9 => h9) 4 rfl dX9_addField_55 ?_
    refine lv_iload_n hx hb dX9_addField_58 rfl (lv_at hl 2 rfl) ?_
    refine lv_iconst (v := 1) hx hb dX9_addField_59 (by decide) ?_
    have kb_1 : bd 1 1 (1 : Int32) := ⟨by decide, by decide⟩
    refine va_mmax hx hb (hml.trans hl.1.symm) hown (hts _ (List.mem_cons_of_mem _ t_1168)) (hts _ (List.mem_cons_of_mem _ t_1041)) (hts _ (List.mem_cons_of_mem _ t_204)) (hts _ (List.mem_cons_of_mem _ t_1042)) (Nat.le_of_ble_eq_true rfl) (Nat.le_of_ble_eq_true rfl) (Nat.le_of_ble_eq_true rfl) (Nat.le_of_ble_eq_true rfl) dX9_addField_60 ?_
    refine lv_topi (fun y_11 ey_11 => ?_)
    have ty_11 : y_11.toInt = max x2_.toInt (1 : Int32).toInt := by rw [ey_11]; exact mmax_ok _ _
    have b_12 : bd 3 3 y_11 := max_rg ty_11 bx2_ kb_1 (by decide)
    refine lv_iadd hx hb dX9_addField_63 ?_
    refine lv_topi (fun y_13 ey_13 => ?_)
    have ty_13 := add_bd ey_13 by0_ b_12 (by decide)
    have b_14 : bd 3 24 y_13 := add_rg ty_13 by0_ b_12 (by decide)
    refine g_put (C := RX9) (T := TX9) (N := 13) hx hb hts (mc_ inX9) tyX9 tyX9_ok nmX9 hown hK g ma0_ ka0_ (by decide) rfl 7 (by decide) (hts _ (List.mem_cons_of_mem _ t_493)) (fun _ h9 => h9) rfl rfl (okV_i (bd_sub b_14 (by decide))) rfl rfl (by decide) (Or.inr (Or.inl (by decide))) (fx' := [(9, 6, a0_, .ref a_9), (9, 5, a0_, .ref a_7), (9, 4, a0_, .ref a_5), (9, 3, a0_, .ref a_3), (9, 2, a0_, .int y1_)]) rfl dX9_addField_64 (fun f H locs hM_15 g => ?_)
    refine lv_aload_n hx hb dX9_addField_67 rfl (lv_at hl 0 rfl) ?_
    refine lv_dup hx hb dX9_addField_68 rfl ?_
    refine g_getk (C := RX9) (T := TX9) (N := 13) hx hb hts (mc_ inX9) hown hK g rfl 2 (by decide) rfl (hts _ (List.mem_cons_of_mem _ t_485)) (fun _ h9 => h9) 5 rfl dX9_addField_69 ?_
    refine lv_iconst (v := 1) hx hb dX9_addField_72 (by decide) ?_
    refine lv_iadd hx hb dX9_addField_73 ?_
    refine lv_topi (fun y_16 ey_16 => ?_)
    have ty_16 := add_bd ey_16 by1_ kb_1 (by decide)
    have b_17 : bd 1 10 y_16 := add_rg ty_16 by1_ kb_1 (by decide)
    refine g_put (C := RX9) (T := TX9) (N := 13) hx hb hts (mc_ inX9) tyX9 tyX9_ok nmX9 hown hK g ma0_ ka0_ (by decide) rfl 2 (by decide) (hts _ (List.mem_cons_of_mem _ t_485)) (fun _ h9 => h9) rfl rfl (okV_i (bd_sub b_17 (by decide))) rfl rfl (by decide) (Or.inr (Or.inl (by decide))) (fx' := [(9, 7, a0_, .int y_13), (9, 6, a0_, .ref a_9), (9, 5, a0_, .ref a_7), (9, 4, a0_, .ref a_5), (9, 3, a0_, .ref a_3)]) rfl dX9_addField_74 (fun f H locs hM_18 g => ?_)
    subst hQ
    exact W.vret hx hb hr (fun t ht hW => ⟨⟨_, rfl, ⟨y_16, b_17, y_13, b_14, (g.fcts [0, 1] rfl)⟩, q3_of g hK ht hW⟩, g.2.2.1.F ht⟩) g.2.2.1.2.2 dX9_addField_77
set_option maxHeartbeats 4000000 in
set_option maxRecDepth 100000 in
theorem r_X9_addField_9 (l : Launch) (dC : Nat → ClassId) (dI : Nat → Nat → Nat) (L : List Nat) (kd : Nat → Nat) (tys : List (ClassId × FieldType)) (f0 : Nat → va_E) (sz : Nat) (hWT : WT L kd tys f0) (a0_ : Nat) (ma0_ : a0_ ∈ L) (ka0_ : kd a0_ = 9) (x1_ : Int64) (x2_ : Int32) (bx2_ : bd 4 4 x2_) (x3_ : Int32) (bx3_ : bd 0 0 x3_) (y0_ : Int32) (by0_ : bd 0 20 y0_) (y1_ : Int32) (by1_ : bd 0 9 y1_) (hfx : Fs L kd f0 [(9, 7, a0_, .int y0_), (9, 2, a0_, .int y1_)]) : Met l yX9_addField (.code yX9_addField cX9_addField 5 none :: lw_g) ({ frames := 1, cells := 0, slots := 0, locals := 15 }) (va_Pc [.ref a0_, .long x1_, .int x2_, .int x3_] (P3 (dC, dI) L tys f0 sz)) (va_Qv (fun (f : Nat → va_E) => (∃ z0_ : Int32, bd 1 10 z0_ ∧ ∃ z1_ : Int32, bd 4 24 z1_ ∧ Fs L kd f [(9, 2, a0_, .int z0_), (9, 7, a0_, .int z1_)])) (Q3 (dC, dI) L kd tys [(9, 2), (9, 7)] [152, 153, 154, 155] f0 sz) (pA L sz)) 0 0 (pA L sz) := by
  refine Met.ofW (cc := cX9_addField) (maxL := 5) (ret := none) (by decide) rfl ?_
  intro p e s m args below meth c s₁ B hml hv
  obtain ⟨rfl, hsz, hP, hK, hD0⟩ := hv
  have hx := B.exec
  have hb := B.bytes
  have hr := B.returns
  have hts := atoms_spec (ws := (.code yX9_addField cX9_addField 5 none :: lw_g)) B.pre
  have hown : s.vm.findClass RX9 = some m.cls := findClass_of_methodNamed B.named
  have hlocks := B.notSynchronized
  subst hsz
  have g : G3 (dC, dI) L kd tys s f0 [(9, 2), (9, 7)] [152, 153, 154, 155] f0 s.heap [] [(9, 7, a0_, .int y0_), (9, 2, a0_, .int y1_)] := G3.start hP hD0 hWT hfx
  have hl := lv_entry ([.ref a0_, .long x1_, .int x2_, .int x3_]) (n := 5) (Nat.le_of_ble_eq_true rfl)
  rw [lg_entry_eq]
  generalize (lg_sl ([.ref a0_, .long x1_, .int x2_, .int x3_]) ++ List.replicate (5 - (lg_sl ([.ref a0_, .long x1_, .int x2_, .int x3_])).length) Slot.unset).toArray = ls at hl ⊢
  have hl : lv_has ls 5 [(0, .ref a0_), (1, .long x1_), (3, .int x2_), (4, .int x3_)] := hl
  refine W_q (fun Q hQ => ?_)
  refine lv_aload_n hx hb dX9_addField_0 rfl (lv_at hl 0 rfl) ?_
  refine g_getk (C := RX9) (T := TX9) (N := 13) hx hb hts (mc_ inX9) hown hK g rfl 2 (by decide) rfl (hts _ (List.mem_cons_of_mem _ t_485)) (fun _ h9 => h9) 1 rfl dX9_addField_1 ?_
  refine lv_bipush (v := 10) hx hb dX9_addField_4 (by decide) ?_
  have kb_10 : bd 10 10 (10 : Int32) := ⟨by decide, by decide⟩
  refine lv_icmp_ge (tgt := 77) hx hb dX9_addField_6 (by decide) (fun c_1 => ?_) (fun c_1 => ?_)
  · have fc_1 := le_f c_1
    have b_2 : bd 10 9 (10 : Int32) := leL fc_1 kb_10 by1_ (by decide)
    exact bd_no (eqX rfl b_2 kb_10 (lo := 10) (hi := 9) (by decide)) (by decide)
  · have fc_1 := nle_f c_1
    refine lv_aload_n hx hb dX9_addField_9 rfl (lv_at hl 0 rfl) ?_
    refine g_getr (K := 152) (C := RX9) (T := TX9) (N := 13) hx hb hts (mc_ inX9) hown hK g ma0_ ka0_ (by decide) rfl 3 (by decide) rfl (hts _ (List.mem_cons_of_mem _ t_488)) (fun _ h9 => h9) rfl dX9_addField_10 (fun a_3 ma_3 ka_3 g => ?_)
    refine lv_aload_n hx hb dX9_addField_13 rfl (lv_at hl 0 rfl) ?_
    refine g_getk (C := RX9) (T := TX9) (N := 13) hx hb hts (mc_ inX9) hown hK g rfl 2 (by decide) rfl (hts _ (List.mem_cons_of_mem _ t_485)) (fun _ h9 => h9) 2 rfl dX9_addField_14 ?_
    refine lv_lload_n hx hb dX9_addField_17 rfl (lv_at hl 1 rfl) ?_
    refine g_last hx hb hK g ma_3 ka_3 (by decide) rfl (in_bd by1_ (by decide)) (by decide) dX9_addField_18 (fun f H locs hM_4 g => ?_)
    refine lv_aload_n hx hb dX9_addField_19 rfl (lv_at hl 0 rfl) ?_
    refine g_getr (K := 153) (C := RX9) (T := TX9) (N := 13) hx hb hts (mc_ inX9) hown hK g ma0_ ka0_ (by decide) rfl 4 (by decide) rfl (hts _ (List.mem_cons_of_mem _ t_489)) (fun _ h9 => h9) rfl dX9_addField_20 (fun a_5 ma_5 ka_5 g => ?_)
    refine lv_aload_n hx hb dX9_addField_23 rfl (lv_at hl 0 rfl) ?_
    refine g_getk (C := RX9) (T := TX9) (N := 13) hx hb hts (mc_ inX9) hown hK g rfl 2 (by decide) rfl (hts _ (List.mem_cons_of_mem _ t_485)) (fun _ h9 => h9) 3 rfl dX9_addField_24 ?_
    refine lv_aload_n hx hb dX9_addField_27 rfl (lv_at hl 0 rfl) ?_
    refine g_getk (C := RX9) (T := TX9) (N := 13) hx hb hts (mc_ inX9) hown hK g rfl 7 (by decide) rfl (hts _ (List.mem_cons_of_mem _ t_493)) (fun _ h9 => h9) 2 rfl dX9_addField_28 ?_
    refine g_iast hx hb hK g ma_5 ka_5 (by decide) rfl (in_bd by1_ (by decide)) (bd_sub by0_ (by decide)) (by decide) dX9_addField_31 (fun f H locs hM_6 g => ?_)
    refine lv_aload_n hx hb dX9_addField_32 rfl (lv_at hl 0 rfl) ?_
    refine g_getr (K := 154) (C := RX9) (T := TX9) (N := 13) hx hb hts (mc_ inX9) hown hK g ma0_ ka0_ (by decide) rfl 5 (by decide) rfl (hts _ (List.mem_cons_of_mem _ t_490)) (fun _ h9 => h9) rfl dX9_addField_33 (fun a_7 ma_7 ka_7 g => ?_)
    refine lv_aload_n hx hb dX9_addField_36 rfl (lv_at hl 0 rfl) ?_
    refine g_getk (C := RX9) (T := TX9) (N := 13) hx hb hts (mc_ inX9) hown hK g rfl 2 (by decide) rfl (hts _ (List.mem_cons_of_mem _ t_485)) (fun _ h9 => h9) 4 rfl dX9_addField_37 ?_
    refine lv_iload_n hx hb dX9_addField_40 rfl (lv_at hl 2 rfl) ?_
    refine g_iast hx hb hK g ma_7 ka_7 (by decide) rfl (in_bd by1_ (by decide)) (bd_sub bx2_ (by decide)) (by decide) dX9_addField_41 (fun f H locs hM_8 g => ?_)
    refine lv_aload_n hx hb dX9_addField_42 rfl (lv_at hl 0 rfl) ?_
    refine g_getr (K := 155) (C := RX9) (T := TX9) (N := 13) hx hb hts (mc_ inX9) hown hK g ma0_ ka0_ (by decide) rfl 6 (by decide) rfl (hts _ (List.mem_cons_of_mem _ t_492)) (fun _ h9 => h9) rfl dX9_addField_43 (fun a_9 ma_9 ka_9 g => ?_)
    refine lv_aload_n hx hb dX9_addField_46 rfl (lv_at hl 0 rfl) ?_
    refine g_getk (C := RX9) (T := TX9) (N := 13) hx hb hts (mc_ inX9) hown hK g rfl 2 (by decide) rfl (hts _ (List.mem_cons_of_mem _ t_485)) (fun _ h9 => h9) 5 rfl dX9_addField_47 ?_
    refine lv_iload hx hb dX9_addField_50 (lv_at hl 3 rfl) ?_
    refine g_iast hx hb hK g ma_9 ka_9 (by decide) rfl (in_bd by1_ (by decide)) (bd_sub bx3_ (by decide)) (by decide) dX9_addField_52 (fun f H locs hM_10 g => ?_)
    refine lv_aload_n hx hb dX9_addField_53 rfl (lv_at hl 0 rfl) ?_
    refine lv_dup hx hb dX9_addField_54 rfl ?_
    refine g_getk (C := RX9) (T := TX9) (N := 13) hx hb hts (mc_ inX9) hown hK g rfl 7 (by decide) rfl (hts _ (List.mem_cons_of_mem _ t_493)) (fun _ h9 => h9) 4 rfl dX9_addField_55 ?_
    refine lv_iload_n hx hb dX9_addField_58 rfl (lv_at hl 2 rfl) ?_
    refine lv_iconst (v := 1) hx hb dX9_addField_59 (by decide) ?_
    have kb_1 : bd 1 1 (1 : Int32) := ⟨by decide, by decide⟩
    refine va_mmax hx hb (hml.trans hl.1.symm) hown (hts _ (List.mem_cons_of_mem _ t_1168)) (hts _ (List.mem_cons_of_mem _ t_1041)) (hts _ (List.mem_cons_of_mem _ t_204)) (hts _ (List.mem_cons_of_mem _ t_1042)) (Nat.le_of_ble_eq_true rfl) (Nat.le_of_ble_eq_true rfl) (Nat.le_of_ble_eq_true rfl) (Nat.le_of_ble_eq_true rfl) dX9_addField_60 ?_
    refine lv_topi (fun y_11 ey_11 => ?_)
    have ty_11 : y_11.toInt = max x2_.toInt (1 : Int32).toInt := by rw [ey_11]; exact mmax_ok _ _
    have b_12 : bd 4 4 y_11 := max_rg ty_11 bx2_ kb_1 (by decide)
    refine lv_iadd hx hb dX9_addField_63 ?_
    refine lv_topi (fun y_13 ey_13 => ?_)
    have ty_13 := add_bd ey_13 by0_ b_12 (by decide)
    have b_14 : bd 4 24 y_13 := add_rg ty_13 by0_ b_12 (by decide)
    refine g_put (C := RX9) (T := TX9) (N := 13) hx hb hts (mc_ inX9) tyX9 tyX9_ok nmX9 hown hK g ma0_ ka0_ (by decide) rfl 7 (by decide) (hts _ (List.mem_cons_of_mem _ t_493)) (fun _ h9 => h9) rfl rfl (okV_i (bd_sub b_14 (by decide))) rfl rfl (by decide) (Or.inr (Or.inl (by decide))) (fx' := [(9, 6, a0_, .ref a_9), (9, 5, a0_, .ref a_7), (9, 4, a0_, .ref a_5), (9, 3, a0_, .ref a_3), (9, 2, a0_, .int y1_)]) rfl dX9_addField_64 (fun f H locs hM_15 g => ?_)
    refine lv_aload_n hx hb dX9_addField_67 rfl (lv_at hl 0 rfl) ?_
    refine lv_dup hx hb dX9_addField_68 rfl ?_
    refine g_getk (C := RX9) (T := TX9) (N := 13) hx hb hts (mc_ inX9) hown hK g rfl 2 (by decide) rfl (hts _ (List.mem_cons_of_mem _ t_485)) (fun _ h9 => h9) 5 rfl dX9_addField_69 ?_
    refine lv_iconst (v := 1) hx hb dX9_addField_72 (by decide) ?_
    refine lv_iadd hx hb dX9_addField_73 ?_
    refine lv_topi (fun y_16 ey_16 => ?_)
    have ty_16 := add_bd ey_16 by1_ kb_1 (by decide)
    have b_17 : bd 1 10 y_16 := add_rg ty_16 by1_ kb_1 (by decide)
    refine g_put (C := RX9) (T := TX9) (N := 13) hx hb hts (mc_ inX9) tyX9 tyX9_ok nmX9 hown hK g ma0_ ka0_ (by decide) rfl 2 (by decide) (hts _ (List.mem_cons_of_mem _ t_485)) (fun _ h9 => h9) rfl rfl (okV_i (bd_sub b_17 (by decide))) rfl rfl (by decide) (Or.inr (Or.inl (by decide))) (fx' := [(9, 7, a0_, .int y_13), (9, 6, a0_, .ref a_9), (9, 5, a0_, .ref a_7), (9, 4, a0_, .ref a_5), (9, 3, a0_, .ref a_3)]) rfl dX9_addField_74 (fun f H locs hM_18 g => ?_)
    subst hQ
    exact W.vret hx hb hr (fun t ht hW => ⟨⟨_, rfl, ⟨y_16, b_17, y_13, b_14, (g.fcts [0, 1] rfl)⟩, q3_of g hK ht hW⟩, g.2.2.1.F ht⟩) g.2.2.1.2.2 dX9_addField_77
set_option maxHeartbeats 4000000 in
set_option maxRecDepth 100000 in
theorem r_X9_addField_10 (l : Launch) (dC : Nat → ClassId) (dI : Nat → Nat → Nat) (L : List Nat) (kd : Nat → Nat) (tys : List (ClassId × FieldType)) (f0 : Nat → va_E) (sz : Nat) (hWT : WT L kd tys f0) (a0_ : Nat) (ma0_ : a0_ ∈ L) (ka0_ : kd a0_ = 9) (x1_ : Int64) (x2_ : Int32) (bx2_ : bd 4 4 x2_) (x3_ : Int32) (y0_ : Int32) (by0_ : bd 0 20 y0_) (y1_ : Int32) (by1_ : bd 0 9 y1_) (hfx : Fs L kd f0 [(9, 7, a0_, .int y0_), (9, 2, a0_, .int y1_)]) : Met l yX9_addField (.code yX9_addField cX9_addField 5 none :: lw_g) ({ frames := 1, cells := 0, slots := 0, locals := 15 }) (va_Pc [.ref a0_, .long x1_, .int x2_, .int x3_] (P3 (dC, dI) L tys f0 sz)) (va_Qv (fun (f : Nat → va_E) => (∃ z0_ : Int32, bd 1 10 z0_ ∧ ∃ z1_ : Int32, bd 4 24 z1_ ∧ Fs L kd f [(9, 2, a0_, .int z0_), (9, 7, a0_, .int z1_)])) (Q3 (dC, dI) L kd tys [(9, 2), (9, 7)] [152, 153, 154, 155] f0 sz) (pA L sz)) 0 0 (pA L sz) := by
  refine Met.ofW (cc := cX9_addField) (maxL := 5) (ret := none) (by decide) rfl ?_
  intro p e s m args below meth c s₁ B hml hv
  obtain ⟨rfl, hsz, hP, hK, hD0⟩ := hv
  have hx := B.exec
  have hb := B.bytes
  have hr := B.returns
  have hts := atoms_spec (ws := (.code yX9_addField cX9_addField 5 none :: lw_g)) B.pre
  have hown : s.vm.findClass RX9 = some m.cls := findClass_of_methodNamed B.named
  have hlocks := B.notSynchronized
  subst hsz
  have g : G3 (dC, dI) L kd tys s f0 [(9, 2), (9, 7)] [152, 153, 154, 155] f0 s.heap [] [(9, 7, a0_, .int y0_), (9, 2, a0_, .int y1_)] := G3.start hP hD0 hWT hfx
  have hl := lv_entry ([.ref a0_, .long x1_, .int x2_, .int x3_]) (n := 5) (Nat.le_of_ble_eq_true rfl)
  rw [lg_entry_eq]
  generalize (lg_sl ([.ref a0_, .long x1_, .int x2_, .int x3_]) ++ List.replicate (5 - (lg_sl ([.ref a0_, .long x1_, .int x2_, .int x3_])).length) Slot.unset).toArray = ls at hl ⊢
  have hl : lv_has ls 5 [(0, .ref a0_), (1, .long x1_), (3, .int x2_), (4, .int x3_)] := hl
  refine W_q (fun Q hQ => ?_)
  refine lv_aload_n hx hb dX9_addField_0 rfl (lv_at hl 0 rfl) ?_
  refine g_getk (C := RX9) (T := TX9) (N := 13) hx hb hts (mc_ inX9) hown hK g rfl 2 (by decide) rfl (hts _ (List.mem_cons_of_mem _ t_485)) (fun _ h9 => h9) 1 rfl dX9_addField_1 ?_
  refine lv_bipush (v := 10) hx hb dX9_addField_4 (by decide) ?_
  have kb_10 : bd 10 10 (10 : Int32) := ⟨by decide, by decide⟩
  refine lv_icmp_ge (tgt := 77) hx hb dX9_addField_6 (by decide) (fun c_1 => ?_) (fun c_1 => ?_)
  · have fc_1 := le_f c_1
    have b_2 : bd 10 9 (10 : Int32) := leL fc_1 kb_10 by1_ (by decide)
    exact bd_no (eqX rfl b_2 kb_10 (lo := 10) (hi := 9) (by decide)) (by decide)
  · have fc_1 := nle_f c_1
    refine lv_aload_n hx hb dX9_addField_9 rfl (lv_at hl 0 rfl) ?_
    refine g_getr (K := 152) (C := RX9) (T := TX9) (N := 13) hx hb hts (mc_ inX9) hown hK g ma0_ ka0_ (by decide) rfl 3 (by decide) rfl (hts _ (List.mem_cons_of_mem _ t_488)) (fun _ h9 => h9) rfl dX9_addField_10 (fun a_3 ma_3 ka_3 g => ?_)
    refine lv_aload_n hx hb dX9_addField_13 rfl (lv_at hl 0 rfl) ?_
    refine g_getk (C := RX9) (T := TX9) (N := 13) hx hb hts (mc_ inX9) hown hK g rfl 2 (by decide) rfl (hts _ (List.mem_cons_of_mem _ t_485)) (fun _ h9 => h9) 2 rfl dX9_addField_14 ?_
    refine lv_lload_n hx hb dX9_addField_17 rfl (lv_at hl 1 rfl) ?_
    refine g_last hx hb hK g ma_3 ka_3 (by decide) rfl (in_bd by1_ (by decide)) (by decide) dX9_addField_18 (fun f H locs hM_4 g => ?_)
    refine lv_aload_n hx hb dX9_addField_19 rfl (lv_at hl 0 rfl) ?_
    refine g_getr (K := 153) (C := RX9) (T := TX9) (N := 13) hx hb hts (mc_ inX9) hown hK g ma0_ ka0_ (by decide) rfl 4 (by decide) rfl (hts _ (List.mem_cons_of_mem _ t_489)) (fun _ h9 => h9) rfl dX9_addField_20 (fun a_5 ma_5 ka_5 g => ?_)
    refine lv_aload_n hx hb dX9_addField_23 rfl (lv_at hl 0 rfl) ?_
    refine g_getk (C := RX9) (T := TX9) (N := 13) hx hb hts (mc_ inX9) hown hK g rfl 2 (by decide) rfl (hts _ (List.mem_cons_of_mem _ t_485)) (fun _ h9 => h9) 3 rfl dX9_addField_24 ?_
    refine lv_aload_n hx hb dX9_addField_27 rfl (lv_at hl 0 rfl) ?_
    refine g_getk (C := RX9) (T := TX9) (N := 13) hx hb hts (mc_ inX9) hown hK g rfl 7 (by decide) rfl (hts _ (List.mem_cons_of_mem _ t_493)) (fun _ h9 => h9) 2 rfl dX9_addField_28 ?_
    refine g_iast hx hb hK g ma_5 ka_5 (by decide) rfl (in_bd by1_ (by decide)) (bd_sub by0_ (by decide)) (by decide) dX9_addField_31 (fun f H locs hM_6 g => ?_)
    refine lv_aload_n hx hb dX9_addField_32 rfl (lv_at hl 0 rfl) ?_
    refine g_getr (K := 154) (C := RX9) (T := TX9) (N := 13) hx hb hts (mc_ inX9) hown hK g ma0_ ka0_ (by decide) rfl 5 (by decide) rfl (hts _ (List.mem_cons_of_mem _ t_490)) (fun _ h9 => h9) rfl dX9_addField_33 (fun a_7 ma_7 ka_7 g => ?_)
    refine lv_aload_n hx hb dX9_addField_36 rfl (lv_at hl 0 rfl) ?_
    refine g_getk (C := RX9) (T := TX9) (N := 13) hx hb hts (mc_ inX9) hown hK g rfl 2 (by decide) rfl (hts _ (List.mem_cons_of_mem _ t_485)) (fun _ h9 => h9) 4 rfl dX9_addField_37 ?_
    refine lv_iload_n hx hb dX9_addField_40 rfl (lv_at hl 2 rfl) ?_
    refine g_iast hx hb hK g ma_7 ka_7 (by decide) rfl (in_bd by1_ (by decide)) (bd_sub bx2_ (by decide)) (by decide) dX9_addField_41 (fun f H locs hM_8 g => ?_)
    refine lv_aload_n hx hb dX9_addField_42 rfl (lv_at hl 0 rfl) ?_
    refine g_getr (K := 155) (C := RX9) (T := TX9) (N := 13) hx hb hts (mc_ inX9) hown hK g ma0_ ka0_ (by decide) rfl 6 (by decide) rfl (hts _ (List.mem_cons_of_mem _ t_492)) (fun _ h9 => h9) rfl dX9_addField_43 (fun a_9 ma_9 ka_9 g => ?_)
    refine lv_aload_n hx hb dX9_addField_46 rfl (lv_at hl 0 rfl) ?_
    refine g_getk (C := RX9) (T := TX9) (N := 13) hx hb hts (mc_ inX9) hown hK g rfl 2 (by decide) rfl (hts _ (List.mem_cons_of_mem _ t_485)) (fun _ h9 => h9) 5 rfl dX9_addField_47 ?_
    refine lv_iload hx hb dX9_addField_50 (lv_at hl 3 rfl) ?_
    refine g_iast hx hb hK g ma_9 ka_9 (by decide) rfl (in_bd by1_ (by decide)) (bdT x3_) (by decide) dX9_addField_52 (fun f H locs hM_10 g => ?_)
    refine lv_aload_n hx hb dX9_addField_53 rfl (lv_at hl 0 rfl) ?_
    refine lv_dup hx hb dX9_addField_54 rfl ?_
    refine g_getk (C := RX9) (T := TX9) (N := 13) hx hb hts (mc_ inX9) hown hK g rfl 7 (by decide) rfl (hts _ (List.mem_cons_of_mem _ t_493)) (fun _ h9 => h9) 4 rfl dX9_addField_55 ?_
    refine lv_iload_n hx hb dX9_addField_58 rfl (lv_at hl 2 rfl) ?_
    refine lv_iconst (v := 1) hx hb dX9_addField_59 (by decide) ?_
    have kb_1 : bd 1 1 (1 : Int32) := ⟨by decide, by decide⟩
    refine va_mmax hx hb (hml.trans hl.1.symm) hown (hts _ (List.mem_cons_of_mem _ t_1168)) (hts _ (List.mem_cons_of_mem _ t_1041)) (hts _ (List.mem_cons_of_mem _ t_204)) (hts _ (List.mem_cons_of_mem _ t_1042)) (Nat.le_of_ble_eq_true rfl) (Nat.le_of_ble_eq_true rfl) (Nat.le_of_ble_eq_true rfl) (Nat.le_of_ble_eq_true rfl) dX9_addField_60 ?_
    refine lv_topi (fun y_11 ey_11 => ?_)
    have ty_11 : y_11.toInt = max x2_.toInt (1 : Int32).toInt := by rw [ey_11]; exact mmax_ok _ _
    have b_12 : bd 4 4 y_11 := max_rg ty_11 bx2_ kb_1 (by decide)
    refine lv_iadd hx hb dX9_addField_63 ?_
    refine lv_topi (fun y_13 ey_13 => ?_)
    have ty_13 := add_bd ey_13 by0_ b_12 (by decide)
    have b_14 : bd 4 24 y_13 := add_rg ty_13 by0_ b_12 (by decide)
    refine g_put (C := RX9) (T := TX9) (N := 13) hx hb hts (mc_ inX9) tyX9 tyX9_ok nmX9 hown hK g ma0_ ka0_ (by decide) rfl 7 (by decide) (hts _ (List.mem_cons_of_mem _ t_493)) (fun _ h9 => h9) rfl rfl (okV_i (bd_sub b_14 (by decide))) rfl rfl (by decide) (Or.inr (Or.inl (by decide))) (fx' := [(9, 6, a0_, .ref a_9), (9, 5, a0_, .ref a_7), (9, 4, a0_, .ref a_5), (9, 3, a0_, .ref a_3), (9, 2, a0_, .int y1_)]) rfl dX9_addField_64 (fun f H locs hM_15 g => ?_)
    refine lv_aload_n hx hb dX9_addField_67 rfl (lv_at hl 0 rfl) ?_
    refine lv_dup hx hb dX9_addField_68 rfl ?_
    refine g_getk (C := RX9) (T := TX9) (N := 13) hx hb hts (mc_ inX9) hown hK g rfl 2 (by decide) rfl (hts _ (List.mem_cons_of_mem _ t_485)) (fun _ h9 => h9) 5 rfl dX9_addField_69 ?_
    refine lv_iconst (v := 1) hx hb dX9_addField_72 (by decide) ?_
    refine lv_iadd hx hb dX9_addField_73 ?_
    refine lv_topi (fun y_16 ey_16 => ?_)
    have ty_16 := add_bd ey_16 by1_ kb_1 (by decide)
    have b_17 : bd 1 10 y_16 := add_rg ty_16 by1_ kb_1 (by decide)
    refine g_put (C := RX9) (T := TX9) (N := 13) hx hb hts (mc_ inX9) tyX9 tyX9_ok nmX9 hown hK g ma0_ ka0_ (by decide) rfl 2 (by decide) (hts _ (List.mem_cons_of_mem _ t_485)) (fun _ h9 => h9) rfl rfl (okV_i (bd_sub b_17 (by decide))) rfl rfl (by decide) (Or.inr (Or.inl (by decide))) (fx' := [(9, 7, a0_, .int y_13), (9, 6, a0_, .ref a_9), (9, 5, a0_, .ref a_7), (9, 4, a0_, .ref a_5), (9, 3, a0_, .ref a_3)]) rfl dX9_addField_74 (fun f H locs hM_18 g => ?_)
    subst hQ
    exact W.vret hx hb hr (fun t ht hW => ⟨⟨_, rfl, ⟨y_16, b_17, y_13, b_14, (g.fcts [0, 1] rfl)⟩, q3_of g hK ht hW⟩, g.2.2.1.F ht⟩) g.2.2.1.2.2 dX9_addField_77
set_option maxHeartbeats 4000000 in
set_option maxRecDepth 100000 in
theorem r_X9_addField_11 (l : Launch) (dC : Nat → ClassId) (dI : Nat → Nat → Nat) (L : List Nat) (kd : Nat → Nat) (tys : List (ClassId × FieldType)) (f0 : Nat → va_E) (sz : Nat) (hWT : WT L kd tys f0) (a0_ : Nat) (ma0_ : a0_ ∈ L) (ka0_ : kd a0_ = 9) (x1_ : Int64) (x2_ : Int32) (bx2_ : bd 5 5 x2_) (x3_ : Int32) (bx3_ : bd 0 0 x3_) (y0_ : Int32) (by0_ : bd 0 19 y0_) (y1_ : Int32) (by1_ : bd 0 9 y1_) (hfx : Fs L kd f0 [(9, 7, a0_, .int y0_), (9, 2, a0_, .int y1_)]) : Met l yX9_addField (.code yX9_addField cX9_addField 5 none :: lw_g) ({ frames := 1, cells := 0, slots := 0, locals := 15 }) (va_Pc [.ref a0_, .long x1_, .int x2_, .int x3_] (P3 (dC, dI) L tys f0 sz)) (va_Qv (fun (f : Nat → va_E) => (∃ z0_ : Int32, bd 1 10 z0_ ∧ ∃ z1_ : Int32, bd 5 24 z1_ ∧ Fs L kd f [(9, 2, a0_, .int z0_), (9, 7, a0_, .int z1_)])) (Q3 (dC, dI) L kd tys [(9, 2), (9, 7)] [152, 153, 154, 155] f0 sz) (pA L sz)) 0 0 (pA L sz) := by
  refine Met.ofW (cc := cX9_addField) (maxL := 5) (ret := none) (by decide) rfl ?_
  intro p e s m args below meth c s₁ B hml hv
  obtain ⟨rfl, hsz, hP, hK, hD0⟩ := hv
  have hx := B.exec
  have hb := B.bytes
  have hr := B.returns
  have hts := atoms_spec (ws := (.code yX9_addField cX9_addField 5 none :: lw_g)) B.pre
  have hown : s.vm.findClass RX9 = some m.cls := findClass_of_methodNamed B.named
  have hlocks := B.notSynchronized
  subst hsz
  have g : G3 (dC, dI) L kd tys s f0 [(9, 2), (9, 7)] [152, 153, 154, 155] f0 s.heap [] [(9, 7, a0_, .int y0_), (9, 2, a0_, .int y1_)] := G3.start hP hD0 hWT hfx
  have hl := lv_entry ([.ref a0_, .long x1_, .int x2_, .int x3_]) (n := 5) (Nat.le_of_ble_eq_true rfl)
  rw [lg_entry_eq]
  generalize (lg_sl ([.ref a0_, .long x1_, .int x2_, .int x3_]) ++ List.replicate (5 - (lg_sl ([.ref a0_, .long x1_, .int x2_, .int x3_])).length) Slot.unset).toArray = ls at hl ⊢
  have hl : lv_has ls 5 [(0, .ref a0_), (1, .long x1_), (3, .int x2_), (4, .int x3_)] := hl
  refine W_q (fun Q hQ => ?_)
  refine lv_aload_n hx hb dX9_addField_0 rfl (lv_at hl 0 rfl) ?_
  refine g_getk (C := RX9) (T := TX9) (N := 13) hx hb hts (mc_ inX9) hown hK g rfl 2 (by decide) rfl (hts _ (List.mem_cons_of_mem _ t_485)) (fun _ h9 => h9) 1 rfl dX9_addField_1 ?_
  refine lv_bipush (v := 10) hx hb dX9_addField_4 (by decide) ?_
  have kb_10 : bd 10 10 (10 : Int32) := ⟨by decide, by decide⟩
  refine lv_icmp_ge (tgt := 77) hx hb dX9_addField_6 (by decide) (fun c_1 => ?_) (fun c_1 => ?_)
  · have fc_1 := le_f c_1
    have b_2 : bd 10 9 (10 : Int32) := leL fc_1 kb_10 by1_ (by decide)
    exact bd_no (eqX rfl b_2 kb_10 (lo := 10) (hi := 9) (by decide)) (by decide)
  · have fc_1 := nle_f c_1
    refine lv_aload_n hx hb dX9_addField_9 rfl (lv_at hl 0 rfl) ?_
    refine g_getr (K := 152) (C := RX9) (T := TX9) (N := 13) hx hb hts (mc_ inX9) hown hK g ma0_ ka0_ (by decide) rfl 3 (by decide) rfl (hts _ (List.mem_cons_of_mem _ t_488)) (fun _ h9 => h9) rfl dX9_addField_10 (fun a_3 ma_3 ka_3 g => ?_)
    refine lv_aload_n hx hb dX9_addField_13 rfl (lv_at hl 0 rfl) ?_
    refine g_getk (C := RX9) (T := TX9) (N := 13) hx hb hts (mc_ inX9) hown hK g rfl 2 (by decide) rfl (hts _ (List.mem_cons_of_mem _ t_485)) (fun _ h9 => h9) 2 rfl dX9_addField_14 ?_
    refine lv_lload_n hx hb dX9_addField_17 rfl (lv_at hl 1 rfl) ?_
    refine g_last hx hb hK g ma_3 ka_3 (by decide) rfl (in_bd by1_ (by decide)) (by decide) dX9_addField_18 (fun f H locs hM_4 g => ?_)
    refine lv_aload_n hx hb dX9_addField_19 rfl (lv_at hl 0 rfl) ?_
    refine g_getr (K := 153) (C := RX9) (T := TX9) (N := 13) hx hb hts (mc_ inX9) hown hK g ma0_ ka0_ (by decide) rfl 4 (by decide) rfl (hts _ (List.mem_cons_of_mem _ t_489)) (fun _ h9 => h9) rfl dX9_addField_20 (fun a_5 ma_5 ka_5 g => ?_)
    refine lv_aload_n hx hb dX9_addField_23 rfl (lv_at hl 0 rfl) ?_
    refine g_getk (C := RX9) (T := TX9) (N := 13) hx hb hts (mc_ inX9) hown hK g rfl 2 (by decide) rfl (hts _ (List.mem_cons_of_mem _ t_485)) (fun _ h9 => h9) 3 rfl dX9_addField_24 ?_
    refine lv_aload_n hx hb dX9_addField_27 rfl (lv_at hl 0 rfl) ?_
    refine g_getk (C := RX9) (T := TX9) (N := 13) hx hb hts (mc_ inX9) hown hK g rfl 7 (by decide) rfl (hts _ (List.mem_cons_of_mem _ t_493)) (fun _ h9 => h9) 2 rfl dX9_addField_28 ?_
    refine g_iast hx hb hK g ma_5 ka_5 (by decide) rfl (in_bd by1_ (by decide)) (bd_sub by0_ (by decide)) (by decide) dX9_addField_31 (fun f H locs hM_6 g => ?_)
    refine lv_aload_n hx hb dX9_addField_32 rfl (lv_at hl 0 rfl) ?_
    refine g_getr (K := 154) (C := RX9) (T := TX9) (N := 13) hx hb hts (mc_ inX9) hown hK g ma0_ ka0_ (by decide) rfl 5 (by decide) rfl (hts _ (List.mem_cons_of_mem _ t_490)) (fun _ h9 => h9) rfl dX9_addField_33 (fun a_7 ma_7 ka_7 g => ?_)
    refine lv_aload_n hx hb dX9_addField_36 rfl (lv_at hl 0 rfl) ?_
    refine g_getk (C := RX9) (T := TX9) (N := 13) hx hb hts (mc_ inX9) hown hK g rfl 2 (by decide) rfl (hts _ (List.mem_cons_of_mem _ t_485)) (fun _ h9 => h9) 4 rfl dX9_addField_37 ?_
    refine lv_iload_n hx hb dX9_addField_40 rfl (lv_at hl 2 rfl) ?_
    refine g_iast hx hb hK g ma_7 ka_7 (by decide) rfl (in_bd by1_ (by decide)) (bd_sub bx2_ (by decide)) (by decide) dX9_addField_41 (fun f H locs hM_8 g => ?_)
    refine lv_aload_n hx hb dX9_addField_42 rfl (lv_at hl 0 rfl) ?_
    refine g_getr (K := 155) (C := RX9) (T := TX9) (N := 13) hx hb hts (mc_ inX9) hown hK g ma0_ ka0_ (by decide) rfl 6 (by decide) rfl (hts _ (List.mem_cons_of_mem _ t_492)) (fun _ h9 => h9) rfl dX9_addField_43 (fun a_9 ma_9 ka_9 g => ?_)
    refine lv_aload_n hx hb dX9_addField_46 rfl (lv_at hl 0 rfl) ?_
    refine g_getk (C := RX9) (T := TX9) (N := 13) hx hb hts (mc_ inX9) hown hK g rfl 2 (by decide) rfl (hts _ (List.mem_cons_of_mem _ t_485)) (fun _ h9 => h9) 5 rfl dX9_addField_47 ?_
    refine lv_iload hx hb dX9_addField_50 (lv_at hl 3 rfl) ?_
    refine g_iast hx hb hK g ma_9 ka_9 (by decide) rfl (in_bd by1_ (by decide)) (bd_sub bx3_ (by decide)) (by decide) dX9_addField_52 (fun f H locs hM_10 g => ?_)
    refine lv_aload_n hx hb dX9_addField_53 rfl (lv_at hl 0 rfl) ?_
    refine lv_dup hx hb dX9_addField_54 rfl ?_
    refine g_getk (C := RX9) (T := TX9) (N := 13) hx hb hts (mc_ inX9) hown hK g rfl 7 (by decide) rfl (hts _ (List.mem_cons_of_mem _ t_493)) (fun _ h9 => h9) 4 rfl dX9_addField_55 ?_
    refine lv_iload_n hx hb dX9_addField_58 rfl (lv_at hl 2 rfl) ?_
    refine lv_iconst (v := 1) hx hb dX9_addField_59 (by decide) ?_
    have kb_1 : bd 1 1 (1 : Int32) := ⟨by decide, by decide⟩
    refine va_mmax hx hb (hml.trans hl.1.symm) hown (hts _ (List.mem_cons_of_mem _ t_1168)) (hts _ (List.mem_cons_of_mem _ t_1041)) (hts _ (List.mem_cons_of_mem _ t_204)) (hts _ (List.mem_cons_of_mem _ t_1042)) (Nat.le_of_ble_eq_true rfl) (Nat.le_of_ble_eq_true rfl) (Nat.le_of_ble_eq_true rfl) (Nat.le_of_ble_eq_true rfl) dX9_addField_60 ?_
    refine lv_topi (fun y_11 ey_11 => ?_)
    have ty_11 : y_11.toInt = max x2_.toInt (1 : Int32).toInt := by rw [ey_11]; exact mmax_ok _ _
    have b_12 : bd 5 5 y_11 := max_rg ty_11 bx2_ kb_1 (by decide)
    refine lv_iadd hx hb dX9_addField_63 ?_
    refine lv_topi (fun y_13 ey_13 => ?_)
    have ty_13 := add_bd ey_13 by0_ b_12 (by decide)
    have b_14 : bd 5 24 y_13 := add_rg ty_13 by0_ b_12 (by decide)
    refine g_put (C := RX9) (T := TX9) (N := 13) hx hb hts (mc_ inX9) tyX9 tyX9_ok nmX9 hown hK g ma0_ ka0_ (by decide) rfl 7 (by decide) (hts _ (List.mem_cons_of_mem _ t_493)) (fun _ h9 => h9) rfl rfl (okV_i (bd_sub b_14 (by decide))) rfl rfl (by decide) (Or.inr (Or.inl (by decide))) (fx' := [(9, 6, a0_, .ref a_9), (9, 5, a0_, .ref a_7), (9, 4, a0_, .ref a_5), (9, 3, a0_, .ref a_3), (9, 2, a0_, .int y1_)]) rfl dX9_addField_64 (fun f H locs hM_15 g => ?_)
    refine lv_aload_n hx hb dX9_addField_67 rfl (lv_at hl 0 rfl) ?_
    refine lv_dup hx hb dX9_addField_68 rfl ?_
    refine g_getk (C := RX9) (T := TX9) (N := 13) hx hb hts (mc_ inX9) hown hK g rfl 2 (by decide) rfl (hts _ (List.mem_cons_of_mem _ t_485)) (fun _ h9 => h9) 5 rfl dX9_addField_69 ?_
    refine lv_iconst (v := 1) hx hb dX9_addField_72 (by decide) ?_
    refine lv_iadd hx hb dX9_addField_73 ?_
    refine lv_topi (fun y_16 ey_16 => ?_)
    have ty_16 := add_bd ey_16 by1_ kb_1 (by decide)
    have b_17 : bd 1 10 y_16 := add_rg ty_16 by1_ kb_1 (by decide)
    refine g_put (C := RX9) (T := TX9) (N := 13) hx hb hts (mc_ inX9) tyX9 tyX9_ok nmX9 hown hK g ma0_ ka0_ (by decide) rfl 2 (by decide) (hts _ (List.mem_cons_of_mem _ t_485)) (fun _ h9 => h9) rfl rfl (okV_i (bd_sub b_17 (by decide))) rfl rfl (by decide) (Or.inr (Or.inl (by decide))) (fx' := [(9, 7, a0_, .int y_13), (9, 6, a0_, .ref a_9), (9, 5, a0_, .ref a_7), (9, 4, a0_, .ref a_5), (9, 3, a0_, .ref a_3)]) rfl dX9_addField_74 (fun f H locs hM_18 g => ?_)
    subst hQ
    exact W.vret hx hb hr (fun t ht hW => ⟨⟨_, rfl, ⟨y_16, b_17, y_13, b_14, (g.fcts [0, 1] rfl)⟩, q3_of g hK ht hW⟩, g.2.2.1.F ht⟩) g.2.2.1.2.2 dX9_addField_77
set_option maxHeartbeats 4000000 in
set_option maxRecDepth 100000 in
theorem r_X9_addField_12 (l : Launch) (dC : Nat → ClassId) (dI : Nat → Nat → Nat) (L : List Nat) (kd : Nat → Nat) (tys : List (ClassId × FieldType)) (f0 : Nat → va_E) (sz : Nat) (hWT : WT L kd tys f0) (a0_ : Nat) (ma0_ : a0_ ∈ L) (ka0_ : kd a0_ = 9) (x1_ : Int64) (x2_ : Int32) (bx2_ : bd 5 5 x2_) (x3_ : Int32) (y0_ : Int32) (by0_ : bd 0 19 y0_) (y1_ : Int32) (by1_ : bd 0 9 y1_) (hfx : Fs L kd f0 [(9, 7, a0_, .int y0_), (9, 2, a0_, .int y1_)]) : Met l yX9_addField (.code yX9_addField cX9_addField 5 none :: lw_g) ({ frames := 1, cells := 0, slots := 0, locals := 15 }) (va_Pc [.ref a0_, .long x1_, .int x2_, .int x3_] (P3 (dC, dI) L tys f0 sz)) (va_Qv (fun (f : Nat → va_E) => (∃ z0_ : Int32, bd 1 10 z0_ ∧ ∃ z1_ : Int32, bd 5 24 z1_ ∧ Fs L kd f [(9, 2, a0_, .int z0_), (9, 7, a0_, .int z1_)])) (Q3 (dC, dI) L kd tys [(9, 2), (9, 7)] [152, 153, 154, 155] f0 sz) (pA L sz)) 0 0 (pA L sz) := by
  refine Met.ofW (cc := cX9_addField) (maxL := 5) (ret := none) (by decide) rfl ?_
  intro p e s m args below meth c s₁ B hml hv
  obtain ⟨rfl, hsz, hP, hK, hD0⟩ := hv
  have hx := B.exec
  have hb := B.bytes
  have hr := B.returns
  have hts := atoms_spec (ws := (.code yX9_addField cX9_addField 5 none :: lw_g)) B.pre
  have hown : s.vm.findClass RX9 = some m.cls := findClass_of_methodNamed B.named
  have hlocks := B.notSynchronized
  subst hsz
  have g : G3 (dC, dI) L kd tys s f0 [(9, 2), (9, 7)] [152, 153, 154, 155] f0 s.heap [] [(9, 7, a0_, .int y0_), (9, 2, a0_, .int y1_)] := G3.start hP hD0 hWT hfx
  have hl := lv_entry ([.ref a0_, .long x1_, .int x2_, .int x3_]) (n := 5) (Nat.le_of_ble_eq_true rfl)
  rw [lg_entry_eq]
  generalize (lg_sl ([.ref a0_, .long x1_, .int x2_, .int x3_]) ++ List.replicate (5 - (lg_sl ([.ref a0_, .long x1_, .int x2_, .int x3_])).length) Slot.unset).toArray = ls at hl ⊢
  have hl : lv_has ls 5 [(0, .ref a0_), (1, .long x1_), (3, .int x2_), (4, .int x3_)] := hl
  refine W_q (fun Q hQ => ?_)
  refine lv_aload_n hx hb dX9_addField_0 rfl (lv_at hl 0 rfl) ?_
  refine g_getk (C := RX9) (T := TX9) (N := 13) hx hb hts (mc_ inX9) hown hK g rfl 2 (by decide) rfl (hts _ (List.mem_cons_of_mem _ t_485)) (fun _ h9 => h9) 1 rfl dX9_addField_1 ?_
  refine lv_bipush (v := 10) hx hb dX9_addField_4 (by decide) ?_
  have kb_10 : bd 10 10 (10 : Int32) := ⟨by decide, by decide⟩
  refine lv_icmp_ge (tgt := 77) hx hb dX9_addField_6 (by decide) (fun c_1 => ?_) (fun c_1 => ?_)
  · have fc_1 := le_f c_1
    have b_2 : bd 10 9 (10 : Int32) := leL fc_1 kb_10 by1_ (by decide)
    exact bd_no (eqX rfl b_2 kb_10 (lo := 10) (hi := 9) (by decide)) (by decide)
  · have fc_1 := nle_f c_1
    refine lv_aload_n hx hb dX9_addField_9 rfl (lv_at hl 0 rfl) ?_
    refine g_getr (K := 152) (C := RX9) (T := TX9) (N := 13) hx hb hts (mc_ inX9) hown hK g ma0_ ka0_ (by decide) rfl 3 (by decide) rfl (hts _ (List.mem_cons_of_mem _ t_488)) (fun _ h9 => h9) rfl dX9_addField_10 (fun a_3 ma_3 ka_3 g => ?_)
    refine lv_aload_n hx hb dX9_addField_13 rfl (lv_at hl 0 rfl) ?_
    refine g_getk (C := RX9) (T := TX9) (N := 13) hx hb hts (mc_ inX9) hown hK g rfl 2 (by decide) rfl (hts _ (List.mem_cons_of_mem _ t_485)) (fun _ h9 => h9) 2 rfl dX9_addField_14 ?_
    refine lv_lload_n hx hb dX9_addField_17 rfl (lv_at hl 1 rfl) ?_
    refine g_last hx hb hK g ma_3 ka_3 (by decide) rfl (in_bd by1_ (by decide)) (by decide) dX9_addField_18 (fun f H locs hM_4 g => ?_)
    refine lv_aload_n hx hb dX9_addField_19 rfl (lv_at hl 0 rfl) ?_
    refine g_getr (K := 153) (C := RX9) (T := TX9) (N := 13) hx hb hts (mc_ inX9) hown hK g ma0_ ka0_ (by decide) rfl 4 (by decide) rfl (hts _ (List.mem_cons_of_mem _ t_489)) (fun _ h9 => h9) rfl dX9_addField_20 (fun a_5 ma_5 ka_5 g => ?_)
    refine lv_aload_n hx hb dX9_addField_23 rfl (lv_at hl 0 rfl) ?_
    refine g_getk (C := RX9) (T := TX9) (N := 13) hx hb hts (mc_ inX9) hown hK g rfl 2 (by decide) rfl (hts _ (List.mem_cons_of_mem _ t_485)) (fun _ h9 => h9) 3 rfl dX9_addField_24 ?_
    refine lv_aload_n hx hb dX9_addField_27 rfl (lv_at hl 0 rfl) ?_
    refine g_getk (C := RX9) (T := TX9) (N := 13) hx hb hts (mc_ inX9) hown hK g rfl 7 (by decide) rfl (hts _ (List.mem_cons_of_mem _ t_493)) (fun _ h9 => h9) 2 rfl dX9_addField_28 ?_
    refine g_iast hx hb hK g ma_5 ka_5 (by decide) rfl (in_bd by1_ (by decide)) (bd_sub by0_ (by decide)) (by decide) dX9_addField_31 (fun f H locs hM_6 g => ?_)
    refine lv_aload_n hx hb dX9_addField_32 rfl (lv_at hl 0 rfl) ?_
    refine g_getr (K := 154) (C := RX9) (T := TX9) (N := 13) hx hb hts (mc_ inX9) hown hK g ma0_ ka0_ (by decide) rfl 5 (by decide) rfl (hts _ (List.mem_cons_of_mem _ t_490)) (fun _ h9 => h9) rfl dX9_addField_33 (fun a_7 ma_7 ka_7 g => ?_)
    refine lv_aload_n hx hb dX9_addField_36 rfl (lv_at hl 0 rfl) ?_
    refine g_getk (C := RX9) (T := TX9) (N := 13) hx hb hts (mc_ inX9) hown hK g rfl 2 (by decide) rfl (hts _ (List.mem_cons_of_mem _ t_485)) (fun _ h9 => h9) 4 rfl dX9_addField_37 ?_
    refine lv_iload_n hx hb dX9_addField_40 rfl (lv_at hl 2 rfl) ?_
    refine g_iast hx hb hK g ma_7 ka_7 (by decide) rfl (in_bd by1_ (by decide)) (bd_sub bx2_ (by decide)) (by decide) dX9_addField_41 (fun f H locs hM_8 g => ?_)
    refine lv_aload_n hx hb dX9_addField_42 rfl (lv_at hl 0 rfl) ?_
    refine g_getr (K := 155) (C := RX9) (T := TX9) (N := 13) hx hb hts (mc_ inX9) hown hK g ma0_ ka0_ (by decide) rfl 6 (by decide) rfl (hts _ (List.mem_cons_of_mem _ t_492)) (fun _ h9 => h9) rfl dX9_addField_43 (fun a_9 ma_9 ka_9 g => ?_)
    refine lv_aload_n hx hb dX9_addField_46 rfl (lv_at hl 0 rfl) ?_
    refine g_getk (C := RX9) (T := TX9) (N := 13) hx hb hts (mc_ inX9) hown hK g rfl 2 (by decide) rfl (hts _ (List.mem_cons_of_mem _ t_485)) (fun _ h9 => h9) 5 rfl dX9_addField_47 ?_
    refine lv_iload hx hb dX9_addField_50 (lv_at hl 3 rfl) ?_
    refine g_iast hx hb hK g ma_9 ka_9 (by decide) rfl (in_bd by1_ (by decide)) (bdT x3_) (by decide) dX9_addField_52 (fun f H locs hM_10 g => ?_)
    refine lv_aload_n hx hb dX9_addField_53 rfl (lv_at hl 0 rfl) ?_
    refine lv_dup hx hb dX9_addField_54 rfl ?_
    refine g_getk (C := RX9) (T := TX9) (N := 13) hx hb hts (mc_ inX9) hown hK g rfl 7 (by decide) rfl (hts _ (List.mem_cons_of_mem _ t_493)) (fun _ h9 => h9) 4 rfl dX9_addField_55 ?_
    refine lv_iload_n hx hb dX9_addField_58 rfl (lv_at hl 2 rfl) ?_
    refine lv_iconst (v := 1) hx hb dX9_addField_59 (by decide) ?_
    have kb_1 : bd 1 1 (1 : Int32) := ⟨by decide, by decide⟩
    refine va_mmax hx hb (hml.trans hl.1.symm) hown (hts _ (List.mem_cons_of_mem _ t_1168)) (hts _ (List.mem_cons_of_mem _ t_1041)) (hts _ (List.mem_cons_of_mem _ t_204)) (hts _ (List.mem_cons_of_mem _ t_1042)) (Nat.le_of_ble_eq_true rfl) (Nat.le_of_ble_eq_true rfl) (Nat.le_of_ble_eq_true rfl) (Nat.le_of_ble_eq_true rfl) dX9_addField_60 ?_
    refine lv_topi (fun y_11 ey_11 => ?_)
    have ty_11 : y_11.toInt = max x2_.toInt (1 : Int32).toInt := by rw [ey_11]; exact mmax_ok _ _
    have b_12 : bd 5 5 y_11 := max_rg ty_11 bx2_ kb_1 (by decide)
    refine lv_iadd hx hb dX9_addField_63 ?_
    refine lv_topi (fun y_13 ey_13 => ?_)
    have ty_13 := add_bd ey_13 by0_ b_12 (by decide)
    have b_14 : bd 5 24 y_13 := add_rg ty_13 by0_ b_12 (by decide)
    refine g_put (C := RX9) (T := TX9) (N := 13) hx hb hts (mc_ inX9) tyX9 tyX9_ok nmX9 hown hK g ma0_ ka0_ (by decide) rfl 7 (by decide) (hts _ (List.mem_cons_of_mem _ t_493)) (fun _ h9 => h9) rfl rfl (okV_i (bd_sub b_14 (by decide))) rfl rfl (by decide) (Or.inr (Or.inl (by decide))) (fx' := [(9, 6, a0_, .ref a_9), (9, 5, a0_, .ref a_7), (9, 4, a0_, .ref a_5), (9, 3, a0_, .ref a_3), (9, 2, a0_, .int y1_)]) rfl dX9_addField_64 (fun f H locs hM_15 g => ?_)
    refine lv_aload_n hx hb dX9_addField_67 rfl (lv_at hl 0 rfl) ?_
    refine lv_dup hx hb dX9_addField_68 rfl ?_
    refine g_getk (C := RX9) (T := TX9) (N := 13) hx hb hts (mc_ inX9) hown hK g rfl 2 (by decide) rfl (hts _ (List.mem_cons_of_mem _ t_485)) (fun _ h9 => h9) 5 rfl dX9_addField_69 ?_
    refine lv_iconst (v := 1) hx hb dX9_addField_72 (by decide) ?_
    refine lv_iadd hx hb dX9_addField_73 ?_
    refine lv_topi (fun y_16 ey_16 => ?_)
    have ty_16 := add_bd ey_16 by1_ kb_1 (by decide)
    have b_17 : bd 1 10 y_16 := add_rg ty_16 by1_ kb_1 (by decide)
    refine g_put (C := RX9) (T := TX9) (N := 13) hx hb hts (mc_ inX9) tyX9 tyX9_ok nmX9 hown hK g ma0_ ka0_ (by decide) rfl 2 (by decide) (hts _ (List.mem_cons_of_mem _ t_485)) (fun _ h9 => h9) rfl rfl (okV_i (bd_sub b_17 (by decide))) rfl rfl (by decide) (Or.inr (Or.inl (by decide))) (fx' := [(9, 7, a0_, .int y_13), (9, 6, a0_, .ref a_9), (9, 5, a0_, .ref a_7), (9, 4, a0_, .ref a_5), (9, 3, a0_, .ref a_3)]) rfl dX9_addField_74 (fun f H locs hM_18 g => ?_)
    subst hQ
    exact W.vret hx hb hr (fun t ht hW => ⟨⟨_, rfl, ⟨y_16, b_17, y_13, b_14, (g.fcts [0, 1] rfl)⟩, q3_of g hK ht hW⟩, g.2.2.1.F ht⟩) g.2.2.1.2.2 dX9_addField_77
set_option maxHeartbeats 4000000 in
set_option maxRecDepth 100000 in
theorem r_X9_addField_13 (l : Launch) (dC : Nat → ClassId) (dI : Nat → Nat → Nat) (L : List Nat) (kd : Nat → Nat) (tys : List (ClassId × FieldType)) (f0 : Nat → va_E) (sz : Nat) (hWT : WT L kd tys f0) (a0_ : Nat) (ma0_ : a0_ ∈ L) (ka0_ : kd a0_ = 9) (x1_ : Int64) (x2_ : Int32) (bx2_ : bd 6 6 x2_) (x3_ : Int32) (bx3_ : bd 0 0 x3_) (y0_ : Int32) (by0_ : bd 0 18 y0_) (y1_ : Int32) (by1_ : bd 0 9 y1_) (hfx : Fs L kd f0 [(9, 7, a0_, .int y0_), (9, 2, a0_, .int y1_)]) : Met l yX9_addField (.code yX9_addField cX9_addField 5 none :: lw_g) ({ frames := 1, cells := 0, slots := 0, locals := 15 }) (va_Pc [.ref a0_, .long x1_, .int x2_, .int x3_] (P3 (dC, dI) L tys f0 sz)) (va_Qv (fun (f : Nat → va_E) => (∃ z0_ : Int32, bd 1 10 z0_ ∧ ∃ z1_ : Int32, bd 6 24 z1_ ∧ Fs L kd f [(9, 2, a0_, .int z0_), (9, 7, a0_, .int z1_)])) (Q3 (dC, dI) L kd tys [(9, 2), (9, 7)] [152, 153, 154, 155] f0 sz) (pA L sz)) 0 0 (pA L sz) := by
  refine Met.ofW (cc := cX9_addField) (maxL := 5) (ret := none) (by decide) rfl ?_
  intro p e s m args below meth c s₁ B hml hv
  obtain ⟨rfl, hsz, hP, hK, hD0⟩ := hv
  have hx := B.exec
  have hb := B.bytes
  have hr := B.returns
  have hts := atoms_spec (ws := (.code yX9_addField cX9_addField 5 none :: lw_g)) B.pre
  have hown : s.vm.findClass RX9 = some m.cls := findClass_of_methodNamed B.named
  have hlocks := B.notSynchronized
  subst hsz
  have g : G3 (dC, dI) L kd tys s f0 [(9, 2), (9, 7)] [152, 153, 154, 155] f0 s.heap [] [(9, 7, a0_, .int y0_), (9, 2, a0_, .int y1_)] := G3.start hP hD0 hWT hfx
  have hl := lv_entry ([.ref a0_, .long x1_, .int x2_, .int x3_]) (n := 5) (Nat.le_of_ble_eq_true rfl)
  rw [lg_entry_eq]
  generalize (lg_sl ([.ref a0_, .long x1_, .int x2_, .int x3_]) ++ List.replicate (5 - (lg_sl ([.ref a0_, .long x1_, .int x2_, .int x3_])).length) Slot.unset).toArray = ls at hl ⊢
  have hl : lv_has ls 5 [(0, .ref a0_), (1, .long x1_), (3, .int x2_), (4, .int x3_)] := hl
  refine W_q (fun Q hQ => ?_)
  refine lv_aload_n hx hb dX9_addField_0 rfl (lv_at hl 0 rfl) ?_
  refine g_getk (C := RX9) (T := TX9) (N := 13) hx hb hts (mc_ inX9) hown hK g rfl 2 (by decide) rfl (hts _ (List.mem_cons_of_mem _ t_485)) (fun _ h9 => h9) 1 rfl dX9_addField_1 ?_
  refine lv_bipush (v := 10) hx hb dX9_addField_4 (by decide) ?_
  have kb_10 : bd 10 10 (10 : Int32) := ⟨by decide, by decide⟩
  refine lv_icmp_ge (tgt := 77) hx hb dX9_addField_6 (by decide) (fun c_1 => ?_) (fun c_1 => ?_)
  · have fc_1 := le_f c_1
    have b_2 : bd 10 9 (10 : Int32) := leL fc_1 kb_10 by1_ (by decide)
    exact bd_no (eqX rfl b_2 kb_10 (lo := 10) (hi := 9) (by decide)) (by decide)
  · have fc_1 := nle_f c_1
    refine lv_aload_n hx hb dX9_addField_9 rfl (lv_at hl 0 rfl) ?_
    refine g_getr (K := 152) (C := RX9) (T := TX9) (N := 13) hx hb hts (mc_ inX9) hown hK g ma0_ ka0_ (by decide) rfl 3 (by decide) rfl (hts _ (List.mem_cons_of_mem _ t_488)) (fun _ h9 => h9) rfl dX9_addField_10 (fun a_3 ma_3 ka_3 g => ?_)
    refine lv_aload_n hx hb dX9_addField_13 rfl (lv_at hl 0 rfl) ?_
    refine g_getk (C := RX9) (T := TX9) (N := 13) hx hb hts (mc_ inX9) hown hK g rfl 2 (by decide) rfl (hts _ (List.mem_cons_of_mem _ t_485)) (fun _ h9 => h9) 2 rfl dX9_addField_14 ?_
    refine lv_lload_n hx hb dX9_addField_17 rfl (lv_at hl 1 rfl) ?_
    refine g_last hx hb hK g ma_3 ka_3 (by decide) rfl (in_bd by1_ (by decide)) (by decide) dX9_addField_18 (fun f H locs hM_4 g => ?_)
    refine lv_aload_n hx hb dX9_addField_19 rfl (lv_at hl 0 rfl) ?_
    refine g_getr (K := 153) (C := RX9) (T := TX9) (N := 13) hx hb hts (mc_ inX9) hown hK g ma0_ ka0_ (by decide) rfl 4 (by decide) rfl (hts _ (List.mem_cons_of_mem _ t_489)) (fun _ h9 => h9) rfl dX9_addField_20 (fun a_5 ma_5 ka_5 g => ?_)
    refine lv_aload_n hx hb dX9_addField_23 rfl (lv_at hl 0 rfl) ?_
    refine g_getk (C := RX9) (T := TX9) (N := 13) hx hb hts (mc_ inX9) hown hK g rfl 2 (by decide) rfl (hts _ (List.mem_cons_of_mem _ t_485)) (fun _ h9 => h9) 3 rfl dX9_addField_24 ?_
    refine lv_aload_n hx hb dX9_addField_27 rfl (lv_at hl 0 rfl) ?_
    refine g_getk (C := RX9) (T := TX9) (N := 13) hx hb hts (mc_ inX9) hown hK g rfl 7 (by decide) rfl (hts _ (List.mem_cons_of_mem _ t_493)) (fun _ h9 => h9) 2 rfl dX9_addField_28 ?_
    refine g_iast hx hb hK g ma_5 ka_5 (by decide) rfl (in_bd by1_ (by decide)) (bd_sub by0_ (by decide)) (by decide) dX9_addField_31 (fun f H locs hM_6 g => ?_)
    refine lv_aload_n hx hb dX9_addField_32 rfl (lv_at hl 0 rfl) ?_
    refine g_getr (K := 154) (C := RX9) (T := TX9) (N := 13) hx hb hts (mc_ inX9) hown hK g ma0_ ka0_ (by decide) rfl 5 (by decide) rfl (hts _ (List.mem_cons_of_mem _ t_490)) (fun _ h9 => h9) rfl dX9_addField_33 (fun a_7 ma_7 ka_7 g => ?_)
    refine lv_aload_n hx hb dX9_addField_36 rfl (lv_at hl 0 rfl) ?_
    refine g_getk (C := RX9) (T := TX9) (N := 13) hx hb hts (mc_ inX9) hown hK g rfl 2 (by decide) rfl (hts _ (List.mem_cons_of_mem _ t_485)) (fun _ h9 => h9) 4 rfl dX9_addField_37 ?_
    refine lv_iload_n hx hb dX9_addField_40 rfl (lv_at hl 2 rfl) ?_
    refine g_iast hx hb hK g ma_7 ka_7 (by decide) rfl (in_bd by1_ (by decide)) (bd_sub bx2_ (by decide)) (by decide) dX9_addField_41 (fun f H locs hM_8 g => ?_)
    refine lv_aload_n hx hb dX9_addField_42 rfl (lv_at hl 0 rfl) ?_
    refine g_getr (K := 155) (C := RX9) (T := TX9) (N := 13) hx hb hts (mc_ inX9) hown hK g ma0_ ka0_ (by decide) rfl 6 (by decide) rfl (hts _ (List.mem_cons_of_mem _ t_492)) (fun _ h9 => h9) rfl dX9_addField_43 (fun a_9 ma_9 ka_9 g => ?_)
    refine lv_aload_n hx hb dX9_addField_46 rfl (lv_at hl 0 rfl) ?_
    refine g_getk (C := RX9) (T := TX9) (N := 13) hx hb hts (mc_ inX9) hown hK g rfl 2 (by decide) rfl (hts _ (List.mem_cons_of_mem _ t_485)) (fun _ h9 => h9) 5 rfl dX9_addField_47 ?_
    refine lv_iload hx hb dX9_addField_50 (lv_at hl 3 rfl) ?_
    refine g_iast hx hb hK g ma_9 ka_9 (by decide) rfl (in_bd by1_ (by decide)) (bd_sub bx3_ (by decide)) (by decide) dX9_addField_52 (fun f H locs hM_10 g => ?_)
    refine lv_aload_n hx hb dX9_addField_53 rfl (lv_at hl 0 rfl) ?_
    refine lv_dup hx hb dX9_addField_54 rfl ?_
    refine g_getk (C := RX9) (T := TX9) (N := 13) hx hb hts (mc_ inX9) hown hK g rfl 7 (by decide) rfl (hts _ (List.mem_cons_of_mem _ t_493)) (fun _ h9 => h9) 4 rfl dX9_addField_55 ?_
    refine lv_iload_n hx hb dX9_addField_58 rfl (lv_at hl 2 rfl) ?_
    refine lv_iconst (v := 1) hx hb dX9_addField_59 (by decide) ?_
    have kb_1 : bd 1 1 (1 : Int32) := ⟨by decide, by decide⟩
    refine va_mmax hx hb (hml.trans hl.1.symm) hown (hts _ (List.mem_cons_of_mem _ t_1168)) (hts _ (List.mem_cons_of_mem _ t_1041)) (hts _ (List.mem_cons_of_mem _ t_204)) (hts _ (List.mem_cons_of_mem _ t_1042)) (Nat.le_of_ble_eq_true rfl) (Nat.le_of_ble_eq_true rfl) (Nat.le_of_ble_eq_true rfl) (Nat.le_of_ble_eq_true rfl) dX9_addField_60 ?_
    refine lv_topi (fun y_11 ey_11 => ?_)
    have ty_11 : y_11.toInt = max x2_.toInt (1 : Int32).toInt := by rw [ey_11]; exact mmax_ok _ _
    have b_12 : bd 6 6 y_11 := max_rg ty_11 bx2_ kb_1 (by decide)
    refine lv_iadd hx hb dX9_addField_63 ?_
    refine lv_topi (fun y_13 ey_13 => ?_)
    have ty_13 := add_bd ey_13 by0_ b_12 (by decide)
    have b_14 : bd 6 24 y_13 := add_rg ty_13 by0_ b_12 (by decide)
    refine g_put (C := RX9) (T := TX9) (N := 13) hx hb hts (mc_ inX9) tyX9 tyX9_ok nmX9 hown hK g ma0_ ka0_ (by decide) rfl 7 (by decide) (hts _ (List.mem_cons_of_mem _ t_493)) (fun _ h9 => h9) rfl rfl (okV_i (bd_sub b_14 (by decide))) rfl rfl (by decide) (Or.inr (Or.inl (by decide))) (fx' := [(9, 6, a0_, .ref a_9), (9, 5, a0_, .ref a_7), (9, 4, a0_, .ref a_5), (9, 3, a0_, .ref a_3), (9, 2, a0_, .int y1_)]) rfl dX9_addField_64 (fun f H locs hM_15 g => ?_)
    refine lv_aload_n hx hb dX9_addField_67 rfl (lv_at hl 0 rfl) ?_
    refine lv_dup hx hb dX9_addField_68 rfl ?_
    refine g_getk (C := RX9) (T := TX9) (N := 13) hx hb hts (mc_ inX9) hown hK g rfl 2 (by decide) rfl (hts _ (List.mem_cons_of_mem _ t_485)) (fun _ h9 => h9) 5 rfl dX9_addField_69 ?_
    refine lv_iconst (v := 1) hx hb dX9_addField_72 (by decide) ?_
    refine lv_iadd hx hb dX9_addField_73 ?_
    refine lv_topi (fun y_16 ey_16 => ?_)
    have ty_16 := add_bd ey_16 by1_ kb_1 (by decide)
    have b_17 : bd 1 10 y_16 := add_rg ty_16 by1_ kb_1 (by decide)
    refine g_put (C := RX9) (T := TX9) (N := 13) hx hb hts (mc_ inX9) tyX9 tyX9_ok nmX9 hown hK g ma0_ ka0_ (by decide) rfl 2 (by decide) (hts _ (List.mem_cons_of_mem _ t_485)) (fun _ h9 => h9) rfl rfl (okV_i (bd_sub b_17 (by decide))) rfl rfl (by decide) (Or.inr (Or.inl (by decide))) (fx' := [(9, 7, a0_, .int y_13), (9, 6, a0_, .ref a_9), (9, 5, a0_, .ref a_7), (9, 4, a0_, .ref a_5), (9, 3, a0_, .ref a_3)]) rfl dX9_addField_74 (fun f H locs hM_18 g => ?_)
    subst hQ
    exact W.vret hx hb hr (fun t ht hW => ⟨⟨_, rfl, ⟨y_16, b_17, y_13, b_14, (g.fcts [0, 1] rfl)⟩, q3_of g hK ht hW⟩, g.2.2.1.F ht⟩) g.2.2.1.2.2 dX9_addField_77
set_option maxHeartbeats 4000000 in
set_option maxRecDepth 100000 in
theorem r_X9_addField_14 (l : Launch) (dC : Nat → ClassId) (dI : Nat → Nat → Nat) (L : List Nat) (kd : Nat → Nat) (tys : List (ClassId × FieldType)) (f0 : Nat → va_E) (sz : Nat) (hWT : WT L kd tys f0) (a0_ : Nat) (ma0_ : a0_ ∈ L) (ka0_ : kd a0_ = 9) (x1_ : Int64) (x2_ : Int32) (bx2_ : bd 6 6 x2_) (x3_ : Int32) (y0_ : Int32) (by0_ : bd 0 18 y0_) (y1_ : Int32) (by1_ : bd 0 9 y1_) (hfx : Fs L kd f0 [(9, 7, a0_, .int y0_), (9, 2, a0_, .int y1_)]) : Met l yX9_addField (.code yX9_addField cX9_addField 5 none :: lw_g) ({ frames := 1, cells := 0, slots := 0, locals := 15 }) (va_Pc [.ref a0_, .long x1_, .int x2_, .int x3_] (P3 (dC, dI) L tys f0 sz)) (va_Qv (fun (f : Nat → va_E) => (∃ z0_ : Int32, bd 1 10 z0_ ∧ ∃ z1_ : Int32, bd 6 24 z1_ ∧ Fs L kd f [(9, 2, a0_, .int z0_), (9, 7, a0_, .int z1_)])) (Q3 (dC, dI) L kd tys [(9, 2), (9, 7)] [152, 153, 154, 155] f0 sz) (pA L sz)) 0 0 (pA L sz) := by
  refine Met.ofW (cc := cX9_addField) (maxL := 5) (ret := none) (by decide) rfl ?_
  intro p e s m args below meth c s₁ B hml hv
  obtain ⟨rfl, hsz, hP, hK, hD0⟩ := hv
  have hx := B.exec
  have hb := B.bytes
  have hr := B.returns
  have hts := atoms_spec (ws := (.code yX9_addField cX9_addField 5 none :: lw_g)) B.pre
  have hown : s.vm.findClass RX9 = some m.cls := findClass_of_methodNamed B.named
  have hlocks := B.notSynchronized
  subst hsz
  have g : G3 (dC, dI) L kd tys s f0 [(9, 2), (9, 7)] [152, 153, 154, 155] f0 s.heap [] [(9, 7, a0_, .int y0_), (9, 2, a0_, .int y1_)] := G3.start hP hD0 hWT hfx
  have hl := lv_entry ([.ref a0_, .long x1_, .int x2_, .int x3_]) (n := 5) (Nat.le_of_ble_eq_true rfl)
  rw [lg_entry_eq]
  generalize (lg_sl ([.ref a0_, .long x1_, .int x2_, .int x3_]) ++ List.replicate (5 - (lg_sl ([.ref a0_, .long x1_, .int x2_, .int x3_])).length) Slot.unset).toArray = ls at hl ⊢
  have hl : lv_has ls 5 [(0, .ref a0_), (1, .long x1_), (3, .int x2_), (4, .int x3_)] := hl
  refine W_q (fun Q hQ => ?_)
  refine lv_aload_n hx hb dX9_addField_0 rfl (lv_at hl 0 rfl) ?_
  refine g_getk (C := RX9) (T := TX9) (N := 13) hx hb hts (mc_ inX9) hown hK g rfl 2 (by decide) rfl (hts _ (List.mem_cons_of_mem _ t_485)) (fun _ h9 => h9) 1 rfl dX9_addField_1 ?_
  refine lv_bipush (v := 10) hx hb dX9_addField_4 (by decide) ?_
  have kb_10 : bd 10 10 (10 : Int32) := ⟨by decide, by decide⟩
  refine lv_icmp_ge (tgt := 77) hx hb dX9_addField_6 (by decide) (fun c_1 => ?_) (fun c_1 => ?_)
  · have fc_1 := le_f c_1
    have b_2 : bd 10 9 (10 : Int32) := leL fc_1 kb_10 by1_ (by decide)
    exact bd_no (eqX rfl b_2 kb_10 (lo := 10) (hi := 9) (by decide)) (by decide)
  · have fc_1 := nle_f c_1
    refine lv_aload_n hx hb dX9_addField_9 rfl (lv_at hl 0 rfl) ?_
    refine g_getr (K := 152) (C := RX9) (T := TX9) (N := 13) hx hb hts (mc_ inX9) hown hK g ma0_ ka0_ (by decide) rfl 3 (by decide) rfl (hts _ (List.mem_cons_of_mem _ t_488)) (fun _ h9 => h9) rfl dX9_addField_10 (fun a_3 ma_3 ka_3 g => ?_)
    refine lv_aload_n hx hb dX9_addField_13 rfl (lv_at hl 0 rfl) ?_
    refine g_getk (C := RX9) (T := TX9) (N := 13) hx hb hts (mc_ inX9) hown hK g rfl 2 (by decide) rfl (hts _ (List.mem_cons_of_mem _ t_485)) (fun _ h9 => h9) 2 rfl dX9_addField_14 ?_
    refine lv_lload_n hx hb dX9_addField_17 rfl (lv_at hl 1 rfl) ?_
    refine g_last hx hb hK g ma_3 ka_3 (by decide) rfl (in_bd by1_ (by decide)) (by decide) dX9_addField_18 (fun f H locs hM_4 g => ?_)
    refine lv_aload_n hx hb dX9_addField_19 rfl (lv_at hl 0 rfl) ?_
    refine g_getr (K := 153) (C := RX9) (T := TX9) (N := 13) hx hb hts (mc_ inX9) hown hK g ma0_ ka0_ (by decide) rfl 4 (by decide) rfl (hts _ (List.mem_cons_of_mem _ t_489)) (fun _ h9 => h9) rfl dX9_addField_20 (fun a_5 ma_5 ka_5 g => ?_)
    refine lv_aload_n hx hb dX9_addField_23 rfl (lv_at hl 0 rfl) ?_
    refine g_getk (C := RX9) (T := TX9) (N := 13) hx hb hts (mc_ inX9) hown hK g rfl 2 (by decide) rfl (hts _ (List.mem_cons_of_mem _ t_485)) (fun _ h9 => h9) 3 rfl dX9_addField_24 ?_
    refine lv_aload_n hx hb dX9_addField_27 rfl (lv_at hl 0 rfl) ?_
    refine g_getk (C := RX9) (T := TX9) (N := 13) hx hb hts (mc_ inX9) hown hK g rfl 7 (by decide) rfl (hts _ (List.mem_cons_of_mem _ t_493)) (fun _ h9 => h9) 2 rfl dX9_addField_28 ?_
    refine g_iast hx hb hK g ma_5 ka_5 (by decide) rfl (in_bd by1_ (by decide)) (bd_sub by0_ (by decide)) (by decide) dX9_addField_31 (fun f H locs hM_6 g => ?_)
    refine lv_aload_n hx hb dX9_addField_32 rfl (lv_at hl 0 rfl) ?_
    refine g_getr (K := 154) (C := RX9) (T := TX9) (N := 13) hx hb hts (mc_ inX9) hown hK g ma0_ ka0_ (by decide) rfl 5 (by decide) rfl (hts _ (List.mem_cons_of_mem _ t_490)) (fun _ h9 => h9) rfl dX9_addField_33 (fun a_7 ma_7 ka_7 g => ?_)
    refine lv_aload_n hx hb dX9_addField_36 rfl (lv_at hl 0 rfl) ?_
    refine g_getk (C := RX9) (T := TX9) (N := 13) hx hb hts (mc_ inX9) hown hK g rfl 2 (by decide) rfl (hts _ (List.mem_cons_of_mem _ t_485)) (fun _ h9 => h9) 4 rfl dX9_addField_37 ?_
    refine lv_iload_n hx hb dX9_addField_40 rfl (lv_at hl 2 rfl) ?_
    refine g_iast hx hb hK g ma_7 ka_7 (by decide) rfl (in_bd by1_ (by decide)) (bd_sub bx2_ (by decide)) (by decide) dX9_addField_41 (fun f H locs hM_8 g => ?_)
    refine lv_aload_n hx hb dX9_addField_42 rfl (lv_at hl 0 rfl) ?_
    refine g_getr (K := 155) (C := RX9) (T := TX9) (N := 13) hx hb hts (mc_ inX9) hown hK g ma0_ ka0_ (by decide) rfl 6 (by decide) rfl (hts _ (List.mem_cons_of_mem _ t_492)) (fun _ h9 => h9) rfl dX9_addField_43 (fun a_9 ma_9 ka_9 g => ?_)
    refine lv_aload_n hx hb dX9_addField_46 rfl (lv_at hl 0 rfl) ?_
    refine g_getk (C := RX9) (T := TX9) (N := 13) hx hb hts (mc_ inX9) hown hK g rfl 2 (by decide) rfl (hts _ (List.mem_cons_of_mem _ t_485)) (fun _ h9 => h9) 5 rfl dX9_addField_47 ?_
    refine lv_iload hx hb dX9_addField_50 (lv_at hl 3 rfl) ?_
    refine g_iast hx hb hK g ma_9 ka_9 (by decide) rfl (in_bd by1_ (by decide)) (bdT x3_) (by decide) dX9_addField_52 (fun f H locs hM_10 g => ?_)
    refine lv_aload_n hx hb dX9_addField_53 rfl (lv_at hl 0 rfl) ?_
    refine lv_dup hx hb dX9_addField_54 rfl ?_
    refine g_getk (C := RX9) (T := TX9) (N := 13) hx hb hts (mc_ inX9) hown hK g rfl 7 (by decide) rfl (hts _ (List.mem_cons_of_mem _ t_493)) (fun _ h9 => h9) 4 rfl dX9_addField_55 ?_
    refine lv_iload_n hx hb dX9_addField_58 rfl (lv_at hl 2 rfl) ?_
    refine lv_iconst (v := 1) hx hb dX9_addField_59 (by decide) ?_
    have kb_1 : bd 1 1 (1 : Int32) := ⟨by decide, by decide⟩
    refine va_mmax hx hb (hml.trans hl.1.symm) hown (hts _ (List.mem_cons_of_mem _ t_1168)) (hts _ (List.mem_cons_of_mem _ t_1041)) (hts _ (List.mem_cons_of_mem _ t_204)) (hts _ (List.mem_cons_of_mem _ t_1042)) (Nat.le_of_ble_eq_true rfl) (Nat.le_of_ble_eq_true rfl) (Nat.le_of_ble_eq_true rfl) (Nat.le_of_ble_eq_true rfl) dX9_addField_60 ?_
    refine lv_topi (fun y_11 ey_11 => ?_)
    have ty_11 : y_11.toInt = max x2_.toInt (1 : Int32).toInt := by rw [ey_11]; exact mmax_ok _ _
    have b_12 : bd 6 6 y_11 := max_rg ty_11 bx2_ kb_1 (by decide)
    refine lv_iadd hx hb dX9_addField_63 ?_
    refine lv_topi (fun y_13 ey_13 => ?_)
    have ty_13 := add_bd ey_13 by0_ b_12 (by decide)
    have b_14 : bd 6 24 y_13 := add_rg ty_13 by0_ b_12 (by decide)
    refine g_put (C := RX9) (T := TX9) (N := 13) hx hb hts (mc_ inX9) tyX9 tyX9_ok nmX9 hown hK g ma0_ ka0_ (by decide) rfl 7 (by decide) (hts _ (List.mem_cons_of_mem _ t_493)) (fun _ h9 => h9) rfl rfl (okV_i (bd_sub b_14 (by decide))) rfl rfl (by decide) (Or.inr (Or.inl (by decide))) (fx' := [(9, 6, a0_, .ref a_9), (9, 5, a0_, .ref a_7), (9, 4, a0_, .ref a_5), (9, 3, a0_, .ref a_3), (9, 2, a0_, .int y1_)]) rfl dX9_addField_64 (fun f H locs hM_15 g => ?_)
    refine lv_aload_n hx hb dX9_addField_67 rfl (lv_at hl 0 rfl) ?_
    refine lv_dup hx hb dX9_addField_68 rfl ?_
    refine g_getk (C := RX9) (T := TX9) (N := 13) hx hb hts (mc_ inX9) hown hK g rfl 2 (by decide) rfl (hts _ (List.mem_cons_of_mem _ t_485)) (fun _ h9 => h9) 5 rfl dX9_addField_69 ?_
    refine lv_iconst (v := 1) hx hb dX9_addField_72 (by decide) ?_
    refine lv_iadd hx hb dX9_addField_73 ?_
    refine lv_topi (fun y_16 ey_16 => ?_)
    have ty_16 := add_bd ey_16 by1_ kb_1 (by decide)
    have b_17 : bd 1 10 y_16 := add_rg ty_16 by1_ kb_1 (by decide)
    refine g_put (C := RX9) (T := TX9) (N := 13) hx hb hts (mc_ inX9) tyX9 tyX9_ok nmX9 hown hK g ma0_ ka0_ (by decide) rfl 2 (by decide) (hts _ (List.mem_cons_of_mem _ t_485)) (fun _ h9 => h9) rfl rfl (okV_i (bd_sub b_17 (by decide))) rfl rfl (by decide) (Or.inr (Or.inl (by decide))) (fx' := [(9, 7, a0_, .int y_13), (9, 6, a0_, .ref a_9), (9, 5, a0_, .ref a_7), (9, 4, a0_, .ref a_5), (9, 3, a0_, .ref a_3)]) rfl dX9_addField_74 (fun f H locs hM_18 g => ?_)
    subst hQ
    exact W.vret hx hb hr (fun t ht hW => ⟨⟨_, rfl, ⟨y_16, b_17, y_13, b_14, (g.fcts [0, 1] rfl)⟩, q3_of g hK ht hW⟩, g.2.2.1.F ht⟩) g.2.2.1.2.2 dX9_addField_77
set_option maxHeartbeats 4000000 in
set_option maxRecDepth 100000 in
theorem r_X9_addField_15 (l : Launch) (dC : Nat → ClassId) (dI : Nat → Nat → Nat) (L : List Nat) (kd : Nat → Nat) (tys : List (ClassId × FieldType)) (f0 : Nat → va_E) (sz : Nat) (hWT : WT L kd tys f0) (a0_ : Nat) (ma0_ : a0_ ∈ L) (ka0_ : kd a0_ = 9) (x1_ : Int64) (x2_ : Int32) (bx2_ : bd 7 7 x2_) (x3_ : Int32) (bx3_ : bd 0 0 x3_) (y0_ : Int32) (by0_ : bd 0 17 y0_) (y1_ : Int32) (by1_ : bd 0 9 y1_) (hfx : Fs L kd f0 [(9, 7, a0_, .int y0_), (9, 2, a0_, .int y1_)]) : Met l yX9_addField (.code yX9_addField cX9_addField 5 none :: lw_g) ({ frames := 1, cells := 0, slots := 0, locals := 15 }) (va_Pc [.ref a0_, .long x1_, .int x2_, .int x3_] (P3 (dC, dI) L tys f0 sz)) (va_Qv (fun (f : Nat → va_E) => (∃ z0_ : Int32, bd 1 10 z0_ ∧ ∃ z1_ : Int32, bd 7 24 z1_ ∧ Fs L kd f [(9, 2, a0_, .int z0_), (9, 7, a0_, .int z1_)])) (Q3 (dC, dI) L kd tys [(9, 2), (9, 7)] [152, 153, 154, 155] f0 sz) (pA L sz)) 0 0 (pA L sz) := by
  refine Met.ofW (cc := cX9_addField) (maxL := 5) (ret := none) (by decide) rfl ?_
  intro p e s m args below meth c s₁ B hml hv
  obtain ⟨rfl, hsz, hP, hK, hD0⟩ := hv
  have hx := B.exec
  have hb := B.bytes
  have hr := B.returns
  have hts := atoms_spec (ws := (.code yX9_addField cX9_addField 5 none :: lw_g)) B.pre
  have hown : s.vm.findClass RX9 = some m.cls := findClass_of_methodNamed B.named
  have hlocks := B.notSynchronized
  subst hsz
  have g : G3 (dC, dI) L kd tys s f0 [(9, 2), (9, 7)] [152, 153, 154, 155] f0 s.heap [] [(9, 7, a0_, .int y0_), (9, 2, a0_, .int y1_)] := G3.start hP hD0 hWT hfx
  have hl := lv_entry ([.ref a0_, .long x1_, .int x2_, .int x3_]) (n := 5) (Nat.le_of_ble_eq_true rfl)
  rw [lg_entry_eq]
  generalize (lg_sl ([.ref a0_, .long x1_, .int x2_, .int x3_]) ++ List.replicate (5 - (lg_sl ([.ref a0_, .long x1_, .int x2_, .int x3_])).length) Slot.unset).toArray = ls at hl ⊢
  have hl : lv_has ls 5 [(0, .ref a0_), (1, .long x1_), (3, .int x2_), (4, .int x3_)] := hl
  refine W_q (fun Q hQ => ?_)
  refine lv_aload_n hx hb dX9_addField_0 rfl (lv_at hl 0 rfl) ?_
  refine g_getk (C := RX9) (T := TX9) (N := 13) hx hb hts (mc_ inX9) hown hK g rfl 2 (by decide) rfl (hts _ (List.mem_cons_of_mem _ t_485)) (fun _ h9 => h9) 1 rfl dX9_addField_1 ?_
  refine lv_bipush (v := 10) hx hb dX9_addField_4 (by decide) ?_
  have kb_10 : bd 10 10 (10 : Int32) := ⟨by decide, by decide⟩
  refine lv_icmp_ge (tgt := 77) hx hb dX9_addField_6 (by decide) (fun c_1 => ?_) (fun c_1 => ?_)
  · have fc_1 := le_f c_1
    have b_2 : bd 10 9 (10 : Int32) := leL fc_1 kb_10 by1_ (by decide)
    exact bd_no (eqX rfl b_2 kb_10 (lo := 10) (hi := 9) (by decide)) (by decide)
  · have fc_1 := nle_f c_1
    refine lv_aload_n hx hb dX9_addField_9 rfl (lv_at hl 0 rfl) ?_
    refine g_getr (K := 152) (C := RX9) (T := TX9) (N := 13) hx hb hts (mc_ inX9) hown hK g ma0_ ka0_ (by decide) rfl 3 (by decide) rfl (hts _ (List.mem_cons_of_mem _ t_488)) (fun _ h9 => h9) rfl dX9_addField_10 (fun a_3 ma_3 ka_3 g => ?_)
    refine lv_aload_n hx hb dX9_addField_13 rfl (lv_at hl 0 rfl) ?_
    refine g_getk (C := RX9) (T := TX9) (N := 13) hx hb hts (mc_ inX9) hown hK g rfl 2 (by decide) rfl (hts _ (List.mem_cons_of_mem _ t_485)) (fun _ h9 => h9) 2 rfl dX9_addField_14 ?_
    refine lv_lload_n hx hb dX9_addField_17 rfl (lv_at hl 1 rfl) ?_
    refine g_last hx hb hK g ma_3 ka_3 (by decide) rfl (in_bd by1_ (by decide)) (by decide) dX9_addField_18 (fun f H locs hM_4 g => ?_)
    refine lv_aload_n hx hb dX9_addField_19 rfl (lv_at hl 0 rfl) ?_
    refine g_getr (K := 153) (C := RX9) (T := TX9) (N := 13) hx hb hts (mc_ inX9) hown hK g ma0_ ka0_ (by decide) rfl 4 (by decide) rfl (hts _ (List.mem_cons_of_mem _ t_489)) (fun _ h9 => h9) rfl dX9_addField_20 (fun a_5 ma_5 ka_5 g => ?_)
    refine lv_aload_n hx hb dX9_addField_23 rfl (lv_at hl 0 rfl) ?_
    refine g_getk (C := RX9) (T := TX9) (N := 13) hx hb hts (mc_ inX9) hown hK g rfl 2 (by decide) rfl (hts _ (List.mem_cons_of_mem _ t_485)) (fun _ h9 => h9) 3 rfl dX9_addField_24 ?_
    refine lv_aload_n hx hb dX9_addField_27 rfl (lv_at hl 0 rfl) ?_
    refine g_getk (C := RX9) (T := TX9) (N := 13) hx hb hts (mc_ inX9) hown hK g rfl 7 (by decide) rfl (hts _ (List.mem_cons_of_mem _ t_493)) (fun _ h9 => h9) 2 rfl dX9_addField_28 ?_
    refine g_iast hx hb hK g ma_5 ka_5 (by decide) rfl (in_bd by1_ (by decide)) (bd_sub by0_ (by decide)) (by decide) dX9_addField_31 (fun f H locs hM_6 g => ?_)
    refine lv_aload_n hx hb dX9_addField_32 rfl (lv_at hl 0 rfl) ?_
    refine g_getr (K := 154) (C := RX9) (T := TX9) (N := 13) hx hb hts (mc_ inX9) hown hK g ma0_ ka0_ (by decide) rfl 5 (by decide) rfl (hts _ (List.mem_cons_of_mem _ t_490)) (fun _ h9 => h9) rfl dX9_addField_33 (fun a_7 ma_7 ka_7 g => ?_)
    refine lv_aload_n hx hb dX9_addField_36 rfl (lv_at hl 0 rfl) ?_
    refine g_getk (C := RX9) (T := TX9) (N := 13) hx hb hts (mc_ inX9) hown hK g rfl 2 (by decide) rfl (hts _ (List.mem_cons_of_mem _ t_485)) (fun _ h9 => h9) 4 rfl dX9_addField_37 ?_
    refine lv_iload_n hx hb dX9_addField_40 rfl (lv_at hl 2 rfl) ?_
    refine g_iast hx hb hK g ma_7 ka_7 (by decide) rfl (in_bd by1_ (by decide)) (bd_sub bx2_ (by decide)) (by decide) dX9_addField_41 (fun f H locs hM_8 g => ?_)
    refine lv_aload_n hx hb dX9_addField_42 rfl (lv_at hl 0 rfl) ?_
    refine g_getr (K := 155) (C := RX9) (T := TX9) (N := 13) hx hb hts (mc_ inX9) hown hK g ma0_ ka0_ (by decide) rfl 6 (by decide) rfl (hts _ (List.mem_cons_of_mem _ t_492)) (fun _ h9 => h9) rfl dX9_addField_43 (fun a_9 ma_9 ka_9 g => ?_)
    refine lv_aload_n hx hb dX9_addField_46 rfl (lv_at hl 0 rfl) ?_
    refine g_getk (C := RX9) (T := TX9) (N := 13) hx hb hts (mc_ inX9) hown hK g rfl 2 (by decide) rfl (hts _ (List.mem_cons_of_mem _ t_485)) (fun _ h9 => h9) 5 rfl dX9_addField_47 ?_
    refine lv_iload hx hb dX9_addField_50 (lv_at hl 3 rfl) ?_
    refine g_iast hx hb hK g ma_9 ka_9 (by decide) rfl (in_bd by1_ (by decide)) (bd_sub bx3_ (by decide)) (by decide) dX9_addField_52 (fun f H locs hM_10 g => ?_)
    refine lv_aload_n hx hb dX9_addField_53 rfl (lv_at hl 0 rfl) ?_
    refine lv_dup hx hb dX9_addField_54 rfl ?_
    refine g_getk (C := RX9) (T := TX9) (N := 13) hx hb hts (mc_ inX9) hown hK g rfl 7 (by decide) rfl (hts _ (List.mem_cons_of_mem _ t_493)) (fun _ h9 => h9) 4 rfl dX9_addField_55 ?_
    refine lv_iload_n hx hb dX9_addField_58 rfl (lv_at hl 2 rfl) ?_
    refine lv_iconst (v := 1) hx hb dX9_addField_59 (by decide) ?_
    have kb_1 : bd 1 1 (1 : Int32) := ⟨by decide, by decide⟩
    refine va_mmax hx hb (hml.trans hl.1.symm) hown (hts _ (List.mem_cons_of_mem _ t_1168)) (hts _ (List.mem_cons_of_mem _ t_1041)) (hts _ (List.mem_cons_of_mem _ t_204)) (hts _ (List.mem_cons_of_mem _ t_1042)) (Nat.le_of_ble_eq_true rfl) (Nat.le_of_ble_eq_true rfl) (Nat.le_of_ble_eq_true rfl) (Nat.le_of_ble_eq_true rfl) dX9_addField_60 ?_
    refine lv_topi (fun y_11 ey_11 => ?_)
    have ty_11 : y_11.toInt = max x2_.toInt (1 : Int32).toInt := by rw [ey_11]; exact mmax_ok _ _
    have b_12 : bd 7 7 y_11 := max_rg ty_11 bx2_ kb_1 (by decide)
    refine lv_iadd hx hb dX9_addField_63 ?_
    refine lv_topi (fun y_13 ey_13 => ?_)
    have ty_13 := add_bd ey_13 by0_ b_12 (by decide)
    have b_14 : bd 7 24 y_13 := add_rg ty_13 by0_ b_12 (by decide)
    refine g_put (C := RX9) (T := TX9) (N := 13) hx hb hts (mc_ inX9) tyX9 tyX9_ok nmX9 hown hK g ma0_ ka0_ (by decide) rfl 7 (by decide) (hts _ (List.mem_cons_of_mem _ t_493)) (fun _ h9 => h9) rfl rfl (okV_i (bd_sub b_14 (by decide))) rfl rfl (by decide) (Or.inr (Or.inl (by decide))) (fx' := [(9, 6, a0_, .ref a_9), (9, 5, a0_, .ref a_7), (9, 4, a0_, .ref a_5), (9, 3, a0_, .ref a_3), (9, 2, a0_, .int y1_)]) rfl dX9_addField_64 (fun f H locs hM_15 g => ?_)
    refine lv_aload_n hx hb dX9_addField_67 rfl (lv_at hl 0 rfl) ?_
    refine lv_dup hx hb dX9_addField_68 rfl ?_
    refine g_getk (C := RX9) (T := TX9) (N := 13) hx hb hts (mc_ inX9) hown hK g rfl 2 (by decide) rfl (hts _ (List.mem_cons_of_mem _ t_485)) (fun _ h9 => h9) 5 rfl dX9_addField_69 ?_
    refine lv_iconst (v := 1) hx hb dX9_addField_72 (by decide) ?_
    refine lv_iadd hx hb dX9_addField_73 ?_
    refine lv_topi (fun y_16 ey_16 => ?_)
    have ty_16 := add_bd ey_16 by1_ kb_1 (by decide)
    have b_17 : bd 1 10 y_16 := add_rg ty_16 by1_ kb_1 (by decide)
    refine g_put (C := RX9) (T := TX9) (N := 13) hx hb hts (mc_ inX9) tyX9 tyX9_ok nmX9 hown hK g ma0_ ka0_ (by decide) rfl 2 (by decide) (hts _ (List.mem_cons_of_mem _ t_485)) (fun _ h9 => h9) rfl rfl (okV_i (bd_sub b_17 (by decide))) rfl rfl (by decide) (Or.inr (Or.inl (by decide))) (fx' := [(9, 7, a0_, .int y_13), (9, 6, a0_, .ref a_9), (9, 5, a0_, .ref a_7), (9, 4, a0_, .ref a_5), (9, 3, a0_, .ref a_3)]) rfl dX9_addField_74 (fun f H locs hM_18 g => ?_)
    subst hQ
    exact W.vret hx hb hr (fun t ht hW => ⟨⟨_, rfl, ⟨y_16, b_17, y_13, b_14, (g.fcts [0, 1] rfl)⟩, q3_of g hK ht hW⟩, g.2.2.1.F ht⟩) g.2.2.1.2.2 dX9_addField_77
set_option maxHeartbeats 4000000 in
set_option maxRecDepth 100000 in
theorem r_X9_addField_16 (l : Launch) (dC : Nat → ClassId) (dI : Nat → Nat → Nat) (L : List Nat) (kd : Nat → Nat) (tys : List (ClassId × FieldType)) (f0 : Nat → va_E) (sz : Nat) (hWT : WT L kd tys f0) (a0_ : Nat) (ma0_ : a0_ ∈ L) (ka0_ : kd a0_ = 9) (x1_ : Int64) (x2_ : Int32) (bx2_ : bd 7 7 x2_) (x3_ : Int32) (y0_ : Int32) (by0_ : bd 0 17 y0_) (y1_ : Int32) (by1_ : bd 0 9 y1_) (hfx : Fs L kd f0 [(9, 7, a0_, .int y0_), (9, 2, a0_, .int y1_)]) : Met l yX9_addField (.code yX9_addField cX9_addField 5 none :: lw_g) ({ frames := 1, cells := 0, slots := 0, locals := 15 }) (va_Pc [.ref a0_, .long x1_, .int x2_, .int x3_] (P3 (dC, dI) L tys f0 sz)) (va_Qv (fun (f : Nat → va_E) => (∃ z0_ : Int32, bd 1 10 z0_ ∧ ∃ z1_ : Int32, bd 7 24 z1_ ∧ Fs L kd f [(9, 2, a0_, .int z0_), (9, 7, a0_, .int z1_)])) (Q3 (dC, dI) L kd tys [(9, 2), (9, 7)] [152, 153, 154, 155] f0 sz) (pA L sz)) 0 0 (pA L sz) := by
  refine Met.ofW (cc := cX9_addField) (maxL := 5) (ret := none) (by decide) rfl ?_
  intro p e s m args below meth c s₁ B hml hv
  obtain ⟨rfl, hsz, hP, hK, hD0⟩ := hv
  have hx := B.exec
  have hb := B.bytes
  have hr := B.returns
  have hts := atoms_spec (ws := (.code yX9_addField cX9_addField 5 none :: lw_g)) B.pre
  have hown : s.vm.findClass RX9 = some m.cls := findClass_of_methodNamed B.named
  have hlocks := B.notSynchronized
  subst hsz
  have g : G3 (dC, dI) L kd tys s f0 [(9, 2), (9, 7)] [152, 153, 154, 155] f0 s.heap [] [(9, 7, a0_, .int y0_), (9, 2, a0_, .int y1_)] := G3.start hP hD0 hWT hfx
  have hl := lv_entry ([.ref a0_, .long x1_, .int x2_, .int x3_]) (n := 5) (Nat.le_of_ble_eq_true rfl)
  rw [lg_entry_eq]
  generalize (lg_sl ([.ref a0_, .long x1_, .int x2_, .int x3_]) ++ List.replicate (5 - (lg_sl ([.ref a0_, .long x1_, .int x2_, .int x3_])).length) Slot.unset).toArray = ls at hl ⊢
  have hl : lv_has ls 5 [(0, .ref a0_), (1, .long x1_), (3, .int x2_), (4, .int x3_)] := hl
  refine W_q (fun Q hQ => ?_)
  refine lv_aload_n hx hb dX9_addField_0 rfl (lv_at hl 0 rfl) ?_
  refine g_getk (C := RX9) (T := TX9) (N := 13) hx hb hts (mc_ inX9) hown hK g rfl 2 (by decide) rfl (hts _ (List.mem_cons_of_mem _ t_485)) (fun _ h9 => h9) 1 rfl dX9_addField_1 ?_
  refine lv_bipush (v := 10) hx hb dX9_addField_4 (by decide) ?_
  have kb_10 : bd 10 10 (10 : Int32) := ⟨by decide, by decide⟩
  refine lv_icmp_ge (tgt := 77) hx hb dX9_addField_6 (by decide) (fun c_1 => ?_) (fun c_1 => ?_)
  · have fc_1 := le_f c_1
    have b_2 : bd 10 9 (10 : Int32) := leL fc_1 kb_10 by1_ (by decide)
    exact bd_no (eqX rfl b_2 kb_10 (lo := 10) (hi := 9) (by decide)) (by decide)
  · have fc_1 := nle_f c_1
    refine lv_aload_n hx hb dX9_addField_9 rfl (lv_at hl 0 rfl) ?_
    refine g_getr (K := 152) (C := RX9) (T := TX9) (N := 13) hx hb hts (mc_ inX9) hown hK g ma0_ ka0_ (by decide) rfl 3 (by decide) rfl (hts _ (List.mem_cons_of_mem _ t_488)) (fun _ h9 => h9) rfl dX9_addField_10 (fun a_3 ma_3 ka_3 g => ?_)
    refine lv_aload_n hx hb dX9_addField_13 rfl (lv_at hl 0 rfl) ?_
    refine g_getk (C := RX9) (T := TX9) (N := 13) hx hb hts (mc_ inX9) hown hK g rfl 2 (by decide) rfl (hts _ (List.mem_cons_of_mem _ t_485)) (fun _ h9 => h9) 2 rfl dX9_addField_14 ?_
    refine lv_lload_n hx hb dX9_addField_17 rfl (lv_at hl 1 rfl) ?_
    refine g_last hx hb hK g ma_3 ka_3 (by decide) rfl (in_bd by1_ (by decide)) (by decide) dX9_addField_18 (fun f H locs hM_4 g => ?_)
    refine lv_aload_n hx hb dX9_addField_19 rfl (lv_at hl 0 rfl) ?_
    refine g_getr (K := 153) (C := RX9) (T := TX9) (N := 13) hx hb hts (mc_ inX9) hown hK g ma0_ ka0_ (by decide) rfl 4 (by decide) rfl (hts _ (List.mem_cons_of_mem _ t_489)) (fun _ h9 => h9) rfl dX9_addField_20 (fun a_5 ma_5 ka_5 g => ?_)
    refine lv_aload_n hx hb dX9_addField_23 rfl (lv_at hl 0 rfl) ?_
    refine g_getk (C := RX9) (T := TX9) (N := 13) hx hb hts (mc_ inX9) hown hK g rfl 2 (by decide) rfl (hts _ (List.mem_cons_of_mem _ t_485)) (fun _ h9 => h9) 3 rfl dX9_addField_24 ?_
    refine lv_aload_n hx hb dX9_addField_27 rfl (lv_at hl 0 rfl) ?_
    refine g_getk (C := RX9) (T := TX9) (N := 13) hx hb hts (mc_ inX9) hown hK g rfl 7 (by decide) rfl (hts _ (List.mem_cons_of_mem _ t_493)) (fun _ h9 => h9) 2 rfl dX9_addField_28 ?_
    refine g_iast hx hb hK g ma_5 ka_5 (by decide) rfl (in_bd by1_ (by decide)) (bd_sub by0_ (by decide)) (by decide) dX9_addField_31 (fun f H locs hM_6 g => ?_)
    refine lv_aload_n hx hb dX9_addField_32 rfl (lv_at hl 0 rfl) ?_
    refine g_getr (K := 154) (C := RX9) (T := TX9) (N := 13) hx hb hts (mc_ inX9) hown hK g ma0_ ka0_ (by decide) rfl 5 (by decide) rfl (hts _ (List.mem_cons_of_mem _ t_490)) (fun _ h9 => h9) rfl dX9_addField_33 (fun a_7 ma_7 ka_7 g => ?_)
    refine lv_aload_n hx hb dX9_addField_36 rfl (lv_at hl 0 rfl) ?_
    refine g_getk (C := RX9) (T := TX9) (N := 13) hx hb hts (mc_ inX9) hown hK g rfl 2 (by decide) rfl (hts _ (List.mem_cons_of_mem _ t_485)) (fun _ h9 => h9) 4 rfl dX9_addField_37 ?_
    refine lv_iload_n hx hb dX9_addField_40 rfl (lv_at hl 2 rfl) ?_
    refine g_iast hx hb hK g ma_7 ka_7 (by decide) rfl (in_bd by1_ (by decide)) (bd_sub bx2_ (by decide)) (by decide) dX9_addField_41 (fun f H locs hM_8 g => ?_)
    refine lv_aload_n hx hb dX9_addField_42 rfl (lv_at hl 0 rfl) ?_
    refine g_getr (K := 155) (C := RX9) (T := TX9) (N := 13) hx hb hts (mc_ inX9) hown hK g ma0_ ka0_ (by decide) rfl 6 (by decide) rfl (hts _ (List.mem_cons_of_mem _ t_492)) (fun _ h9 => h9) rfl dX9_addField_43 (fun a_9 ma_9 ka_9 g => ?_)
    refine lv_aload_n hx hb dX9_addField_46 rfl (lv_at hl 0 rfl) ?_
    refine g_getk (C := RX9) (T := TX9) (N := 13) hx hb hts (mc_ inX9) hown hK g rfl 2 (by decide) rfl (hts _ (List.mem_cons_of_mem _ t_485)) (fun _ h9 => h9) 5 rfl dX9_addField_47 ?_
    refine lv_iload hx hb dX9_addField_50 (lv_at hl 3 rfl) ?_
    refine g_iast hx hb hK g ma_9 ka_9 (by decide) rfl (in_bd by1_ (by decide)) (bdT x3_) (by decide) dX9_addField_52 (fun f H locs hM_10 g => ?_)
    refine lv_aload_n hx hb dX9_addField_53 rfl (lv_at hl 0 rfl) ?_
    refine lv_dup hx hb dX9_addField_54 rfl ?_
    refine g_getk (C := RX9) (T := TX9) (N := 13) hx hb hts (mc_ inX9) hown hK g rfl 7 (by decide) rfl (hts _ (List.mem_cons_of_mem _ t_493)) (fun _ h9 => h9) 4 rfl dX9_addField_55 ?_
    refine lv_iload_n hx hb dX9_addField_58 rfl (lv_at hl 2 rfl) ?_
    refine lv_iconst (v := 1) hx hb dX9_addField_59 (by decide) ?_
    have kb_1 : bd 1 1 (1 : Int32) := ⟨by decide, by decide⟩
    refine va_mmax hx hb (hml.trans hl.1.symm) hown (hts _ (List.mem_cons_of_mem _ t_1168)) (hts _ (List.mem_cons_of_mem _ t_1041)) (hts _ (List.mem_cons_of_mem _ t_204)) (hts _ (List.mem_cons_of_mem _ t_1042)) (Nat.le_of_ble_eq_true rfl) (Nat.le_of_ble_eq_true rfl) (Nat.le_of_ble_eq_true rfl) (Nat.le_of_ble_eq_true rfl) dX9_addField_60 ?_
    refine lv_topi (fun y_11 ey_11 => ?_)
    have ty_11 : y_11.toInt = max x2_.toInt (1 : Int32).toInt := by rw [ey_11]; exact mmax_ok _ _
    have b_12 : bd 7 7 y_11 := max_rg ty_11 bx2_ kb_1 (by decide)
    refine lv_iadd hx hb dX9_addField_63 ?_
    refine lv_topi (fun y_13 ey_13 => ?_)
    have ty_13 := add_bd ey_13 by0_ b_12 (by decide)
    have b_14 : bd 7 24 y_13 := add_rg ty_13 by0_ b_12 (by decide)
    refine g_put (C := RX9) (T := TX9) (N := 13) hx hb hts (mc_ inX9) tyX9 tyX9_ok nmX9 hown hK g ma0_ ka0_ (by decide) rfl 7 (by decide) (hts _ (List.mem_cons_of_mem _ t_493)) (fun _ h9 => h9) rfl rfl (okV_i (bd_sub b_14 (by decide))) rfl rfl (by decide) (Or.inr (Or.inl (by decide))) (fx' := [(9, 6, a0_, .ref a_9), (9, 5, a0_, .ref a_7), (9, 4, a0_, .ref a_5), (9, 3, a0_, .ref a_3), (9, 2, a0_, .int y1_)]) rfl dX9_addField_64 (fun f H locs hM_15 g => ?_)
    refine lv_aload_n hx hb dX9_addField_67 rfl (lv_at hl 0 rfl) ?_
    refine lv_dup hx hb dX9_addField_68 rfl ?_
    refine g_getk (C := RX9) (T := TX9) (N := 13) hx hb hts (mc_ inX9) hown hK g rfl 2 (by decide) rfl (hts _ (List.mem_cons_of_mem _ t_485)) (fun _ h9 => h9) 5 rfl dX9_addField_69 ?_
    refine lv_iconst (v := 1) hx hb dX9_addField_72 (by decide) ?_
    refine lv_iadd hx hb dX9_addField_73 ?_
    refine lv_topi (fun y_16 ey_16 => ?_)
    have ty_16 := add_bd ey_16 by1_ kb_1 (by decide)
    have b_17 : bd 1 10 y_16 := add_rg ty_16 by1_ kb_1 (by decide)
    refine g_put (C := RX9) (T := TX9) (N := 13) hx hb hts (mc_ inX9) tyX9 tyX9_ok nmX9 hown hK g ma0_ ka0_ (by decide) rfl 2 (by decide) (hts _ (List.mem_cons_of_mem _ t_485)) (fun _ h9 => h9) rfl rfl (okV_i (bd_sub b_17 (by decide))) rfl rfl (by decide) (Or.inr (Or.inl (by decide))) (fx' := [(9, 7, a0_, .int y_13), (9, 6, a0_, .ref a_9), (9, 5, a0_, .ref a_7), (9, 4, a0_, .ref a_5), (9, 3, a0_, .ref a_3)]) rfl dX9_addField_74 (fun f H locs hM_18 g => ?_)
    subst hQ
    exact W.vret hx hb hr (fun t ht hW => ⟨⟨_, rfl, ⟨y_16, b_17, y_13, b_14, (g.fcts [0, 1] rfl)⟩, q3_of g hK ht hW⟩, g.2.2.1.F ht⟩) g.2.2.1.2.2 dX9_addField_77
set_option maxHeartbeats 4000000 in
set_option maxRecDepth 100000 in
theorem r_X9_addField_17 (l : Launch) (dC : Nat → ClassId) (dI : Nat → Nat → Nat) (L : List Nat) (kd : Nat → Nat) (tys : List (ClassId × FieldType)) (f0 : Nat → va_E) (sz : Nat) (hWT : WT L kd tys f0) (a0_ : Nat) (ma0_ : a0_ ∈ L) (ka0_ : kd a0_ = 9) (x1_ : Int64) (x2_ : Int32) (bx2_ : bd 8 8 x2_) (x3_ : Int32) (bx3_ : bd 0 0 x3_) (y0_ : Int32) (by0_ : bd 0 16 y0_) (y1_ : Int32) (by1_ : bd 0 9 y1_) (hfx : Fs L kd f0 [(9, 7, a0_, .int y0_), (9, 2, a0_, .int y1_)]) : Met l yX9_addField (.code yX9_addField cX9_addField 5 none :: lw_g) ({ frames := 1, cells := 0, slots := 0, locals := 15 }) (va_Pc [.ref a0_, .long x1_, .int x2_, .int x3_] (P3 (dC, dI) L tys f0 sz)) (va_Qv (fun (f : Nat → va_E) => (∃ z0_ : Int32, bd 1 10 z0_ ∧ ∃ z1_ : Int32, bd 8 24 z1_ ∧ Fs L kd f [(9, 2, a0_, .int z0_), (9, 7, a0_, .int z1_)])) (Q3 (dC, dI) L kd tys [(9, 2), (9, 7)] [152, 153, 154, 155] f0 sz) (pA L sz)) 0 0 (pA L sz) := by
  refine Met.ofW (cc := cX9_addField) (maxL := 5) (ret := none) (by decide) rfl ?_
  intro p e s m args below meth c s₁ B hml hv
  obtain ⟨rfl, hsz, hP, hK, hD0⟩ := hv
  have hx := B.exec
  have hb := B.bytes
  have hr := B.returns
  have hts := atoms_spec (ws := (.code yX9_addField cX9_addField 5 none :: lw_g)) B.pre
  have hown : s.vm.findClass RX9 = some m.cls := findClass_of_methodNamed B.named
  have hlocks := B.notSynchronized
  subst hsz
  have g : G3 (dC, dI) L kd tys s f0 [(9, 2), (9, 7)] [152, 153, 154, 155] f0 s.heap [] [(9, 7, a0_, .int y0_), (9, 2, a0_, .int y1_)] := G3.start hP hD0 hWT hfx
  have hl := lv_entry ([.ref a0_, .long x1_, .int x2_, .int x3_]) (n := 5) (Nat.le_of_ble_eq_true rfl)
  rw [lg_entry_eq]
  generalize (lg_sl ([.ref a0_, .long x1_, .int x2_, .int x3_]) ++ List.replicate (5 - (lg_sl ([.ref a0_, .long x1_, .int x2_, .int x3_])).length) Slot.unset).toArray = ls at hl ⊢
  have hl : lv_has ls 5 [(0, .ref a0_), (1, .long x1_), (3, .int x2_), (4, .int x3_)] := hl
  refine W_q (fun Q hQ => ?_)
  refine lv_aload_n hx hb dX9_addField_0 rfl (lv_at hl 0 rfl) ?_
  refine g_getk (C := RX9) (T := TX9) (N := 13) hx hb hts (mc_ inX9) hown hK g rfl 2 (by decide) rfl (hts _ (List.mem_cons_of_mem _ t_485)) (fun _ h9 => h9) 1 rfl dX9_addField_1 ?_
  refine lv_bipush (v := 10) hx hb dX9_addField_4 (by decide) ?_
  have kb_10 : bd 10 10 (10 : Int32) := ⟨by decide, by decide⟩
  refine lv_icmp_ge (tgt := 77) hx hb dX9_addField_6 (by decide) (fun c_1 => ?_) (fun c_1 => ?_)
  · have fc_1 := le_f c_1
    have b_2 : bd 10 9 (10 : Int32) := leL fc_1 kb_10 by1_ (by decide)
    exact bd_no (eqX rfl b_2 kb_10 (lo := 10) (hi := 9) (by decide)) (by decide)
  · have fc_1 := nle_f c_1
    refine lv_aload_n hx hb dX9_addField_9 rfl (lv_at hl 0 rfl) ?_
    refine g_getr (K := 152) (C := RX9) (T := TX9) (N := 13) hx hb hts (mc_ inX9) hown hK g ma0_ ka0_ (by decide) rfl 3 (by decide) rfl (hts _ (List.mem_cons_of_mem _ t_488)) (fun _ h9 => h9) rfl dX9_addField_10 (fun a_3 ma_3 ka_3 g => ?_)
    refine lv_aload_n hx hb dX9_addField_13 rfl (lv_at hl 0 rfl) ?_
    refine g_getk (C := RX9) (T := TX9) (N := 13) hx hb hts (mc_ inX9) hown hK g rfl 2 (by decide) rfl (hts _ (List.mem_cons_of_mem _ t_485)) (fun _ h9 => h9) 2 rfl dX9_addField_14 ?_
    refine lv_lload_n hx hb dX9_addField_17 rfl (lv_at hl 1 rfl) ?_
    refine g_last hx hb hK g ma_3 ka_3 (by decide) rfl (in_bd by1_ (by decide)) (by decide) dX9_addField_18 (fun f H locs hM_4 g => ?_)
    refine lv_aload_n hx hb dX9_addField_19 rfl (lv_at hl 0 rfl) ?_
    refine g_getr (K := 153) (C := RX9) (T := TX9) (N := 13) hx hb hts (mc_ inX9) hown hK g ma0_ ka0_ (by decide) rfl 4 (by decide) rfl (hts _ (List.mem_cons_of_mem _ t_489)) (fun _ h9 => h9) rfl dX9_addField_20 (fun a_5 ma_5 ka_5 g => ?_)
    refine lv_aload_n hx hb dX9_addField_23 rfl (lv_at hl 0 rfl) ?_
    refine g_getk (C := RX9) (T := TX9) (N := 13) hx hb hts (mc_ inX9) hown hK g rfl 2 (by decide) rfl (hts _ (List.mem_cons_of_mem _ t_485)) (fun _ h9 => h9) 3 rfl dX9_addField_24 ?_
    refine lv_aload_n hx hb dX9_addField_27 rfl (lv_at hl 0 rfl) ?_
    refine g_getk (C := RX9) (T := TX9) (N := 13) hx hb hts (mc_ inX9) hown hK g rfl 7 (by decide) rfl (hts _ (List.mem_cons_of_mem _ t_493)) (fun _ h9 => h9) 2 rfl dX9_addField_28 ?_
    refine g_iast hx hb hK g ma_5 ka_5 (by decide) rfl (in_bd by1_ (by decide)) (bd_sub by0_ (by decide)) (by decide) dX9_addField_31 (fun f H locs hM_6 g => ?_)
    refine lv_aload_n hx hb dX9_addField_32 rfl (lv_at hl 0 rfl) ?_
    refine g_getr (K := 154) (C := RX9) (T := TX9) (N := 13) hx hb hts (mc_ inX9) hown hK g ma0_ ka0_ (by decide) rfl 5 (by decide) rfl (hts _ (List.mem_cons_of_mem _ t_490)) (fun _ h9 => h9) rfl dX9_addField_33 (fun a_7 ma_7 ka_7 g => ?_)
    refine lv_aload_n hx hb dX9_addField_36 rfl (lv_at hl 0 rfl) ?_
    refine g_getk (C := RX9) (T := TX9) (N := 13) hx hb hts (mc_ inX9) hown hK g rfl 2 (by decide) rfl (hts _ (List.mem_cons_of_mem _ t_485)) (fun _ h9 => h9) 4 rfl dX9_addField_37 ?_
    refine lv_iload_n hx hb dX9_addField_40 rfl (lv_at hl 2 rfl) ?_
    refine g_iast hx hb hK g ma_7 ka_7 (by decide) rfl (in_bd by1_ (by decide)) (bd_sub bx2_ (by decide)) (by decide) dX9_addField_41 (fun f H locs hM_8 g => ?_)
    refine lv_aload_n hx hb dX9_addField_42 rfl (lv_at hl 0 rfl) ?_
    refine g_getr (K := 155) (C := RX9) (T := TX9) (N := 13) hx hb hts (mc_ inX9) hown hK g ma0_ ka0_ (by decide) rfl 6 (by decide) rfl (hts _ (List.mem_cons_of_mem _ t_492)) (fun _ h9 => h9) rfl dX9_addField_43 (fun a_9 ma_9 ka_9 g => ?_)
    refine lv_aload_n hx hb dX9_addField_46 rfl (lv_at hl 0 rfl) ?_
    refine g_getk (C := RX9) (T := TX9) (N := 13) hx hb hts (mc_ inX9) hown hK g rfl 2 (by decide) rfl (hts _ (List.mem_cons_of_mem _ t_485)) (fun _ h9 => h9) 5 rfl dX9_addField_47 ?_
    refine lv_iload hx hb dX9_addField_50 (lv_at hl 3 rfl) ?_
    refine g_iast hx hb hK g ma_9 ka_9 (by decide) rfl (in_bd by1_ (by decide)) (bd_sub bx3_ (by decide)) (by decide) dX9_addField_52 (fun f H locs hM_10 g => ?_)
    refine lv_aload_n hx hb dX9_addField_53 rfl (lv_at hl 0 rfl) ?_
    refine lv_dup hx hb dX9_addField_54 rfl ?_
    refine g_getk (C := RX9) (T := TX9) (N := 13) hx hb hts (mc_ inX9) hown hK g rfl 7 (by decide) rfl (hts _ (List.mem_cons_of_mem _ t_493)) (fun _ h9 => h9) 4 rfl dX9_addField_55 ?_
    refine lv_iload_n hx hb dX9_addField_58 rfl (lv_at hl 2 rfl) ?_
    refine lv_iconst (v := 1) hx hb dX9_addField_59 (by decide) ?_
    have kb_1 : bd 1 1 (1 : Int32) := ⟨by decide, by decide⟩
    refine va_mmax hx hb (hml.trans hl.1.symm) hown (hts _ (List.mem_cons_of_mem _ t_1168)) (hts _ (List.mem_cons_of_mem _ t_1041)) (hts _ (List.mem_cons_of_mem _ t_204)) (hts _ (List.mem_cons_of_mem _ t_1042)) (Nat.le_of_ble_eq_true rfl) (Nat.le_of_ble_eq_true rfl) (Nat.le_of_ble_eq_true rfl) (Nat.le_of_ble_eq_true rfl) dX9_addField_60 ?_
    refine lv_topi (fun y_11 ey_11 => ?_)
    have ty_11 : y_11.toInt = max x2_.toInt (1 : Int32).toInt := by rw [ey_11]; exact mmax_ok _ _
    have b_12 : bd 8 8 y_11 := max_rg ty_11 bx2_ kb_1 (by decide)
    refine lv_iadd hx hb dX9_addField_63 ?_
    refine lv_topi (fun y_13 ey_13 => ?_)
    have ty_13 := add_bd ey_13 by0_ b_12 (by decide)
    have b_14 : bd 8 24 y_13 := add_rg ty_13 by0_ b_12 (by decide)
    refine g_put (C := RX9) (T := TX9) (N := 13) hx hb hts (mc_ inX9) tyX9 tyX9_ok nmX9 hown hK g ma0_ ka0_ (by decide) rfl 7 (by decide) (hts _ (List.mem_cons_of_mem _ t_493)) (fun _ h9 => h9) rfl rfl (okV_i (bd_sub b_14 (by decide))) rfl rfl (by decide) (Or.inr (Or.inl (by decide))) (fx' := [(9, 6, a0_, .ref a_9), (9, 5, a0_, .ref a_7), (9, 4, a0_, .ref a_5), (9, 3, a0_, .ref a_3), (9, 2, a0_, .int y1_)]) rfl dX9_addField_64 (fun f H locs hM_15 g => ?_)
    refine lv_aload_n hx hb dX9_addField_67 rfl (lv_at hl 0 rfl) ?_
    refine lv_dup hx hb dX9_addField_68 rfl ?_
    refine g_getk (C := RX9) (T := TX9) (N := 13) hx hb hts (mc_ inX9) hown hK g rfl 2 (by decide) rfl (hts _ (List.mem_cons_of_mem _ t_485)) (fun _ h9 => h9) 5 rfl dX9_addField_69 ?_
    refine lv_iconst (v := 1) hx hb dX9_addField_72 (by decide) ?_
    refine lv_iadd hx hb dX9_addField_73 ?_
    refine lv_topi (fun y_16 ey_16 => ?_)
    have ty_16 := add_bd ey_16 by1_ kb_1 (by decide)
    have b_17 : bd 1 10 y_16 := add_rg ty_16 by1_ kb_1 (by decide)
    refine g_put (C := RX9) (T := TX9) (N := 13) hx hb hts (mc_ inX9) tyX9 tyX9_ok nmX9 hown hK g ma0_ ka0_ (by decide) rfl 2 (by decide) (hts _ (List.mem_cons_of_mem _ t_485)) (fun _ h9 => h9) rfl rfl (okV_i (bd_sub b_17 (by decide))) rfl rfl (by decide) (Or.inr (Or.inl (by decide))) (fx' := [(9, 7, a0_, .int y_13), (9, 6, a0_, .ref a_9), (9, 5, a0_, .ref a_7), (9, 4, a0_, .ref a_5), (9, 3, a0_, .ref a_3)]) rfl dX9_addField_74 (fun f H locs hM_18 g => ?_)
    subst hQ
    exact W.vret hx hb hr (fun t ht hW => ⟨⟨_, rfl, ⟨y_16, b_17, y_13, b_14, (g.fcts [0, 1] rfl)⟩, q3_of g hK ht hW⟩, g.2.2.1.F ht⟩) g.2.2.1.2.2 dX9_addField_77
set_option maxHeartbeats 4000000 in
set_option maxRecDepth 100000 in
theorem r_X9_addField_18 (l : Launch) (dC : Nat → ClassId) (dI : Nat → Nat → Nat) (L : List Nat) (kd : Nat → Nat) (tys : List (ClassId × FieldType)) (f0 : Nat → va_E) (sz : Nat) (hWT : WT L kd tys f0) (a0_ : Nat) (ma0_ : a0_ ∈ L) (ka0_ : kd a0_ = 9) (x1_ : Int64) (x2_ : Int32) (bx2_ : bd 8 8 x2_) (x3_ : Int32) (y0_ : Int32) (by0_ : bd 0 16 y0_) (y1_ : Int32) (by1_ : bd 0 9 y1_) (hfx : Fs L kd f0 [(9, 7, a0_, .int y0_), (9, 2, a0_, .int y1_)]) : Met l yX9_addField (.code yX9_addField cX9_addField 5 none :: lw_g) ({ frames := 1, cells := 0, slots := 0, locals := 15 }) (va_Pc [.ref a0_, .long x1_, .int x2_, .int x3_] (P3 (dC, dI) L tys f0 sz)) (va_Qv (fun (f : Nat → va_E) => (∃ z0_ : Int32, bd 1 10 z0_ ∧ ∃ z1_ : Int32, bd 8 24 z1_ ∧ Fs L kd f [(9, 2, a0_, .int z0_), (9, 7, a0_, .int z1_)])) (Q3 (dC, dI) L kd tys [(9, 2), (9, 7)] [152, 153, 154, 155] f0 sz) (pA L sz)) 0 0 (pA L sz) := by
  refine Met.ofW (cc := cX9_addField) (maxL := 5) (ret := none) (by decide) rfl ?_
  intro p e s m args below meth c s₁ B hml hv
  obtain ⟨rfl, hsz, hP, hK, hD0⟩ := hv
  have hx := B.exec
  have hb := B.bytes
  have hr := B.returns
  have hts := atoms_spec (ws := (.code yX9_addField cX9_addField 5 none :: lw_g)) B.pre
  have hown : s.vm.findClass RX9 = some m.cls := findClass_of_methodNamed B.named
  have hlocks := B.notSynchronized
  subst hsz
  have g : G3 (dC, dI) L kd tys s f0 [(9, 2), (9, 7)] [152, 153, 154, 155] f0 s.heap [] [(9, 7, a0_, .int y0_), (9, 2, a0_, .int y1_)] := G3.start hP hD0 hWT hfx
  have hl := lv_entry ([.ref a0_, .long x1_, .int x2_, .int x3_]) (n := 5) (Nat.le_of_ble_eq_true rfl)
  rw [lg_entry_eq]
  generalize (lg_sl ([.ref a0_, .long x1_, .int x2_, .int x3_]) ++ List.replicate (5 - (lg_sl ([.ref a0_, .long x1_, .int x2_, .int x3_])).length) Slot.unset).toArray = ls at hl ⊢
  have hl : lv_has ls 5 [(0, .ref a0_), (1, .long x1_), (3, .int x2_), (4, .int x3_)] := hl
  refine W_q (fun Q hQ => ?_)
  refine lv_aload_n hx hb dX9_addField_0 rfl (lv_at hl 0 rfl) ?_
  refine g_getk (C := RX9) (T := TX9) (N := 13) hx hb hts (mc_ inX9) hown hK g rfl 2 (by decide) rfl (hts _ (List.mem_cons_of_mem _ t_485)) (fun _ h9 => h9) 1 rfl dX9_addField_1 ?_
  refine lv_bipush (v := 10) hx hb dX9_addField_4 (by decide) ?_
  have kb_10 : bd 10 10 (10 : Int32) := ⟨by decide, by decide⟩
  refine lv_icmp_ge (tgt := 77) hx hb dX9_addField_6 (by decide) (fun c_1 => ?_) (fun c_1 => ?_)
  · have fc_1 := le_f c_1
    have b_2 : bd 10 9 (10 : Int32) := leL fc_1 kb_10 by1_ (by decide)
    exact bd_no (eqX rfl b_2 kb_10 (lo := 10) (hi := 9) (by decide)) (by decide)
  · have fc_1 := nle_f c_1
    refine lv_aload_n hx hb dX9_addField_9 rfl (lv_at hl 0 rfl) ?_
    refine g_getr (K := 152) (C := RX9) (T := TX9) (N := 13) hx hb hts (mc_ inX9) hown hK g ma0_ ka0_ (by decide) rfl 3 (by decide) rfl (hts _ (List.mem_cons_of_mem _ t_488)) (fun _ h9 => h9) rfl dX9_addField_10 (fun a_3 ma_3 ka_3 g => ?_)
    refine lv_aload_n hx hb dX9_addField_13 rfl (lv_at hl 0 rfl) ?_
    refine g_getk (C := RX9) (T := TX9) (N := 13) hx hb hts (mc_ inX9) hown hK g rfl 2 (by decide) rfl (hts _ (List.mem_cons_of_mem _ t_485)) (fun _ h9 => h9) 2 rfl dX9_addField_14 ?_
    refine lv_lload_n hx hb dX9_addField_17 rfl (lv_at hl 1 rfl) ?_
    refine g_last hx hb hK g ma_3 ka_3 (by decide) rfl (in_bd by1_ (by decide)) (by decide) dX9_addField_18 (fun f H locs hM_4 g => ?_)
    refine lv_aload_n hx hb dX9_addField_19 rfl (lv_at hl 0 rfl) ?_
    refine g_getr (K := 153) (C := RX9) (T := TX9) (N := 13) hx hb hts (mc_ inX9) hown hK g ma0_ ka0_ (by decide) rfl 4 (by decide) rfl (hts _ (List.mem_cons_of_mem _ t_489)) (fun _ h9 => h9) rfl dX9_addField_20 (fun a_5 ma_5 ka_5 g => ?_)
    refine lv_aload_n hx hb dX9_addField_23 rfl (lv_at hl 0 rfl) ?_
    refine g_getk (C := RX9) (T := TX9) (N := 13) hx hb hts (mc_ inX9) hown hK g rfl 2 (by decide) rfl (hts _ (List.mem_cons_of_mem _ t_485)) (fun _ h9 => h9) 3 rfl dX9_addField_24 ?_
    refine lv_aload_n hx hb dX9_addField_27 rfl (lv_at hl 0 rfl) ?_
    refine g_getk (C := RX9) (T := TX9) (N := 13) hx hb hts (mc_ inX9) hown hK g rfl 7 (by decide) rfl (hts _ (List.mem_cons_of_mem _ t_493)) (fun _ h9 => h9) 2 rfl dX9_addField_28 ?_
    refine g_iast hx hb hK g ma_5 ka_5 (by decide) rfl (in_bd by1_ (by decide)) (bd_sub by0_ (by decide)) (by decide) dX9_addField_31 (fun f H locs hM_6 g => ?_)
    refine lv_aload_n hx hb dX9_addField_32 rfl (lv_at hl 0 rfl) ?_
    refine g_getr (K := 154) (C := RX9) (T := TX9) (N := 13) hx hb hts (mc_ inX9) hown hK g ma0_ ka0_ (by decide) rfl 5 (by decide) rfl (hts _ (List.mem_cons_of_mem _ t_490)) (fun _ h9 => h9) rfl dX9_addField_33 (fun a_7 ma_7 ka_7 g => ?_)
    refine lv_aload_n hx hb dX9_addField_36 rfl (lv_at hl 0 rfl) ?_
    refine g_getk (C := RX9) (T := TX9) (N := 13) hx hb hts (mc_ inX9) hown hK g rfl 2 (by decide) rfl (hts _ (List.mem_cons_of_mem _ t_485)) (fun _ h9 => h9) 4 rfl dX9_addField_37 ?_
    refine lv_iload_n hx hb dX9_addField_40 rfl (lv_at hl 2 rfl) ?_
    refine g_iast hx hb hK g ma_7 ka_7 (by decide) rfl (in_bd by1_ (by decide)) (bd_sub bx2_ (by decide)) (by decide) dX9_addField_41 (fun f H locs hM_8 g => ?_)
    refine lv_aload_n hx hb dX9_addField_42 rfl (lv_at hl 0 rfl) ?_
    refine g_getr (K := 155) (C := RX9) (T := TX9) (N := 13) hx hb hts (mc_ inX9) hown hK g ma0_ ka0_ (by decide) rfl 6 (by decide) rfl (hts _ (List.mem_cons_of_mem _ t_492)) (fun _ h9 => h9) rfl dX9_addField_43 (fun a_9 ma_9 ka_9 g => ?_)
    refine lv_aload_n hx hb dX9_addField_46 rfl (lv_at hl 0 rfl) ?_
    refine g_getk (C := RX9) (T := TX9) (N := 13) hx hb hts (mc_ inX9) hown hK g rfl 2 (by decide) rfl (hts _ (List.mem_cons_of_mem _ t_485)) (fun _ h9 => h9) 5 rfl dX9_addField_47 ?_
    refine lv_iload hx hb dX9_addField_50 (lv_at hl 3 rfl) ?_
    refine g_iast hx hb hK g ma_9 ka_9 (by decide) rfl (in_bd by1_ (by decide)) (bdT x3_) (by decide) dX9_addField_52 (fun f H locs hM_10 g => ?_)
    refine lv_aload_n hx hb dX9_addField_53 rfl (lv_at hl 0 rfl) ?_
    refine lv_dup hx hb dX9_addField_54 rfl ?_
    refine g_getk (C := RX9) (T := TX9) (N := 13) hx hb hts (mc_ inX9) hown hK g rfl 7 (by decide) rfl (hts _ (List.mem_cons_of_mem _ t_493)) (fun _ h9 => h9) 4 rfl dX9_addField_55 ?_
    refine lv_iload_n hx hb dX9_addField_58 rfl (lv_at hl 2 rfl) ?_
    refine lv_iconst (v := 1) hx hb dX9_addField_59 (by decide) ?_
    have kb_1 : bd 1 1 (1 : Int32) := ⟨by decide, by decide⟩
    refine va_mmax hx hb (hml.trans hl.1.symm) hown (hts _ (List.mem_cons_of_mem _ t_1168)) (hts _ (List.mem_cons_of_mem _ t_1041)) (hts _ (List.mem_cons_of_mem _ t_204)) (hts _ (List.mem_cons_of_mem _ t_1042)) (Nat.le_of_ble_eq_true rfl) (Nat.le_of_ble_eq_true rfl) (Nat.le_of_ble_eq_true rfl) (Nat.le_of_ble_eq_true rfl) dX9_addField_60 ?_
    refine lv_topi (fun y_11 ey_11 => ?_)
    have ty_11 : y_11.toInt = max x2_.toInt (1 : Int32).toInt := by rw [ey_11]; exact mmax_ok _ _
    have b_12 : bd 8 8 y_11 := max_rg ty_11 bx2_ kb_1 (by decide)
    refine lv_iadd hx hb dX9_addField_63 ?_
    refine lv_topi (fun y_13 ey_13 => ?_)
    have ty_13 := add_bd ey_13 by0_ b_12 (by decide)
    have b_14 : bd 8 24 y_13 := add_rg ty_13 by0_ b_12 (by decide)
    refine g_put (C := RX9) (T := TX9) (N := 13) hx hb hts (mc_ inX9) tyX9 tyX9_ok nmX9 hown hK g ma0_ ka0_ (by decide) rfl 7 (by decide) (hts _ (List.mem_cons_of_mem _ t_493)) (fun _ h9 => h9) rfl rfl (okV_i (bd_sub b_14 (by decide))) rfl rfl (by decide) (Or.inr (Or.inl (by decide))) (fx' := [(9, 6, a0_, .ref a_9), (9, 5, a0_, .ref a_7), (9, 4, a0_, .ref a_5), (9, 3, a0_, .ref a_3), (9, 2, a0_, .int y1_)]) rfl dX9_addField_64 (fun f H locs hM_15 g => ?_)
    refine lv_aload_n hx hb dX9_addField_67 rfl (lv_at hl 0 rfl) ?_
    refine lv_dup hx hb dX9_addField_68 rfl ?_
    refine g_getk (C := RX9) (T := TX9) (N := 13) hx hb hts (mc_ inX9) hown hK g rfl 2 (by decide) rfl (hts _ (List.mem_cons_of_mem _ t_485)) (fun _ h9 => h9) 5 rfl dX9_addField_69 ?_
    refine lv_iconst (v := 1) hx hb dX9_addField_72 (by decide) ?_
    refine lv_iadd hx hb dX9_addField_73 ?_
    refine lv_topi (fun y_16 ey_16 => ?_)
    have ty_16 := add_bd ey_16 by1_ kb_1 (by decide)
    have b_17 : bd 1 10 y_16 := add_rg ty_16 by1_ kb_1 (by decide)
    refine g_put (C := RX9) (T := TX9) (N := 13) hx hb hts (mc_ inX9) tyX9 tyX9_ok nmX9 hown hK g ma0_ ka0_ (by decide) rfl 2 (by decide) (hts _ (List.mem_cons_of_mem _ t_485)) (fun _ h9 => h9) rfl rfl (okV_i (bd_sub b_17 (by decide))) rfl rfl (by decide) (Or.inr (Or.inl (by decide))) (fx' := [(9, 7, a0_, .int y_13), (9, 6, a0_, .ref a_9), (9, 5, a0_, .ref a_7), (9, 4, a0_, .ref a_5), (9, 3, a0_, .ref a_3)]) rfl dX9_addField_74 (fun f H locs hM_18 g => ?_)
    subst hQ
    exact W.vret hx hb hr (fun t ht hW => ⟨⟨_, rfl, ⟨y_16, b_17, y_13, b_14, (g.fcts [0, 1] rfl)⟩, q3_of g hK ht hW⟩, g.2.2.1.F ht⟩) g.2.2.1.2.2 dX9_addField_77
