set_option maxHeartbeats 4000000 in
set_option maxRecDepth 100000 in
theorem r_X0_push (l : Launch) (dC : Nat → ClassId) (dI : Nat → Nat → Nat) (L : List Nat) (kd : Nat → Nat) (tys : List (ClassId × FieldType)) (f0 : Nat → va_E) (sz : Nat) (hWT : WT L kd tys f0) (a0_ : Nat) (ma0_ : a0_ ∈ L) (ka0_ : kd a0_ = 0) (x1_ : Int32) (x2_ : Int32) (x3_ : Int32) : Met l yX0_push (.code yX0_push cX0_push 4 none :: lw_g) ({ frames := 0, cells := 0, slots := 0, locals := 0 }) (va_Pc [.ref a0_, .int x1_, .int x2_, .int x3_] (P3 (dC, dI) L tys f0 sz)) (va_Qv (fun (f : Nat → va_E) => (∃ z0_ : Int32, bd 1 300 z0_ ∧ Fs L kd f [(0, 8, a0_, .int z0_)])) (Q3 (dC, dI) L kd tys [(0, 8)] [110, 111, 112, 113, 114] f0 sz) (pA L sz)) 0 0 (pA L sz) := by
  refine Met.ofW (cc := cX0_push) (maxL := 4) (ret := none) (by decide) rfl ?_
  intro p e s m args below meth c s₁ B hml hv
  obtain ⟨rfl, hsz, hP, hK, hD0⟩ := hv
  have hx := B.exec
  have hb := B.bytes
  have hr := B.returns
  have hts := atoms_spec (ws := (.code yX0_push cX0_push 4 none :: lw_g)) B.pre
  have hown : s.vm.findClass RX0 = some m.cls := findClass_of_methodNamed B.named
  have hlocks := B.notSynchronized
  subst hsz
  have g : G3 (dC, dI) L kd tys s f0 [(0, 8)] [110, 111, 112, 113, 114] f0 s.heap [] [] := G3.start hP hD0 hWT Fs.nil
  have hl := lv_entry ([.ref a0_, .int x1_, .int x2_, .int x3_]) (n := 4) (Nat.le_of_ble_eq_true rfl)
  rw [lg_entry_eq]
  generalize (lg_sl ([.ref a0_, .int x1_, .int x2_, .int x3_]) ++ List.replicate (4 - (lg_sl ([.ref a0_, .int x1_, .int x2_, .int x3_])).length) Slot.unset).toArray = ls at hl ⊢
  have hl : lv_has ls 4 [(0, .ref a0_), (1, .int x1_), (2, .int x2_), (3, .int x3_)] := hl
  refine W_q (fun Q hQ => ?_)
  refine lv_aload_n hx hb dX0_push_0 rfl (lv_at hl 0 rfl) ?_
  refine g_geti (C := RX0) (T := TX0) (N := 14) hx hb hts (mc_ inX0) hown hK g ma0_ ka0_ (by decide) rfl 8 (by decide) rfl (hts _ (List.mem_cons_of_mem _ t_381)) (fun _ h9 => h9) rfl dX0_push_1 (fun x_1 bx_1 g => ?_)
  refine lv_sipush (v := 300) hx hb dX0_push_4 (by decide) ?_
  have kb_300 : bd 300 300 (300 : Int32) := ⟨by decide, by decide⟩
  refine lv_icmp_ge (tgt := 70) hx hb dX0_push_7 (by decide) (fun c_2 => ?_) (fun c_2 => ?_)
  · have fc_2 := le_f c_2
    have b_3 : bd 300 300 x_1 := leR fc_2 kb_300 bx_1 (by decide)
    subst hQ
    exact W.vret hx hb hr (fun t ht hW => ⟨⟨_, rfl, ⟨x_1, (bd_sub b_3 (by decide)), (g.fcts [0] rfl)⟩, q3_of g hK ht hW⟩, g.2.2.1.F ht⟩) g.2.2.1.2.2 dX0_push_70
  · have fc_2 := nle_f c_2
    have b_4 : bd 0 299 x_1 := ltL fc_2 bx_1 kb_300 (by decide)
    refine lv_aload_n hx hb dX0_push_10 rfl (lv_at hl 0 rfl) ?_
    refine g_getr (K := 110) (C := RX0) (T := TX0) (N := 14) hx hb hts (mc_ inX0) hown hK g ma0_ ka0_ (by decide) rfl 3 (by decide) rfl (hts _ (List.mem_cons_of_mem _ t_376)) (fun _ h9 => h9) rfl dX0_push_11 (fun a_5 ma_5 ka_5 g => ?_)
    refine lv_aload_n hx hb dX0_push_14 rfl (lv_at hl 0 rfl) ?_
    refine g_getk (C := RX0) (T := TX0) (N := 14) hx hb hts (mc_ inX0) hown hK g rfl 8 (by decide) rfl (hts _ (List.mem_cons_of_mem _ t_381)) (fun _ h9 => h9) 1 rfl dX0_push_15 ?_
    refine lv_iload_n hx hb dX0_push_18 rfl (lv_at hl 1 rfl) ?_
    refine g_iast hx hb hK g ma_5 ka_5 (by decide) rfl (in_bd b_4 (by decide)) (bdT x1_) (by decide) dX0_push_19 (fun f H locs hM_6 g => ?_)
    refine lv_aload_n hx hb dX0_push_20 rfl (lv_at hl 0 rfl) ?_
    refine g_getr (K := 111) (C := RX0) (T := TX0) (N := 14) hx hb hts (mc_ inX0) hown hK g ma0_ ka0_ (by decide) rfl 4 (by decide) rfl (hts _ (List.mem_cons_of_mem _ t_377)) (fun _ h9 => h9) rfl dX0_push_21 (fun a_7 ma_7 ka_7 g => ?_)
    refine lv_aload_n hx hb dX0_push_24 rfl (lv_at hl 0 rfl) ?_
    refine g_getk (C := RX0) (T := TX0) (N := 14) hx hb hts (mc_ inX0) hown hK g rfl 8 (by decide) rfl (hts _ (List.mem_cons_of_mem _ t_381)) (fun _ h9 => h9) 2 rfl dX0_push_25 ?_
    refine lv_iload_n hx hb dX0_push_28 rfl (lv_at hl 2 rfl) ?_
    refine g_iast hx hb hK g ma_7 ka_7 (by decide) rfl (in_bd b_4 (by decide)) (bdT x2_) (by decide) dX0_push_29 (fun f H locs hM_8 g => ?_)
    refine lv_aload_n hx hb dX0_push_30 rfl (lv_at hl 0 rfl) ?_
    refine g_getr (K := 112) (C := RX0) (T := TX0) (N := 14) hx hb hts (mc_ inX0) hown hK g ma0_ ka0_ (by decide) rfl 5 (by decide) rfl (hts _ (List.mem_cons_of_mem _ t_378)) (fun _ h9 => h9) rfl dX0_push_31 (fun a_9 ma_9 ka_9 g => ?_)
    refine lv_aload_n hx hb dX0_push_34 rfl (lv_at hl 0 rfl) ?_
    refine g_getk (C := RX0) (T := TX0) (N := 14) hx hb hts (mc_ inX0) hown hK g rfl 8 (by decide) rfl (hts _ (List.mem_cons_of_mem _ t_381)) (fun _ h9 => h9) 3 rfl dX0_push_35 ?_
    refine lv_iload_n hx hb dX0_push_38 rfl (lv_at hl 3 rfl) ?_
    refine g_iast hx hb hK g ma_9 ka_9 (by decide) rfl (in_bd b_4 (by decide)) (bdT x3_) (by decide) dX0_push_39 (fun f H locs hM_10 g => ?_)
    refine lv_aload_n hx hb dX0_push_40 rfl (lv_at hl 0 rfl) ?_
    refine g_getr (K := 113) (C := RX0) (T := TX0) (N := 14) hx hb hts (mc_ inX0) hown hK g ma0_ ka0_ (by decide) rfl 6 (by decide) rfl (hts _ (List.mem_cons_of_mem _ t_379)) (fun _ h9 => h9) rfl dX0_push_41 (fun a_11 ma_11 ka_11 g => ?_)
    refine lv_aload_n hx hb dX0_push_44 rfl (lv_at hl 0 rfl) ?_
    refine g_getk (C := RX0) (T := TX0) (N := 14) hx hb hts (mc_ inX0) hown hK g rfl 8 (by decide) rfl (hts _ (List.mem_cons_of_mem _ t_381)) (fun _ h9 => h9) 4 rfl dX0_push_45 ?_
    refine lv_iconst (v := 0) hx hb dX0_push_48 (by decide) ?_
    have kb_0 : bd 0 0 (0 : Int32) := ⟨by decide, by decide⟩
    refine g_iast hx hb hK g ma_11 ka_11 (by decide) rfl (in_bd b_4 (by decide)) (bd_sub kb_0 (by decide)) (by decide) dX0_push_49 (fun f H locs hM_12 g => ?_)
    refine lv_aload_n hx hb dX0_push_50 rfl (lv_at hl 0 rfl) ?_
    refine g_getr (K := 114) (C := RX0) (T := TX0) (N := 14) hx hb hts (mc_ inX0) hown hK g ma0_ ka0_ (by decide) rfl 7 (by decide) rfl (hts _ (List.mem_cons_of_mem _ t_380)) (fun _ h9 => h9) rfl dX0_push_51 (fun a_13 ma_13 ka_13 g => ?_)
    refine lv_aload_n hx hb dX0_push_54 rfl (lv_at hl 0 rfl) ?_
    refine g_getk (C := RX0) (T := TX0) (N := 14) hx hb hts (mc_ inX0) hown hK g rfl 8 (by decide) rfl (hts _ (List.mem_cons_of_mem _ t_381)) (fun _ h9 => h9) 5 rfl dX0_push_55 ?_
    refine lv_iconst (v := 0) hx hb dX0_push_58 (by decide) ?_
    refine g_iast hx hb hK g ma_13 ka_13 (by decide) rfl (in_bd b_4 (by decide)) (bd_sub kb_0 (by decide)) (by decide) dX0_push_59 (fun f H locs hM_14 g => ?_)
    refine lv_aload_n hx hb dX0_push_60 rfl (lv_at hl 0 rfl) ?_
    refine lv_dup hx hb dX0_push_61 rfl ?_
    refine g_getk (C := RX0) (T := TX0) (N := 14) hx hb hts (mc_ inX0) hown hK g rfl 8 (by decide) rfl (hts _ (List.mem_cons_of_mem _ t_381)) (fun _ h9 => h9) 5 rfl dX0_push_62 ?_
    refine lv_iconst (v := 1) hx hb dX0_push_65 (by decide) ?_
    have kb_1 : bd 1 1 (1 : Int32) := ⟨by decide, by decide⟩
    refine lv_iadd hx hb dX0_push_66 ?_
    refine lv_topi (fun y_15 ey_15 => ?_)
    have ty_15 := add_bd ey_15 b_4 kb_1 (by decide)
    have b_16 : bd 1 300 y_15 := add_rg ty_15 b_4 kb_1 (by decide)
    refine g_put (C := RX0) (T := TX0) (N := 14) hx hb hts (mc_ inX0) tyX0 tyX0_ok nmX0 hown hK g ma0_ ka0_ (by decide) rfl 8 (by decide) (hts _ (List.mem_cons_of_mem _ t_381)) (fun _ h9 => h9) rfl rfl (okV_i (bd_sub b_16 (by decide))) rfl rfl (by decide) (Or.inr (Or.inl (by decide))) (fx' := [(0, 7, a0_, .ref a_13), (0, 6, a0_, .ref a_11), (0, 5, a0_, .ref a_9), (0, 4, a0_, .ref a_7), (0, 3, a0_, .ref a_5)]) rfl dX0_push_67 (fun f H locs hM_17 g => ?_)
    subst hQ
    exact W.vret hx hb hr (fun t ht hW => ⟨⟨_, rfl, ⟨y_15, b_16, (g.fcts [0] rfl)⟩, q3_of g hK ht hW⟩, g.2.2.1.F ht⟩) g.2.2.1.2.2 dX0_push_70
set_option maxHeartbeats 4000000 in
set_option maxRecDepth 100000 in
theorem r_X0_addWhole (l : Launch) (dC : Nat → ClassId) (dI : Nat → Nat → Nat) (L : List Nat) (kd : Nat → Nat) (tys : List (ClassId × FieldType)) (f0 : Nat → va_E) (sz : Nat) (hWT : WT L kd tys f0) (a0_ : Nat) (ma0_ : a0_ ∈ L) (ka0_ : kd a0_ = 0) (x1_ : Int32) : Met l yX0_addWhole (.code yX0_addWhole cX0_addWhole 2 none :: lw_g) ({ frames := 0, cells := 0, slots := 0, locals := 0 }) (va_Pc [.ref a0_, .int x1_] (P3 (dC, dI) L tys f0 sz)) (va_Qv (fun (f : Nat → va_E) => (∃ z1_ : Int32, bd 1 300 z1_ ∧ Fs L kd f [(0, 12, a0_, .int 0), (0, 10, a0_, .int z1_)])) (Q3 (dC, dI) L kd tys [(0, 10), (0, 12)] [115] f0 sz) (pA L sz)) 0 0 (pA L sz) := by
  refine Met.ofW (cc := cX0_addWhole) (maxL := 2) (ret := none) (by decide) rfl ?_
  intro p e s m args below meth c s₁ B hml hv
  obtain ⟨rfl, hsz, hP, hK, hD0⟩ := hv
  have hx := B.exec
  have hb := B.bytes
  have hr := B.returns
  have hts := atoms_spec (ws := (.code yX0_addWhole cX0_addWhole 2 none :: lw_g)) B.pre
  have hown : s.vm.findClass RX0 = some m.cls := findClass_of_methodNamed B.named
  have hlocks := B.notSynchronized
  subst hsz
  have g : G3 (dC, dI) L kd tys s f0 [(0, 10), (0, 12)] [115] f0 s.heap [] [] := G3.start hP hD0 hWT Fs.nil
  have hl := lv_entry ([.ref a0_, .int x1_]) (n := 2) (Nat.le_of_ble_eq_true rfl)
  rw [lg_entry_eq]
  generalize (lg_sl ([.ref a0_, .int x1_]) ++ List.replicate (2 - (lg_sl ([.ref a0_, .int x1_])).length) Slot.unset).toArray = ls at hl ⊢
  have hl : lv_has ls 2 [(0, .ref a0_), (1, .int x1_)] := hl
  refine W_q (fun Q hQ => ?_)
  refine lv_aload_n hx hb dX0_addWhole_0 rfl (lv_at hl 0 rfl) ?_
  refine g_geti (C := RX0) (T := TX0) (N := 14) hx hb hts (mc_ inX0) hown hK g ma0_ ka0_ (by decide) rfl 10 (by decide) rfl (hts _ (List.mem_cons_of_mem _ t_383)) (fun _ h9 => h9) rfl dX0_addWhole_1 (fun x_1 bx_1 g => ?_)
  refine lv_sipush (v := 300) hx hb dX0_addWhole_4 (by decide) ?_
  have kb_300 : bd 300 300 (300 : Int32) := ⟨by decide, by decide⟩
  refine lv_icmp_ge (tgt := 30) hx hb dX0_addWhole_7 (by decide) (fun c_2 => ?_) (fun c_2 => ?_)
  · have fc_2 := le_f c_2
    have b_3 : bd 300 300 x_1 := leR fc_2 kb_300 bx_1 (by decide)
    refine lv_aload_n hx hb dX0_addWhole_30 rfl (lv_at hl 0 rfl) ?_
    refine lv_iconst (v := 0) hx hb dX0_addWhole_31 (by decide) ?_
    have kb_0 : bd 0 0 (0 : Int32) := ⟨by decide, by decide⟩
    refine g_put (C := RX0) (T := TX0) (N := 14) hx hb hts (mc_ inX0) tyX0 tyX0_ok nmX0 hown hK g ma0_ ka0_ (by decide) rfl 12 (by decide) (hts _ (List.mem_cons_of_mem _ t_385)) (fun _ h9 => h9) rfl rfl (okV_i (bd_sub kb_0 (by decide))) rfl rfl (by decide) (Or.inr (Or.inl (by decide))) (fx' := [(0, 10, a0_, .int x_1)]) rfl dX0_addWhole_32 (fun f H locs hM_4 g => ?_)
    subst hQ
    exact W.vret hx hb hr (fun t ht hW => ⟨⟨_, rfl, ⟨x_1, (bd_sub b_3 (by decide)), (g.fcts [0, 1] rfl)⟩, q3_of g hK ht hW⟩, g.2.2.1.F ht⟩) g.2.2.1.2.2 dX0_addWhole_35
  · have fc_2 := nle_f c_2
    have b_5 : bd 0 299 x_1 := ltL fc_2 bx_1 kb_300 (by decide)
    refine lv_aload_n hx hb dX0_addWhole_10 rfl (lv_at hl 0 rfl) ?_
    refine g_getr (K := 115) (C := RX0) (T := TX0) (N := 14) hx hb hts (mc_ inX0) hown hK g ma0_ ka0_ (by decide) rfl 9 (by decide) rfl (hts _ (List.mem_cons_of_mem _ t_382)) (fun _ h9 => h9) rfl dX0_addWhole_11 (fun a_6 ma_6 ka_6 g => ?_)
    refine lv_aload_n hx hb dX0_addWhole_14 rfl (lv_at hl 0 rfl) ?_
    refine g_getk (C := RX0) (T := TX0) (N := 14) hx hb hts (mc_ inX0) hown hK g rfl 10 (by decide) rfl (hts _ (List.mem_cons_of_mem _ t_383)) (fun _ h9 => h9) 1 rfl dX0_addWhole_15 ?_
    refine lv_iload_n hx hb dX0_addWhole_18 rfl (lv_at hl 1 rfl) ?_
    refine g_iast hx hb hK g ma_6 ka_6 (by decide) rfl (in_bd b_5 (by decide)) (bdT x1_) (by decide) dX0_addWhole_19 (fun f H locs hM_7 g => ?_)
    refine lv_aload_n hx hb dX0_addWhole_20 rfl (lv_at hl 0 rfl) ?_
    refine lv_dup hx hb dX0_addWhole_21 rfl ?_
    refine g_getk (C := RX0) (T := TX0) (N := 14) hx hb hts (mc_ inX0) hown hK g rfl 10 (by decide) rfl (hts _ (List.mem_cons_of_mem _ t_383)) (fun _ h9 => h9) 1 rfl dX0_addWhole_22 ?_
    refine lv_iconst (v := 1) hx hb dX0_addWhole_25 (by decide) ?_
    have kb_1 : bd 1 1 (1 : Int32) := ⟨by decide, by decide⟩
    refine lv_iadd hx hb dX0_addWhole_26 ?_
    refine lv_topi (fun y_8 ey_8 => ?_)
    have ty_8 := add_bd ey_8 b_5 kb_1 (by decide)
    have b_9 : bd 1 300 y_8 := add_rg ty_8 b_5 kb_1 (by decide)
    refine g_put (C := RX0) (T := TX0) (N := 14) hx hb hts (mc_ inX0) tyX0 tyX0_ok nmX0 hown hK g ma0_ ka0_ (by decide) rfl 10 (by decide) (hts _ (List.mem_cons_of_mem _ t_383)) (fun _ h9 => h9) rfl rfl (okV_i (bd_sub b_9 (by decide))) rfl rfl (by decide) (Or.inr (Or.inl (by decide))) (fx' := [(0, 9, a0_, .ref a_6)]) rfl dX0_addWhole_27 (fun f H locs hM_10 g => ?_)
    refine lv_aload_n hx hb dX0_addWhole_30 rfl (lv_at hl 0 rfl) ?_
    refine lv_iconst (v := 0) hx hb dX0_addWhole_31 (by decide) ?_
    have kb_0 : bd 0 0 (0 : Int32) := ⟨by decide, by decide⟩
    refine g_put (C := RX0) (T := TX0) (N := 14) hx hb hts (mc_ inX0) tyX0 tyX0_ok nmX0 hown hK g ma0_ ka0_ (by decide) rfl 12 (by decide) (hts _ (List.mem_cons_of_mem _ t_385)) (fun _ h9 => h9) rfl rfl (okV_i (bd_sub kb_0 (by decide))) rfl rfl (by decide) (Or.inr (Or.inl (by decide))) (fx' := [(0, 10, a0_, .int y_8), (0, 9, a0_, .ref a_6)]) rfl dX0_addWhole_32 (fun f H locs hM_11 g => ?_)
    subst hQ
    exact W.vret hx hb hr (fun t ht hW => ⟨⟨_, rfl, ⟨y_8, b_9, (g.fcts [0, 1] rfl)⟩, q3_of g hK ht hW⟩, g.2.2.1.F ht⟩) g.2.2.1.2.2 dX0_addWhole_35
set_option maxHeartbeats 4000000 in
set_option maxRecDepth 100000 in
theorem r_X0_takeHeight (l : Launch) (dC : Nat → ClassId) (dI : Nat → Nat → Nat) (L : List Nat) (kd : Nat → Nat) (tys : List (ClassId × FieldType)) (f0 : Nat → va_E) (sz : Nat) (hWT : WT L kd tys f0) (a0_ : Nat) (ma0_ : a0_ ∈ L) (ka0_ : kd a0_ = 0) : Met l yX0_takeHeight (.code yX0_takeHeight cX0_takeHeight 1 (some .int) :: lw_g) ({ frames := 0, cells := 0, slots := 0, locals := 0 }) (va_Pc [.ref a0_] (P3 (dC, dI) L tys f0 sz)) (va_Qi (fun (r : Int32) (f : Nat → va_E) => (∃ z0_ : Int32, bd 0 299 z0_ ∧ Fs L kd f [(0, 10, a0_, .int z0_)])) (Q3 (dC, dI) L kd tys [(0, 10)] [] f0 sz) (pA L sz)) 0 0 (pA L sz) := by
  refine Met.ofW (cc := cX0_takeHeight) (maxL := 1) (ret := (some .int)) (by decide) rfl ?_
  intro p e s m args below meth c s₁ B hml hv
  obtain ⟨rfl, hsz, hP, hK, hD0⟩ := hv
  have hx := B.exec
  have hb := B.bytes
  have hr := B.returns
  have hts := atoms_spec (ws := (.code yX0_takeHeight cX0_takeHeight 1 (some .int) :: lw_g)) B.pre
  have hown : s.vm.findClass RX0 = some m.cls := findClass_of_methodNamed B.named
  have hlocks := B.notSynchronized
  subst hsz
  have g : G3 (dC, dI) L kd tys s f0 [(0, 10)] [] f0 s.heap [] [] := G3.start hP hD0 hWT Fs.nil
  have hl := lv_entry ([.ref a0_]) (n := 1) (Nat.le_of_ble_eq_true rfl)
  rw [lg_entry_eq]
  generalize (lg_sl ([.ref a0_]) ++ List.replicate (1 - (lg_sl ([.ref a0_])).length) Slot.unset).toArray = ls at hl ⊢
  have hl : lv_has ls 1 [(0, .ref a0_)] := hl
  refine W_q (fun Q hQ => ?_)
  refine lv_aload_n hx hb dX0_takeHeight_0 rfl (lv_at hl 0 rfl) ?_
  refine g_geti (C := RX0) (T := TX0) (N := 14) hx hb hts (mc_ inX0) hown hK g ma0_ ka0_ (by decide) rfl 10 (by decide) rfl (hts _ (List.mem_cons_of_mem _ t_383)) (fun _ h9 => h9) rfl dX0_takeHeight_1 (fun x_1 bx_1 g => ?_)
  have kb_0 : bd 0 0 (0 : Int32) := ⟨by decide, by decide⟩
  refine lv_if_le (tgt := 17) hx hb dX0_takeHeight_4 (by decide) (fun c_2 => ?_) (fun c_2 => ?_)
  · have fc_2 := le_f c_2
    have b_3 : bd 0 0 x_1 := leL fc_2 bx_1 kb_0 (by decide)
    refine lv_aload_n hx hb dX0_takeHeight_17 rfl (lv_at hl 0 rfl) ?_
    refine g_getr (K := 115) (C := RX0) (T := TX0) (N := 14) hx hb hts (mc_ inX0) hown hK g ma0_ ka0_ (by decide) rfl 9 (by decide) rfl (hts _ (List.mem_cons_of_mem _ t_382)) (fun _ h9 => h9) rfl dX0_takeHeight_18 (fun a_4 ma_4 ka_4 g => ?_)
    refine lv_aload_n hx hb dX0_takeHeight_21 rfl (lv_at hl 0 rfl) ?_
    refine g_getk (C := RX0) (T := TX0) (N := 14) hx hb hts (mc_ inX0) hown hK g rfl 10 (by decide) rfl (hts _ (List.mem_cons_of_mem _ t_383)) (fun _ h9 => h9) 1 rfl dX0_takeHeight_22 ?_
    refine g_iald hx hb hK g ma_4 ka_4 (by decide) rfl (in_bd b_3 (by decide)) dX0_takeHeight_25 (fun x_5 bx_5 cx_5 => ?_)
    subst hQ
    exact W.iret (v := x_5) hx hb hr (fun t ht hW => ⟨⟨_, _, rfl, ⟨x_1, (bd_sub b_3 (by decide)), (g.fcts [1] rfl)⟩, q3_of g hK ht hW⟩, g.2.2.1.F ht⟩) g.2.2.1.2.2 dX0_takeHeight_26
  · have fc_2 := nle_f c_2
    have b_6 : bd 1 300 x_1 := ltR fc_2 kb_0 bx_1 (by decide)
    refine lv_aload_n hx hb dX0_takeHeight_7 rfl (lv_at hl 0 rfl) ?_
    refine lv_dup hx hb dX0_takeHeight_8 rfl ?_
    refine g_getk (C := RX0) (T := TX0) (N := 14) hx hb hts (mc_ inX0) hown hK g rfl 10 (by decide) rfl (hts _ (List.mem_cons_of_mem _ t_383)) (fun _ h9 => h9) 0 rfl dX0_takeHeight_9 ?_
    refine lv_iconst (v := 1) hx hb dX0_takeHeight_12 (by decide) ?_
    have kb_1 : bd 1 1 (1 : Int32) := ⟨by decide, by decide⟩
    refine lv_isub hx hb dX0_takeHeight_13 ?_
    refine lv_topi (fun y_7 ey_7 => ?_)
    have ty_7 := sub_bd ey_7 b_6 kb_1 (by decide)
    have b_8 : bd 0 299 y_7 := sub_rg ty_7 b_6 kb_1 (by decide)
    refine g_put (C := RX0) (T := TX0) (N := 14) hx hb hts (mc_ inX0) tyX0 tyX0_ok nmX0 hown hK g ma0_ ka0_ (by decide) rfl 10 (by decide) (hts _ (List.mem_cons_of_mem _ t_383)) (fun _ h9 => h9) rfl rfl (okV_i (bd_sub b_8 (by decide))) rfl rfl (by decide) (Or.inr (Or.inl (by decide))) (fx' := []) rfl dX0_takeHeight_14 (fun f H locs hM_9 g => ?_)
    refine lv_aload_n hx hb dX0_takeHeight_17 rfl (lv_at hl 0 rfl) ?_
    refine g_getr (K := 115) (C := RX0) (T := TX0) (N := 14) hx hb hts (mc_ inX0) hown hK g ma0_ ka0_ (by decide) rfl 9 (by decide) rfl (hts _ (List.mem_cons_of_mem _ t_382)) (fun _ h9 => h9) rfl dX0_takeHeight_18 (fun a_10 ma_10 ka_10 g => ?_)
    refine lv_aload_n hx hb dX0_takeHeight_21 rfl (lv_at hl 0 rfl) ?_
    refine g_getk (C := RX0) (T := TX0) (N := 14) hx hb hts (mc_ inX0) hown hK g rfl 10 (by decide) rfl (hts _ (List.mem_cons_of_mem _ t_383)) (fun _ h9 => h9) 1 rfl dX0_takeHeight_22 ?_
    refine g_iald hx hb hK g ma_10 ka_10 (by decide) rfl (in_bd b_8 (by decide)) dX0_takeHeight_25 (fun x_11 bx_11 cx_11 => ?_)
    subst hQ
    exact W.iret (v := x_11) hx hb hr (fun t ht hW => ⟨⟨_, _, rfl, ⟨y_7, b_8, (g.fcts [1] rfl)⟩, q3_of g hK ht hW⟩, g.2.2.1.F ht⟩) g.2.2.1.2.2 dX0_takeHeight_26
set_option maxHeartbeats 4000000 in
set_option maxRecDepth 100000 in
theorem r_X8_value (l : Launch) (dC : Nat → ClassId) (dI : Nat → Nat → Nat) (L : List Nat) (kd : Nat → Nat) (tys : List (ClassId × FieldType)) (f0 : Nat → va_E) (sz : Nat) (hWT : WT L kd tys f0) (a0_ : Nat) (ma0_ : a0_ ∈ L) (ka0_ : kd a0_ = 8) : Met l yX8_value (.code yX8_value cX8_value 1 (some .long) :: lw_g) ({ frames := 0, cells := 0, slots := 0, locals := 0 }) (va_Pc [.ref a0_] (P3 (dC, dI) L tys f0 sz)) (va_Ql (fun (r : Int64) (f : Nat → va_E) => (True)) (Q3 (dC, dI) L kd tys [] [] f0 sz) (pA L sz)) 0 0 (pA L sz) := by
  refine Met.ofW (cc := cX8_value) (maxL := 1) (ret := (some .long)) (by decide) rfl ?_
  intro p e s m args below meth c s₁ B hml hv
  obtain ⟨rfl, hsz, hP, hK, hD0⟩ := hv
  have hx := B.exec
  have hb := B.bytes
  have hr := B.returns
  have hts := atoms_spec (ws := (.code yX8_value cX8_value 1 (some .long) :: lw_g)) B.pre
  have hown : s.vm.findClass RX8 = some m.cls := findClass_of_methodNamed B.named
  have hlocks := B.notSynchronized
  subst hsz
  have g : G3 (dC, dI) L kd tys s f0 [] [] f0 s.heap [] [] := G3.start hP hD0 hWT Fs.nil
  have hl := lv_entry ([.ref a0_]) (n := 1) (Nat.le_of_ble_eq_true rfl)
  rw [lg_entry_eq]
  generalize (lg_sl ([.ref a0_]) ++ List.replicate (1 - (lg_sl ([.ref a0_])).length) Slot.unset).toArray = ls at hl ⊢
  have hl : lv_has ls 1 [(0, .ref a0_)] := hl
  refine W_q (fun Q hQ => ?_)
  refine lv_aload_n hx hb dX8_value_0 rfl (lv_at hl 0 rfl) ?_
  refine g_getr (K := 150) (C := RX8) (T := TX8) (N := 10) hx hb hts (mc_ inX8) hown hK g ma0_ ka0_ (by decide) rfl 2 (by decide) rfl (hts _ (List.mem_cons_of_mem _ t_287)) (fun _ h9 => h9) rfl dX8_value_1 (fun a_1 ma_1 ka_1 g => ?_)
  refine lv_aload_n hx hb dX8_value_4 rfl (lv_at hl 0 rfl) ?_
  refine g_geti (C := RX8) (T := TX8) (N := 10) hx hb hts (mc_ inX8) hown hK g ma0_ ka0_ (by decide) rfl 6 (by decide) rfl (hts _ (List.mem_cons_of_mem _ t_291)) (fun _ h9 => h9) rfl dX8_value_5 (fun x_2 bx_2 g => ?_)
  refine g_lald hx hb hK g ma_1 ka_1 (by decide) rfl (in_bd bx_2 (by decide)) dX8_value_8 (fun x_3 => ?_)
  subst hQ
  exact W.lret (v := x_3) hx hb hr (fun t ht hW => ⟨⟨_, _, rfl, trivial, q3_of g hK ht hW⟩, g.2.2.1.F ht⟩) g.2.2.1.2.2 dX8_value_9
set_option maxHeartbeats 4000000 in
set_option maxRecDepth 100000 in
theorem r_X7_emit (l : Launch) (dC : Nat → ClassId) (dI : Nat → Nat → Nat) (L : List Nat) (kd : Nat → Nat) (tys : List (ClassId × FieldType)) (f0 : Nat → va_E) (sz : Nat) (hWT : WT L kd tys f0) (a0_ : Nat) (ma0_ : a0_ ∈ L) (ka0_ : kd a0_ = 7) (x1_ : Int32) (x2_ : Int32) : Met l yX7_emit (.code yX7_emit cX7_emit 3 none :: lw_g) ({ frames := 0, cells := 0, slots := 0, locals := 0 }) (va_Pc [.ref a0_, .int x1_, .int x2_] (P3 (dC, dI) L tys f0 sz)) (va_Qv (fun (f : Nat → va_E) => (∃ z0_ : Int32, bd 1 2000 z0_ ∧ Fs L kd f [(7, 6, a0_, .int z0_)])) (Q3 (dC, dI) L kd tys [(7, 6)] [138, 139] f0 sz) (pA L sz)) 0 0 (pA L sz) := by
  refine Met.ofW (cc := cX7_emit) (maxL := 3) (ret := none) (by decide) rfl ?_
  intro p e s m args below meth c s₁ B hml hv
  obtain ⟨rfl, hsz, hP, hK, hD0⟩ := hv
  have hx := B.exec
  have hb := B.bytes
  have hr := B.returns
  have hts := atoms_spec (ws := (.code yX7_emit cX7_emit 3 none :: lw_g)) B.pre
  have hown : s.vm.findClass RX7 = some m.cls := findClass_of_methodNamed B.named
  have hlocks := B.notSynchronized
  subst hsz
  have g : G3 (dC, dI) L kd tys s f0 [(7, 6)] [138, 139] f0 s.heap [] [] := G3.start hP hD0 hWT Fs.nil
  have hl := lv_entry ([.ref a0_, .int x1_, .int x2_]) (n := 3) (Nat.le_of_ble_eq_true rfl)
  rw [lg_entry_eq]
  generalize (lg_sl ([.ref a0_, .int x1_, .int x2_]) ++ List.replicate (3 - (lg_sl ([.ref a0_, .int x1_, .int x2_])).length) Slot.unset).toArray = ls at hl ⊢
  have hl : lv_has ls 3 [(0, .ref a0_), (1, .int x1_), (2, .int x2_)] := hl
  refine W_q (fun Q hQ => ?_)
  refine lv_aload_n hx hb dX7_emit_0 rfl (lv_at hl 0 rfl) ?_
  refine g_geti (C := RX7) (T := TX7) (N := 19) hx hb hts (mc_ inX7) hown hK g ma0_ ka0_ (by decide) rfl 6 (by decide) rfl (hts _ (List.mem_cons_of_mem _ t_644)) (fun _ h9 => h9) rfl dX7_emit_1 (fun x_1 bx_1 g => ?_)
  refine lv_sipush (v := 2000) hx hb dX7_emit_4 (by decide) ?_
  have kb_2000 : bd 2000 2000 (2000 : Int32) := ⟨by decide, by decide⟩
  refine lv_icmp_ge (tgt := 40) hx hb dX7_emit_7 (by decide) (fun c_2 => ?_) (fun c_2 => ?_)
  · have fc_2 := le_f c_2
    have b_3 : bd 2000 2000 x_1 := leR fc_2 kb_2000 bx_1 (by decide)
    subst hQ
    exact W.vret hx hb hr (fun t ht hW => ⟨⟨_, rfl, ⟨x_1, (bd_sub b_3 (by decide)), (g.fcts [0] rfl)⟩, q3_of g hK ht hW⟩, g.2.2.1.F ht⟩) g.2.2.1.2.2 dX7_emit_40
  · have fc_2 := nle_f c_2
    have b_4 : bd 0 1999 x_1 := ltL fc_2 bx_1 kb_2000 (by decide)
    refine lv_aload_n hx hb dX7_emit_10 rfl (lv_at hl 0 rfl) ?_
    refine g_getr (K := 138) (C := RX7) (T := TX7) (N := 19) hx hb hts (mc_ inX7) hown hK g ma0_ ka0_ (by decide) rfl 4 (by decide) rfl (hts _ (List.mem_cons_of_mem _ t_640)) (fun _ h9 => h9) rfl dX7_emit_11 (fun a_5 ma_5 ka_5 g => ?_)
    refine lv_aload_n hx hb dX7_emit_14 rfl (lv_at hl 0 rfl) ?_
    refine g_getk (C := RX7) (T := TX7) (N := 19) hx hb hts (mc_ inX7) hown hK g rfl 6 (by decide) rfl (hts _ (List.mem_cons_of_mem _ t_644)) (fun _ h9 => h9) 1 rfl dX7_emit_15 ?_
    refine lv_iload_n hx hb dX7_emit_18 rfl (lv_at hl 1 rfl) ?_
    refine g_iast hx hb hK g ma_5 ka_5 (by decide) rfl (in_bd b_4 (by decide)) (bdT x1_) (by decide) dX7_emit_19 (fun f H locs hM_6 g => ?_)
    refine lv_aload_n hx hb dX7_emit_20 rfl (lv_at hl 0 rfl) ?_
    refine g_getr (K := 139) (C := RX7) (T := TX7) (N := 19) hx hb hts (mc_ inX7) hown hK g ma0_ ka0_ (by decide) rfl 5 (by decide) rfl (hts _ (List.mem_cons_of_mem _ t_642)) (fun _ h9 => h9) rfl dX7_emit_21 (fun a_7 ma_7 ka_7 g => ?_)
    refine lv_aload_n hx hb dX7_emit_24 rfl (lv_at hl 0 rfl) ?_
    refine g_getk (C := RX7) (T := TX7) (N := 19) hx hb hts (mc_ inX7) hown hK g rfl 6 (by decide) rfl (hts _ (List.mem_cons_of_mem _ t_644)) (fun _ h9 => h9) 2 rfl dX7_emit_25 ?_
    refine lv_iload_n hx hb dX7_emit_28 rfl (lv_at hl 2 rfl) ?_
    refine g_iast hx hb hK g ma_7 ka_7 (by decide) rfl (in_bd b_4 (by decide)) (bdT x2_) (by decide) dX7_emit_29 (fun f H locs hM_8 g => ?_)
    refine lv_aload_n hx hb dX7_emit_30 rfl (lv_at hl 0 rfl) ?_
    refine lv_dup hx hb dX7_emit_31 rfl ?_
    refine g_getk (C := RX7) (T := TX7) (N := 19) hx hb hts (mc_ inX7) hown hK g rfl 6 (by decide) rfl (hts _ (List.mem_cons_of_mem _ t_644)) (fun _ h9 => h9) 2 rfl dX7_emit_32 ?_
    refine lv_iconst (v := 1) hx hb dX7_emit_35 (by decide) ?_
    have kb_1 : bd 1 1 (1 : Int32) := ⟨by decide, by decide⟩
    refine lv_iadd hx hb dX7_emit_36 ?_
    refine lv_topi (fun y_9 ey_9 => ?_)
    have ty_9 := add_bd ey_9 b_4 kb_1 (by decide)
    have b_10 : bd 1 2000 y_9 := add_rg ty_9 b_4 kb_1 (by decide)
    refine g_put (C := RX7) (T := TX7) (N := 19) hx hb hts (mc_ inX7) tyX7 tyX7_ok nmX7 hown hK g ma0_ ka0_ (by decide) rfl 6 (by decide) (hts _ (List.mem_cons_of_mem _ t_644)) (fun _ h9 => h9) rfl rfl (okV_i (bd_sub b_10 (by decide))) rfl rfl (by decide) (Or.inr (Or.inl (by decide))) (fx' := [(7, 5, a0_, .ref a_7), (7, 4, a0_, .ref a_5)]) rfl dX7_emit_37 (fun f H locs hM_11 g => ?_)
    subst hQ
    exact W.vret hx hb hr (fun t ht hW => ⟨⟨_, rfl, ⟨y_9, b_10, (g.fcts [0] rfl)⟩, q3_of g hK ht hW⟩, g.2.2.1.F ht⟩) g.2.2.1.2.2 dX7_emit_40
set_option maxHeartbeats 4000000 in
set_option maxRecDepth 100000 in
theorem r_X8_next (l : Launch) (dC : Nat → ClassId) (dI : Nat → Nat → Nat) (L : List Nat) (kd : Nat → Nat) (tys : List (ClassId × FieldType)) (f0 : Nat → va_E) (sz : Nat) (hWT : WT L kd tys f0) (a0_ : Nat) (ma0_ : a0_ ∈ L) (ka0_ : kd a0_ = 8) : Met l yX8_next (.code yX8_next cX8_next 1 none :: lw_g) ({ frames := 0, cells := 0, slots := 0, locals := 0 }) (va_Pc [.ref a0_] (P3 (dC, dI) L tys f0 sz)) (va_Qv (fun (f : Nat → va_E) => (∃ z0_ : Int32, bd 1 1201 z0_ ∧ Fs L kd f [(8, 6, a0_, .int z0_)])) (Q3 (dC, dI) L kd tys [(8, 6)] [] f0 sz) (pA L sz)) 0 0 (pA L sz) := by
  refine Met.ofW (cc := cX8_next) (maxL := 1) (ret := none) (by decide) rfl ?_
  intro p e s m args below meth c s₁ B hml hv
  obtain ⟨rfl, hsz, hP, hK, hD0⟩ := hv
  have hx := B.exec
  have hb := B.bytes
  have hr := B.returns
  have hts := atoms_spec (ws := (.code yX8_next cX8_next 1 none :: lw_g)) B.pre
  have hown : s.vm.findClass RX8 = some m.cls := findClass_of_methodNamed B.named
  have hlocks := B.notSynchronized
  subst hsz
  have g : G3 (dC, dI) L kd tys s f0 [(8, 6)] [] f0 s.heap [] [] := G3.start hP hD0 hWT Fs.nil
  have hl := lv_entry ([.ref a0_]) (n := 1) (Nat.le_of_ble_eq_true rfl)
  rw [lg_entry_eq]
  generalize (lg_sl ([.ref a0_]) ++ List.replicate (1 - (lg_sl ([.ref a0_])).length) Slot.unset).toArray = ls at hl ⊢
  have hl : lv_has ls 1 [(0, .ref a0_)] := hl
  refine W_q (fun Q hQ => ?_)
  refine lv_aload_n hx hb dX8_next_0 rfl (lv_at hl 0 rfl) ?_
  refine g_geti (C := RX8) (T := TX8) (N := 10) hx hb hts (mc_ inX8) hown hK g ma0_ ka0_ (by decide) rfl 6 (by decide) rfl (hts _ (List.mem_cons_of_mem _ t_291)) (fun _ h9 => h9) rfl dX8_next_1 (fun x_1 bx_1 g => ?_)
  refine lv_sipush (v := 1200) hx hb dX8_next_4 (by decide) ?_
  have kb_1200 : bd 1200 1200 (1200 : Int32) := ⟨by decide, by decide⟩
  refine lv_icmp_gt (tgt := 20) hx hb dX8_next_7 (by decide) (fun c_2 => ?_) (fun c_2 => ?_)
  · have fc_2 := lt_f c_2
    have b_3 : bd 1201 1201 x_1 := ltR fc_2 kb_1200 bx_1 (by decide)
    subst hQ
    exact W.vret hx hb hr (fun t ht hW => ⟨⟨_, rfl, ⟨x_1, (bd_sub b_3 (by decide)), (g.fcts [0] rfl)⟩, q3_of g hK ht hW⟩, g.2.2.1.F ht⟩) g.2.2.1.2.2 dX8_next_20
  · have fc_2 := nlt_f c_2
    have b_4 : bd 0 1200 x_1 := leL fc_2 bx_1 kb_1200 (by decide)
    refine lv_aload_n hx hb dX8_next_10 rfl (lv_at hl 0 rfl) ?_
    refine lv_dup hx hb dX8_next_11 rfl ?_
    refine g_getk (C := RX8) (T := TX8) (N := 10) hx hb hts (mc_ inX8) hown hK g rfl 6 (by decide) rfl (hts _ (List.mem_cons_of_mem _ t_291)) (fun _ h9 => h9) 0 rfl dX8_next_12 ?_
    refine lv_iconst (v := 1) hx hb dX8_next_15 (by decide) ?_
    have kb_1 : bd 1 1 (1 : Int32) := ⟨by decide, by decide⟩
    refine lv_iadd hx hb dX8_next_16 ?_
    refine lv_topi (fun y_5 ey_5 => ?_)
    have ty_5 := add_bd ey_5 b_4 kb_1 (by decide)
    have b_6 : bd 1 1201 y_5 := add_rg ty_5 b_4 kb_1 (by decide)
    refine g_put (C := RX8) (T := TX8) (N := 10) hx hb hts (mc_ inX8) tyX8 tyX8_ok nmX8 hown hK g ma0_ ka0_ (by decide) rfl 6 (by decide) (hts _ (List.mem_cons_of_mem _ t_291)) (fun _ h9 => h9) rfl rfl (okV_i (bd_sub b_6 (by decide))) rfl rfl (by decide) (Or.inr (Or.inl (by decide))) (fx' := []) rfl dX8_next_17 (fun f H locs hM_7 g => ?_)
    subst hQ
    exact W.vret hx hb hr (fun t ht hW => ⟨⟨_, rfl, ⟨y_5, b_6, (g.fcts [0] rfl)⟩, q3_of g hK ht hW⟩, g.2.2.1.F ht⟩) g.2.2.1.2.2 dX8_next_20
set_option maxHeartbeats 4000000 in
set_option maxRecDepth 100000 in
theorem r_X0_readNumber (l : Launch) (dC : Nat → ClassId) (dI : Nat → Nat → Nat) (L : List Nat) (kd : Nat → Nat) (tys : List (ClassId × FieldType)) (f0 : Nat → va_E) (sz : Nat) (hWT : WT L kd tys f0) (a0_ : Nat) (ma0_ : a0_ ∈ L) (ka0_ : kd a0_ = 0) (q0_ : Nat) (mq0_ : q0_ ∈ L) (kq0_ : kd q0_ = 8) (q1_ : Nat) (mq1_ : q1_ ∈ L) (kq1_ : kd q1_ = 7) (hfx : Fs L kd f0 [(0, 0, a0_, .ref q0_), (0, 2, a0_, .ref q1_)]) : Met l yX0_readNumber (.code yX0_readNumber cX0_readNumber 1 none :: lw_g) ({ frames := 1, cells := 0, slots := 0, locals := 22 }) (va_Pc [.ref a0_] (P3 (dC, dI) L tys f0 sz)) (va_Qv (fun (f : Nat → va_E) => (∃ z1_ : Int32, bd 1 300 z1_ ∧ ∃ z2_ : Int32, bd 1 1201 z2_ ∧ ∃ z3_ : Int32, bd 1 2000 z3_ ∧ Fs L kd f [(0, 12, a0_, .int 0), (0, 10, a0_, .int z1_), (8, 6, q0_, .int z2_), (7, 6, q1_, .int z3_)])) (Q3 (dC, dI) L kd tys [(0, 10), (0, 12), (7, 6), (7, 18), (8, 6)] [115, 138, 139] f0 sz) (pA L sz)) 0 0 (pA L sz) := by
  refine Met.ofW (cc := cX0_readNumber) (maxL := 1) (ret := none) (by decide) rfl ?_
  intro p e s m args below meth c s₁ B hml hv
  obtain ⟨rfl, hsz, hP, hK, hD0⟩ := hv
  have hx := B.exec
  have hb := B.bytes
  have hr := B.returns
  have hts := atoms_spec (ws := (.code yX0_readNumber cX0_readNumber 1 none :: lw_g)) B.pre
  have hown : s.vm.findClass RX0 = some m.cls := findClass_of_methodNamed B.named
  have hlocks := B.notSynchronized
  subst hsz
  have g : G3 (dC, dI) L kd tys s f0 [(0, 10), (0, 12), (7, 6), (7, 18), (8, 6)] [115, 138, 139] f0 s.heap [] [(0, 0, a0_, .ref q0_), (0, 2, a0_, .ref q1_)] := G3.start hP hD0 hWT hfx
  have hl := lv_entry ([.ref a0_]) (n := 1) (Nat.le_of_ble_eq_true rfl)
  rw [lg_entry_eq]
  generalize (lg_sl ([.ref a0_]) ++ List.replicate (1 - (lg_sl ([.ref a0_])).length) Slot.unset).toArray = ls at hl ⊢
  have hl : lv_has ls 1 [(0, .ref a0_)] := hl
  refine W_q (fun Q hQ => ?_)
  refine lv_aload_n hx hb dX0_readNumber_0 rfl (lv_at hl 0 rfl) ?_
  refine g_getk (C := RX0) (T := TX0) (N := 14) hx hb hts (mc_ inX0) hown hK g rfl 2 (by decide) rfl (hts _ (List.mem_cons_of_mem _ t_375)) (fun _ h9 => h9) 1 rfl dX0_readNumber_1 ?_
  refine lv_iconst (v := 1) hx hb dX0_readNumber_4 (by decide) ?_
  refine lv_aload_n hx hb dX0_readNumber_5 rfl (lv_at hl 0 rfl) ?_
  refine g_getk (C := RX0) (T := TX0) (N := 14) hx hb hts (mc_ inX0) hown hK g rfl 0 (by decide) rfl (hts _ (List.mem_cons_of_mem _ t_373)) (fun _ h9 => h9) 0 rfl dX0_readNumber_6 ?_
  refine g_calll (va_runV (As := []) (rest := [.int 1, .ref q1_]) ⟨hx, hb, hml, hown, hts⟩ (r_X8_value l dC dI L kd tys f0 s.heap.size g.2.2.2.1 q0_ mq0_ kq0_) (cwV 0 hts (gV_ t_1238 t_1115 t_1116 t_184 t_1117) rfl rfl rfl (by decide +kernel) ⟨(Nat.le_of_ble_eq_true rfl), (Nat.le_of_ble_eq_true rfl)⟩) (pre3V g hK mq0_ kq0_ (by decide) (q := (RX8, TX8, 10)) rfl) rfl rfl hl.1 rfl (lv_room (Nat.le_of_ble_eq_true rfl)) dX0_readNumber_9 ⟨(Nat.le_of_ble_eq_true rfl), (Nat.le_of_ble_eq_true rfl)⟩) g hK (by decide) (by decide) (fx' := [(0, 0, a0_, .ref q0_), (0, 2, a0_, .ref q1_)]) rfl (fun r_1 fr_1 H locs hp hMr_1 g => ?_)
  refine lv_l2i hx hb dX0_readNumber_12 rfl ?_
  refine lv_topi (fun y_2 ey_2 => ?_)
  refine g_callv (va_runV (As := [.int 1, .int y_2]) (rest := []) ⟨hx, hb, hml, hown, hts⟩ (r_X7_emit l dC dI L kd tys fr_1 H.size g.2.2.2.1 q1_ mq1_ kq1_ 1 y_2) (cwV 2 hts (gV_ t_1203 t_1204 t_1205 t_191 t_1206) rfl rfl rfl (by decide +kernel) ⟨(Nat.le_of_ble_eq_true rfl), (Nat.le_of_ble_eq_true rfl)⟩) (pre3V g hK mq1_ kq1_ (by decide) (q := (RX7, TX7, 19)) rfl) rfl rfl hl.1 rfl (lv_room (Nat.le_of_ble_eq_true rfl)) dX0_readNumber_13 ⟨(Nat.le_of_ble_eq_true rfl), (Nat.le_of_ble_eq_true rfl)⟩) g hK (by decide) (by decide) (fx' := [(0, 0, a0_, .ref q0_), (0, 2, a0_, .ref q1_)]) rfl (fun fr_3 H locs hp hMr_3 g => ?_)
  obtain ⟨x_4, h_5, hF_6⟩ := hp
  have g := g.more hF_6
  refine lv_aload_n hx hb dX0_readNumber_16 rfl (lv_at hl 0 rfl) ?_
  refine g_getk (C := RX0) (T := TX0) (N := 14) hx hb hts (mc_ inX0) hown hK g rfl 2 (by decide) rfl (hts _ (List.mem_cons_of_mem _ t_375)) (fun _ h9 => h9) 2 rfl dX0_readNumber_17 ?_
  refine lv_dup hx hb dX0_readNumber_20 rfl ?_
  refine g_geti (C := RX7) (T := TX7) (N := 19) hx hb hts (mc_ inX7) hown hK g mq1_ kq1_ (by decide) rfl 18 (by decide) rfl (hts _ (List.mem_cons_of_mem _ t_681)) (fun _ h9 => h9) rfl dX0_readNumber_21 (fun x_7 bx_7 g => ?_)
  refine lv_iconst (v := 1) hx hb dX0_readNumber_24 (by decide) ?_
  have kb_1 : bd 1 1 (1 : Int32) := ⟨by decide, by decide⟩
  refine lv_iadd hx hb dX0_readNumber_25 ?_
  refine lv_topi (fun y_8 ey_8 => ?_)
  refine g_put (C := RX7) (T := TX7) (N := 19) hx hb hts (mc_ inX7) tyX7 tyX7_ok nmX7 hown hK g mq1_ kq1_ (by decide) rfl 18 (by decide) (hts _ (List.mem_cons_of_mem _ t_681)) (fun _ h9 => h9) rfl rfl (okV_i (bdT y_8)) rfl rfl (by decide) (Or.inr (Or.inl (by decide))) (fx' := [(7, 6, q1_, .int x_4), (0, 0, a0_, .ref q0_), (0, 2, a0_, .ref q1_)]) rfl dX0_readNumber_26 (fun f H locs hM_9 g => ?_)
  refine lv_aload_n hx hb dX0_readNumber_29 rfl (lv_at hl 0 rfl) ?_
  refine g_getk (C := RX0) (T := TX0) (N := 14) hx hb hts (mc_ inX0) hown hK g rfl 0 (by decide) rfl (hts _ (List.mem_cons_of_mem _ t_373)) (fun _ h9 => h9) 2 rfl dX0_readNumber_30 ?_
  refine g_callv (va_runV (As := []) (rest := []) ⟨hx, hb, hml, hown, hts⟩ (r_X8_next l dC dI L kd tys f H.size g.2.2.2.1 q0_ mq0_ kq0_) (cwV 0 hts (gV_ t_1225 t_1103 t_1104 t_184 t_1105) rfl rfl rfl (by decide +kernel) ⟨(Nat.le_of_ble_eq_true rfl), (Nat.le_of_ble_eq_true rfl)⟩) (pre3V g hK mq0_ kq0_ (by decide) (q := (RX8, TX8, 10)) rfl) rfl rfl hl.1 rfl (lv_room (Nat.le_of_ble_eq_true rfl)) dX0_readNumber_33 ⟨(Nat.le_of_ble_eq_true rfl), (Nat.le_of_ble_eq_true rfl)⟩) g hK (by decide) (by decide) (fx' := [(7, 18, q1_, .int y_8), (7, 6, q1_, .int x_4), (0, 0, a0_, .ref q0_), (0, 2, a0_, .ref q1_)]) rfl (fun fr_10 H locs hp hMr_10 g => ?_)
  obtain ⟨x_11, h_12, hF_13⟩ := hp
  have g := g.more hF_13
  refine lv_aload_n hx hb dX0_readNumber_36 rfl (lv_at hl 0 rfl) ?_
  refine lv_iconst (v := 1) hx hb dX0_readNumber_37 (by decide) ?_
  refine g_callv (va_runV (As := [.int 1]) (rest := []) ⟨hx, hb, hml, hown, hts⟩ (r_X0_addWhole l dC dI L kd tys fr_10 H.size g.2.2.2.1 a0_ ma0_ ka0_ 1) (cwV 1 hts (gV_ t_1211 t_1213 t_17 t_190 t_1214) rfl rfl rfl (by decide +kernel) ⟨(Nat.le_of_ble_eq_true rfl), (Nat.le_of_ble_eq_true rfl)⟩) (pre3V g hK ma0_ ka0_ (by decide) (q := (RX0, TX0, 14)) rfl) rfl rfl hl.1 rfl (lv_room (Nat.le_of_ble_eq_true rfl)) dX0_readNumber_38 ⟨(Nat.le_of_ble_eq_true rfl), (Nat.le_of_ble_eq_true rfl)⟩) g hK (by decide) (by decide) (fx' := [(8, 6, q0_, .int x_11), (7, 18, q1_, .int y_8), (7, 6, q1_, .int x_4), (0, 0, a0_, .ref q0_), (0, 2, a0_, .ref q1_)]) rfl (fun fr_14 H locs hp hMr_14 g => ?_)
  obtain ⟨x_15, h_16, hF_17⟩ := hp
  have g := g.more hF_17
  subst hQ
  exact W.vret hx hb hr (fun t ht hW => ⟨⟨_, rfl, ⟨x_15, h_16, x_11, h_12, x_4, h_5, (g.fcts [0, 1, 2, 4] rfl)⟩, q3_of g hK ht hW⟩, g.2.2.1.F ht⟩) g.2.2.1.2.2 dX0_readNumber_41
set_option maxHeartbeats 4000000 in
set_option maxRecDepth 100000 in
theorem r_X0_readResult (l : Launch) (dC : Nat → ClassId) (dI : Nat → Nat → Nat) (L : List Nat) (kd : Nat → Nat) (tys : List (ClassId × FieldType)) (f0 : Nat → va_E) (sz : Nat) (hWT : WT L kd tys f0) (a0_ : Nat) (ma0_ : a0_ ∈ L) (ka0_ : kd a0_ = 0) (q0_ : Nat) (mq0_ : q0_ ∈ L) (kq0_ : kd q0_ = 8) (q1_ : Nat) (mq1_ : q1_ ∈ L) (kq1_ : kd q1_ = 7) (hfx : Fs L kd f0 [(0, 0, a0_, .ref q0_), (0, 2, a0_, .ref q1_)]) : Met l yX0_readResult (.code yX0_readResult cX0_readResult 1 none :: lw_g) ({ frames := 1, cells := 0, slots := 0, locals := 22 }) (va_Pc [.ref a0_] (P3 (dC, dI) L tys f0 sz)) (va_Qv (fun (f : Nat → va_E) => (∃ z1_ : Int32, bd 1 300 z1_ ∧ ∃ z2_ : Int32, bd 1 1201 z2_ ∧ ∃ z3_ : Int32, bd 1 2000 z3_ ∧ Fs L kd f [(0, 12, a0_, .int 0), (0, 10, a0_, .int z1_), (8, 6, q0_, .int z2_), (7, 6, q1_, .int z3_)])) (Q3 (dC, dI) L kd tys [(0, 10), (0, 12), (7, 6), (7, 18), (8, 6)] [115, 138, 139] f0 sz) (pA L sz)) 0 0 (pA L sz) := by
  refine Met.ofW (cc := cX0_readResult) (maxL := 1) (ret := none) (by decide) rfl ?_
  intro p e s m args below meth c s₁ B hml hv
  obtain ⟨rfl, hsz, hP, hK, hD0⟩ := hv
  have hx := B.exec
  have hb := B.bytes
  have hr := B.returns
  have hts := atoms_spec (ws := (.code yX0_readResult cX0_readResult 1 none :: lw_g)) B.pre
  have hown : s.vm.findClass RX0 = some m.cls := findClass_of_methodNamed B.named
  have hlocks := B.notSynchronized
  subst hsz
  have g : G3 (dC, dI) L kd tys s f0 [(0, 10), (0, 12), (7, 6), (7, 18), (8, 6)] [115, 138, 139] f0 s.heap [] [(0, 0, a0_, .ref q0_), (0, 2, a0_, .ref q1_)] := G3.start hP hD0 hWT hfx
  have hl := lv_entry ([.ref a0_]) (n := 1) (Nat.le_of_ble_eq_true rfl)
  rw [lg_entry_eq]
  generalize (lg_sl ([.ref a0_]) ++ List.replicate (1 - (lg_sl ([.ref a0_])).length) Slot.unset).toArray = ls at hl ⊢
  have hl : lv_has ls 1 [(0, .ref a0_)] := hl
  refine W_q (fun Q hQ => ?_)
  refine lv_aload_n hx hb dX0_readResult_0 rfl (lv_at hl 0 rfl) ?_
  refine g_getk (C := RX0) (T := TX0) (N := 14) hx hb hts (mc_ inX0) hown hK g rfl 2 (by decide) rfl (hts _ (List.mem_cons_of_mem _ t_375)) (fun _ h9 => h9) 1 rfl dX0_readResult_1 ?_
  refine lv_iconst (v := 5) hx hb dX0_readResult_4 (by decide) ?_
  refine lv_iconst (v := 0) hx hb dX0_readResult_5 (by decide) ?_
  refine g_callv (va_runV (As := [.int 5, .int 0]) (rest := []) ⟨hx, hb, hml, hown, hts⟩ (r_X7_emit l dC dI L kd tys f0 s.heap.size g.2.2.2.1 q1_ mq1_ kq1_ 5 0) (cwV 2 hts (gV_ t_1203 t_1204 t_1205 t_191 t_1206) rfl rfl rfl (by decide +kernel) ⟨(Nat.le_of_ble_eq_true rfl), (Nat.le_of_ble_eq_true rfl)⟩) (pre3V g hK mq1_ kq1_ (by decide) (q := (RX7, TX7, 19)) rfl) rfl rfl hl.1 rfl (lv_room (Nat.le_of_ble_eq_true rfl)) dX0_readResult_6 ⟨(Nat.le_of_ble_eq_true rfl), (Nat.le_of_ble_eq_true rfl)⟩) g hK (by decide) (by decide) (fx' := [(0, 0, a0_, .ref q0_), (0, 2, a0_, .ref q1_)]) rfl (fun fr_1 H locs hp hMr_1 g => ?_)
  obtain ⟨x_2, h_3, hF_4⟩ := hp
  have g := g.more hF_4
  refine lv_aload_n hx hb dX0_readResult_9 rfl (lv_at hl 0 rfl) ?_
  refine g_getk (C := RX0) (T := TX0) (N := 14) hx hb hts (mc_ inX0) hown hK g rfl 2 (by decide) rfl (hts _ (List.mem_cons_of_mem _ t_375)) (fun _ h9 => h9) 2 rfl dX0_readResult_10 ?_
  refine lv_dup hx hb dX0_readResult_13 rfl ?_
  refine g_geti (C := RX7) (T := TX7) (N := 19) hx hb hts (mc_ inX7) hown hK g mq1_ kq1_ (by decide) rfl 18 (by decide) rfl (hts _ (List.mem_cons_of_mem _ t_681)) (fun _ h9 => h9) rfl dX0_readResult_14 (fun x_5 bx_5 g => ?_)
  refine lv_iconst (v := 1) hx hb dX0_readResult_17 (by decide) ?_
  have kb_1 : bd 1 1 (1 : Int32) := ⟨by decide, by decide⟩
  refine lv_iadd hx hb dX0_readResult_18 ?_
  refine lv_topi (fun y_6 ey_6 => ?_)
  refine g_put (C := RX7) (T := TX7) (N := 19) hx hb hts (mc_ inX7) tyX7 tyX7_ok nmX7 hown hK g mq1_ kq1_ (by decide) rfl 18 (by decide) (hts _ (List.mem_cons_of_mem _ t_681)) (fun _ h9 => h9) rfl rfl (okV_i (bdT y_6)) rfl rfl (by decide) (Or.inr (Or.inl (by decide))) (fx' := [(7, 6, q1_, .int x_2), (0, 0, a0_, .ref q0_), (0, 2, a0_, .ref q1_)]) rfl dX0_readResult_19 (fun f H locs hM_7 g => ?_)
  refine lv_aload_n hx hb dX0_readResult_22 rfl (lv_at hl 0 rfl) ?_
  refine g_getk (C := RX0) (T := TX0) (N := 14) hx hb hts (mc_ inX0) hown hK g rfl 0 (by decide) rfl (hts _ (List.mem_cons_of_mem _ t_373)) (fun _ h9 => h9) 2 rfl dX0_readResult_23 ?_
  refine g_callv (va_runV (As := []) (rest := []) ⟨hx, hb, hml, hown, hts⟩ (r_X8_next l dC dI L kd tys f H.size g.2.2.2.1 q0_ mq0_ kq0_) (cwV 0 hts (gV_ t_1225 t_1103 t_1104 t_184 t_1105) rfl rfl rfl (by decide +kernel) ⟨(Nat.le_of_ble_eq_true rfl), (Nat.le_of_ble_eq_true rfl)⟩) (pre3V g hK mq0_ kq0_ (by decide) (q := (RX8, TX8, 10)) rfl) rfl rfl hl.1 rfl (lv_room (Nat.le_of_ble_eq_true rfl)) dX0_readResult_26 ⟨(Nat.le_of_ble_eq_true rfl), (Nat.le_of_ble_eq_true rfl)⟩) g hK (by decide) (by decide) (fx' := [(7, 18, q1_, .int y_6), (7, 6, q1_, .int x_2), (0, 0, a0_, .ref q0_), (0, 2, a0_, .ref q1_)]) rfl (fun fr_8 H locs hp hMr_8 g => ?_)
  obtain ⟨x_9, h_10, hF_11⟩ := hp
  have g := g.more hF_11
  refine lv_aload_n hx hb dX0_readResult_29 rfl (lv_at hl 0 rfl) ?_
  refine lv_iconst (v := 1) hx hb dX0_readResult_30 (by decide) ?_
  refine g_callv (va_runV (As := [.int 1]) (rest := []) ⟨hx, hb, hml, hown, hts⟩ (r_X0_addWhole l dC dI L kd tys fr_8 H.size g.2.2.2.1 a0_ ma0_ ka0_ 1) (cwV 1 hts (gV_ t_1211 t_1213 t_17 t_190 t_1214) rfl rfl rfl (by decide +kernel) ⟨(Nat.le_of_ble_eq_true rfl), (Nat.le_of_ble_eq_true rfl)⟩) (pre3V g hK ma0_ ka0_ (by decide) (q := (RX0, TX0, 14)) rfl) rfl rfl hl.1 rfl (lv_room (Nat.le_of_ble_eq_true rfl)) dX0_readResult_31 ⟨(Nat.le_of_ble_eq_true rfl), (Nat.le_of_ble_eq_true rfl)⟩) g hK (by decide) (by decide) (fx' := [(8, 6, q0_, .int x_9), (7, 18, q1_, .int y_6), (7, 6, q1_, .int x_2), (0, 0, a0_, .ref q0_), (0, 2, a0_, .ref q1_)]) rfl (fun fr_12 H locs hp hMr_12 g => ?_)
  obtain ⟨x_13, h_14, hF_15⟩ := hp
  have g := g.more hF_15
  subst hQ
  exact W.vret hx hb hr (fun t ht hW => ⟨⟨_, rfl, ⟨x_13, h_14, x_9, h_10, x_2, h_3, (g.fcts [0, 1, 2, 4] rfl)⟩, q3_of g hK ht hW⟩, g.2.2.1.F ht⟩) g.2.2.1.2.2 dX0_readResult_34
set_option maxHeartbeats 4000000 in
set_option maxRecDepth 100000 in
theorem r_X8_place (l : Launch) (dC : Nat → ClassId) (dI : Nat → Nat → Nat) (L : List Nat) (kd : Nat → Nat) (tys : List (ClassId × FieldType)) (f0 : Nat → va_E) (sz : Nat) (hWT : WT L kd tys f0) (a0_ : Nat) (ma0_ : a0_ ∈ L) (ka0_ : kd a0_ = 8) : Met l yX8_place (.code yX8_place cX8_place 1 (some .int) :: lw_g) ({ frames := 0, cells := 0, slots := 0, locals := 0 }) (va_Pc [.ref a0_] (P3 (dC, dI) L tys f0 sz)) (va_Qi (fun (r : Int32) (f : Nat → va_E) => (True)) (Q3 (dC, dI) L kd tys [] [] f0 sz) (pA L sz)) 0 0 (pA L sz) := by
  refine Met.ofW (cc := cX8_place) (maxL := 1) (ret := (some .int)) (by decide) rfl ?_
  intro p e s m args below meth c s₁ B hml hv
  obtain ⟨rfl, hsz, hP, hK, hD0⟩ := hv
  have hx := B.exec
  have hb := B.bytes
  have hr := B.returns
  have hts := atoms_spec (ws := (.code yX8_place cX8_place 1 (some .int) :: lw_g)) B.pre
  have hown : s.vm.findClass RX8 = some m.cls := findClass_of_methodNamed B.named
  have hlocks := B.notSynchronized
  subst hsz
  have g : G3 (dC, dI) L kd tys s f0 [] [] f0 s.heap [] [] := G3.start hP hD0 hWT Fs.nil
  have hl := lv_entry ([.ref a0_]) (n := 1) (Nat.le_of_ble_eq_true rfl)
  rw [lg_entry_eq]
  generalize (lg_sl ([.ref a0_]) ++ List.replicate (1 - (lg_sl ([.ref a0_])).length) Slot.unset).toArray = ls at hl ⊢
  have hl : lv_has ls 1 [(0, .ref a0_)] := hl
  refine W_q (fun Q hQ => ?_)
  refine lv_aload_n hx hb dX8_place_0 rfl (lv_at hl 0 rfl) ?_
  refine g_getr (K := 149) (C := RX8) (T := TX8) (N := 10) hx hb hts (mc_ inX8) hown hK g ma0_ ka0_ (by decide) rfl 1 (by decide) rfl (hts _ (List.mem_cons_of_mem _ t_286)) (fun _ h9 => h9) rfl dX8_place_1 (fun a_1 ma_1 ka_1 g => ?_)
  refine lv_aload_n hx hb dX8_place_4 rfl (lv_at hl 0 rfl) ?_
  refine g_geti (C := RX8) (T := TX8) (N := 10) hx hb hts (mc_ inX8) hown hK g ma0_ ka0_ (by decide) rfl 6 (by decide) rfl (hts _ (List.mem_cons_of_mem _ t_291)) (fun _ h9 => h9) rfl dX8_place_5 (fun x_2 bx_2 g => ?_)
  refine g_iald hx hb hK g ma_1 ka_1 (by decide) rfl (in_bd bx_2 (by decide)) dX8_place_8 (fun x_3 bx_3 cx_3 => ?_)
  subst hQ
  exact W.iret (v := x_3) hx hb hr (fun t ht hW => ⟨⟨_, _, rfl, trivial, q3_of g hK ht hW⟩, g.2.2.1.F ht⟩) g.2.2.1.2.2 dX8_place_9
set_option maxHeartbeats 4000000 in
set_option maxRecDepth 100000 in
theorem r_X8_fail (l : Launch) (dC : Nat → ClassId) (dI : Nat → Nat → Nat) (L : List Nat) (kd : Nat → Nat) (tys : List (ClassId × FieldType)) (f0 : Nat → va_E) (sz : Nat) (hWT : WT L kd tys f0) (a0_ : Nat) (ma0_ : a0_ ∈ L) (ka0_ : kd a0_ = 8) (x1_ : Int32) (bx1_ : bd 4 4 x1_) (x2_ : Int32) : Met l yX8_fail (.code yX8_fail cX8_fail 4 none :: lw_g) ({ frames := 0, cells := 0, slots := 0, locals := 0 }) (va_Pc [.ref a0_, .int x1_, .int x2_] (P3 (dC, dI) L tys f0 sz)) (va_Qv (fun (f : Nat → va_E) => (∃ z1_ : Int32, bd 1 7 z1_ ∧ Fs L kd f [(8, 6, a0_, .int 1201), (8, 8, a0_, .int z1_)])) (Q3 (dC, dI) L kd tys [(8, 6), (8, 8), (8, 9)] [] f0 sz) (pA L sz)) 0 0 (pA L sz) := by
  refine Met.ofW (cc := cX8_fail) (maxL := 4) (ret := none) (by decide) rfl ?_
  intro p e s m args below meth c s₁ B hml hv
  obtain ⟨rfl, hsz, hP, hK, hD0⟩ := hv
  have hx := B.exec
  have hb := B.bytes
  have hr := B.returns
  have hts := atoms_spec (ws := (.code yX8_fail cX8_fail 4 none :: lw_g)) B.pre
  have hown : s.vm.findClass RX8 = some m.cls := findClass_of_methodNamed B.named
  have hlocks := B.notSynchronized
  subst hsz
  have g : G3 (dC, dI) L kd tys s f0 [(8, 6), (8, 8), (8, 9)] [] f0 s.heap [] [] := G3.start hP hD0 hWT Fs.nil
  have hl := lv_entry ([.ref a0_, .int x1_, .int x2_]) (n := 4) (Nat.le_of_ble_eq_true rfl)
  rw [lg_entry_eq]
  generalize (lg_sl ([.ref a0_, .int x1_, .int x2_]) ++ List.replicate (4 - (lg_sl ([.ref a0_, .int x1_, .int x2_])).length) Slot.unset).toArray = ls at hl ⊢
  have hl : lv_has ls 4 [(0, .ref a0_), (1, .int x1_), (2, .int x2_)] := hl
  refine W_q (fun Q hQ => ?_)
  refine lv_aload_n hx hb dX8_fail_0 rfl (lv_at hl 0 rfl) ?_
  refine g_geti (C := RX8) (T := TX8) (N := 10) hx hb hts (mc_ inX8) hown hK g ma0_ ka0_ (by decide) rfl 6 (by decide) rfl (hts _ (List.mem_cons_of_mem _ t_291)) (fun _ h9 => h9) rfl dX8_fail_1 (fun x_1 bx_1 g => ?_)
  refine lv_sipush (v := 1200) hx hb dX8_fail_4 (by decide) ?_
  have kb_1200 : bd 1200 1200 (1200 : Int32) := ⟨by decide, by decide⟩
  refine lv_icmp_le (tgt := 31) hx hb dX8_fail_7 (by decide) (fun c_2 => ?_) (fun c_2 => ?_)
  · have fc_2 := le_f c_2
    have b_3 : bd 0 1200 x_1 := leL fc_2 bx_1 kb_1200 (by decide)
    refine lv_iconst (v := 0) hx hb dX8_fail_31 (by decide) ?_
    refine lv_istore_n (lv' := [(3, .int 0), (0, .ref a0_), (1, .int x1_), (2, .int x2_)]) hx hb dX8_fail_32 rfl hl (by decide) rfl (fun ls hl => ?_)
    refine lv_aload_n hx hb dX8_fail_33 rfl (lv_at hl 1 rfl) ?_
    refine g_geti (C := RX8) (T := TX8) (N := 10) hx hb hts (mc_ inX8) hown hK g ma0_ ka0_ (by decide) rfl 8 (by decide) rfl (hts _ (List.mem_cons_of_mem _ t_295)) (fun _ h9 => h9) rfl dX8_fail_34 (fun x_4 bx_4 g => ?_)
    have kb_0 : bd 0 0 (0 : Int32) := ⟨by decide, by decide⟩
    refine lv_if_ne (tgt := 73) hx hb dX8_fail_37 (by decide) (fun c_5 => ?_) (fun c_5 => ?_)
    · have fc_5 := neq_f c_5
      have b_6 : bd 1 7 x_4 := neX fc_5 bx_4 kb_0 (by decide)
      refine lv_aload_n hx hb dX8_fail_73 rfl (lv_at hl 1 rfl) ?_
      refine lv_sipush (v := 1201) hx hb dX8_fail_74 (by decide) ?_
      have kb_1201 : bd 1201 1201 (1201 : Int32) := ⟨by decide, by decide⟩
      refine g_put (C := RX8) (T := TX8) (N := 10) hx hb hts (mc_ inX8) tyX8 tyX8_ok nmX8 hown hK g ma0_ ka0_ (by decide) rfl 6 (by decide) (hts _ (List.mem_cons_of_mem _ t_291)) (fun _ h9 => h9) rfl rfl (okV_i (bd_sub kb_1201 (by decide))) rfl rfl (by decide) (Or.inr (Or.inl (by decide))) (fx' := [(8, 8, a0_, .int x_4)]) rfl dX8_fail_77 (fun f H locs hM_7 g => ?_)
      subst hQ
      exact W.vret hx hb hr (fun t ht hW => ⟨⟨_, rfl, ⟨x_4, b_6, (g.fcts [0, 1] rfl)⟩, q3_of g hK ht hW⟩, g.2.2.1.F ht⟩) g.2.2.1.2.2 dX8_fail_80
    · have fc_5 := eq_f c_5
      have b_8 : bd 0 0 x_4 := eqX fc_5 bx_4 kb_0 (by decide)
      refine lv_aload_n hx hb dX8_fail_40 rfl (lv_at hl 1 rfl) ?_
      refine lv_iload_n hx hb dX8_fail_41 rfl (lv_at hl 0 rfl) ?_
      refine lv_if_eq (tgt := 49) hx hb dX8_fail_42 (by decide) (fun c_ => ?_) (fun c_ => absurd (by decide) c_)
      refine lv_iload_n hx hb dX8_fail_49 rfl (lv_at hl 2 rfl) ?_
      refine g_put (C := RX8) (T := TX8) (N := 10) hx hb hts (mc_ inX8) tyX8 tyX8_ok nmX8 hown hK g ma0_ ka0_ (by decide) rfl 8 (by decide) (hts _ (List.mem_cons_of_mem _ t_295)) (fun _ h9 => h9) rfl rfl (okV_i (bd_sub bx1_ (by decide))) rfl rfl (by decide) (Or.inr (Or.inr (st_of bx1_ (by decide)))) (fx' := [(8, 6, a0_, .int x_1)]) rfl dX8_fail_50 (fun f H locs hM_9 g => ?_)
      refine lv_aload_n hx hb dX8_fail_53 rfl (lv_at hl 1 rfl) ?_
      refine lv_iload_n hx hb dX8_fail_54 rfl (lv_at hl 0 rfl) ?_
      refine lv_if_eq (tgt := 69) hx hb dX8_fail_55 (by decide) (fun c_ => ?_) (fun c_ => absurd (by decide) c_)
      refine lv_iload_n hx hb dX8_fail_69 rfl (lv_at hl 3 rfl) ?_
      refine g_put (C := RX8) (T := TX8) (N := 10) hx hb hts (mc_ inX8) tyX8 tyX8_ok nmX8 hown hK g ma0_ ka0_ (by decide) rfl 9 (by decide) (hts _ (List.mem_cons_of_mem _ t_296)) (fun _ h9 => h9) rfl rfl (okV_i (bdT x2_)) rfl rfl (by decide) (Or.inr (Or.inl (by decide))) (fx' := [(8, 8, a0_, .int x1_), (8, 6, a0_, .int x_1)]) rfl dX8_fail_70 (fun f H locs hM_10 g => ?_)
      refine lv_aload_n hx hb dX8_fail_73 rfl (lv_at hl 1 rfl) ?_
      refine lv_sipush (v := 1201) hx hb dX8_fail_74 (by decide) ?_
      have kb_1201 : bd 1201 1201 (1201 : Int32) := ⟨by decide, by decide⟩
      refine g_put (C := RX8) (T := TX8) (N := 10) hx hb hts (mc_ inX8) tyX8 tyX8_ok nmX8 hown hK g ma0_ ka0_ (by decide) rfl 6 (by decide) (hts _ (List.mem_cons_of_mem _ t_291)) (fun _ h9 => h9) rfl rfl (okV_i (bd_sub kb_1201 (by decide))) rfl rfl (by decide) (Or.inr (Or.inl (by decide))) (fx' := [(8, 9, a0_, .int x2_), (8, 8, a0_, .int x1_)]) rfl dX8_fail_77 (fun f H locs hM_11 g => ?_)
      subst hQ
      exact W.vret hx hb hr (fun t ht hW => ⟨⟨_, rfl, ⟨x1_, (bd_sub bx1_ (by decide)), (g.fcts [0, 2] rfl)⟩, q3_of g hK ht hW⟩, g.2.2.1.F ht⟩) g.2.2.1.2.2 dX8_fail_80
  · have fc_2 := nle_f c_2
    have b_12 : bd 1201 1201 x_1 := ltR fc_2 kb_1200 bx_1 (by decide)
    refine lv_iload_n hx hb dX8_fail_10 rfl (lv_at hl 1 rfl) ?_
    refine lv_iconst (v := 4) hx hb dX8_fail_11 (by decide) ?_
    have kb_4 : bd 4 4 (4 : Int32) := ⟨by decide, by decide⟩
    refine lv_icmp_gt (tgt := 27) hx hb dX8_fail_12 (by decide) (fun c_13 => ?_) (fun c_13 => ?_)
    · have fc_13 := lt_f c_13
      have b_14 : bd 4 3 (4 : Int32) := ltL fc_13 kb_4 bx1_ (by decide)
      exact bd_no (eqX rfl b_14 kb_4 (lo := 4) (hi := 3) (by decide)) (by decide)
    · have fc_13 := nlt_f c_13
      refine lv_iload_n hx hb dX8_fail_15 rfl (lv_at hl 2 rfl) ?_
      refine lv_aload_n hx hb dX8_fail_16 rfl (lv_at hl 0 rfl) ?_
      refine g_getr (K := 149) (C := RX8) (T := TX8) (N := 10) hx hb hts (mc_ inX8) hown hK g ma0_ ka0_ (by decide) rfl 1 (by decide) rfl (hts _ (List.mem_cons_of_mem _ t_286)) (fun _ h9 => h9) rfl dX8_fail_17 (fun a_15 ma_15 ka_15 g => ?_)
      refine lv_sipush (v := 1200) hx hb dX8_fail_20 (by decide) ?_
      refine g_iald hx hb hK g ma_15 ka_15 (by decide) rfl (by unfold vp_in; decide) dX8_fail_23 (fun x_16 bx_16 cx_16 => ?_)
      refine lv_icmp_eq (tgt := 31) hx hb dX8_fail_24 (by decide) (fun c_17 => ?_) (fun c_17 => ?_)
      · have fc_17 := eq_f c_17
        refine lv_iconst (v := 0) hx hb dX8_fail_31 (by decide) ?_
        refine lv_istore_n (lv' := [(3, .int 0), (0, .ref a0_), (1, .int x1_), (2, .int x2_)]) hx hb dX8_fail_32 rfl hl (by decide) rfl (fun ls hl => ?_)
        refine lv_aload_n hx hb dX8_fail_33 rfl (lv_at hl 1 rfl) ?_
        refine g_geti (C := RX8) (T := TX8) (N := 10) hx hb hts (mc_ inX8) hown hK g ma0_ ka0_ (by decide) rfl 8 (by decide) rfl (hts _ (List.mem_cons_of_mem _ t_295)) (fun _ h9 => h9) rfl dX8_fail_34 (fun x_18 bx_18 g => ?_)
        have kb_0 : bd 0 0 (0 : Int32) := ⟨by decide, by decide⟩
        refine lv_if_ne (tgt := 73) hx hb dX8_fail_37 (by decide) (fun c_19 => ?_) (fun c_19 => ?_)
        · have fc_19 := neq_f c_19
          have b_20 : bd 1 7 x_18 := neX fc_19 bx_18 kb_0 (by decide)
          refine lv_aload_n hx hb dX8_fail_73 rfl (lv_at hl 1 rfl) ?_
          refine lv_sipush (v := 1201) hx hb dX8_fail_74 (by decide) ?_
          have kb_1201 : bd 1201 1201 (1201 : Int32) := ⟨by decide, by decide⟩
          refine g_put (C := RX8) (T := TX8) (N := 10) hx hb hts (mc_ inX8) tyX8 tyX8_ok nmX8 hown hK g ma0_ ka0_ (by decide) rfl 6 (by decide) (hts _ (List.mem_cons_of_mem _ t_291)) (fun _ h9 => h9) rfl rfl (okV_i (bd_sub kb_1201 (by decide))) rfl rfl (by decide) (Or.inr (Or.inl (by decide))) (fx' := [(8, 8, a0_, .int x_18), (8, 1, a0_, .ref a_15)]) rfl dX8_fail_77 (fun f H locs hM_21 g => ?_)
          subst hQ
          exact W.vret hx hb hr (fun t ht hW => ⟨⟨_, rfl, ⟨x_18, b_20, (g.fcts [0, 1] rfl)⟩, q3_of g hK ht hW⟩, g.2.2.1.F ht⟩) g.2.2.1.2.2 dX8_fail_80
        · have fc_19 := eq_f c_19
          have b_22 : bd 0 0 x_18 := eqX fc_19 bx_18 kb_0 (by decide)
          refine lv_aload_n hx hb dX8_fail_40 rfl (lv_at hl 1 rfl) ?_
          refine lv_iload_n hx hb dX8_fail_41 rfl (lv_at hl 0 rfl) ?_
          refine lv_if_eq (tgt := 49) hx hb dX8_fail_42 (by decide) (fun c_ => ?_) (fun c_ => absurd (by decide) c_)
          refine lv_iload_n hx hb dX8_fail_49 rfl (lv_at hl 2 rfl) ?_
          refine g_put (C := RX8) (T := TX8) (N := 10) hx hb hts (mc_ inX8) tyX8 tyX8_ok nmX8 hown hK g ma0_ ka0_ (by decide) rfl 8 (by decide) (hts _ (List.mem_cons_of_mem _ t_295)) (fun _ h9 => h9) rfl rfl (okV_i (bd_sub bx1_ (by decide))) rfl rfl (by decide) (Or.inr (Or.inr (st_of bx1_ (by decide)))) (fx' := [(8, 1, a0_, .ref a_15), (8, 6, a0_, .int x_1)]) rfl dX8_fail_50 (fun f H locs hM_23 g => ?_)
          refine lv_aload_n hx hb dX8_fail_53 rfl (lv_at hl 1 rfl) ?_
          refine lv_iload_n hx hb dX8_fail_54 rfl (lv_at hl 0 rfl) ?_
          refine lv_if_eq (tgt := 69) hx hb dX8_fail_55 (by decide) (fun c_ => ?_) (fun c_ => absurd (by decide) c_)
          refine lv_iload_n hx hb dX8_fail_69 rfl (lv_at hl 3 rfl) ?_
          refine g_put (C := RX8) (T := TX8) (N := 10) hx hb hts (mc_ inX8) tyX8 tyX8_ok nmX8 hown hK g ma0_ ka0_ (by decide) rfl 9 (by decide) (hts _ (List.mem_cons_of_mem _ t_296)) (fun _ h9 => h9) rfl rfl (okV_i (bdT x2_)) rfl rfl (by decide) (Or.inr (Or.inl (by decide))) (fx' := [(8, 8, a0_, .int x1_), (8, 1, a0_, .ref a_15), (8, 6, a0_, .int x_1)]) rfl dX8_fail_70 (fun f H locs hM_24 g => ?_)
          refine lv_aload_n hx hb dX8_fail_73 rfl (lv_at hl 1 rfl) ?_
          refine lv_sipush (v := 1201) hx hb dX8_fail_74 (by decide) ?_
          have kb_1201 : bd 1201 1201 (1201 : Int32) := ⟨by decide, by decide⟩
          refine g_put (C := RX8) (T := TX8) (N := 10) hx hb hts (mc_ inX8) tyX8 tyX8_ok nmX8 hown hK g ma0_ ka0_ (by decide) rfl 6 (by decide) (hts _ (List.mem_cons_of_mem _ t_291)) (fun _ h9 => h9) rfl rfl (okV_i (bd_sub kb_1201 (by decide))) rfl rfl (by decide) (Or.inr (Or.inl (by decide))) (fx' := [(8, 9, a0_, .int x2_), (8, 8, a0_, .int x1_), (8, 1, a0_, .ref a_15)]) rfl dX8_fail_77 (fun f H locs hM_25 g => ?_)
          subst hQ
          exact W.vret hx hb hr (fun t ht hW => ⟨⟨_, rfl, ⟨x1_, (bd_sub bx1_ (by decide)), (g.fcts [0, 2] rfl)⟩, q3_of g hK ht hW⟩, g.2.2.1.F ht⟩) g.2.2.1.2.2 dX8_fail_80
      · have fc_17 := neq_f c_17
        refine lv_iconst (v := 1) hx hb dX8_fail_27 (by decide) ?_
        refine lv_goto (tgt := 32) hx hb dX8_fail_28 (by decide) ?_
        refine lv_istore_n (lv' := [(3, .int 1), (0, .ref a0_), (1, .int x1_), (2, .int x2_)]) hx hb dX8_fail_32 rfl hl (by decide) rfl (fun ls hl => ?_)
        refine lv_aload_n hx hb dX8_fail_33 rfl (lv_at hl 1 rfl) ?_
        refine g_geti (C := RX8) (T := TX8) (N := 10) hx hb hts (mc_ inX8) hown hK g ma0_ ka0_ (by decide) rfl 8 (by decide) rfl (hts _ (List.mem_cons_of_mem _ t_295)) (fun _ h9 => h9) rfl dX8_fail_34 (fun x_26 bx_26 g => ?_)
        have kb_0 : bd 0 0 (0 : Int32) := ⟨by decide, by decide⟩
        refine lv_if_ne (tgt := 73) hx hb dX8_fail_37 (by decide) (fun c_27 => ?_) (fun c_27 => ?_)
        · have fc_27 := neq_f c_27
          have b_28 : bd 1 7 x_26 := neX fc_27 bx_26 kb_0 (by decide)
          refine lv_aload_n hx hb dX8_fail_73 rfl (lv_at hl 1 rfl) ?_
          refine lv_sipush (v := 1201) hx hb dX8_fail_74 (by decide) ?_
          have kb_1201 : bd 1201 1201 (1201 : Int32) := ⟨by decide, by decide⟩
          refine g_put (C := RX8) (T := TX8) (N := 10) hx hb hts (mc_ inX8) tyX8 tyX8_ok nmX8 hown hK g ma0_ ka0_ (by decide) rfl 6 (by decide) (hts _ (List.mem_cons_of_mem _ t_291)) (fun _ h9 => h9) rfl rfl (okV_i (bd_sub kb_1201 (by decide))) rfl rfl (by decide) (Or.inr (Or.inl (by decide))) (fx' := [(8, 8, a0_, .int x_26), (8, 1, a0_, .ref a_15)]) rfl dX8_fail_77 (fun f H locs hM_29 g => ?_)
          subst hQ
          exact W.vret hx hb hr (fun t ht hW => ⟨⟨_, rfl, ⟨x_26, b_28, (g.fcts [0, 1] rfl)⟩, q3_of g hK ht hW⟩, g.2.2.1.F ht⟩) g.2.2.1.2.2 dX8_fail_80
        · have fc_27 := eq_f c_27
          have b_30 : bd 0 0 x_26 := eqX fc_27 bx_26 kb_0 (by decide)
          refine lv_aload_n hx hb dX8_fail_40 rfl (lv_at hl 1 rfl) ?_
          refine lv_iload_n hx hb dX8_fail_41 rfl (lv_at hl 0 rfl) ?_
          refine lv_if_eq (tgt := 49) hx hb dX8_fail_42 (by decide) (fun c_ => absurd c_ (by decide)) (fun c_ => ?_)
          refine lv_iconst (v := 4) hx hb dX8_fail_45 (by decide) ?_
          refine lv_goto (tgt := 50) hx hb dX8_fail_46 (by decide) ?_
          refine g_put (C := RX8) (T := TX8) (N := 10) hx hb hts (mc_ inX8) tyX8 tyX8_ok nmX8 hown hK g ma0_ ka0_ (by decide) rfl 8 (by decide) (hts _ (List.mem_cons_of_mem _ t_295)) (fun _ h9 => h9) rfl rfl (okV_i (bd_sub kb_4 (by decide))) rfl rfl (by decide) (Or.inr (Or.inr (st_of kb_4 (by decide)))) (fx' := [(8, 1, a0_, .ref a_15), (8, 6, a0_, .int x_1)]) rfl dX8_fail_50 (fun f H locs hM_31 g => ?_)
          refine lv_aload_n hx hb dX8_fail_53 rfl (lv_at hl 1 rfl) ?_
          refine lv_iload_n hx hb dX8_fail_54 rfl (lv_at hl 0 rfl) ?_
          refine lv_if_eq (tgt := 69) hx hb dX8_fail_55 (by decide) (fun c_ => absurd c_ (by decide)) (fun c_ => ?_)
          refine lv_aload_n hx hb dX8_fail_58 rfl (lv_at hl 1 rfl) ?_
          refine g_getk (C := RX8) (T := TX8) (N := 10) hx hb hts (mc_ inX8) hown hK g rfl 1 (by decide) rfl (hts _ (List.mem_cons_of_mem _ t_286)) (fun _ h9 => h9) 1 rfl dX8_fail_59 ?_
          refine lv_sipush (v := 1200) hx hb dX8_fail_62 (by decide) ?_
          refine g_iald hx hb hK g ma_15 ka_15 (by decide) rfl (by unfold vp_in; decide) dX8_fail_65 (fun x_32 bx_32 cx_32 => ?_)
          obtain rfl : x_16 = x_32 := el_same cx_16 cx_32 (arr_eq hM_31 ma_15 ka_15 (by decide) rfl)
          refine lv_goto (tgt := 70) hx hb dX8_fail_66 (by decide) ?_
          refine g_put (C := RX8) (T := TX8) (N := 10) hx hb hts (mc_ inX8) tyX8 tyX8_ok nmX8 hown hK g ma0_ ka0_ (by decide) rfl 9 (by decide) (hts _ (List.mem_cons_of_mem _ t_296)) (fun _ h9 => h9) rfl rfl (okV_i (bdT x_16)) rfl rfl (by decide) (Or.inr (Or.inl (by decide))) (fx' := [(8, 8, a0_, .int 4), (8, 1, a0_, .ref a_15), (8, 6, a0_, .int x_1)]) rfl dX8_fail_70 (fun f H locs hM_33 g => ?_)
          refine lv_aload_n hx hb dX8_fail_73 rfl (lv_at hl 1 rfl) ?_
          refine lv_sipush (v := 1201) hx hb dX8_fail_74 (by decide) ?_
          have kb_1201 : bd 1201 1201 (1201 : Int32) := ⟨by decide, by decide⟩
          refine g_put (C := RX8) (T := TX8) (N := 10) hx hb hts (mc_ inX8) tyX8 tyX8_ok nmX8 hown hK g ma0_ ka0_ (by decide) rfl 6 (by decide) (hts _ (List.mem_cons_of_mem _ t_291)) (fun _ h9 => h9) rfl rfl (okV_i (bd_sub kb_1201 (by decide))) rfl rfl (by decide) (Or.inr (Or.inl (by decide))) (fx' := [(8, 9, a0_, .int x_16), (8, 8, a0_, .int 4), (8, 1, a0_, .ref a_15)]) rfl dX8_fail_77 (fun f H locs hM_34 g => ?_)
          subst hQ
          exact W.vret hx hb hr (fun t ht hW => ⟨⟨_, rfl, ⟨4, (bd_sub kb_4 (by decide)), (g.fcts [0, 2] rfl)⟩, q3_of g hK ht hW⟩, g.2.2.1.F ht⟩) g.2.2.1.2.2 dX8_fail_80
set_option maxHeartbeats 4000000 in
set_option maxRecDepth 100000 in
theorem r_X8_next_2 (l : Launch) (dC : Nat → ClassId) (dI : Nat → Nat → Nat) (L : List Nat) (kd : Nat → Nat) (tys : List (ClassId × FieldType)) (f0 : Nat → va_E) (sz : Nat) (hWT : WT L kd tys f0) (a0_ : Nat) (ma0_ : a0_ ∈ L) (ka0_ : kd a0_ = 8) (y0_ : Int32) (by0_ : bd 1201 1201 y0_) (hfx : Fs L kd f0 [(8, 6, a0_, .int y0_)]) : Met l yX8_next (.code yX8_next cX8_next 1 none :: lw_g) ({ frames := 0, cells := 0, slots := 0, locals := 0 }) (va_Pc [.ref a0_] (P3 (dC, dI) L tys f0 sz)) (va_Qv (fun (f : Nat → va_E) => (True)) (Q3 (dC, dI) L kd tys [] [] f0 sz) (pA L sz)) 0 0 (pA L sz) := by
  refine Met.ofW (cc := cX8_next) (maxL := 1) (ret := none) (by decide) rfl ?_
  intro p e s m args below meth c s₁ B hml hv
  obtain ⟨rfl, hsz, hP, hK, hD0⟩ := hv
  have hx := B.exec
  have hb := B.bytes
  have hr := B.returns
  have hts := atoms_spec (ws := (.code yX8_next cX8_next 1 none :: lw_g)) B.pre
  have hown : s.vm.findClass RX8 = some m.cls := findClass_of_methodNamed B.named
  have hlocks := B.notSynchronized
  subst hsz
  have g : G3 (dC, dI) L kd tys s f0 [] [] f0 s.heap [] [(8, 6, a0_, .int y0_)] := G3.start hP hD0 hWT hfx
  have hl := lv_entry ([.ref a0_]) (n := 1) (Nat.le_of_ble_eq_true rfl)
  rw [lg_entry_eq]
  generalize (lg_sl ([.ref a0_]) ++ List.replicate (1 - (lg_sl ([.ref a0_])).length) Slot.unset).toArray = ls at hl ⊢
  have hl : lv_has ls 1 [(0, .ref a0_)] := hl
  refine W_q (fun Q hQ => ?_)
  refine lv_aload_n hx hb dX8_next_0 rfl (lv_at hl 0 rfl) ?_
  refine g_getk (C := RX8) (T := TX8) (N := 10) hx hb hts (mc_ inX8) hown hK g rfl 6 (by decide) rfl (hts _ (List.mem_cons_of_mem _ t_291)) (fun _ h9 => h9) 0 rfl dX8_next_1 ?_
  refine lv_sipush (v := 1200) hx hb dX8_next_4 (by decide) ?_
  have kb_1200 : bd 1200 1200 (1200 : Int32) := ⟨by decide, by decide⟩
  refine lv_icmp_gt (tgt := 20) hx hb dX8_next_7 (by decide) (fun c_1 => ?_) (fun c_1 => ?_)
  · have fc_1 := lt_f c_1
    subst hQ
    exact W.vret hx hb hr (fun t ht hW => ⟨⟨_, rfl, trivial, q3_of g hK ht hW⟩, g.2.2.1.F ht⟩) g.2.2.1.2.2 dX8_next_20
  · have fc_1 := nlt_f c_1
    have b_2 : bd 1201 1200 y0_ := leL fc_1 by0_ kb_1200 (by decide)
    exact bd_no b_2 (by decide)
set_option maxHeartbeats 4000000 in
set_option maxRecDepth 100000 in
theorem r_X0_openSign (l : Launch) (dC : Nat → ClassId) (dI : Nat → Nat → Nat) (L : List Nat) (kd : Nat → Nat) (tys : List (ClassId × FieldType)) (f0 : Nat → va_E) (sz : Nat) (hWT : WT L kd tys f0) (a0_ : Nat) (ma0_ : a0_ ∈ L) (ka0_ : kd a0_ = 0) (x1_ : Int32) (q0_ : Nat) (mq0_ : q0_ ∈ L) (kq0_ : kd q0_ = 8) (q1_ : Nat) (mq1_ : q1_ ∈ L) (kq1_ : kd q1_ = 7) (hfx : Fs L kd f0 [(0, 0, a0_, .ref q0_), (0, 2, a0_, .ref q1_)]) : Met l yX0_openSign (.code yX0_openSign cX0_openSign 3 none :: lw_g) ({ frames := 1, cells := 0, slots := 0, locals := 23 }) (va_Pc [.ref a0_, .int x1_] (P3 (dC, dI) L tys f0 sz)) (va_Qv (fun (f : Nat → va_E) => (∃ z0_ : Int32, bd 1 300 z0_ ∧ ∃ z2_ : Int32, bd 1 7 z2_ ∧ Fs L kd f [(0, 8, a0_, .int z0_), (8, 6, q0_, .int 1201), (8, 8, q0_, .int z2_)]) ∨ (∃ z0_ : Int32, bd 1 1201 z0_ ∧ ∃ z1_ : Int32, bd (-2147483647) 40 z1_ ∧ ∃ z2_ : Int32, bd 1 300 z2_ ∧ Fs L kd f [(8, 6, q0_, .int z0_), (0, 11, a0_, .int z1_), (0, 8, a0_, .int z2_)])) (Q3 (dC, dI) L kd tys [(0, 8), (0, 11), (7, 18), (8, 6), (8, 8), (8, 9)] [110, 111, 112, 113, 114] f0 sz) (pA L sz)) 0 0 (pA L sz) := by
  refine Met.ofW (cc := cX0_openSign) (maxL := 3) (ret := none) (by decide) rfl ?_
  intro p e s m args below meth c s₁ B hml hv
  obtain ⟨rfl, hsz, hP, hK, hD0⟩ := hv
  have hx := B.exec
  have hb := B.bytes
  have hr := B.returns
  have hts := atoms_spec (ws := (.code yX0_openSign cX0_openSign 3 none :: lw_g)) B.pre
  have hown : s.vm.findClass RX0 = some m.cls := findClass_of_methodNamed B.named
  have hlocks := B.notSynchronized
  subst hsz
  have g : G3 (dC, dI) L kd tys s f0 [(0, 8), (0, 11), (7, 18), (8, 6), (8, 8), (8, 9)] [110, 111, 112, 113, 114] f0 s.heap [] [(0, 0, a0_, .ref q0_), (0, 2, a0_, .ref q1_)] := G3.start hP hD0 hWT hfx
  have hl := lv_entry ([.ref a0_, .int x1_]) (n := 3) (Nat.le_of_ble_eq_true rfl)
  rw [lg_entry_eq]
  generalize (lg_sl ([.ref a0_, .int x1_]) ++ List.replicate (3 - (lg_sl ([.ref a0_, .int x1_])).length) Slot.unset).toArray = ls at hl ⊢
  have hl : lv_has ls 3 [(0, .ref a0_), (1, .int x1_)] := hl
  refine W_q (fun Q hQ => ?_)
  refine lv_aload_n hx hb dX0_openSign_0 rfl (lv_at hl 0 rfl) ?_
  refine g_geti (C := RX0) (T := TX0) (N := 14) hx hb hts (mc_ inX0) hown hK g ma0_ ka0_ (by decide) rfl 11 (by decide) rfl (hts _ (List.mem_cons_of_mem _ t_384)) (fun _ h9 => h9) rfl dX0_openSign_1 (fun x_1 bx_1 g => ?_)
  refine lv_bipush (v := 40) hx hb dX0_openSign_4 (by decide) ?_
  have kb_40 : bd 40 40 (40 : Int32) := ⟨by decide, by decide⟩
  refine lv_icmp_lt (tgt := 24) hx hb dX0_openSign_6 (by decide) (fun c_2 => ?_) (fun c_2 => ?_)
  · have fc_2 := lt_f c_2
    have b_3 : bd (-2147483648) 39 x_1 := ltL fc_2 (bdT x_1) kb_40 (by decide)
    refine lv_iload_n hx hb dX0_openSign_24 rfl (lv_at hl 1 rfl) ?_
    refine lv_bipush (v := 45) hx hb dX0_openSign_25 (by decide) ?_
    have kb_45 : bd 45 45 (45 : Int32) := ⟨by decide, by decide⟩
    refine lv_icmp_ne (tgt := 35) hx hb dX0_openSign_27 (by decide) (fun c_4 => ?_) (fun c_4 => ?_)
    · have fc_4 := neq_f c_4
      refine lv_bipush (v := 7) hx hb dX0_openSign_35 (by decide) ?_
      refine lv_istore_n (lv' := [(2, .int 7), (0, .ref a0_), (1, .int x1_)]) hx hb dX0_openSign_37 rfl hl (by decide) rfl (fun ls hl => ?_)
      refine lv_aload_n hx hb dX0_openSign_38 rfl (lv_at hl 1 rfl) ?_
      refine lv_iload_n hx hb dX0_openSign_39 rfl (lv_at hl 2 rfl) ?_
      refine lv_bipush (v := 40) hx hb dX0_openSign_40 (by decide) ?_
      refine lv_icmp_ne (tgt := 49) hx hb dX0_openSign_42 (by decide) (fun c_5 => ?_) (fun c_5 => ?_)
      · have fc_5 := neq_f c_5
        refine lv_iload_n hx hb dX0_openSign_49 rfl (lv_at hl 0 rfl) ?_
        refine lv_aload_n hx hb dX0_openSign_50 rfl (lv_at hl 1 rfl) ?_
        refine g_getk (C := RX0) (T := TX0) (N := 14) hx hb hts (mc_ inX0) hown hK g rfl 0 (by decide) rfl (hts _ (List.mem_cons_of_mem _ t_373)) (fun _ h9 => h9) 1 rfl dX0_openSign_51 ?_
        refine g_calli (va_runV (As := []) (rest := [.int 7, .ref a0_]) ⟨hx, hb, hml, hown, hts⟩ (r_X8_place l dC dI L kd tys f0 s.heap.size g.2.2.2.1 q0_ mq0_ kq0_) (cwV 0 hts (gV_ t_1220 t_1111 t_1112 t_184 t_1113) rfl rfl rfl (by decide +kernel) ⟨(Nat.le_of_ble_eq_true rfl), (Nat.le_of_ble_eq_true rfl)⟩) (pre3V g hK mq0_ kq0_ (by decide) (q := (RX8, TX8, 10)) rfl) rfl rfl hl.1 rfl (lv_room (Nat.le_of_ble_eq_true rfl)) dX0_openSign_54 ⟨(Nat.le_of_ble_eq_true rfl), (Nat.le_of_ble_eq_true rfl)⟩) g hK (by decide) (by decide) (fx' := [(0, 11, a0_, .int x_1), (0, 0, a0_, .ref q0_), (0, 2, a0_, .ref q1_)]) rfl (fun r_6 fr_6 H locs hp hMr_6 g => ?_)
        refine lv_iconst (v := 0) hx hb dX0_openSign_57 (by decide) ?_
        refine g_callv (va_runV (As := [.int 7, .int r_6, .int 0]) (rest := []) ⟨hx, hb, hml, hown, hts⟩ (r_X0_push l dC dI L kd tys fr_6 H.size g.2.2.2.1 a0_ ma0_ ka0_ 7 r_6 0) (cwV 3 hts (gV_ t_1221 t_1223 t_19 t_190 t_1224) rfl rfl rfl (by decide +kernel) ⟨(Nat.le_of_ble_eq_true rfl), (Nat.le_of_ble_eq_true rfl)⟩) (pre3V g hK ma0_ ka0_ (by decide) (q := (RX0, TX0, 14)) rfl) rfl rfl hl.1 rfl (lv_room (Nat.le_of_ble_eq_true rfl)) dX0_openSign_58 ⟨(Nat.le_of_ble_eq_true rfl), (Nat.le_of_ble_eq_true rfl)⟩) g hK (by decide) (by decide) (fx' := [(0, 11, a0_, .int x_1), (0, 0, a0_, .ref q0_), (0, 2, a0_, .ref q1_)]) rfl (fun fr_7 H locs hp hMr_7 g => ?_)
        obtain ⟨x_8, h_9, hF_10⟩ := hp
        have g := g.more hF_10
        refine lv_aload_n hx hb dX0_openSign_61 rfl (lv_at hl 1 rfl) ?_
        refine g_getk (C := RX0) (T := TX0) (N := 14) hx hb hts (mc_ inX0) hown hK g rfl 2 (by decide) rfl (hts _ (List.mem_cons_of_mem _ t_375)) (fun _ h9 => h9) 3 rfl dX0_openSign_62 ?_
        refine lv_dup hx hb dX0_openSign_65 rfl ?_
        refine g_geti (C := RX7) (T := TX7) (N := 19) hx hb hts (mc_ inX7) hown hK g mq1_ kq1_ (by decide) rfl 18 (by decide) rfl (hts _ (List.mem_cons_of_mem _ t_681)) (fun _ h9 => h9) rfl dX0_openSign_66 (fun x_11 bx_11 g => ?_)
        refine lv_iload_n hx hb dX0_openSign_69 rfl (lv_at hl 2 rfl) ?_
        refine lv_bipush (v := 40) hx hb dX0_openSign_70 (by decide) ?_
        refine lv_icmp_ne (tgt := 79) hx hb dX0_openSign_72 (by decide) (fun c_12 => ?_) (fun c_12 => ?_)
        · have fc_12 := neq_f c_12
          refine lv_iconst (v := 1) hx hb dX0_openSign_79 (by decide) ?_
          have kb_1 : bd 1 1 (1 : Int32) := ⟨by decide, by decide⟩
          refine lv_iadd hx hb dX0_openSign_80 ?_
          refine lv_topi (fun y_13 ey_13 => ?_)
          refine g_put (C := RX7) (T := TX7) (N := 19) hx hb hts (mc_ inX7) tyX7 tyX7_ok nmX7 hown hK g mq1_ kq1_ (by decide) rfl 18 (by decide) (hts _ (List.mem_cons_of_mem _ t_681)) (fun _ h9 => h9) rfl rfl (okV_i (bdT y_13)) rfl rfl (by decide) (Or.inr (Or.inl (by decide))) (fx' := [(0, 8, a0_, .int x_8), (0, 11, a0_, .int x_1), (0, 0, a0_, .ref q0_), (0, 2, a0_, .ref q1_)]) rfl dX0_openSign_81 (fun f H locs hM_14 g => ?_)
          refine lv_aload_n hx hb dX0_openSign_84 rfl (lv_at hl 1 rfl) ?_
          refine lv_dup hx hb dX0_openSign_85 rfl ?_
          refine g_getk (C := RX0) (T := TX0) (N := 14) hx hb hts (mc_ inX0) hown hK g rfl 11 (by decide) rfl (hts _ (List.mem_cons_of_mem _ t_384)) (fun _ h9 => h9) 2 rfl dX0_openSign_86 ?_
          refine lv_iconst (v := 1) hx hb dX0_openSign_89 (by decide) ?_
          refine lv_iadd hx hb dX0_openSign_90 ?_
          refine lv_topi (fun y_15 ey_15 => ?_)
          have ty_15 := add_bd ey_15 b_3 kb_1 (by decide)
          have b_16 : bd (-2147483647) 40 y_15 := add_rg ty_15 b_3 kb_1 (by decide)
          refine g_put (C := RX0) (T := TX0) (N := 14) hx hb hts (mc_ inX0) tyX0 tyX0_ok nmX0 hown hK g ma0_ ka0_ (by decide) rfl 11 (by decide) (hts _ (List.mem_cons_of_mem _ t_384)) (fun _ h9 => h9) rfl rfl (okV_i (bd_sub b_16 (by decide))) rfl rfl (by decide) (Or.inr (Or.inl (by decide))) (fx' := [(7, 18, q1_, .int y_13), (0, 8, a0_, .int x_8), (0, 0, a0_, .ref q0_), (0, 2, a0_, .ref q1_)]) rfl dX0_openSign_91 (fun f H locs hM_17 g => ?_)
          refine lv_aload_n hx hb dX0_openSign_94 rfl (lv_at hl 1 rfl) ?_
          refine g_getk (C := RX0) (T := TX0) (N := 14) hx hb hts (mc_ inX0) hown hK g rfl 0 (by decide) rfl (hts _ (List.mem_cons_of_mem _ t_373)) (fun _ h9 => h9) 3 rfl dX0_openSign_95 ?_
          refine g_callv (va_runV (As := []) (rest := []) ⟨hx, hb, hml, hown, hts⟩ (r_X8_next l dC dI L kd tys f H.size g.2.2.2.1 q0_ mq0_ kq0_) (cwV 0 hts (gV_ t_1225 t_1103 t_1104 t_184 t_1105) rfl rfl rfl (by decide +kernel) ⟨(Nat.le_of_ble_eq_true rfl), (Nat.le_of_ble_eq_true rfl)⟩) (pre3V g hK mq0_ kq0_ (by decide) (q := (RX8, TX8, 10)) rfl) rfl rfl hl.1 rfl (lv_room (Nat.le_of_ble_eq_true rfl)) dX0_openSign_98 ⟨(Nat.le_of_ble_eq_true rfl), (Nat.le_of_ble_eq_true rfl)⟩) g hK (by decide) (by decide) (fx' := [(0, 11, a0_, .int y_15), (7, 18, q1_, .int y_13), (0, 8, a0_, .int x_8), (0, 0, a0_, .ref q0_), (0, 2, a0_, .ref q1_)]) rfl (fun fr_18 H locs hp hMr_18 g => ?_)
          obtain ⟨x_19, h_20, hF_21⟩ := hp
          have g := g.more hF_21
          subst hQ
          exact W.vret hx hb hr (fun t ht hW => ⟨⟨_, rfl, Or.inr (⟨x_19, h_20, y_15, b_16, x_8, h_9, (g.fcts [0, 1, 3] rfl)⟩), q3_of g hK ht hW⟩, g.2.2.1.F ht⟩) g.2.2.1.2.2 dX0_openSign_101
        · have fc_12 := eq_f c_12
          have b_22 : bd 40 40 x1_ := eqX fc_12 (bdT x1_) kb_40 (by decide)
          refine lv_iconst (v := 0) hx hb dX0_openSign_75 (by decide) ?_
          refine lv_goto (tgt := 80) hx hb dX0_openSign_76 (by decide) ?_
          have kb_0 : bd 0 0 (0 : Int32) := ⟨by decide, by decide⟩
          refine lv_iadd hx hb dX0_openSign_80 ?_
          refine lv_topi (fun y_23 ey_23 => ?_)
          have ty_23 := add_bd ey_23 (bdT x_11) kb_0 (by decide)
          have b_24 : bd (-2147483648) 2147483647 y_23 := add_rg ty_23 (bdT x_11) kb_0 (by decide)
          refine g_put (C := RX7) (T := TX7) (N := 19) hx hb hts (mc_ inX7) tyX7 tyX7_ok nmX7 hown hK g mq1_ kq1_ (by decide) rfl 18 (by decide) (hts _ (List.mem_cons_of_mem _ t_681)) (fun _ h9 => h9) rfl rfl (okV_i b_24) rfl rfl (by decide) (Or.inr (Or.inl (by decide))) (fx' := [(0, 8, a0_, .int x_8), (0, 11, a0_, .int x_1), (0, 0, a0_, .ref q0_), (0, 2, a0_, .ref q1_)]) rfl dX0_openSign_81 (fun f H locs hM_25 g => ?_)
          refine lv_aload_n hx hb dX0_openSign_84 rfl (lv_at hl 1 rfl) ?_
          refine lv_dup hx hb dX0_openSign_85 rfl ?_
          refine g_getk (C := RX0) (T := TX0) (N := 14) hx hb hts (mc_ inX0) hown hK g rfl 11 (by decide) rfl (hts _ (List.mem_cons_of_mem _ t_384)) (fun _ h9 => h9) 2 rfl dX0_openSign_86 ?_
          refine lv_iconst (v := 1) hx hb dX0_openSign_89 (by decide) ?_
          have kb_1 : bd 1 1 (1 : Int32) := ⟨by decide, by decide⟩
          refine lv_iadd hx hb dX0_openSign_90 ?_
          refine lv_topi (fun y_26 ey_26 => ?_)
          have ty_26 := add_bd ey_26 b_3 kb_1 (by decide)
          have b_27 : bd (-2147483647) 40 y_26 := add_rg ty_26 b_3 kb_1 (by decide)
          refine g_put (C := RX0) (T := TX0) (N := 14) hx hb hts (mc_ inX0) tyX0 tyX0_ok nmX0 hown hK g ma0_ ka0_ (by decide) rfl 11 (by decide) (hts _ (List.mem_cons_of_mem _ t_384)) (fun _ h9 => h9) rfl rfl (okV_i (bd_sub b_27 (by decide))) rfl rfl (by decide) (Or.inr (Or.inl (by decide))) (fx' := [(7, 18, q1_, .int y_23), (0, 8, a0_, .int x_8), (0, 0, a0_, .ref q0_), (0, 2, a0_, .ref q1_)]) rfl dX0_openSign_91 (fun f H locs hM_28 g => ?_)
          refine lv_aload_n hx hb dX0_openSign_94 rfl (lv_at hl 1 rfl) ?_
          refine g_getk (C := RX0) (T := TX0) (N := 14) hx hb hts (mc_ inX0) hown hK g rfl 0 (by decide) rfl (hts _ (List.mem_cons_of_mem _ t_373)) (fun _ h9 => h9) 3 rfl dX0_openSign_95 ?_
          refine g_callv (va_runV (As := []) (rest := []) ⟨hx, hb, hml, hown, hts⟩ (r_X8_next l dC dI L kd tys f H.size g.2.2.2.1 q0_ mq0_ kq0_) (cwV 0 hts (gV_ t_1225 t_1103 t_1104 t_184 t_1105) rfl rfl rfl (by decide +kernel) ⟨(Nat.le_of_ble_eq_true rfl), (Nat.le_of_ble_eq_true rfl)⟩) (pre3V g hK mq0_ kq0_ (by decide) (q := (RX8, TX8, 10)) rfl) rfl rfl hl.1 rfl (lv_room (Nat.le_of_ble_eq_true rfl)) dX0_openSign_98 ⟨(Nat.le_of_ble_eq_true rfl), (Nat.le_of_ble_eq_true rfl)⟩) g hK (by decide) (by decide) (fx' := [(0, 11, a0_, .int y_26), (7, 18, q1_, .int y_23), (0, 8, a0_, .int x_8), (0, 0, a0_, .ref q0_), (0, 2, a0_, .ref q1_)]) rfl (fun fr_29 H locs hp hMr_29 g => ?_)
          obtain ⟨x_30, h_31, hF_32⟩ := hp
          have g := g.more hF_32
          subst hQ
          exact W.vret hx hb hr (fun t ht hW => ⟨⟨_, rfl, Or.inr (⟨x_30, h_31, y_26, b_27, x_8, h_9, (g.fcts [0, 1, 3] rfl)⟩), q3_of g hK ht hW⟩, g.2.2.1.F ht⟩) g.2.2.1.2.2 dX0_openSign_101
      · have fc_5 := eq_f c_5
        have b_33 : bd 40 40 x1_ := eqX fc_5 (bdT x1_) kb_40 (by decide)
        refine lv_iconst (v := 1) hx hb dX0_openSign_45 (by decide) ?_
        refine lv_goto (tgt := 50) hx hb dX0_openSign_46 (by decide) ?_
        refine lv_aload_n hx hb dX0_openSign_50 rfl (lv_at hl 1 rfl) ?_
        refine g_getk (C := RX0) (T := TX0) (N := 14) hx hb hts (mc_ inX0) hown hK g rfl 0 (by decide) rfl (hts _ (List.mem_cons_of_mem _ t_373)) (fun _ h9 => h9) 1 rfl dX0_openSign_51 ?_
        refine g_calli (va_runV (As := []) (rest := [.int 1, .ref a0_]) ⟨hx, hb, hml, hown, hts⟩ (r_X8_place l dC dI L kd tys f0 s.heap.size g.2.2.2.1 q0_ mq0_ kq0_) (cwV 0 hts (gV_ t_1220 t_1111 t_1112 t_184 t_1113) rfl rfl rfl (by decide +kernel) ⟨(Nat.le_of_ble_eq_true rfl), (Nat.le_of_ble_eq_true rfl)⟩) (pre3V g hK mq0_ kq0_ (by decide) (q := (RX8, TX8, 10)) rfl) rfl rfl hl.1 rfl (lv_room (Nat.le_of_ble_eq_true rfl)) dX0_openSign_54 ⟨(Nat.le_of_ble_eq_true rfl), (Nat.le_of_ble_eq_true rfl)⟩) g hK (by decide) (by decide) (fx' := [(0, 11, a0_, .int x_1), (0, 0, a0_, .ref q0_), (0, 2, a0_, .ref q1_)]) rfl (fun r_34 fr_34 H locs hp hMr_34 g => ?_)
        refine lv_iconst (v := 0) hx hb dX0_openSign_57 (by decide) ?_
        refine g_callv (va_runV (As := [.int 1, .int r_34, .int 0]) (rest := []) ⟨hx, hb, hml, hown, hts⟩ (r_X0_push l dC dI L kd tys fr_34 H.size g.2.2.2.1 a0_ ma0_ ka0_ 1 r_34 0) (cwV 3 hts (gV_ t_1221 t_1223 t_19 t_190 t_1224) rfl rfl rfl (by decide +kernel) ⟨(Nat.le_of_ble_eq_true rfl), (Nat.le_of_ble_eq_true rfl)⟩) (pre3V g hK ma0_ ka0_ (by decide) (q := (RX0, TX0, 14)) rfl) rfl rfl hl.1 rfl (lv_room (Nat.le_of_ble_eq_true rfl)) dX0_openSign_58 ⟨(Nat.le_of_ble_eq_true rfl), (Nat.le_of_ble_eq_true rfl)⟩) g hK (by decide) (by decide) (fx' := [(0, 11, a0_, .int x_1), (0, 0, a0_, .ref q0_), (0, 2, a0_, .ref q1_)]) rfl (fun fr_35 H locs hp hMr_35 g => ?_)
        obtain ⟨x_36, h_37, hF_38⟩ := hp
        have g := g.more hF_38
        refine lv_aload_n hx hb dX0_openSign_61 rfl (lv_at hl 1 rfl) ?_
        refine g_getk (C := RX0) (T := TX0) (N := 14) hx hb hts (mc_ inX0) hown hK g rfl 2 (by decide) rfl (hts _ (List.mem_cons_of_mem _ t_375)) (fun _ h9 => h9) 3 rfl dX0_openSign_62 ?_
        refine lv_dup hx hb dX0_openSign_65 rfl ?_
        refine g_geti (C := RX7) (T := TX7) (N := 19) hx hb hts (mc_ inX7) hown hK g mq1_ kq1_ (by decide) rfl 18 (by decide) rfl (hts _ (List.mem_cons_of_mem _ t_681)) (fun _ h9 => h9) rfl dX0_openSign_66 (fun x_39 bx_39 g => ?_)
        refine lv_iload_n hx hb dX0_openSign_69 rfl (lv_at hl 2 rfl) ?_
        refine lv_bipush (v := 40) hx hb dX0_openSign_70 (by decide) ?_
        refine lv_icmp_ne (tgt := 79) hx hb dX0_openSign_72 (by decide) (fun c_40 => ?_) (fun c_40 => ?_)
        · have fc_40 := neq_f c_40
          have b_41 : bd 41 39 x1_ := neX fc_40 b_33 kb_40 (by decide)
          exact bd_no b_41 (by decide)
        · have fc_40 := eq_f c_40
          refine lv_iconst (v := 0) hx hb dX0_openSign_75 (by decide) ?_
          refine lv_goto (tgt := 80) hx hb dX0_openSign_76 (by decide) ?_
          have kb_0 : bd 0 0 (0 : Int32) := ⟨by decide, by decide⟩
          refine lv_iadd hx hb dX0_openSign_80 ?_
          refine lv_topi (fun y_42 ey_42 => ?_)
          have ty_42 := add_bd ey_42 (bdT x_39) kb_0 (by decide)
          have b_43 : bd (-2147483648) 2147483647 y_42 := add_rg ty_42 (bdT x_39) kb_0 (by decide)
          refine g_put (C := RX7) (T := TX7) (N := 19) hx hb hts (mc_ inX7) tyX7 tyX7_ok nmX7 hown hK g mq1_ kq1_ (by decide) rfl 18 (by decide) (hts _ (List.mem_cons_of_mem _ t_681)) (fun _ h9 => h9) rfl rfl (okV_i b_43) rfl rfl (by decide) (Or.inr (Or.inl (by decide))) (fx' := [(0, 8, a0_, .int x_36), (0, 11, a0_, .int x_1), (0, 0, a0_, .ref q0_), (0, 2, a0_, .ref q1_)]) rfl dX0_openSign_81 (fun f H locs hM_44 g => ?_)
          refine lv_aload_n hx hb dX0_openSign_84 rfl (lv_at hl 1 rfl) ?_
          refine lv_dup hx hb dX0_openSign_85 rfl ?_
          refine g_getk (C := RX0) (T := TX0) (N := 14) hx hb hts (mc_ inX0) hown hK g rfl 11 (by decide) rfl (hts _ (List.mem_cons_of_mem _ t_384)) (fun _ h9 => h9) 2 rfl dX0_openSign_86 ?_
          refine lv_iconst (v := 1) hx hb dX0_openSign_89 (by decide) ?_
          have kb_1 : bd 1 1 (1 : Int32) := ⟨by decide, by decide⟩
          refine lv_iadd hx hb dX0_openSign_90 ?_
          refine lv_topi (fun y_45 ey_45 => ?_)
          have ty_45 := add_bd ey_45 b_3 kb_1 (by decide)
          have b_46 : bd (-2147483647) 40 y_45 := add_rg ty_45 b_3 kb_1 (by decide)
          refine g_put (C := RX0) (T := TX0) (N := 14) hx hb hts (mc_ inX0) tyX0 tyX0_ok nmX0 hown hK g ma0_ ka0_ (by decide) rfl 11 (by decide) (hts _ (List.mem_cons_of_mem _ t_384)) (fun _ h9 => h9) rfl rfl (okV_i (bd_sub b_46 (by decide))) rfl rfl (by decide) (Or.inr (Or.inl (by decide))) (fx' := [(7, 18, q1_, .int y_42), (0, 8, a0_, .int x_36), (0, 0, a0_, .ref q0_), (0, 2, a0_, .ref q1_)]) rfl dX0_openSign_91 (fun f H locs hM_47 g => ?_)
          refine lv_aload_n hx hb dX0_openSign_94 rfl (lv_at hl 1 rfl) ?_
          refine g_getk (C := RX0) (T := TX0) (N := 14) hx hb hts (mc_ inX0) hown hK g rfl 0 (by decide) rfl (hts _ (List.mem_cons_of_mem _ t_373)) (fun _ h9 => h9) 3 rfl dX0_openSign_95 ?_
          refine g_callv (va_runV (As := []) (rest := []) ⟨hx, hb, hml, hown, hts⟩ (r_X8_next l dC dI L kd tys f H.size g.2.2.2.1 q0_ mq0_ kq0_) (cwV 0 hts (gV_ t_1225 t_1103 t_1104 t_184 t_1105) rfl rfl rfl (by decide +kernel) ⟨(Nat.le_of_ble_eq_true rfl), (Nat.le_of_ble_eq_true rfl)⟩) (pre3V g hK mq0_ kq0_ (by decide) (q := (RX8, TX8, 10)) rfl) rfl rfl hl.1 rfl (lv_room (Nat.le_of_ble_eq_true rfl)) dX0_openSign_98 ⟨(Nat.le_of_ble_eq_true rfl), (Nat.le_of_ble_eq_true rfl)⟩) g hK (by decide) (by decide) (fx' := [(0, 11, a0_, .int y_45), (7, 18, q1_, .int y_42), (0, 8, a0_, .int x_36), (0, 0, a0_, .ref q0_), (0, 2, a0_, .ref q1_)]) rfl (fun fr_48 H locs hp hMr_48 g => ?_)
          obtain ⟨x_49, h_50, hF_51⟩ := hp
          have g := g.more hF_51
          subst hQ
          exact W.vret hx hb hr (fun t ht hW => ⟨⟨_, rfl, Or.inr (⟨x_49, h_50, y_45, b_46, x_36, h_37, (g.fcts [0, 1, 3] rfl)⟩), q3_of g hK ht hW⟩, g.2.2.1.F ht⟩) g.2.2.1.2.2 dX0_openSign_101
    · have fc_4 := eq_f c_4
      have b_52 : bd 45 45 x1_ := eqX fc_4 (bdT x1_) kb_45 (by decide)
      refine lv_bipush (v := 6) hx hb dX0_openSign_30 (by decide) ?_
      refine lv_goto (tgt := 37) hx hb dX0_openSign_32 (by decide) ?_
      refine lv_istore_n (lv' := [(2, .int 6), (0, .ref a0_), (1, .int x1_)]) hx hb dX0_openSign_37 rfl hl (by decide) rfl (fun ls hl => ?_)
      refine lv_aload_n hx hb dX0_openSign_38 rfl (lv_at hl 1 rfl) ?_
      refine lv_iload_n hx hb dX0_openSign_39 rfl (lv_at hl 2 rfl) ?_
      refine lv_bipush (v := 40) hx hb dX0_openSign_40 (by decide) ?_
      refine lv_icmp_ne (tgt := 49) hx hb dX0_openSign_42 (by decide) (fun c_53 => ?_) (fun c_53 => ?_)
      · have fc_53 := neq_f c_53
        refine lv_iload_n hx hb dX0_openSign_49 rfl (lv_at hl 0 rfl) ?_
        refine lv_aload_n hx hb dX0_openSign_50 rfl (lv_at hl 1 rfl) ?_
        refine g_getk (C := RX0) (T := TX0) (N := 14) hx hb hts (mc_ inX0) hown hK g rfl 0 (by decide) rfl (hts _ (List.mem_cons_of_mem _ t_373)) (fun _ h9 => h9) 1 rfl dX0_openSign_51 ?_
        refine g_calli (va_runV (As := []) (rest := [.int 6, .ref a0_]) ⟨hx, hb, hml, hown, hts⟩ (r_X8_place l dC dI L kd tys f0 s.heap.size g.2.2.2.1 q0_ mq0_ kq0_) (cwV 0 hts (gV_ t_1220 t_1111 t_1112 t_184 t_1113) rfl rfl rfl (by decide +kernel) ⟨(Nat.le_of_ble_eq_true rfl), (Nat.le_of_ble_eq_true rfl)⟩) (pre3V g hK mq0_ kq0_ (by decide) (q := (RX8, TX8, 10)) rfl) rfl rfl hl.1 rfl (lv_room (Nat.le_of_ble_eq_true rfl)) dX0_openSign_54 ⟨(Nat.le_of_ble_eq_true rfl), (Nat.le_of_ble_eq_true rfl)⟩) g hK (by decide) (by decide) (fx' := [(0, 11, a0_, .int x_1), (0, 0, a0_, .ref q0_), (0, 2, a0_, .ref q1_)]) rfl (fun r_54 fr_54 H locs hp hMr_54 g => ?_)
        refine lv_iconst (v := 0) hx hb dX0_openSign_57 (by decide) ?_
        refine g_callv (va_runV (As := [.int 6, .int r_54, .int 0]) (rest := []) ⟨hx, hb, hml, hown, hts⟩ (r_X0_push l dC dI L kd tys fr_54 H.size g.2.2.2.1 a0_ ma0_ ka0_ 6 r_54 0) (cwV 3 hts (gV_ t_1221 t_1223 t_19 t_190 t_1224) rfl rfl rfl (by decide +kernel) ⟨(Nat.le_of_ble_eq_true rfl), (Nat.le_of_ble_eq_true rfl)⟩) (pre3V g hK ma0_ ka0_ (by decide) (q := (RX0, TX0, 14)) rfl) rfl rfl hl.1 rfl (lv_room (Nat.le_of_ble_eq_true rfl)) dX0_openSign_58 ⟨(Nat.le_of_ble_eq_true rfl), (Nat.le_of_ble_eq_true rfl)⟩) g hK (by decide) (by decide) (fx' := [(0, 11, a0_, .int x_1), (0, 0, a0_, .ref q0_), (0, 2, a0_, .ref q1_)]) rfl (fun fr_55 H locs hp hMr_55 g => ?_)
        obtain ⟨x_56, h_57, hF_58⟩ := hp
        have g := g.more hF_58
        refine lv_aload_n hx hb dX0_openSign_61 rfl (lv_at hl 1 rfl) ?_
        refine g_getk (C := RX0) (T := TX0) (N := 14) hx hb hts (mc_ inX0) hown hK g rfl 2 (by decide) rfl (hts _ (List.mem_cons_of_mem _ t_375)) (fun _ h9 => h9) 3 rfl dX0_openSign_62 ?_
        refine lv_dup hx hb dX0_openSign_65 rfl ?_
        refine g_geti (C := RX7) (T := TX7) (N := 19) hx hb hts (mc_ inX7) hown hK g mq1_ kq1_ (by decide) rfl 18 (by decide) rfl (hts _ (List.mem_cons_of_mem _ t_681)) (fun _ h9 => h9) rfl dX0_openSign_66 (fun x_59 bx_59 g => ?_)
        refine lv_iload_n hx hb dX0_openSign_69 rfl (lv_at hl 2 rfl) ?_
        refine lv_bipush (v := 40) hx hb dX0_openSign_70 (by decide) ?_
        refine lv_icmp_ne (tgt := 79) hx hb dX0_openSign_72 (by decide) (fun c_60 => ?_) (fun c_60 => ?_)
        · have fc_60 := neq_f c_60
          refine lv_iconst (v := 1) hx hb dX0_openSign_79 (by decide) ?_
          have kb_1 : bd 1 1 (1 : Int32) := ⟨by decide, by decide⟩
          refine lv_iadd hx hb dX0_openSign_80 ?_
          refine lv_topi (fun y_61 ey_61 => ?_)
          refine g_put (C := RX7) (T := TX7) (N := 19) hx hb hts (mc_ inX7) tyX7 tyX7_ok nmX7 hown hK g mq1_ kq1_ (by decide) rfl 18 (by decide) (hts _ (List.mem_cons_of_mem _ t_681)) (fun _ h9 => h9) rfl rfl (okV_i (bdT y_61)) rfl rfl (by decide) (Or.inr (Or.inl (by decide))) (fx' := [(0, 8, a0_, .int x_56), (0, 11, a0_, .int x_1), (0, 0, a0_, .ref q0_), (0, 2, a0_, .ref q1_)]) rfl dX0_openSign_81 (fun f H locs hM_62 g => ?_)
          refine lv_aload_n hx hb dX0_openSign_84 rfl (lv_at hl 1 rfl) ?_
          refine lv_dup hx hb dX0_openSign_85 rfl ?_
          refine g_getk (C := RX0) (T := TX0) (N := 14) hx hb hts (mc_ inX0) hown hK g rfl 11 (by decide) rfl (hts _ (List.mem_cons_of_mem _ t_384)) (fun _ h9 => h9) 2 rfl dX0_openSign_86 ?_
          refine lv_iconst (v := 1) hx hb dX0_openSign_89 (by decide) ?_
          refine lv_iadd hx hb dX0_openSign_90 ?_
          refine lv_topi (fun y_63 ey_63 => ?_)
          have ty_63 := add_bd ey_63 b_3 kb_1 (by decide)
          have b_64 : bd (-2147483647) 40 y_63 := add_rg ty_63 b_3 kb_1 (by decide)
          refine g_put (C := RX0) (T := TX0) (N := 14) hx hb hts (mc_ inX0) tyX0 tyX0_ok nmX0 hown hK g ma0_ ka0_ (by decide) rfl 11 (by decide) (hts _ (List.mem_cons_of_mem _ t_384)) (fun _ h9 => h9) rfl rfl (okV_i (bd_sub b_64 (by decide))) rfl rfl (by decide) (Or.inr (Or.inl (by decide))) (fx' := [(7, 18, q1_, .int y_61), (0, 8, a0_, .int x_56), (0, 0, a0_, .ref q0_), (0, 2, a0_, .ref q1_)]) rfl dX0_openSign_91 (fun f H locs hM_65 g => ?_)
          refine lv_aload_n hx hb dX0_openSign_94 rfl (lv_at hl 1 rfl) ?_
          refine g_getk (C := RX0) (T := TX0) (N := 14) hx hb hts (mc_ inX0) hown hK g rfl 0 (by decide) rfl (hts _ (List.mem_cons_of_mem _ t_373)) (fun _ h9 => h9) 3 rfl dX0_openSign_95 ?_
          refine g_callv (va_runV (As := []) (rest := []) ⟨hx, hb, hml, hown, hts⟩ (r_X8_next l dC dI L kd tys f H.size g.2.2.2.1 q0_ mq0_ kq0_) (cwV 0 hts (gV_ t_1225 t_1103 t_1104 t_184 t_1105) rfl rfl rfl (by decide +kernel) ⟨(Nat.le_of_ble_eq_true rfl), (Nat.le_of_ble_eq_true rfl)⟩) (pre3V g hK mq0_ kq0_ (by decide) (q := (RX8, TX8, 10)) rfl) rfl rfl hl.1 rfl (lv_room (Nat.le_of_ble_eq_true rfl)) dX0_openSign_98 ⟨(Nat.le_of_ble_eq_true rfl), (Nat.le_of_ble_eq_true rfl)⟩) g hK (by decide) (by decide) (fx' := [(0, 11, a0_, .int y_63), (7, 18, q1_, .int y_61), (0, 8, a0_, .int x_56), (0, 0, a0_, .ref q0_), (0, 2, a0_, .ref q1_)]) rfl (fun fr_66 H locs hp hMr_66 g => ?_)
          obtain ⟨x_67, h_68, hF_69⟩ := hp
          have g := g.more hF_69
          subst hQ
          exact W.vret hx hb hr (fun t ht hW => ⟨⟨_, rfl, Or.inr (⟨x_67, h_68, y_63, b_64, x_56, h_57, (g.fcts [0, 1, 3] rfl)⟩), q3_of g hK ht hW⟩, g.2.2.1.F ht⟩) g.2.2.1.2.2 dX0_openSign_101
        · have fc_60 := eq_f c_60
          have b_70 : bd 45 40 x1_ := eqX fc_60 b_52 kb_40 (by decide)
          exact bd_no b_70 (by decide)
      · have fc_53 := eq_f c_53
        have b_71 : bd 45 40 x1_ := eqX fc_53 b_52 kb_40 (by decide)
        exact bd_no b_71 (by decide)
  · have fc_2 := nlt_f c_2
    have b_72 : bd 40 2147483647 x_1 := leR fc_2 kb_40 (bdT x_1) (by decide)
    refine lv_aload_n hx hb dX0_openSign_9 rfl (lv_at hl 0 rfl) ?_
    refine g_getk (C := RX0) (T := TX0) (N := 14) hx hb hts (mc_ inX0) hown hK g rfl 0 (by decide) rfl (hts _ (List.mem_cons_of_mem _ t_373)) (fun _ h9 => h9) 1 rfl dX0_openSign_10 ?_
    refine lv_iconst (v := 4) hx hb dX0_openSign_13 (by decide) ?_
    refine lv_aload_n hx hb dX0_openSign_14 rfl (lv_at hl 0 rfl) ?_
    refine g_getk (C := RX0) (T := TX0) (N := 14) hx hb hts (mc_ inX0) hown hK g rfl 0 (by decide) rfl (hts _ (List.mem_cons_of_mem _ t_373)) (fun _ h9 => h9) 1 rfl dX0_openSign_15 ?_
    refine g_calli (va_runV (As := []) (rest := [.int 4, .ref q0_]) ⟨hx, hb, hml, hown, hts⟩ (r_X8_place l dC dI L kd tys f0 s.heap.size g.2.2.2.1 q0_ mq0_ kq0_) (cwV 0 hts (gV_ t_1220 t_1111 t_1112 t_184 t_1113) rfl rfl rfl (by decide +kernel) ⟨(Nat.le_of_ble_eq_true rfl), (Nat.le_of_ble_eq_true rfl)⟩) (pre3V g hK mq0_ kq0_ (by decide) (q := (RX8, TX8, 10)) rfl) rfl rfl hl.1 rfl (lv_room (Nat.le_of_ble_eq_true rfl)) dX0_openSign_18 ⟨(Nat.le_of_ble_eq_true rfl), (Nat.le_of_ble_eq_true rfl)⟩) g hK (by decide) (by decide) (fx' := [(0, 11, a0_, .int x_1), (0, 0, a0_, .ref q0_), (0, 2, a0_, .ref q1_)]) rfl (fun r_73 fr_73 H locs hp hMr_73 g => ?_)
    have kb_4 : bd 4 4 (4 : Int32) := ⟨by decide, by decide⟩
    refine g_callv (va_runV (As := [.int 4, .int r_73]) (rest := []) ⟨hx, hb, hml, hown, hts⟩ (r_X8_fail l dC dI L kd tys fr_73 H.size g.2.2.2.1 q0_ mq0_ kq0_ 4 kb_4 r_73) (cwV 2 hts (gV_ t_1215 t_1107 t_1108 t_184 t_1109) rfl rfl rfl (by decide +kernel) ⟨(Nat.le_of_ble_eq_true rfl), (Nat.le_of_ble_eq_true rfl)⟩) (pre3V g hK mq0_ kq0_ (by decide) (q := (RX8, TX8, 10)) rfl) rfl rfl hl.1 rfl (lv_room (Nat.le_of_ble_eq_true rfl)) dX0_openSign_21 ⟨(Nat.le_of_ble_eq_true rfl), (Nat.le_of_ble_eq_true rfl)⟩) g hK (by decide) (by decide) (fx' := [(0, 11, a0_, .int x_1), (0, 0, a0_, .ref q0_), (0, 2, a0_, .ref q1_)]) rfl (fun fr_74 H locs hp hMr_74 g => ?_)
    obtain ⟨x_75, h_76, hF_77⟩ := hp
    have g := g.more hF_77
    refine lv_iload_n hx hb dX0_openSign_24 rfl (lv_at hl 1 rfl) ?_
    refine lv_bipush (v := 45) hx hb dX0_openSign_25 (by decide) ?_
    have kb_45 : bd 45 45 (45 : Int32) := ⟨by decide, by decide⟩
    refine lv_icmp_ne (tgt := 35) hx hb dX0_openSign_27 (by decide) (fun c_78 => ?_) (fun c_78 => ?_)
    · have fc_78 := neq_f c_78
      refine lv_bipush (v := 7) hx hb dX0_openSign_35 (by decide) ?_
      refine lv_istore_n (lv' := [(2, .int 7), (0, .ref a0_), (1, .int x1_)]) hx hb dX0_openSign_37 rfl hl (by decide) rfl (fun ls hl => ?_)
      refine lv_aload_n hx hb dX0_openSign_38 rfl (lv_at hl 1 rfl) ?_
      refine lv_iload_n hx hb dX0_openSign_39 rfl (lv_at hl 2 rfl) ?_
      refine lv_bipush (v := 40) hx hb dX0_openSign_40 (by decide) ?_
      refine lv_icmp_ne (tgt := 49) hx hb dX0_openSign_42 (by decide) (fun c_79 => ?_) (fun c_79 => ?_)
      · have fc_79 := neq_f c_79
        refine lv_iload_n hx hb dX0_openSign_49 rfl (lv_at hl 0 rfl) ?_
        refine lv_aload_n hx hb dX0_openSign_50 rfl (lv_at hl 1 rfl) ?_
        refine g_getk (C := RX0) (T := TX0) (N := 14) hx hb hts (mc_ inX0) hown hK g rfl 0 (by decide) rfl (hts _ (List.mem_cons_of_mem _ t_373)) (fun _ h9 => h9) 3 rfl dX0_openSign_51 ?_
        refine g_calli (va_runV (As := []) (rest := [.int 7, .ref a0_]) ⟨hx, hb, hml, hown, hts⟩ (r_X8_place l dC dI L kd tys fr_74 H.size g.2.2.2.1 q0_ mq0_ kq0_) (cwV 0 hts (gV_ t_1220 t_1111 t_1112 t_184 t_1113) rfl rfl rfl (by decide +kernel) ⟨(Nat.le_of_ble_eq_true rfl), (Nat.le_of_ble_eq_true rfl)⟩) (pre3V g hK mq0_ kq0_ (by decide) (q := (RX8, TX8, 10)) rfl) rfl rfl hl.1 rfl (lv_room (Nat.le_of_ble_eq_true rfl)) dX0_openSign_54 ⟨(Nat.le_of_ble_eq_true rfl), (Nat.le_of_ble_eq_true rfl)⟩) g hK (by decide) (by decide) (fx' := [(8, 6, q0_, .int 1201), (8, 8, q0_, .int x_75), (0, 11, a0_, .int x_1), (0, 0, a0_, .ref q0_), (0, 2, a0_, .ref q1_)]) rfl (fun r_80 fr_80 H locs hp hMr_80 g => ?_)
        refine lv_iconst (v := 0) hx hb dX0_openSign_57 (by decide) ?_
        refine g_callv (va_runV (As := [.int 7, .int r_80, .int 0]) (rest := []) ⟨hx, hb, hml, hown, hts⟩ (r_X0_push l dC dI L kd tys fr_80 H.size g.2.2.2.1 a0_ ma0_ ka0_ 7 r_80 0) (cwV 3 hts (gV_ t_1221 t_1223 t_19 t_190 t_1224) rfl rfl rfl (by decide +kernel) ⟨(Nat.le_of_ble_eq_true rfl), (Nat.le_of_ble_eq_true rfl)⟩) (pre3V g hK ma0_ ka0_ (by decide) (q := (RX0, TX0, 14)) rfl) rfl rfl hl.1 rfl (lv_room (Nat.le_of_ble_eq_true rfl)) dX0_openSign_58 ⟨(Nat.le_of_ble_eq_true rfl), (Nat.le_of_ble_eq_true rfl)⟩) g hK (by decide) (by decide) (fx' := [(8, 6, q0_, .int 1201), (8, 8, q0_, .int x_75), (0, 11, a0_, .int x_1), (0, 0, a0_, .ref q0_), (0, 2, a0_, .ref q1_)]) rfl (fun fr_81 H locs hp hMr_81 g => ?_)
        obtain ⟨x_82, h_83, hF_84⟩ := hp
        have g := g.more hF_84
        refine lv_aload_n hx hb dX0_openSign_61 rfl (lv_at hl 1 rfl) ?_
        refine g_getk (C := RX0) (T := TX0) (N := 14) hx hb hts (mc_ inX0) hown hK g rfl 2 (by decide) rfl (hts _ (List.mem_cons_of_mem _ t_375)) (fun _ h9 => h9) 5 rfl dX0_openSign_62 ?_
        refine lv_dup hx hb dX0_openSign_65 rfl ?_
        refine g_geti (C := RX7) (T := TX7) (N := 19) hx hb hts (mc_ inX7) hown hK g mq1_ kq1_ (by decide) rfl 18 (by decide) rfl (hts _ (List.mem_cons_of_mem _ t_681)) (fun _ h9 => h9) rfl dX0_openSign_66 (fun x_85 bx_85 g => ?_)
        refine lv_iload_n hx hb dX0_openSign_69 rfl (lv_at hl 2 rfl) ?_
        refine lv_bipush (v := 40) hx hb dX0_openSign_70 (by decide) ?_
        refine lv_icmp_ne (tgt := 79) hx hb dX0_openSign_72 (by decide) (fun c_86 => ?_) (fun c_86 => ?_)
        · have fc_86 := neq_f c_86
          refine lv_iconst (v := 1) hx hb dX0_openSign_79 (by decide) ?_
          have kb_1 : bd 1 1 (1 : Int32) := ⟨by decide, by decide⟩
          refine lv_iadd hx hb dX0_openSign_80 ?_
          refine lv_topi (fun y_87 ey_87 => ?_)
          refine g_put (C := RX7) (T := TX7) (N := 19) hx hb hts (mc_ inX7) tyX7 tyX7_ok nmX7 hown hK g mq1_ kq1_ (by decide) rfl 18 (by decide) (hts _ (List.mem_cons_of_mem _ t_681)) (fun _ h9 => h9) rfl rfl (okV_i (bdT y_87)) rfl rfl (by decide) (Or.inr (Or.inl (by decide))) (fx' := [(0, 8, a0_, .int x_82), (8, 6, q0_, .int 1201), (8, 8, q0_, .int x_75), (0, 11, a0_, .int x_1), (0, 0, a0_, .ref q0_), (0, 2, a0_, .ref q1_)]) rfl dX0_openSign_81 (fun f H locs hM_88 g => ?_)
          refine lv_aload_n hx hb dX0_openSign_84 rfl (lv_at hl 1 rfl) ?_
          refine lv_dup hx hb dX0_openSign_85 rfl ?_
          refine g_getk (C := RX0) (T := TX0) (N := 14) hx hb hts (mc_ inX0) hown hK g rfl 11 (by decide) rfl (hts _ (List.mem_cons_of_mem _ t_384)) (fun _ h9 => h9) 4 rfl dX0_openSign_86 ?_
          refine lv_iconst (v := 1) hx hb dX0_openSign_89 (by decide) ?_
          refine lv_iadd hx hb dX0_openSign_90 ?_
          refine lv_topi (fun y_89 ey_89 => ?_)
          refine g_put (C := RX0) (T := TX0) (N := 14) hx hb hts (mc_ inX0) tyX0 tyX0_ok nmX0 hown hK g ma0_ ka0_ (by decide) rfl 11 (by decide) (hts _ (List.mem_cons_of_mem _ t_384)) (fun _ h9 => h9) rfl rfl (okV_i (bdT y_89)) rfl rfl (by decide) (Or.inr (Or.inl (by decide))) (fx' := [(7, 18, q1_, .int y_87), (0, 8, a0_, .int x_82), (8, 6, q0_, .int 1201), (8, 8, q0_, .int x_75), (0, 0, a0_, .ref q0_), (0, 2, a0_, .ref q1_)]) rfl dX0_openSign_91 (fun f H locs hM_90 g => ?_)
          refine lv_aload_n hx hb dX0_openSign_94 rfl (lv_at hl 1 rfl) ?_
          refine g_getk (C := RX0) (T := TX0) (N := 14) hx hb hts (mc_ inX0) hown hK g rfl 0 (by decide) rfl (hts _ (List.mem_cons_of_mem _ t_373)) (fun _ h9 => h9) 5 rfl dX0_openSign_95 ?_
          have kb_1201 : bd 1201 1201 (1201 : Int32) := ⟨by decide, by decide⟩
          refine g_callv (va_runV (As := []) (rest := []) ⟨hx, hb, hml, hown, hts⟩ (r_X8_next_2 l dC dI L kd tys f H.size g.2.2.2.1 q0_ mq0_ kq0_ 1201 kb_1201 (g.fcts [3] rfl)) (cwV 0 hts (gV_ t_1225 t_1103 t_1104 t_184 t_1105) rfl rfl rfl (by decide +kernel) ⟨(Nat.le_of_ble_eq_true rfl), (Nat.le_of_ble_eq_true rfl)⟩) (pre3V g hK mq0_ kq0_ (by decide) (q := (RX8, TX8, 10)) rfl) rfl rfl hl.1 rfl (lv_room (Nat.le_of_ble_eq_true rfl)) dX0_openSign_98 ⟨(Nat.le_of_ble_eq_true rfl), (Nat.le_of_ble_eq_true rfl)⟩) g hK (by decide) (by decide) (fx' := [(0, 11, a0_, .int y_89), (7, 18, q1_, .int y_87), (0, 8, a0_, .int x_82), (8, 6, q0_, .int 1201), (8, 8, q0_, .int x_75), (0, 0, a0_, .ref q0_), (0, 2, a0_, .ref q1_)]) rfl (fun fr_91 H locs hp hMr_91 g => ?_)
          subst hQ
          exact W.vret hx hb hr (fun t ht hW => ⟨⟨_, rfl, Or.inl ⟨x_82, h_83, x_75, h_76, (g.fcts [2, 3, 4] rfl)⟩, q3_of g hK ht hW⟩, g.2.2.1.F ht⟩) g.2.2.1.2.2 dX0_openSign_101
        · have fc_86 := eq_f c_86
          have b_92 : bd 40 40 x1_ := eqX fc_86 (bdT x1_) kb_40 (by decide)
          refine lv_iconst (v := 0) hx hb dX0_openSign_75 (by decide) ?_
          refine lv_goto (tgt := 80) hx hb dX0_openSign_76 (by decide) ?_
          have kb_0 : bd 0 0 (0 : Int32) := ⟨by decide, by decide⟩
          refine lv_iadd hx hb dX0_openSign_80 ?_
          refine lv_topi (fun y_93 ey_93 => ?_)
          have ty_93 := add_bd ey_93 (bdT x_85) kb_0 (by decide)
          have b_94 : bd (-2147483648) 2147483647 y_93 := add_rg ty_93 (bdT x_85) kb_0 (by decide)
          refine g_put (C := RX7) (T := TX7) (N := 19) hx hb hts (mc_ inX7) tyX7 tyX7_ok nmX7 hown hK g mq1_ kq1_ (by decide) rfl 18 (by decide) (hts _ (List.mem_cons_of_mem _ t_681)) (fun _ h9 => h9) rfl rfl (okV_i b_94) rfl rfl (by decide) (Or.inr (Or.inl (by decide))) (fx' := [(0, 8, a0_, .int x_82), (8, 6, q0_, .int 1201), (8, 8, q0_, .int x_75), (0, 11, a0_, .int x_1), (0, 0, a0_, .ref q0_), (0, 2, a0_, .ref q1_)]) rfl dX0_openSign_81 (fun f H locs hM_95 g => ?_)
          refine lv_aload_n hx hb dX0_openSign_84 rfl (lv_at hl 1 rfl) ?_
          refine lv_dup hx hb dX0_openSign_85 rfl ?_
          refine g_getk (C := RX0) (T := TX0) (N := 14) hx hb hts (mc_ inX0) hown hK g rfl 11 (by decide) rfl (hts _ (List.mem_cons_of_mem _ t_384)) (fun _ h9 => h9) 4 rfl dX0_openSign_86 ?_
          refine lv_iconst (v := 1) hx hb dX0_openSign_89 (by decide) ?_
          have kb_1 : bd 1 1 (1 : Int32) := ⟨by decide, by decide⟩
          refine lv_iadd hx hb dX0_openSign_90 ?_
          refine lv_topi (fun y_96 ey_96 => ?_)
          refine g_put (C := RX0) (T := TX0) (N := 14) hx hb hts (mc_ inX0) tyX0 tyX0_ok nmX0 hown hK g ma0_ ka0_ (by decide) rfl 11 (by decide) (hts _ (List.mem_cons_of_mem _ t_384)) (fun _ h9 => h9) rfl rfl (okV_i (bdT y_96)) rfl rfl (by decide) (Or.inr (Or.inl (by decide))) (fx' := [(7, 18, q1_, .int y_93), (0, 8, a0_, .int x_82), (8, 6, q0_, .int 1201), (8, 8, q0_, .int x_75), (0, 0, a0_, .ref q0_), (0, 2, a0_, .ref q1_)]) rfl dX0_openSign_91 (fun f H locs hM_97 g => ?_)
          refine lv_aload_n hx hb dX0_openSign_94 rfl (lv_at hl 1 rfl) ?_
          refine g_getk (C := RX0) (T := TX0) (N := 14) hx hb hts (mc_ inX0) hown hK g rfl 0 (by decide) rfl (hts _ (List.mem_cons_of_mem _ t_373)) (fun _ h9 => h9) 5 rfl dX0_openSign_95 ?_
          have kb_1201 : bd 1201 1201 (1201 : Int32) := ⟨by decide, by decide⟩
          refine g_callv (va_runV (As := []) (rest := []) ⟨hx, hb, hml, hown, hts⟩ (r_X8_next_2 l dC dI L kd tys f H.size g.2.2.2.1 q0_ mq0_ kq0_ 1201 kb_1201 (g.fcts [3] rfl)) (cwV 0 hts (gV_ t_1225 t_1103 t_1104 t_184 t_1105) rfl rfl rfl (by decide +kernel) ⟨(Nat.le_of_ble_eq_true rfl), (Nat.le_of_ble_eq_true rfl)⟩) (pre3V g hK mq0_ kq0_ (by decide) (q := (RX8, TX8, 10)) rfl) rfl rfl hl.1 rfl (lv_room (Nat.le_of_ble_eq_true rfl)) dX0_openSign_98 ⟨(Nat.le_of_ble_eq_true rfl), (Nat.le_of_ble_eq_true rfl)⟩) g hK (by decide) (by decide) (fx' := [(0, 11, a0_, .int y_96), (7, 18, q1_, .int y_93), (0, 8, a0_, .int x_82), (8, 6, q0_, .int 1201), (8, 8, q0_, .int x_75), (0, 0, a0_, .ref q0_), (0, 2, a0_, .ref q1_)]) rfl (fun fr_98 H locs hp hMr_98 g => ?_)
          subst hQ
          exact W.vret hx hb hr (fun t ht hW => ⟨⟨_, rfl, Or.inl ⟨x_82, h_83, x_75, h_76, (g.fcts [2, 3, 4] rfl)⟩, q3_of g hK ht hW⟩, g.2.2.1.F ht⟩) g.2.2.1.2.2 dX0_openSign_101
      · have fc_79 := eq_f c_79
        have b_99 : bd 40 40 x1_ := eqX fc_79 (bdT x1_) kb_40 (by decide)
        refine lv_iconst (v := 1) hx hb dX0_openSign_45 (by decide) ?_
        refine lv_goto (tgt := 50) hx hb dX0_openSign_46 (by decide) ?_
        refine lv_aload_n hx hb dX0_openSign_50 rfl (lv_at hl 1 rfl) ?_
        refine g_getk (C := RX0) (T := TX0) (N := 14) hx hb hts (mc_ inX0) hown hK g rfl 0 (by decide) rfl (hts _ (List.mem_cons_of_mem _ t_373)) (fun _ h9 => h9) 3 rfl dX0_openSign_51 ?_
        refine g_calli (va_runV (As := []) (rest := [.int 1, .ref a0_]) ⟨hx, hb, hml, hown, hts⟩ (r_X8_place l dC dI L kd tys fr_74 H.size g.2.2.2.1 q0_ mq0_ kq0_) (cwV 0 hts (gV_ t_1220 t_1111 t_1112 t_184 t_1113) rfl rfl rfl (by decide +kernel) ⟨(Nat.le_of_ble_eq_true rfl), (Nat.le_of_ble_eq_true rfl)⟩) (pre3V g hK mq0_ kq0_ (by decide) (q := (RX8, TX8, 10)) rfl) rfl rfl hl.1 rfl (lv_room (Nat.le_of_ble_eq_true rfl)) dX0_openSign_54 ⟨(Nat.le_of_ble_eq_true rfl), (Nat.le_of_ble_eq_true rfl)⟩) g hK (by decide) (by decide) (fx' := [(8, 6, q0_, .int 1201), (8, 8, q0_, .int x_75), (0, 11, a0_, .int x_1), (0, 0, a0_, .ref q0_), (0, 2, a0_, .ref q1_)]) rfl (fun r_100 fr_100 H locs hp hMr_100 g => ?_)
        refine lv_iconst (v := 0) hx hb dX0_openSign_57 (by decide) ?_
        refine g_callv (va_runV (As := [.int 1, .int r_100, .int 0]) (rest := []) ⟨hx, hb, hml, hown, hts⟩ (r_X0_push l dC dI L kd tys fr_100 H.size g.2.2.2.1 a0_ ma0_ ka0_ 1 r_100 0) (cwV 3 hts (gV_ t_1221 t_1223 t_19 t_190 t_1224) rfl rfl rfl (by decide +kernel) ⟨(Nat.le_of_ble_eq_true rfl), (Nat.le_of_ble_eq_true rfl)⟩) (pre3V g hK ma0_ ka0_ (by decide) (q := (RX0, TX0, 14)) rfl) rfl rfl hl.1 rfl (lv_room (Nat.le_of_ble_eq_true rfl)) dX0_openSign_58 ⟨(Nat.le_of_ble_eq_true rfl), (Nat.le_of_ble_eq_true rfl)⟩) g hK (by decide) (by decide) (fx' := [(8, 6, q0_, .int 1201), (8, 8, q0_, .int x_75), (0, 11, a0_, .int x_1), (0, 0, a0_, .ref q0_), (0, 2, a0_, .ref q1_)]) rfl (fun fr_101 H locs hp hMr_101 g => ?_)
        obtain ⟨x_102, h_103, hF_104⟩ := hp
        have g := g.more hF_104
        refine lv_aload_n hx hb dX0_openSign_61 rfl (lv_at hl 1 rfl) ?_
        refine g_getk (C := RX0) (T := TX0) (N := 14) hx hb hts (mc_ inX0) hown hK g rfl 2 (by decide) rfl (hts _ (List.mem_cons_of_mem _ t_375)) (fun _ h9 => h9) 5 rfl dX0_openSign_62 ?_
        refine lv_dup hx hb dX0_openSign_65 rfl ?_
        refine g_geti (C := RX7) (T := TX7) (N := 19) hx hb hts (mc_ inX7) hown hK g mq1_ kq1_ (by decide) rfl 18 (by decide) rfl (hts _ (List.mem_cons_of_mem _ t_681)) (fun _ h9 => h9) rfl dX0_openSign_66 (fun x_105 bx_105 g => ?_)
        refine lv_iload_n hx hb dX0_openSign_69 rfl (lv_at hl 2 rfl) ?_
        refine lv_bipush (v := 40) hx hb dX0_openSign_70 (by decide) ?_
        refine lv_icmp_ne (tgt := 79) hx hb dX0_openSign_72 (by decide) (fun c_106 => ?_) (fun c_106 => ?_)
        · have fc_106 := neq_f c_106
          have b_107 : bd 41 39 x1_ := neX fc_106 b_99 kb_40 (by decide)
          exact bd_no b_107 (by decide)
        · have fc_106 := eq_f c_106
          refine lv_iconst (v := 0) hx hb dX0_openSign_75 (by decide) ?_
          refine lv_goto (tgt := 80) hx hb dX0_openSign_76 (by decide) ?_
          have kb_0 : bd 0 0 (0 : Int32) := ⟨by decide, by decide⟩
          refine lv_iadd hx hb dX0_openSign_80 ?_
          refine lv_topi (fun y_108 ey_108 => ?_)
          have ty_108 := add_bd ey_108 (bdT x_105) kb_0 (by decide)
          have b_109 : bd (-2147483648) 2147483647 y_108 := add_rg ty_108 (bdT x_105) kb_0 (by decide)
          refine g_put (C := RX7) (T := TX7) (N := 19) hx hb hts (mc_ inX7) tyX7 tyX7_ok nmX7 hown hK g mq1_ kq1_ (by decide) rfl 18 (by decide) (hts _ (List.mem_cons_of_mem _ t_681)) (fun _ h9 => h9) rfl rfl (okV_i b_109) rfl rfl (by decide) (Or.inr (Or.inl (by decide))) (fx' := [(0, 8, a0_, .int x_102), (8, 6, q0_, .int 1201), (8, 8, q0_, .int x_75), (0, 11, a0_, .int x_1), (0, 0, a0_, .ref q0_), (0, 2, a0_, .ref q1_)]) rfl dX0_openSign_81 (fun f H locs hM_110 g => ?_)
          refine lv_aload_n hx hb dX0_openSign_84 rfl (lv_at hl 1 rfl) ?_
          refine lv_dup hx hb dX0_openSign_85 rfl ?_
          refine g_getk (C := RX0) (T := TX0) (N := 14) hx hb hts (mc_ inX0) hown hK g rfl 11 (by decide) rfl (hts _ (List.mem_cons_of_mem _ t_384)) (fun _ h9 => h9) 4 rfl dX0_openSign_86 ?_
          refine lv_iconst (v := 1) hx hb dX0_openSign_89 (by decide) ?_
          have kb_1 : bd 1 1 (1 : Int32) := ⟨by decide, by decide⟩
          refine lv_iadd hx hb dX0_openSign_90 ?_
          refine lv_topi (fun y_111 ey_111 => ?_)
          refine g_put (C := RX0) (T := TX0) (N := 14) hx hb hts (mc_ inX0) tyX0 tyX0_ok nmX0 hown hK g ma0_ ka0_ (by decide) rfl 11 (by decide) (hts _ (List.mem_cons_of_mem _ t_384)) (fun _ h9 => h9) rfl rfl (okV_i (bdT y_111)) rfl rfl (by decide) (Or.inr (Or.inl (by decide))) (fx' := [(7, 18, q1_, .int y_108), (0, 8, a0_, .int x_102), (8, 6, q0_, .int 1201), (8, 8, q0_, .int x_75), (0, 0, a0_, .ref q0_), (0, 2, a0_, .ref q1_)]) rfl dX0_openSign_91 (fun f H locs hM_112 g => ?_)
          refine lv_aload_n hx hb dX0_openSign_94 rfl (lv_at hl 1 rfl) ?_
          refine g_getk (C := RX0) (T := TX0) (N := 14) hx hb hts (mc_ inX0) hown hK g rfl 0 (by decide) rfl (hts _ (List.mem_cons_of_mem _ t_373)) (fun _ h9 => h9) 5 rfl dX0_openSign_95 ?_
          have kb_1201 : bd 1201 1201 (1201 : Int32) := ⟨by decide, by decide⟩
          refine g_callv (va_runV (As := []) (rest := []) ⟨hx, hb, hml, hown, hts⟩ (r_X8_next_2 l dC dI L kd tys f H.size g.2.2.2.1 q0_ mq0_ kq0_ 1201 kb_1201 (g.fcts [3] rfl)) (cwV 0 hts (gV_ t_1225 t_1103 t_1104 t_184 t_1105) rfl rfl rfl (by decide +kernel) ⟨(Nat.le_of_ble_eq_true rfl), (Nat.le_of_ble_eq_true rfl)⟩) (pre3V g hK mq0_ kq0_ (by decide) (q := (RX8, TX8, 10)) rfl) rfl rfl hl.1 rfl (lv_room (Nat.le_of_ble_eq_true rfl)) dX0_openSign_98 ⟨(Nat.le_of_ble_eq_true rfl), (Nat.le_of_ble_eq_true rfl)⟩) g hK (by decide) (by decide) (fx' := [(0, 11, a0_, .int y_111), (7, 18, q1_, .int y_108), (0, 8, a0_, .int x_102), (8, 6, q0_, .int 1201), (8, 8, q0_, .int x_75), (0, 0, a0_, .ref q0_), (0, 2, a0_, .ref q1_)]) rfl (fun fr_113 H locs hp hMr_113 g => ?_)
          subst hQ
          exact W.vret hx hb hr (fun t ht hW => ⟨⟨_, rfl, Or.inl ⟨x_102, h_103, x_75, h_76, (g.fcts [2, 3, 4] rfl)⟩, q3_of g hK ht hW⟩, g.2.2.1.F ht⟩) g.2.2.1.2.2 dX0_openSign_101
    · have fc_78 := eq_f c_78
      have b_114 : bd 45 45 x1_ := eqX fc_78 (bdT x1_) kb_45 (by decide)
      refine lv_bipush (v := 6) hx hb dX0_openSign_30 (by decide) ?_
      refine lv_goto (tgt := 37) hx hb dX0_openSign_32 (by decide) ?_
      refine lv_istore_n (lv' := [(2, .int 6), (0, .ref a0_), (1, .int x1_)]) hx hb dX0_openSign_37 rfl hl (by decide) rfl (fun ls hl => ?_)
      refine lv_aload_n hx hb dX0_openSign_38 rfl (lv_at hl 1 rfl) ?_
      refine lv_iload_n hx hb dX0_openSign_39 rfl (lv_at hl 2 rfl) ?_
      refine lv_bipush (v := 40) hx hb dX0_openSign_40 (by decide) ?_
      refine lv_icmp_ne (tgt := 49) hx hb dX0_openSign_42 (by decide) (fun c_115 => ?_) (fun c_115 => ?_)
      · have fc_115 := neq_f c_115
        refine lv_iload_n hx hb dX0_openSign_49 rfl (lv_at hl 0 rfl) ?_
        refine lv_aload_n hx hb dX0_openSign_50 rfl (lv_at hl 1 rfl) ?_
        refine g_getk (C := RX0) (T := TX0) (N := 14) hx hb hts (mc_ inX0) hown hK g rfl 0 (by decide) rfl (hts _ (List.mem_cons_of_mem _ t_373)) (fun _ h9 => h9) 3 rfl dX0_openSign_51 ?_
        refine g_calli (va_runV (As := []) (rest := [.int 6, .ref a0_]) ⟨hx, hb, hml, hown, hts⟩ (r_X8_place l dC dI L kd tys fr_74 H.size g.2.2.2.1 q0_ mq0_ kq0_) (cwV 0 hts (gV_ t_1220 t_1111 t_1112 t_184 t_1113) rfl rfl rfl (by decide +kernel) ⟨(Nat.le_of_ble_eq_true rfl), (Nat.le_of_ble_eq_true rfl)⟩) (pre3V g hK mq0_ kq0_ (by decide) (q := (RX8, TX8, 10)) rfl) rfl rfl hl.1 rfl (lv_room (Nat.le_of_ble_eq_true rfl)) dX0_openSign_54 ⟨(Nat.le_of_ble_eq_true rfl), (Nat.le_of_ble_eq_true rfl)⟩) g hK (by decide) (by decide) (fx' := [(8, 6, q0_, .int 1201), (8, 8, q0_, .int x_75), (0, 11, a0_, .int x_1), (0, 0, a0_, .ref q0_), (0, 2, a0_, .ref q1_)]) rfl (fun r_116 fr_116 H locs hp hMr_116 g => ?_)
        refine lv_iconst (v := 0) hx hb dX0_openSign_57 (by decide) ?_
        refine g_callv (va_runV (As := [.int 6, .int r_116, .int 0]) (rest := []) ⟨hx, hb, hml, hown, hts⟩ (r_X0_push l dC dI L kd tys fr_116 H.size g.2.2.2.1 a0_ ma0_ ka0_ 6 r_116 0) (cwV 3 hts (gV_ t_1221 t_1223 t_19 t_190 t_1224) rfl rfl rfl (by decide +kernel) ⟨(Nat.le_of_ble_eq_true rfl), (Nat.le_of_ble_eq_true rfl)⟩) (pre3V g hK ma0_ ka0_ (by decide) (q := (RX0, TX0, 14)) rfl) rfl rfl hl.1 rfl (lv_room (Nat.le_of_ble_eq_true rfl)) dX0_openSign_58 ⟨(Nat.le_of_ble_eq_true rfl), (Nat.le_of_ble_eq_true rfl)⟩) g hK (by decide) (by decide) (fx' := [(8, 6, q0_, .int 1201), (8, 8, q0_, .int x_75), (0, 11, a0_, .int x_1), (0, 0, a0_, .ref q0_), (0, 2, a0_, .ref q1_)]) rfl (fun fr_117 H locs hp hMr_117 g => ?_)
        obtain ⟨x_118, h_119, hF_120⟩ := hp
        have g := g.more hF_120
        refine lv_aload_n hx hb dX0_openSign_61 rfl (lv_at hl 1 rfl) ?_
        refine g_getk (C := RX0) (T := TX0) (N := 14) hx hb hts (mc_ inX0) hown hK g rfl 2 (by decide) rfl (hts _ (List.mem_cons_of_mem _ t_375)) (fun _ h9 => h9) 5 rfl dX0_openSign_62 ?_
        refine lv_dup hx hb dX0_openSign_65 rfl ?_
        refine g_geti (C := RX7) (T := TX7) (N := 19) hx hb hts (mc_ inX7) hown hK g mq1_ kq1_ (by decide) rfl 18 (by decide) rfl (hts _ (List.mem_cons_of_mem _ t_681)) (fun _ h9 => h9) rfl dX0_openSign_66 (fun x_121 bx_121 g => ?_)
        refine lv_iload_n hx hb dX0_openSign_69 rfl (lv_at hl 2 rfl) ?_
        refine lv_bipush (v := 40) hx hb dX0_openSign_70 (by decide) ?_
        refine lv_icmp_ne (tgt := 79) hx hb dX0_openSign_72 (by decide) (fun c_122 => ?_) (fun c_122 => ?_)
        · have fc_122 := neq_f c_122
          refine lv_iconst (v := 1) hx hb dX0_openSign_79 (by decide) ?_
          have kb_1 : bd 1 1 (1 : Int32) := ⟨by decide, by decide⟩
          refine lv_iadd hx hb dX0_openSign_80 ?_
          refine lv_topi (fun y_123 ey_123 => ?_)
          refine g_put (C := RX7) (T := TX7) (N := 19) hx hb hts (mc_ inX7) tyX7 tyX7_ok nmX7 hown hK g mq1_ kq1_ (by decide) rfl 18 (by decide) (hts _ (List.mem_cons_of_mem _ t_681)) (fun _ h9 => h9) rfl rfl (okV_i (bdT y_123)) rfl rfl (by decide) (Or.inr (Or.inl (by decide))) (fx' := [(0, 8, a0_, .int x_118), (8, 6, q0_, .int 1201), (8, 8, q0_, .int x_75), (0, 11, a0_, .int x_1), (0, 0, a0_, .ref q0_), (0, 2, a0_, .ref q1_)]) rfl dX0_openSign_81 (fun f H locs hM_124 g => ?_)
          refine lv_aload_n hx hb dX0_openSign_84 rfl (lv_at hl 1 rfl) ?_
          refine lv_dup hx hb dX0_openSign_85 rfl ?_
          refine g_getk (C := RX0) (T := TX0) (N := 14) hx hb hts (mc_ inX0) hown hK g rfl 11 (by decide) rfl (hts _ (List.mem_cons_of_mem _ t_384)) (fun _ h9 => h9) 4 rfl dX0_openSign_86 ?_
          refine lv_iconst (v := 1) hx hb dX0_openSign_89 (by decide) ?_
          refine lv_iadd hx hb dX0_openSign_90 ?_
          refine lv_topi (fun y_125 ey_125 => ?_)
          refine g_put (C := RX0) (T := TX0) (N := 14) hx hb hts (mc_ inX0) tyX0 tyX0_ok nmX0 hown hK g ma0_ ka0_ (by decide) rfl 11 (by decide) (hts _ (List.mem_cons_of_mem _ t_384)) (fun _ h9 => h9) rfl rfl (okV_i (bdT y_125)) rfl rfl (by decide) (Or.inr (Or.inl (by decide))) (fx' := [(7, 18, q1_, .int y_123), (0, 8, a0_, .int x_118), (8, 6, q0_, .int 1201), (8, 8, q0_, .int x_75), (0, 0, a0_, .ref q0_), (0, 2, a0_, .ref q1_)]) rfl dX0_openSign_91 (fun f H locs hM_126 g => ?_)
          refine lv_aload_n hx hb dX0_openSign_94 rfl (lv_at hl 1 rfl) ?_
          refine g_getk (C := RX0) (T := TX0) (N := 14) hx hb hts (mc_ inX0) hown hK g rfl 0 (by decide) rfl (hts _ (List.mem_cons_of_mem _ t_373)) (fun _ h9 => h9) 5 rfl dX0_openSign_95 ?_
          have kb_1201 : bd 1201 1201 (1201 : Int32) := ⟨by decide, by decide⟩
          refine g_callv (va_runV (As := []) (rest := []) ⟨hx, hb, hml, hown, hts⟩ (r_X8_next_2 l dC dI L kd tys f H.size g.2.2.2.1 q0_ mq0_ kq0_ 1201 kb_1201 (g.fcts [3] rfl)) (cwV 0 hts (gV_ t_1225 t_1103 t_1104 t_184 t_1105) rfl rfl rfl (by decide +kernel) ⟨(Nat.le_of_ble_eq_true rfl), (Nat.le_of_ble_eq_true rfl)⟩) (pre3V g hK mq0_ kq0_ (by decide) (q := (RX8, TX8, 10)) rfl) rfl rfl hl.1 rfl (lv_room (Nat.le_of_ble_eq_true rfl)) dX0_openSign_98 ⟨(Nat.le_of_ble_eq_true rfl), (Nat.le_of_ble_eq_true rfl)⟩) g hK (by decide) (by decide) (fx' := [(0, 11, a0_, .int y_125), (7, 18, q1_, .int y_123), (0, 8, a0_, .int x_118), (8, 6, q0_, .int 1201), (8, 8, q0_, .int x_75), (0, 0, a0_, .ref q0_), (0, 2, a0_, .ref q1_)]) rfl (fun fr_127 H locs hp hMr_127 g => ?_)
          subst hQ
          exact W.vret hx hb hr (fun t ht hW => ⟨⟨_, rfl, Or.inl ⟨x_118, h_119, x_75, h_76, (g.fcts [2, 3, 4] rfl)⟩, q3_of g hK ht hW⟩, g.2.2.1.F ht⟩) g.2.2.1.2.2 dX0_openSign_101
        · have fc_122 := eq_f c_122
          have b_128 : bd 45 40 x1_ := eqX fc_122 b_114 kb_40 (by decide)
          exact bd_no b_128 (by decide)
      · have fc_115 := eq_f c_115
        have b_129 : bd 45 40 x1_ := eqX fc_115 b_114 kb_40 (by decide)
        exact bd_no b_129 (by decide)
set_option maxHeartbeats 4000000 in
set_option maxRecDepth 100000 in
theorem r_X8_atBracket (l : Launch) (dC : Nat → ClassId) (dI : Nat → Nat → Nat) (L : List Nat) (kd : Nat → Nat) (tys : List (ClassId × FieldType)) (f0 : Nat → va_E) (sz : Nat) (hWT : WT L kd tys f0) (a0_ : Nat) (ma0_ : a0_ ∈ L) (ka0_ : kd a0_ = 8) : Met l yX8_atBracket (.code yX8_atBracket cX8_atBracket 1 (some .boolean) :: lw_g) ({ frames := 0, cells := 0, slots := 0, locals := 0 }) (va_Pc [.ref a0_] (P3 (dC, dI) L tys f0 sz)) (va_Qi (fun (r : Int32) (f : Nat → va_E) => (bd 0 1 r ∧ True)) (Q3 (dC, dI) L kd tys [] [] f0 sz) (pA L sz)) 0 0 (pA L sz) := by
  refine Met.ofW (cc := cX8_atBracket) (maxL := 1) (ret := (some .boolean)) (by decide) rfl ?_
  intro p e s m args below meth c s₁ B hml hv
  obtain ⟨rfl, hsz, hP, hK, hD0⟩ := hv
  have hx := B.exec
  have hb := B.bytes
  have hr := B.returns
  have hts := atoms_spec (ws := (.code yX8_atBracket cX8_atBracket 1 (some .boolean) :: lw_g)) B.pre
  have hown : s.vm.findClass RX8 = some m.cls := findClass_of_methodNamed B.named
  have hlocks := B.notSynchronized
  subst hsz
  have g : G3 (dC, dI) L kd tys s f0 [] [] f0 s.heap [] [] := G3.start hP hD0 hWT Fs.nil
  have hl := lv_entry ([.ref a0_]) (n := 1) (Nat.le_of_ble_eq_true rfl)
  rw [lg_entry_eq]
  generalize (lg_sl ([.ref a0_]) ++ List.replicate (1 - (lg_sl ([.ref a0_])).length) Slot.unset).toArray = ls at hl ⊢
  have hl : lv_has ls 1 [(0, .ref a0_)] := hl
  refine W_q (fun Q hQ => ?_)
  refine lv_aload_n hx hb dX8_atBracket_0 rfl (lv_at hl 0 rfl) ?_
  refine g_geti (C := RX8) (T := TX8) (N := 10) hx hb hts (mc_ inX8) hown hK g ma0_ ka0_ (by decide) rfl 6 (by decide) rfl (hts _ (List.mem_cons_of_mem _ t_291)) (fun _ h9 => h9) rfl dX8_atBracket_1 (fun x_1 bx_1 g => ?_)
  refine lv_sipush (v := 1200) hx hb dX8_atBracket_4 (by decide) ?_
  have kb_1200 : bd 1200 1200 (1200 : Int32) := ⟨by decide, by decide⟩
  refine lv_icmp_le (tgt := 17) hx hb dX8_atBracket_7 (by decide) (fun c_2 => ?_) (fun c_2 => ?_)
  · have fc_2 := le_f c_2
    have b_3 : bd 0 1200 x_1 := leL fc_2 bx_1 kb_1200 (by decide)
    refine lv_aload_n hx hb dX8_atBracket_17 rfl (lv_at hl 0 rfl) ?_
    refine g_getr (K := 148) (C := RX8) (T := TX8) (N := 10) hx hb hts (mc_ inX8) hown hK g ma0_ ka0_ (by decide) rfl 0 (by decide) rfl (hts _ (List.mem_cons_of_mem _ t_285)) (fun _ h9 => h9) rfl dX8_atBracket_18 (fun a_4 ma_4 ka_4 g => ?_)
    refine lv_aload_n hx hb dX8_atBracket_21 rfl (lv_at hl 0 rfl) ?_
    refine g_getk (C := RX8) (T := TX8) (N := 10) hx hb hts (mc_ inX8) hown hK g rfl 6 (by decide) rfl (hts _ (List.mem_cons_of_mem _ t_291)) (fun _ h9 => h9) 1 rfl dX8_atBracket_22 ?_
    refine g_kald hx hb hK g ma_4 ka_4 (by decide) rfl (in_bd b_3 (by decide)) dX8_atBracket_25 (fun x_5 bx_5 cx_5 zx_5 => ?_)
    refine lv_bipush (v := 40) hx hb dX8_atBracket_26 (by decide) ?_
    have kb_40 : bd 40 40 (40 : Int32) := ⟨by decide, by decide⟩
    refine lv_icmp_ne (tgt := 35) hx hb dX8_atBracket_28 (by decide) (fun c_6 => ?_) (fun c_6 => ?_)
    · have fc_6 := neq_f c_6
      refine lv_iconst (v := 0) hx hb dX8_atBracket_35 (by decide) ?_
      have kb_0 : bd 0 0 (0 : Int32) := ⟨by decide, by decide⟩
      subst hQ
      exact W.zret (v := 0) hx hb hr (nar_z (bd_sub kb_0 (by decide) : bd 0 1 _).1 (bd_sub kb_0 (by decide) : bd 0 1 _).2) (fun t ht hW => ⟨⟨_, _, rfl, ⟨(bd_sub kb_0 (by decide)), trivial⟩, q3_of g hK ht hW⟩, g.2.2.1.F ht⟩) g.2.2.1.2.2 dX8_atBracket_36
    · have fc_6 := eq_f c_6
      have b_7 : bd 40 40 x_5 := eqX fc_6 (bdT x_5) kb_40 (by decide)
      refine lv_iconst (v := 1) hx hb dX8_atBracket_31 (by decide) ?_
      refine lv_goto (tgt := 36) hx hb dX8_atBracket_32 (by decide) ?_
      have kb_1 : bd 1 1 (1 : Int32) := ⟨by decide, by decide⟩
      subst hQ
      exact W.zret (v := 1) hx hb hr (nar_z (bd_sub kb_1 (by decide) : bd 0 1 _).1 (bd_sub kb_1 (by decide) : bd 0 1 _).2) (fun t ht hW => ⟨⟨_, _, rfl, ⟨(bd_sub kb_1 (by decide)), trivial⟩, q3_of g hK ht hW⟩, g.2.2.1.F ht⟩) g.2.2.1.2.2 dX8_atBracket_36
  · have fc_2 := nle_f c_2
    have b_8 : bd 1201 1201 x_1 := ltR fc_2 kb_1200 bx_1 (by decide)
    refine lv_aload_n hx hb dX8_atBracket_10 rfl (lv_at hl 0 rfl) ?_
    refine g_geti (C := RX8) (T := TX8) (N := 10) hx hb hts (mc_ inX8) hown hK g ma0_ ka0_ (by decide) rfl 7 (by decide) rfl (hts _ (List.mem_cons_of_mem _ t_292)) (fun _ h9 => h9) rfl dX8_atBracket_11 (fun x_9 bx_9 g => ?_)
    refine lv_goto (tgt := 36) hx hb dX8_atBracket_14 (by decide) ?_
    subst hQ
    exact W.zret (v := x_9) hx hb hr (nar_z bx_9.1 bx_9.2) (fun t ht hW => ⟨⟨_, _, rfl, ⟨bx_9, trivial⟩, q3_of g hK ht hW⟩, g.2.2.1.F ht⟩) g.2.2.1.2.2 dX8_atBracket_36
