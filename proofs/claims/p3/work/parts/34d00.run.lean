set_option maxHeartbeats 4000000 in
set_option maxRecDepth 100000 in
theorem r_X14_isClass_2 (l : Launch) (dC : Nat → ClassId) (dI : Nat → Nat → Nat) (L : List Nat) (kd : Nat → Nat) (tys : List (ClassId × FieldType)) (f0 : Nat → va_E) (sz : Nat) (hWT : WT L kd tys f0) (a0_ : Nat) (ma0_ : a0_ ∈ L) (ka0_ : kd a0_ = 14) (x1_ : Int32) (q0_ : Nat) (mq0_ : q0_ ∈ L) (kq0_ : kd q0_ = 12) (V_ : PV) (δ_ : Nat → Nat) (hW : wfP V_ δ_) (hGVq0_ : isV f0 q0_ V_) (hfx : Fs L kd f0 [(14, 1, a0_, .ref q0_)]) : Met l yX14_isClass (.code yX14_isClass cX14_isClass 2 (some .boolean) :: lw_g) ({ frames := 1, cells := 0, slots := 0, locals := 25 }) (va_Pc [.ref a0_, .int x1_] (P3 (dC, dI) L tys f0 sz)) (va_Qi (fun (r : Int32) (f : Nat → va_E) => (r = 0 ∧ True) ∨ ((okc V_ x1_) ∧ r = 1 ∧ bd 0 7 x1_ ∧ ∃ z0_ : Int32, bd 1 8 z0_ ∧ Fs L kd f [(12, 0, q0_, .int z0_)])) (Q3 (dC, dI) L kd tys [] [] f0 sz) (pA L sz)) 0 0 (pA L sz) := by
  refine Met.ofW (cc := cX14_isClass) (maxL := 2) (ret := (some .boolean)) (by decide) rfl ?_
  intro p e s m args below meth c s₁ B hml hv
  obtain ⟨rfl, hsz, hP, hK, hD0⟩ := hv
  have hx := B.exec
  have hb := B.bytes
  have hr := B.returns
  have hts := atoms_spec (ws := (.code yX14_isClass cX14_isClass 2 (some .boolean) :: lw_g)) B.pre
  have hown : s.vm.findClass RX14 = some m.cls := findClass_of_methodNamed B.named
  have hlocks := B.notSynchronized
  subst hsz
  have g : G3 (dC, dI) L kd tys s f0 [] [] f0 s.heap [] [(14, 1, a0_, .ref q0_)] := G3.start hP hD0 hWT hfx
  have hl := lv_entry ([.ref a0_, .int x1_]) (n := 2) (Nat.le_of_ble_eq_true rfl)
  rw [lg_entry_eq]
  generalize (lg_sl ([.ref a0_, .int x1_]) ++ List.replicate (2 - (lg_sl ([.ref a0_, .int x1_])).length) Slot.unset).toArray = ls at hl ⊢
  have hl : lv_has ls 2 [(0, .ref a0_), (1, .int x1_)] := hl
  refine W_q (fun Q hQ => ?_)
  refine lv_iload_n hx hb dX14_isClass_0 rfl (lv_at hl 1 rfl) ?_
  refine lv_i2l hx hb dX14_isClass_1 rfl ?_
  refine lv_topl (fun y_1 ey_1 => ?_)
  refine lv_lconst (v := 0) hx hb dX14_isClass_2 (by decide) ?_
  refine lv_aload_n hx hb dX14_isClass_3 rfl (lv_at hl 0 rfl) ?_
  refine g_getk (C := RX14) (T := TX14) (N := 67) hx hb hts (mc_ inX14) hown hK g rfl 1 (by decide) rfl (hts _ (List.mem_cons_of_mem _ t_2147)) (fun _ h9 => h9) 0 rfl dX14_isClass_4 ?_
  refine g_geti (C := RX12) (T := TX12) (N := 60) hx hb hts (mc_ inX12) hown hK g mq0_ kq0_ (by decide) rfl 0 (by decide) rfl (hts _ (List.mem_cons_of_mem _ t_1906)) (fun _ h9 => h9) rfl dX14_isClass_7 (fun x_2 bx_2 g => ?_)
  refine lv_iconst (v := 1) hx hb dX14_isClass_10 (by decide) ?_
  have kb_1 : bd 1 1 (1 : Int32) := ⟨by decide, by decide⟩
  refine lv_isub hx hb dX14_isClass_11 ?_
  refine lv_topi (fun y_3 ey_3 => ?_)
  have ty_3 := sub_bd ey_3 bx_2 kb_1 (by decide)
  have b_4 : bd (-1) 7 y_3 := sub_rg ty_3 bx_2 kb_1 (by decide)
  refine lv_i2l hx hb dX14_isClass_12 rfl ?_
  refine lv_topl (fun y_5 ey_5 => ?_)
  have go_ := g
  refine g_calli (va_runS (As := [.long y_1, .long 0, .long y_5]) (rest := []) ⟨hx, hb, hml, hown, hts⟩ (r_X14_in l dC dI L kd tys f0 s.heap.size g.2.2.2.1 y_1 0 y_5) (va_cwS 3 hts (gS_ t_2448 t_2449 t_198 t_2450) rfl rfl rfl (by decide +kernel) ⟨(Nat.le_of_ble_eq_true rfl), (Nat.le_of_ble_eq_true rfl)⟩) (pre3S g hK) rfl rfl hl.1 rfl (lv_room (Nat.le_of_ble_eq_true rfl)) dX14_isClass_13 ⟨(Nat.le_of_ble_eq_true rfl), (Nat.le_of_ble_eq_true rfl)⟩) g hK (by decide) (by decide) (fx' := [(12, 0, q0_, .int x_2), (14, 1, a0_, .ref q0_)]) rfl (fun r_6 fr_6 H locs hp hMr_6 g => ?_)
  rcases hp with ⟨hx_7, h_8, -⟩ | ⟨h_9, h_10, -⟩
  · have hG_11 := isV.frame hMr_6 go_.2.2.2.1 mq0_ kq0_ (by decide) (by decide) hGVq0_
    obtain rfl : r_6 = 0 := h_8
    subst hQ
    have kb_0 : bd 0 0 (0 : Int32) := ⟨by decide, by decide⟩
    exact W.zret (v := 0) hx hb hr (nar_z (bd_sub kb_0 (by decide) : bd 0 1 _).1 (bd_sub kb_0 (by decide) : bd 0 1 _).2) (fun t ht hW => ⟨⟨_, _, rfl, Or.inl ⟨rfl, trivial⟩, q3_of g hK ht hW⟩, g.2.2.1.F ht⟩) g.2.2.1.2.2 dX14_isClass_16
  · have hG_12 := isV.frame hMr_6 go_.2.2.2.1 mq0_ kq0_ (by decide) (by decide) hGVq0_
    obtain rfl : r_6 = 1 := h_9
    have f_13 : (0 : Int32).toInt ≤ x1_.toInt := in_le h_10.1 (in_k (k := 0) (by decide) (by decide)) (in_v ey_1)
    have f_14 : x1_.toInt ≤ y_3.toInt := in_le h_10.2 (in_v ey_1) (in_v ey_5)
    have kb_0 : bd 0 0 (0 : Int32) := ⟨by decide, by decide⟩
    have b_15 : bd 0 2147483647 x1_ := leR f_13 kb_0 (bdT x1_) (by decide)
    have b_16 : bd 0 7 x1_ := leL f_14 b_15 b_4 (by decide)
    have b_17 : bd 0 7 y_3 := leR f_14 b_15 b_4 (by decide)
    have b_18 : bd 1 8 x_2 := sub_inv ty_3 b_17 bx_2 kb_1 (by decide)
    subst hQ
    exact W.zret (v := 1) hx hb hr (nar_z (bd_sub kb_1 (by decide) : bd 0 1 _).1 (bd_sub kb_1 (by decide) : bd 0 1 _).2) (fun t ht hW => ⟨⟨_, _, rfl, Or.inr (⟨⟨b_16.1, (by rw [← hG_12.nn g 0 rfl rfl]; have h9_0 := b_16; unfold bd at h9_0; have h9_1 := b_18; unfold bd at h9_1; have h9_2 := b_17; unfold bd at h9_2; have h8_0 := kb_0; unfold bd at h8_0; have h8_1 := kb_1; unfold bd at h8_1; omega)⟩, rfl, b_16, x_2, b_18, (g.fcts [0] rfl)⟩), q3_of g hK ht hW⟩, g.2.2.1.F ht⟩) g.2.2.1.2.2 dX14_isClass_16
set_option maxHeartbeats 4000000 in
set_option maxRecDepth 100000 in
theorem r_X14_addMake (l : Launch) (dC : Nat → ClassId) (dI : Nat → Nat → Nat) (L : List Nat) (kd : Nat → Nat) (tys : List (ClassId × FieldType)) (f0 : Nat → va_E) (sz : Nat) (hWT : WT L kd tys f0) (a0_ : Nat) (ma0_ : a0_ ∈ L) (ka0_ : kd a0_ = 14) (x1_ : Int32) (bx1_ : bd 0 7 x1_) (q0_ : Nat) (mq0_ : q0_ ∈ L) (kq0_ : kd q0_ = 12) (r_ : Int32) (br_ : bd 0 9 r_) (k_ : Int32) (bk_ : bd 0 2 k_) (V_ : PV) (δ_ : Nat → Nat) (hW : wfP V_ δ_) (RW_ : RW) (hGWa0_ : isW f0 a0_ RW_) (hGVq0_ : isV f0 q0_ V_) (hrw : rwOK V_ RW_ r_ k_) (hcl : okc V_ x1_) (hfx : Fs L kd f0 [(14, 1, a0_, .ref q0_), (14, 51, a0_, .int r_), (14, 52, a0_, .int k_)]) : Met l yX14_addMake (.code yX14_addMake cX14_addMake 2 none :: lw_g) ({ frames := 0, cells := 0, slots := 0, locals := 0 }) (va_Pc [.ref a0_, .int x1_] (P3 (dC, dI) L tys f0 sz)) (va_Qv (fun (f : Nat → va_E) => ((isW f a0_ (RW_.adM r_ k_ x1_)) ∧ (adOK V_ RW_ (RW_.adM r_ k_ x1_) r_ k_ 1) ∧ ∃ z0_ : Int32, (bd 1 10 z0_ ∧ z0_.toInt = r_.toInt + 1) ∧ ∃ z1_ : Int32, (bd 1 3 z1_ ∧ z1_.toInt = k_.toInt + 1) ∧ Fs L kd f [(14, 51, a0_, .int z0_), (14, 52, a0_, .int z1_)])) (Q3 (dC, dI) L kd tys [(14, 51), (14, 52)] [222, 223, 224, 225, 226, 227] f0 sz) (pA L sz)) 0 0 (pA L sz) := by
  refine Met.ofW (cc := cX14_addMake) (maxL := 2) (ret := none) (by decide) rfl ?_
  intro p e s m args below meth c s₁ B hml hv
  obtain ⟨rfl, hsz, hP, hK, hD0⟩ := hv
  have hx := B.exec
  have hb := B.bytes
  have hr := B.returns
  have hts := atoms_spec (ws := (.code yX14_addMake cX14_addMake 2 none :: lw_g)) B.pre
  have hown : s.vm.findClass RX14 = some m.cls := findClass_of_methodNamed B.named
  have hlocks := B.notSynchronized
  subst hsz
  have g : G3 (dC, dI) L kd tys s f0 [(14, 51), (14, 52)] [222, 223, 224, 225, 226, 227] f0 s.heap [] [(14, 1, a0_, .ref q0_), (14, 51, a0_, .int r_), (14, 52, a0_, .int k_)] := G3.start hP hD0 hWT hfx
  have hl := lv_entry ([.ref a0_, .int x1_]) (n := 2) (Nat.le_of_ble_eq_true rfl)
  rw [lg_entry_eq]
  generalize (lg_sl ([.ref a0_, .int x1_]) ++ List.replicate (2 - (lg_sl ([.ref a0_, .int x1_])).length) Slot.unset).toArray = ls at hl ⊢
  have hl : lv_has ls 2 [(0, .ref a0_), (1, .int x1_)] := hl
  refine W_q (fun Q hQ => ?_)
  refine lv_aload_n hx hb dX14_addMake_0 rfl (lv_at hl 0 rfl) ?_
  refine g_getr (K := 222) (C := RX14) (T := TX14) (N := 67) hx hb hts (mc_ inX14) hown hK g ma0_ ka0_ (by decide) rfl 46 (by decide) rfl (hts _ (List.mem_cons_of_mem _ t_2192)) (fun _ h9 => h9) rfl dX14_addMake_1 (fun a_1 ma_1 ka_1 g => ?_)
  refine lv_aload_n hx hb dX14_addMake_4 rfl (lv_at hl 0 rfl) ?_
  refine g_getk (C := RX14) (T := TX14) (N := 67) hx hb hts (mc_ inX14) hown hK g rfl 51 (by decide) rfl (hts _ (List.mem_cons_of_mem _ t_2197)) (fun _ h9 => h9) 2 rfl dX14_addMake_5 ?_
  refine lv_aload_n hx hb dX14_addMake_8 rfl (lv_at hl 0 rfl) ?_
  refine g_getk (C := RX14) (T := TX14) (N := 67) hx hb hts (mc_ inX14) hown hK g rfl 52 (by decide) rfl (hts _ (List.mem_cons_of_mem _ t_2198)) (fun _ h9 => h9) 3 rfl dX14_addMake_9 ?_
  have gp_2 := g
  have go_ := g
  refine g_iastX hx hb hK g ma_1 ka_1 (by decide) rfl (in_bd br_ (by decide)) bk_ (by decide) dX14_addMake_12 (fun f H locs hM_3 u_5 g => ?_)
  have hG_4 := isV.frame hM_3 go_.2.2.2.1 mq0_ kq0_ (by decide) (by decide) hGVq0_
  have hG_6 := hGWa0_.put46 gp_2 0 rfl ma0_ ka0_ ka_1 u_5
  refine lv_aload_n hx hb dX14_addMake_13 rfl (lv_at hl 0 rfl) ?_
  refine g_getr (K := 223) (C := RX14) (T := TX14) (N := 67) hx hb hts (mc_ inX14) hown hK g ma0_ ka0_ (by decide) rfl 47 (by decide) rfl (hts _ (List.mem_cons_of_mem _ t_2193)) (fun _ h9 => h9) rfl dX14_addMake_14 (fun a_7 ma_7 ka_7 g => ?_)
  refine lv_aload_n hx hb dX14_addMake_17 rfl (lv_at hl 0 rfl) ?_
  refine g_getk (C := RX14) (T := TX14) (N := 67) hx hb hts (mc_ inX14) hown hK g rfl 51 (by decide) rfl (hts _ (List.mem_cons_of_mem _ t_2197)) (fun _ h9 => h9) 3 rfl dX14_addMake_18 ?_
  refine lv_iconst (v := (-1)) hx hb dX14_addMake_21 (by decide) ?_
  have gp_8 := g
  have kb_m1 : bd (-1) (-1) ((-1) : Int32) := ⟨by decide, by decide⟩
  have go_ := g
  refine g_iastX hx hb hK g ma_7 ka_7 (by decide) rfl (in_bd br_ (by decide)) (bd_sub kb_m1 (by decide)) (by decide) dX14_addMake_22 (fun f H locs hM_9 u_11 g => ?_)
  have hG_10 := isV.frame hM_9 go_.2.2.2.1 mq0_ kq0_ (by decide) (by decide) hG_4
  have hG_12 := hG_6.put47 gp_8 0 rfl ma0_ ka0_ ka_7 u_11
  refine lv_aload_n hx hb dX14_addMake_23 rfl (lv_at hl 0 rfl) ?_
  refine g_getr (K := 224) (C := RX14) (T := TX14) (N := 67) hx hb hts (mc_ inX14) hown hK g ma0_ ka0_ (by decide) rfl 48 (by decide) rfl (hts _ (List.mem_cons_of_mem _ t_2194)) (fun _ h9 => h9) rfl dX14_addMake_24 (fun a_13 ma_13 ka_13 g => ?_)
  refine lv_iconst (v := 3) hx hb dX14_addMake_27 (by decide) ?_
  refine lv_aload_n hx hb dX14_addMake_28 rfl (lv_at hl 0 rfl) ?_
  refine g_getk (C := RX14) (T := TX14) (N := 67) hx hb hts (mc_ inX14) hown hK g rfl 51 (by decide) rfl (hts _ (List.mem_cons_of_mem _ t_2197)) (fun _ h9 => h9) 4 rfl dX14_addMake_29 ?_
  refine lv_imul hx hb dX14_addMake_32 ?_
  refine lv_topi (fun y_14 ey_14 => ?_)
  have ty_14 := cmul_bd ey_14 (c := 3) (by decide) br_ (by decide)
  have b_15 : bd 0 27 y_14 := mulc_rg ty_14 br_ (by decide)
  refine lv_iload_n hx hb dX14_addMake_33 rfl (lv_at hl 1 rfl) ?_
  have gp_16 := g
  have go_ := g
  refine g_iastX hx hb hK g ma_13 ka_13 (by decide) rfl (in_bd b_15 (by decide)) (bd_sub bx1_ (by decide)) (by decide) dX14_addMake_34 (fun f H locs hM_17 u_19 g => ?_)
  have hG_18 := isV.frame hM_17 go_.2.2.2.1 mq0_ kq0_ (by decide) (by decide) hG_10
  have hG_20 := hG_12.put48 gp_16 0 rfl ma0_ ka0_ ka_13 u_19
  refine lv_aload_n hx hb dX14_addMake_35 rfl (lv_at hl 0 rfl) ?_
  refine g_getk (C := RX14) (T := TX14) (N := 67) hx hb hts (mc_ inX14) hown hK g rfl 48 (by decide) rfl (hts _ (List.mem_cons_of_mem _ t_2194)) (fun _ h9 => h9) 0 rfl dX14_addMake_36 ?_
  refine lv_iconst (v := 3) hx hb dX14_addMake_39 (by decide) ?_
  refine lv_aload_n hx hb dX14_addMake_40 rfl (lv_at hl 0 rfl) ?_
  refine g_getk (C := RX14) (T := TX14) (N := 67) hx hb hts (mc_ inX14) hown hK g rfl 51 (by decide) rfl (hts _ (List.mem_cons_of_mem _ t_2197)) (fun _ h9 => h9) 4 rfl dX14_addMake_41 ?_
  refine lv_imul hx hb dX14_addMake_44 ?_
  refine lv_topi (fun y_21 ey_21 => ?_)
  obtain rfl : y_14 = y_21 := ey_14.trans ey_21.symm
  refine lv_iconst (v := 1) hx hb dX14_addMake_45 (by decide) ?_
  have kb_1 : bd 1 1 (1 : Int32) := ⟨by decide, by decide⟩
  refine lv_iadd hx hb dX14_addMake_46 ?_
  refine lv_topi (fun y_22 ey_22 => ?_)
  have ty_22 := add_bd ey_22 b_15 kb_1 (by decide)
  have b_23 : bd 1 28 y_22 := add_rg ty_22 b_15 kb_1 (by decide)
  refine lv_iconst (v := 0) hx hb dX14_addMake_47 (by decide) ?_
  have gp_24 := g
  have kb_0 : bd 0 0 (0 : Int32) := ⟨by decide, by decide⟩
  have go_ := g
  refine g_iastX hx hb hK g ma_13 ka_13 (by decide) rfl (in_bd b_23 (by decide)) (bd_sub kb_0 (by decide)) (by decide) dX14_addMake_48 (fun f H locs hM_25 u_27 g => ?_)
  have hG_26 := isV.frame hM_25 go_.2.2.2.1 mq0_ kq0_ (by decide) (by decide) hG_18
  have hG_28 := hG_20.put48 gp_24 0 rfl ma0_ ka0_ ka_13 u_27
  refine lv_aload_n hx hb dX14_addMake_49 rfl (lv_at hl 0 rfl) ?_
  refine g_getk (C := RX14) (T := TX14) (N := 67) hx hb hts (mc_ inX14) hown hK g rfl 48 (by decide) rfl (hts _ (List.mem_cons_of_mem _ t_2194)) (fun _ h9 => h9) 0 rfl dX14_addMake_50 ?_
  refine lv_iconst (v := 3) hx hb dX14_addMake_53 (by decide) ?_
  refine lv_aload_n hx hb dX14_addMake_54 rfl (lv_at hl 0 rfl) ?_
  refine g_getk (C := RX14) (T := TX14) (N := 67) hx hb hts (mc_ inX14) hown hK g rfl 51 (by decide) rfl (hts _ (List.mem_cons_of_mem _ t_2197)) (fun _ h9 => h9) 4 rfl dX14_addMake_55 ?_
  refine lv_imul hx hb dX14_addMake_58 ?_
  refine lv_topi (fun y_29 ey_29 => ?_)
  obtain rfl : y_14 = y_29 := ey_14.trans ey_29.symm
  refine lv_iconst (v := 2) hx hb dX14_addMake_59 (by decide) ?_
  have kb_2 : bd 2 2 (2 : Int32) := ⟨by decide, by decide⟩
  refine lv_iadd hx hb dX14_addMake_60 ?_
  refine lv_topi (fun y_30 ey_30 => ?_)
  have ty_30 := add_bd ey_30 b_15 kb_2 (by decide)
  have b_31 : bd 2 29 y_30 := add_rg ty_30 b_15 kb_2 (by decide)
  refine lv_iconst (v := 0) hx hb dX14_addMake_61 (by decide) ?_
  have gp_32 := g
  have go_ := g
  refine g_iastX hx hb hK g ma_13 ka_13 (by decide) rfl (in_bd b_31 (by decide)) (bd_sub kb_0 (by decide)) (by decide) dX14_addMake_62 (fun f H locs hM_33 u_35 g => ?_)
  have hG_34 := isV.frame hM_33 go_.2.2.2.1 mq0_ kq0_ (by decide) (by decide) hG_26
  have hG_36 := hG_28.put48 gp_32 0 rfl ma0_ ka0_ ka_13 u_35
  refine lv_aload_n hx hb dX14_addMake_63 rfl (lv_at hl 0 rfl) ?_
  refine g_getr (K := 225) (C := RX14) (T := TX14) (N := 67) hx hb hts (mc_ inX14) hown hK g ma0_ ka0_ (by decide) rfl 49 (by decide) rfl (hts _ (List.mem_cons_of_mem _ t_2195)) (fun _ h9 => h9) rfl dX14_addMake_64 (fun a_37 ma_37 ka_37 g => ?_)
  refine lv_aload_n hx hb dX14_addMake_67 rfl (lv_at hl 0 rfl) ?_
  refine g_getk (C := RX14) (T := TX14) (N := 67) hx hb hts (mc_ inX14) hown hK g rfl 51 (by decide) rfl (hts _ (List.mem_cons_of_mem _ t_2197)) (fun _ h9 => h9) 5 rfl dX14_addMake_68 ?_
  refine lv_iconst (v := 0) hx hb dX14_addMake_71 (by decide) ?_
  have go_ := g
  refine g_iast hx hb hK g ma_37 ka_37 (by decide) rfl (in_bd br_ (by decide)) (bd_sub kb_0 (by decide)) (by decide) dX14_addMake_72 (fun f H locs hM_38 g => ?_)
  have hG_39 := isV.frame hM_38 go_.2.2.2.1 mq0_ kq0_ (by decide) (by decide) hG_34
  have hG_40 := isW.frame hM_38 go_.2.2.2.1 ma0_ ka0_ (by decide) (by decide) hG_36
  refine lv_aload_n hx hb dX14_addMake_73 rfl (lv_at hl 0 rfl) ?_
  refine g_getr (K := 226) (C := RX14) (T := TX14) (N := 67) hx hb hts (mc_ inX14) hown hK g ma0_ ka0_ (by decide) rfl 50 (by decide) rfl (hts _ (List.mem_cons_of_mem _ t_2196)) (fun _ h9 => h9) rfl dX14_addMake_74 (fun a_41 ma_41 ka_41 g => ?_)
  refine lv_aload_n hx hb dX14_addMake_77 rfl (lv_at hl 0 rfl) ?_
  refine g_getk (C := RX14) (T := TX14) (N := 67) hx hb hts (mc_ inX14) hown hK g rfl 51 (by decide) rfl (hts _ (List.mem_cons_of_mem _ t_2197)) (fun _ h9 => h9) 6 rfl dX14_addMake_78 ?_
  refine lv_iconst (v := 0) hx hb dX14_addMake_81 (by decide) ?_
  have go_ := g
  refine g_iast hx hb hK g ma_41 ka_41 (by decide) rfl (in_bd br_ (by decide)) (bd_sub kb_0 (by decide)) (by decide) dX14_addMake_82 (fun f H locs hM_42 g => ?_)
  have hG_43 := isV.frame hM_42 go_.2.2.2.1 mq0_ kq0_ (by decide) (by decide) hG_39
  have hG_44 := isW.frame hM_42 go_.2.2.2.1 ma0_ ka0_ (by decide) (by decide) hG_40
  refine lv_aload_n hx hb dX14_addMake_83 rfl (lv_at hl 0 rfl) ?_
  refine g_getr (K := 227) (C := RX14) (T := TX14) (N := 67) hx hb hts (mc_ inX14) hown hK g ma0_ ka0_ (by decide) rfl 54 (by decide) rfl (hts _ (List.mem_cons_of_mem _ t_2200)) (fun _ h9 => h9) rfl dX14_addMake_84 (fun a_45 ma_45 ka_45 g => ?_)
  refine lv_aload_n hx hb dX14_addMake_87 rfl (lv_at hl 0 rfl) ?_
  refine g_getk (C := RX14) (T := TX14) (N := 67) hx hb hts (mc_ inX14) hown hK g rfl 52 (by decide) rfl (hts _ (List.mem_cons_of_mem _ t_2198)) (fun _ h9 => h9) 8 rfl dX14_addMake_88 ?_
  refine lv_iload_n hx hb dX14_addMake_91 rfl (lv_at hl 1 rfl) ?_
  have gp_46 := g
  have go_ := g
  refine g_iastX hx hb hK g ma_45 ka_45 (by decide) rfl (in_bd bk_ (by decide)) bx1_ (by decide) dX14_addMake_92 (fun f H locs hM_47 u_49 g => ?_)
  have hG_48 := isV.frame hM_47 go_.2.2.2.1 mq0_ kq0_ (by decide) (by decide) hG_43
  have hG_50 := hG_44.put54 gp_46 0 rfl ma0_ ka0_ ka_45 u_49
  refine lv_aload_n hx hb dX14_addMake_93 rfl (lv_at hl 0 rfl) ?_
  refine lv_dup hx hb dX14_addMake_94 rfl ?_
  refine g_getk (C := RX14) (T := TX14) (N := 67) hx hb hts (mc_ inX14) hown hK g rfl 52 (by decide) rfl (hts _ (List.mem_cons_of_mem _ t_2198)) (fun _ h9 => h9) 8 rfl dX14_addMake_95 ?_
  refine lv_iconst (v := 1) hx hb dX14_addMake_98 (by decide) ?_
  refine lv_iadd hx hb dX14_addMake_99 ?_
  refine lv_topi (fun y_51 ey_51 => ?_)
  have ty_51 := add_bd ey_51 bk_ kb_1 (by decide)
  have b_52 : bd 1 3 y_51 := add_rg ty_51 bk_ kb_1 (by decide)
  have go_ := g
  refine g_put (C := RX14) (T := TX14) (N := 67) hx hb hts (mc_ inX14) tyX14 tyX14_ok nmX14 hown hK g ma0_ ka0_ (by decide) rfl 52 (by decide) (hts _ (List.mem_cons_of_mem _ t_2198)) (fun _ h9 => h9) rfl rfl (okV_i (bd_sub b_52 (by decide))) rfl rfl (by decide) (Or.inr (Or.inl (by decide))) (fx' := [(14, 54, a0_, .ref a_45), (14, 50, a0_, .ref a_41), (14, 49, a0_, .ref a_37), (14, 48, a0_, .ref a_13), (14, 47, a0_, .ref a_7), (14, 46, a0_, .ref a_1), (14, 1, a0_, .ref q0_), (14, 51, a0_, .int r_)]) rfl dX14_addMake_100 (fun f H locs hM_53 g => ?_)
  have hG_54 := isV.frame hM_53 go_.2.2.2.1 mq0_ kq0_ (by decide) (by decide) hG_48
  have hG_55 := isW.frame hM_53 go_.2.2.2.1 ma0_ ka0_ (by decide) (by decide) hG_50
  refine lv_aload_n hx hb dX14_addMake_103 rfl (lv_at hl 0 rfl) ?_
  refine lv_dup hx hb dX14_addMake_104 rfl ?_
  refine g_getk (C := RX14) (T := TX14) (N := 67) hx hb hts (mc_ inX14) hown hK g rfl 51 (by decide) rfl (hts _ (List.mem_cons_of_mem _ t_2197)) (fun _ h9 => h9) 8 rfl dX14_addMake_105 ?_
  refine lv_iconst (v := 1) hx hb dX14_addMake_108 (by decide) ?_
  refine lv_iadd hx hb dX14_addMake_109 ?_
  refine lv_topi (fun y_56 ey_56 => ?_)
  have ty_56 := add_bd ey_56 br_ kb_1 (by decide)
  have b_57 : bd 1 10 y_56 := add_rg ty_56 br_ kb_1 (by decide)
  have go_ := g
  refine g_put (C := RX14) (T := TX14) (N := 67) hx hb hts (mc_ inX14) tyX14 tyX14_ok nmX14 hown hK g ma0_ ka0_ (by decide) rfl 51 (by decide) (hts _ (List.mem_cons_of_mem _ t_2197)) (fun _ h9 => h9) rfl rfl (okV_i (bd_sub b_57 (by decide))) rfl rfl (by decide) (Or.inr (Or.inl (by decide))) (fx' := [(14, 52, a0_, .int y_51), (14, 54, a0_, .ref a_45), (14, 50, a0_, .ref a_41), (14, 49, a0_, .ref a_37), (14, 48, a0_, .ref a_13), (14, 47, a0_, .ref a_7), (14, 46, a0_, .ref a_1), (14, 1, a0_, .ref q0_)]) rfl dX14_addMake_110 (fun f H locs hM_58 g => ?_)
  have hG_59 := isV.frame hM_58 go_.2.2.2.1 mq0_ kq0_ (by decide) (by decide) hG_54
  have hG_60 := isW.frame hM_58 go_.2.2.2.1 ma0_ ka0_ (by decide) (by decide) hG_55
  subst hQ
  exact W.vret hx hb hr (fun t ht hW => ⟨⟨_, rfl, ⟨(isW.adM hG_60 br_.1 rfl rfl rfl (by have h9_0 := bk_; unfold bd at h9_0; have h9_1 := br_; unfold bd at h9_1; have h9_2 := bx1_; unfold bd at h9_2; have h9_3 := b_15; unfold bd at h9_3; have h9_4 := b_23; unfold bd at h9_4; have h9_5 := b_31; unfold bd at h9_5; have h9_6 := b_52; unfold bd at h9_6; have h9_7 := b_57; unfold bd at h9_7; have h8_0 := kb_0; unfold bd at h8_0; have h8_1 := kb_1; unfold bd at h8_1; have h8_2 := kb_2; unfold bd at h8_2; have h8_3 := kb_m1; unfold bd at h8_3; omega) (by have h9_0 := bk_; unfold bd at h9_0; have h9_1 := br_; unfold bd at h9_1; have h9_2 := bx1_; unfold bd at h9_2; have h9_3 := b_15; unfold bd at h9_3; have h9_4 := b_23; unfold bd at h9_4; have h9_5 := b_31; unfold bd at h9_5; have h9_6 := b_52; unfold bd at h9_6; have h9_7 := b_57; unfold bd at h9_7; have h8_0 := kb_0; unfold bd at h8_0; have h8_1 := kb_1; unfold bd at h8_1; have h8_2 := kb_2; unfold bd at h8_2; have h8_3 := kb_m1; unfold bd at h8_3; omega) (by have h9_0 := bk_; unfold bd at h9_0; have h9_1 := br_; unfold bd at h9_1; have h9_2 := bx1_; unfold bd at h9_2; have h9_3 := b_15; unfold bd at h9_3; have h9_4 := b_23; unfold bd at h9_4; have h9_5 := b_31; unfold bd at h9_5; have h9_6 := b_52; unfold bd at h9_6; have h9_7 := b_57; unfold bd at h9_7; have h8_0 := kb_0; unfold bd at h8_0; have h8_1 := kb_1; unfold bd at h8_1; have h8_2 := kb_2; unfold bd at h8_2; have h8_3 := kb_m1; unfold bd at h8_3; omega)), (adM_ok hrw br_.1 bk_.1 hcl), y_56, ⟨b_57, (by have h9_0 := bk_; unfold bd at h9_0; have h9_1 := br_; unfold bd at h9_1; have h9_2 := bx1_; unfold bd at h9_2; have h9_3 := b_15; unfold bd at h9_3; have h9_4 := b_23; unfold bd at h9_4; have h9_5 := b_31; unfold bd at h9_5; have h9_6 := b_52; unfold bd at h9_6; have h9_7 := b_57; unfold bd at h9_7; have h8_0 := kb_0; unfold bd at h8_0; have h8_1 := kb_1; unfold bd at h8_1; have h8_2 := kb_2; unfold bd at h8_2; have h8_3 := kb_m1; unfold bd at h8_3; omega)⟩, y_51, ⟨b_52, (by have h9_0 := bk_; unfold bd at h9_0; have h9_1 := br_; unfold bd at h9_1; have h9_2 := bx1_; unfold bd at h9_2; have h9_3 := b_15; unfold bd at h9_3; have h9_4 := b_23; unfold bd at h9_4; have h9_5 := b_31; unfold bd at h9_5; have h9_6 := b_52; unfold bd at h9_6; have h9_7 := b_57; unfold bd at h9_7; have h8_0 := kb_0; unfold bd at h8_0; have h8_1 := kb_1; unfold bd at h8_1; have h8_2 := kb_2; unfold bd at h8_2; have h8_3 := kb_m1; unfold bd at h8_3; omega)⟩, (g.fcts [0, 1] rfl)⟩, q3_of g hK ht hW⟩, g.2.2.1.F ht⟩) g.2.2.1.2.2 dX14_addMake_113
set_option maxHeartbeats 4000000 in
set_option maxRecDepth 100000 in
theorem r_X14_make (l : Launch) (dC : Nat → ClassId) (dI : Nat → Nat → Nat) (L : List Nat) (kd : Nat → Nat) (tys : List (ClassId × FieldType)) (f0 : Nat → va_E) (sz : Nat) (hWT : WT L kd tys f0) (a0_ : Nat) (ma0_ : a0_ ∈ L) (ka0_ : kd a0_ = 14) (x1_ : Int32) (q0_ : Nat) (mq0_ : q0_ ∈ L) (kq0_ : kd q0_ = 12) (V_ : PV) (δ_ : Nat → Nat) (hW : wfP V_ δ_) (hGwa0_ : rOK f0 a0_ V_) (hGVq0_ : isV f0 q0_ V_) (hfx : Fs L kd f0 [(14, 1, a0_, .ref q0_)]) : Met l yX14_make (.code yX14_make cX14_make 2 (some .int) :: lw_g) ({ frames := 2, cells := 0, slots := 0, locals := 46 }) (va_Pc [.ref a0_, .int x1_] (P3 (dC, dI) L tys f0 sz)) (va_Qi (fun (r : Int32) (f : Nat → va_E) => ((rOK f a0_ V_) ∧ bd (-3) 2 r ∧ True)) (Q3 (dC, dI) L kd tys [(14, 51), (14, 52), (14, 53)] [222, 223, 224, 225, 226, 227] f0 sz) (pA L sz)) 0 0 (pA L sz) := by
  refine Met.ofW (cc := cX14_make) (maxL := 2) (ret := (some .int)) (by decide) rfl ?_
  intro p e s m args below meth c s₁ B hml hv
  obtain ⟨rfl, hsz, hP, hK, hD0⟩ := hv
  have hx := B.exec
  have hb := B.bytes
  have hr := B.returns
  have hts := atoms_spec (ws := (.code yX14_make cX14_make 2 (some .int) :: lw_g)) B.pre
  have hown : s.vm.findClass RX14 = some m.cls := findClass_of_methodNamed B.named
  have hlocks := B.notSynchronized
  subst hsz
  have g : G3 (dC, dI) L kd tys s f0 [(14, 51), (14, 52), (14, 53)] [222, 223, 224, 225, 226, 227] f0 s.heap [] [(14, 1, a0_, .ref q0_)] := G3.start hP hD0 hWT hfx
  have hl := lv_entry ([.ref a0_, .int x1_]) (n := 2) (Nat.le_of_ble_eq_true rfl)
  rw [lg_entry_eq]
  generalize (lg_sl ([.ref a0_, .int x1_]) ++ List.replicate (2 - (lg_sl ([.ref a0_, .int x1_])).length) Slot.unset).toArray = ls at hl ⊢
  have hl : lv_has ls 2 [(0, .ref a0_), (1, .int x1_)] := hl
  refine W_q (fun Q hQ => ?_)
  refine lv_aload_n hx hb dX14_make_0 rfl (lv_at hl 0 rfl) ?_
  refine lv_iload_n hx hb dX14_make_1 rfl (lv_at hl 1 rfl) ?_
  have go_ := g
  refine g_calli (va_runV (As := [.int x1_]) (rest := []) ⟨hx, hb, hml, hown, hts⟩ (r_X14_isClass_2 l dC dI L kd tys f0 s.heap.size g.2.2.2.1 a0_ ma0_ ka0_ x1_ q0_ mq0_ kq0_ V_ δ_ hW hGVq0_ (g.fcts [0] rfl)) (cwV 1 hts (gV_ t_2574 t_2576 t_137 t_198 t_2577) rfl rfl rfl (by decide +kernel) ⟨(Nat.le_of_ble_eq_true rfl), (Nat.le_of_ble_eq_true rfl)⟩) (pre3V g hK ma0_ ka0_ (by decide) (q := (RX14, TX14, 67)) rfl) rfl rfl hl.1 rfl (lv_room (Nat.le_of_ble_eq_true rfl)) dX14_make_2 ⟨(Nat.le_of_ble_eq_true rfl), (Nat.le_of_ble_eq_true rfl)⟩) g hK (by decide) (by decide) (fx' := [(14, 1, a0_, .ref q0_)]) rfl (fun r_1 fr_1 H locs hp hMr_1 g => ?_)
  rcases hp with ⟨h_2, -⟩ | ⟨hx_3, h_4, h_5, x_6, h_7, hF_8⟩
  · have hG_9 := rOK.frame hMr_1 go_.2.2.2.1 ma0_ ka0_ (by decide) (by decide) hGwa0_
    have hG_10 := isV.frame hMr_1 go_.2.2.2.1 mq0_ kq0_ (by decide) (by decide) hGVq0_
    obtain rfl : r_1 = 0 := h_2
    refine lv_if_ne (tgt := 11) hx hb dX14_make_5 (by decide) (fun c_ => absurd c_ (by decide)) (fun c_ => ?_)
    refine lv_bipush (v := (-2)) hx hb dX14_make_8 (by decide) ?_
    have kb_m2 : bd (-2) (-2) ((-2) : Int32) := ⟨by decide, by decide⟩
    subst hQ
    exact W.iret (v := (-2)) hx hb hr (fun t ht hW => ⟨⟨_, _, rfl, ⟨hG_9, (bd_sub kb_m2 (by decide)), trivial⟩, q3_of g hK ht hW⟩, g.2.2.1.F ht⟩) g.2.2.1.2.2 dX14_make_10
  · have hG_11 := rOK.frame hMr_1 go_.2.2.2.1 ma0_ ka0_ (by decide) (by decide) hGwa0_
    have hG_12 := isV.frame hMr_1 go_.2.2.2.1 mq0_ kq0_ (by decide) (by decide) hGVq0_
    obtain rfl : r_1 = 1 := h_4
    have b_13 : bd 0 7 x1_ := eqX rfl (bdT x1_) h_5 (by decide)
    have g := g.more hF_8
    refine lv_if_ne (tgt := 11) hx hb dX14_make_5 (by decide) (fun c_ => ?_) (fun c_ => absurd c_ (by decide))
    refine lv_aload_n hx hb dX14_make_11 rfl (lv_at hl 0 rfl) ?_
    refine g_geti (C := RX14) (T := TX14) (N := 67) hx hb hts (mc_ inX14) hown hK g ma0_ ka0_ (by decide) rfl 51 (by decide) rfl (hts _ (List.mem_cons_of_mem _ t_2197)) (fun _ h9 => h9) rfl dX14_make_12 (fun x_14 bx_14 g => ?_)
    refine lv_bipush (v := 10) hx hb dX14_make_15 (by decide) ?_
    have kb_10 : bd 10 10 (10 : Int32) := ⟨by decide, by decide⟩
    refine lv_icmp_eq (tgt := 28) hx hb dX14_make_17 (by decide) (fun c_15 => ?_) (fun c_15 => ?_)
    · have fc_15 := eq_f c_15
      have b_16 : bd 10 10 x_14 := eqX fc_15 bx_14 kb_10 (by decide)
      refine lv_bipush (v := (-3)) hx hb dX14_make_28 (by decide) ?_
      have kb_m3 : bd (-3) (-3) ((-3) : Int32) := ⟨by decide, by decide⟩
      subst hQ
      exact W.iret (v := (-3)) hx hb hr (fun t ht hW => ⟨⟨_, _, rfl, ⟨hG_11, (bd_sub kb_m3 (by decide)), trivial⟩, q3_of g hK ht hW⟩, g.2.2.1.F ht⟩) g.2.2.1.2.2 dX14_make_30
    · have fc_15 := neq_f c_15
      have b_17 : bd 0 9 x_14 := neX fc_15 bx_14 kb_10 (by decide)
      refine lv_aload_n hx hb dX14_make_20 rfl (lv_at hl 0 rfl) ?_
      refine g_geti (C := RX14) (T := TX14) (N := 67) hx hb hts (mc_ inX14) hown hK g ma0_ ka0_ (by decide) rfl 52 (by decide) rfl (hts _ (List.mem_cons_of_mem _ t_2198)) (fun _ h9 => h9) rfl dX14_make_21 (fun x_18 bx_18 g => ?_)
      refine lv_iconst (v := 3) hx hb dX14_make_24 (by decide) ?_
      have kb_3 : bd 3 3 (3 : Int32) := ⟨by decide, by decide⟩
      refine lv_icmp_ne (tgt := 31) hx hb dX14_make_25 (by decide) (fun c_19 => ?_) (fun c_19 => ?_)
      · have fc_19 := neq_f c_19
        have b_20 : bd 0 2 x_18 := neX fc_19 bx_18 kb_3 (by decide)
        refine lv_aload_n hx hb dX14_make_31 rfl (lv_at hl 0 rfl) ?_
        refine lv_iconst (v := 1) hx hb dX14_make_32 (by decide) ?_
        have kb_1 : bd 1 1 (1 : Int32) := ⟨by decide, by decide⟩
        have go_ := g
        refine g_put (C := RX14) (T := TX14) (N := 67) hx hb hts (mc_ inX14) tyX14 tyX14_ok nmX14 hown hK g ma0_ ka0_ (by decide) rfl 53 (by decide) (hts _ (List.mem_cons_of_mem _ t_2199)) (fun _ h9 => h9) rfl rfl (okV_i (bd_sub kb_1 (by decide))) rfl rfl (by decide) (Or.inr (Or.inl (by decide))) (fx' := [(14, 52, a0_, .int x_18), (14, 51, a0_, .int x_14), (12, 0, q0_, .int x_6), (14, 1, a0_, .ref q0_)]) rfl dX14_make_33 (fun f H locs hM_21 g => ?_)
        have hG_22 := rOK.frame hM_21 go_.2.2.2.1 ma0_ ka0_ (by decide) (by decide) hG_11
        have hG_23 := isV.frame hM_21 go_.2.2.2.1 mq0_ kq0_ (by decide) (by decide) hG_12
        refine lv_aload_n hx hb dX14_make_36 rfl (lv_at hl 0 rfl) ?_
        refine lv_iload_n hx hb dX14_make_37 rfl (lv_at hl 1 rfl) ?_
        obtain ⟨R_24, hR_25, hrw_26⟩ := (id hG_22)
        have hrw_26 := hrw_26 x_14 x_18 (fx_at g (i := 2) rfl).2.2.2 (fx_at g (i := 1) rfl).2.2.2
        have go_ := g
        refine g_callv (va_runV (As := [.int x1_]) (rest := []) ⟨hx, hb, hml, hown, hts⟩ (r_X14_addMake l dC dI L kd tys f H.size g.2.2.2.1 a0_ ma0_ ka0_ x1_ b_13 q0_ mq0_ kq0_ x_14 b_17 x_18 b_20 V_ δ_ hW R_24 hR_25 hG_23 hrw_26 hx_3 (g.fcts [4, 2, 1] rfl)) (cwV 1 hts (gV_ t_2594 t_2596 t_138 t_198 t_2597) rfl rfl rfl (by decide +kernel) ⟨(Nat.le_of_ble_eq_true rfl), (Nat.le_of_ble_eq_true rfl)⟩) (pre3V g hK ma0_ ka0_ (by decide) (q := (RX14, TX14, 67)) rfl) rfl rfl hl.1 rfl (lv_room (Nat.le_of_ble_eq_true rfl)) dX14_make_38 ⟨(Nat.le_of_ble_eq_true rfl), (Nat.le_of_ble_eq_true rfl)⟩) g hK (by decide) (by decide) (fx' := [(14, 53, a0_, .int 1), (12, 0, q0_, .int x_6), (14, 1, a0_, .ref q0_)]) rfl (fun fr_27 H locs hp hMr_27 g => ?_)
        obtain ⟨hx_28, hx_29, x_30, ⟨h_31, rh_31⟩, x_32, ⟨h_33, rh_33⟩, hF_34⟩ := hp
        have hG_35 := isV.frame hMr_27 go_.2.2.2.1 mq0_ kq0_ (by decide) (by decide) hG_23
        have g := g.more hF_34
        refine lv_aload_n hx hb dX14_make_41 rfl (lv_at hl 0 rfl) ?_
        refine g_getk (C := RX14) (T := TX14) (N := 67) hx hb hts (mc_ inX14) hown hK g rfl 52 (by decide) rfl (hts _ (List.mem_cons_of_mem _ t_2198)) (fun _ h9 => h9) 1 rfl dX14_make_42 ?_
        refine lv_iconst (v := 1) hx hb dX14_make_45 (by decide) ?_
        refine lv_isub hx hb dX14_make_46 ?_
        refine lv_topi (fun y_36 ey_36 => ?_)
        have ty_36 := sub_bd ey_36 h_33 kb_1 (by decide)
        have b_37 : bd 0 2 y_36 := sub_rg ty_36 h_33 kb_1 (by decide)
        subst hQ
        exact W.iret (v := y_36) hx hb hr (fun t ht hW => ⟨⟨_, _, rfl, ⟨(rOK.of hx_28 g 0 1 rfl rfl (hx_29.1 _ _ (by have h9_0 := b_13; unfold bd at h9_0; have h9_1 := b_17; unfold bd at h9_1; have h9_2 := b_20; unfold bd at h9_2; have h9_3 := h_31; unfold bd at h9_3; have h9_4 := h_33; unfold bd at h9_4; have h9_5 := h_7; unfold bd at h9_5; have h9_6 := b_37; unfold bd at h9_6; have h8_0 := kb_1; unfold bd at h8_0; have h8_1 := kb_10; unfold bd at h8_1; have h8_2 := kb_3; unfold bd at h8_2; omega) (by have h9_0 := b_13; unfold bd at h9_0; have h9_1 := b_17; unfold bd at h9_1; have h9_2 := b_20; unfold bd at h9_2; have h9_3 := h_31; unfold bd at h9_3; have h9_4 := h_33; unfold bd at h9_4; have h9_5 := h_7; unfold bd at h9_5; have h9_6 := b_37; unfold bd at h9_6; have h8_0 := kb_1; unfold bd at h8_0; have h8_1 := kb_10; unfold bd at h8_1; have h8_2 := kb_3; unfold bd at h8_2; omega))), (bd_sub b_37 (by decide)), trivial⟩, q3_of g hK ht hW⟩, g.2.2.1.F ht⟩) g.2.2.1.2.2 dX14_make_47
      · have fc_19 := eq_f c_19
        have b_38 : bd 3 3 x_18 := eqX fc_19 bx_18 kb_3 (by decide)
        refine lv_bipush (v := (-3)) hx hb dX14_make_28 (by decide) ?_
        have kb_m3 : bd (-3) (-3) ((-3) : Int32) := ⟨by decide, by decide⟩
        subst hQ
        exact W.iret (v := (-3)) hx hb hr (fun t ht hW => ⟨⟨_, _, rfl, ⟨hG_11, (bd_sub kb_m3 (by decide)), trivial⟩, q3_of g hK ht hW⟩, g.2.2.1.F ht⟩) g.2.2.1.2.2 dX14_make_30
set_option maxHeartbeats 4000000 in
set_option maxRecDepth 100000 in
theorem r_X14_isArgument (l : Launch) (dC : Nat → ClassId) (dI : Nat → Nat → Nat) (L : List Nat) (kd : Nat → Nat) (tys : List (ClassId × FieldType)) (f0 : Nat → va_E) (sz : Nat) (hWT : WT L kd tys f0) (a0_ : Nat) (ma0_ : a0_ ∈ L) (ka0_ : kd a0_ = 14) (x1_ : Int32) (bx1_ : bd 0 109 x1_) (x2_ : Int32) (bx2_ : bd 0 0 x2_) (x3_ : Int32) (y0_ : Int32) (by0_ : bd 1 3 y0_) (hfx : Fs L kd f0 [(14, 52, a0_, .int y0_)]) : Met l yX14_isArgument (.code yX14_isArgument cX14_isArgument 4 (some .boolean) :: lw_g) ({ frames := 1, cells := 0, slots := 0, locals := 25 }) (va_Pc [.ref a0_, .int x1_, .int x2_, .int x3_] (P3 (dC, dI) L tys f0 sz)) (va_Qi (fun (r : Int32) (f : Nat → va_E) => (r = 0 ∧ True) ∨ (r = 1 ∧ True)) (Q3 (dC, dI) L kd tys [] [] f0 sz) (pA L sz)) 0 0 (pA L sz) := by
  refine Met.ofW (cc := cX14_isArgument) (maxL := 4) (ret := (some .boolean)) (by decide) rfl ?_
  intro p e s m args below meth c s₁ B hml hv
  obtain ⟨rfl, hsz, hP, hK, hD0⟩ := hv
  have hx := B.exec
  have hb := B.bytes
  have hr := B.returns
  have hts := atoms_spec (ws := (.code yX14_isArgument cX14_isArgument 4 (some .boolean) :: lw_g)) B.pre
  have hown : s.vm.findClass RX14 = some m.cls := findClass_of_methodNamed B.named
  have hlocks := B.notSynchronized
  subst hsz
  have g : G3 (dC, dI) L kd tys s f0 [] [] f0 s.heap [] [(14, 52, a0_, .int y0_)] := G3.start hP hD0 hWT hfx
  have hl := lv_entry ([.ref a0_, .int x1_, .int x2_, .int x3_]) (n := 4) (Nat.le_of_ble_eq_true rfl)
  rw [lg_entry_eq]
  generalize (lg_sl ([.ref a0_, .int x1_, .int x2_, .int x3_]) ++ List.replicate (4 - (lg_sl ([.ref a0_, .int x1_, .int x2_, .int x3_])).length) Slot.unset).toArray = ls at hl ⊢
  have hl : lv_has ls 4 [(0, .ref a0_), (1, .int x1_), (2, .int x2_), (3, .int x3_)] := hl
  refine W_q (fun Q hQ => ?_)
  refine lv_iload_n hx hb dX14_isArgument_0 rfl (lv_at hl 2 rfl) ?_
  refine lv_aload_n hx hb dX14_isArgument_1 rfl (lv_at hl 0 rfl) ?_
  refine g_getr (K := 12) (C := RX14) (T := TX14) (N := 67) hx hb hts (mc_ inX14) hown hK g ma0_ ka0_ (by decide) rfl 1 (by decide) rfl (hts _ (List.mem_cons_of_mem _ t_2147)) (fun _ h9 => h9) rfl dX14_isArgument_2 (fun a_1 ma_1 ka_1 g => ?_)
  refine g_getr (K := 175) (C := RX12) (T := TX12) (N := 60) hx hb hts (mc_ inX12) hown hK g ma_1 ka_1 (by decide) rfl 19 (by decide) rfl (hts _ (List.mem_cons_of_mem _ t_1944)) (fun _ h9 => h9) rfl dX14_isArgument_5 (fun a_2 ma_2 ka_2 g => ?_)
  refine lv_iload_n hx hb dX14_isArgument_8 rfl (lv_at hl 1 rfl) ?_
  refine g_iald hx hb hK g ma_2 ka_2 (by decide) rfl (in_bd bx1_ (by decide)) dX14_isArgument_9 (fun x_3 bx_3 cx_3 => ?_)
  refine lv_icmp_ge (tgt := 49) hx hb dX14_isArgument_10 (by decide) (fun c_4 => ?_) (fun c_4 => ?_)
  · have fc_4 := le_f c_4
    have b_5 : bd 0 0 x_3 := leL fc_4 bx_3 bx2_ (by decide)
    refine lv_iload_n hx hb dX14_isArgument_49 rfl (lv_at hl 3 rfl) ?_
    have kb_0 : bd 0 0 (0 : Int32) := ⟨by decide, by decide⟩
    refine lv_if_ne (tgt := 57) hx hb dX14_isArgument_50 (by decide) (fun c_6 => ?_) (fun c_6 => ?_)
    · have fc_6 := neq_f c_6
      refine lv_iconst (v := 0) hx hb dX14_isArgument_57 (by decide) ?_
      subst hQ
      exact W.zret (v := 0) hx hb hr (nar_z (bd_sub kb_0 (by decide) : bd 0 1 _).1 (bd_sub kb_0 (by decide) : bd 0 1 _).2) (fun t ht hW => ⟨⟨_, _, rfl, Or.inl ⟨rfl, trivial⟩, q3_of g hK ht hW⟩, g.2.2.1.F ht⟩) g.2.2.1.2.2 dX14_isArgument_58
    · have fc_6 := eq_f c_6
      have b_7 : bd 0 0 x3_ := eqX fc_6 (bdT x3_) kb_0 (by decide)
      refine lv_iconst (v := 1) hx hb dX14_isArgument_53 (by decide) ?_
      refine lv_goto (tgt := 58) hx hb dX14_isArgument_54 (by decide) ?_
      subst hQ
      have kb_1 : bd 1 1 (1 : Int32) := ⟨by decide, by decide⟩
      exact W.zret (v := 1) hx hb hr (nar_z (bd_sub kb_1 (by decide) : bd 0 1 _).1 (bd_sub kb_1 (by decide) : bd 0 1 _).2) (fun t ht hW => ⟨⟨_, _, rfl, Or.inr (⟨rfl, trivial⟩), q3_of g hK ht hW⟩, g.2.2.1.F ht⟩) g.2.2.1.2.2 dX14_isArgument_58
  · have fc_4 := nle_f c_4
    have b_8 : bd 1 3 x_3 := ltR fc_4 bx2_ bx_3 (by decide)
    refine lv_iload_n hx hb dX14_isArgument_13 rfl (lv_at hl 3 rfl) ?_
    refine lv_i2l hx hb dX14_isArgument_14 rfl ?_
    refine lv_topl (fun y_9 ey_9 => ?_)
    refine lv_aload_n hx hb dX14_isArgument_15 rfl (lv_at hl 0 rfl) ?_
    refine g_getk (C := RX14) (T := TX14) (N := 67) hx hb hts (mc_ inX14) hown hK g rfl 1 (by decide) rfl (hts _ (List.mem_cons_of_mem _ t_2147)) (fun _ h9 => h9) 1 rfl dX14_isArgument_16 ?_
    refine g_getr (K := 176) (C := RX12) (T := TX12) (N := 60) hx hb hts (mc_ inX12) hown hK g ma_1 ka_1 (by decide) rfl 20 (by decide) rfl (hts _ (List.mem_cons_of_mem _ t_1946)) (fun _ h9 => h9) rfl dX14_isArgument_19 (fun a_10 ma_10 ka_10 g => ?_)
    refine lv_iconst (v := 3) hx hb dX14_isArgument_22 (by decide) ?_
    refine lv_iload_n hx hb dX14_isArgument_23 rfl (lv_at hl 1 rfl) ?_
    refine lv_imul hx hb dX14_isArgument_24 ?_
    refine lv_topi (fun y_11 ey_11 => ?_)
    have ty_11 := cmul_bd ey_11 (c := 3) (by decide) bx1_ (by decide)
    have b_12 : bd 0 327 y_11 := mulc_rg ty_11 bx1_ (by decide)
    refine lv_iload_n hx hb dX14_isArgument_25 rfl (lv_at hl 2 rfl) ?_
    refine lv_iadd hx hb dX14_isArgument_26 ?_
    refine lv_topi (fun y_13 ey_13 => ?_)
    have ty_13 := add_bd ey_13 b_12 bx2_ (by decide)
    have b_14 : bd 0 327 y_13 := add_rg ty_13 b_12 bx2_ (by decide)
    refine g_iald hx hb hK g ma_10 ka_10 (by decide) rfl (in_bd b_14 (by decide)) dX14_isArgument_27 (fun x_15 bx_15 cx_15 => ?_)
    refine lv_i2l hx hb dX14_isArgument_28 rfl ?_
    refine lv_topl (fun y_16 ey_16 => ?_)
    refine lv_aload_n hx hb dX14_isArgument_29 rfl (lv_at hl 0 rfl) ?_
    refine g_getk (C := RX14) (T := TX14) (N := 67) hx hb hts (mc_ inX14) hown hK g rfl 1 (by decide) rfl (hts _ (List.mem_cons_of_mem _ t_2147)) (fun _ h9 => h9) 2 rfl dX14_isArgument_30 ?_
    refine g_getr (K := 177) (C := RX12) (T := TX12) (N := 60) hx hb hts (mc_ inX12) hown hK g ma_1 ka_1 (by decide) rfl 21 (by decide) rfl (hts _ (List.mem_cons_of_mem _ t_1948)) (fun _ h9 => h9) rfl dX14_isArgument_33 (fun a_17 ma_17 ka_17 g => ?_)
    refine lv_iconst (v := 3) hx hb dX14_isArgument_36 (by decide) ?_
    refine lv_iload_n hx hb dX14_isArgument_37 rfl (lv_at hl 1 rfl) ?_
    refine lv_imul hx hb dX14_isArgument_38 ?_
    refine lv_topi (fun y_18 ey_18 => ?_)
    obtain rfl : y_11 = y_18 := ey_11.trans ey_18.symm
    refine lv_iload_n hx hb dX14_isArgument_39 rfl (lv_at hl 2 rfl) ?_
    refine lv_iadd hx hb dX14_isArgument_40 ?_
    refine lv_topi (fun y_19 ey_19 => ?_)
    obtain rfl : y_13 = y_19 := ey_13.trans ey_19.symm
    refine g_iald hx hb hK g ma_17 ka_17 (by decide) rfl (in_bd b_14 (by decide)) dX14_isArgument_41 (fun x_20 bx_20 cx_20 => ?_)
    refine lv_i2l hx hb dX14_isArgument_42 rfl ?_
    refine lv_topl (fun y_21 ey_21 => ?_)
    refine g_calli (va_runS (As := [.long y_9, .long y_16, .long y_21]) (rest := []) ⟨hx, hb, hml, hown, hts⟩ (r_X14_in l dC dI L kd tys f0 s.heap.size g.2.2.2.1 y_9 y_16 y_21) (va_cwS 3 hts (gS_ t_2448 t_2449 t_198 t_2450) rfl rfl rfl (by decide +kernel) ⟨(Nat.le_of_ble_eq_true rfl), (Nat.le_of_ble_eq_true rfl)⟩) (pre3S g hK) rfl rfl hl.1 rfl (lv_room (Nat.le_of_ble_eq_true rfl)) dX14_isArgument_43 ⟨(Nat.le_of_ble_eq_true rfl), (Nat.le_of_ble_eq_true rfl)⟩) g hK (by decide) (by decide) (fx' := [(12, 21, a_1, .ref a_17), (12, 20, a_1, .ref a_10), (12, 19, a_1, .ref a_2), (14, 1, a0_, .ref a_1), (14, 52, a0_, .int y0_)]) rfl (fun r_22 fr_22 H locs hp hMr_22 g => ?_)
    rcases hp with ⟨hx_23, h_24, -⟩ | ⟨h_25, h_26, -⟩
    · obtain rfl : r_22 = 0 := h_24
      refine lv_goto (tgt := 58) hx hb dX14_isArgument_46 (by decide) ?_
      subst hQ
      have kb_0 : bd 0 0 (0 : Int32) := ⟨by decide, by decide⟩
      exact W.zret (v := 0) hx hb hr (nar_z (bd_sub kb_0 (by decide) : bd 0 1 _).1 (bd_sub kb_0 (by decide) : bd 0 1 _).2) (fun t ht hW => ⟨⟨_, _, rfl, Or.inl ⟨rfl, trivial⟩, q3_of g hK ht hW⟩, g.2.2.1.F ht⟩) g.2.2.1.2.2 dX14_isArgument_58
    · obtain rfl : r_22 = 1 := h_25
      have f_27 : x_15.toInt ≤ x3_.toInt := in_le h_26.1 (in_v ey_16) (in_v ey_9)
      have f_28 : x3_.toInt ≤ x_20.toInt := in_le h_26.2 (in_v ey_9) (in_v ey_21)
      refine lv_goto (tgt := 58) hx hb dX14_isArgument_46 (by decide) ?_
      subst hQ
      have kb_1 : bd 1 1 (1 : Int32) := ⟨by decide, by decide⟩
      exact W.zret (v := 1) hx hb hr (nar_z (bd_sub kb_1 (by decide) : bd 0 1 _).1 (bd_sub kb_1 (by decide) : bd 0 1 _).2) (fun t ht hW => ⟨⟨_, _, rfl, Or.inr (⟨rfl, trivial⟩), q3_of g hK ht hW⟩, g.2.2.1.F ht⟩) g.2.2.1.2.2 dX14_isArgument_58
set_option maxHeartbeats 4000000 in
set_option maxRecDepth 100000 in
theorem r_X14_isArgument_2 (l : Launch) (dC : Nat → ClassId) (dI : Nat → Nat → Nat) (L : List Nat) (kd : Nat → Nat) (tys : List (ClassId × FieldType)) (f0 : Nat → va_E) (sz : Nat) (hWT : WT L kd tys f0) (a0_ : Nat) (ma0_ : a0_ ∈ L) (ka0_ : kd a0_ = 14) (x1_ : Int32) (bx1_ : bd 0 109 x1_) (x2_ : Int32) (bx2_ : bd 1 1 x2_) (x3_ : Int32) (y0_ : Int32) (by0_ : bd 1 3 y0_) (hfx : Fs L kd f0 [(14, 52, a0_, .int y0_)]) : Met l yX14_isArgument (.code yX14_isArgument cX14_isArgument 4 (some .boolean) :: lw_g) ({ frames := 1, cells := 0, slots := 0, locals := 25 }) (va_Pc [.ref a0_, .int x1_, .int x2_, .int x3_] (P3 (dC, dI) L tys f0 sz)) (va_Qi (fun (r : Int32) (f : Nat → va_E) => (r = 0 ∧ True) ∨ (r = 1 ∧ True)) (Q3 (dC, dI) L kd tys [] [] f0 sz) (pA L sz)) 0 0 (pA L sz) := by
  refine Met.ofW (cc := cX14_isArgument) (maxL := 4) (ret := (some .boolean)) (by decide) rfl ?_
  intro p e s m args below meth c s₁ B hml hv
  obtain ⟨rfl, hsz, hP, hK, hD0⟩ := hv
  have hx := B.exec
  have hb := B.bytes
  have hr := B.returns
  have hts := atoms_spec (ws := (.code yX14_isArgument cX14_isArgument 4 (some .boolean) :: lw_g)) B.pre
  have hown : s.vm.findClass RX14 = some m.cls := findClass_of_methodNamed B.named
  have hlocks := B.notSynchronized
  subst hsz
  have g : G3 (dC, dI) L kd tys s f0 [] [] f0 s.heap [] [(14, 52, a0_, .int y0_)] := G3.start hP hD0 hWT hfx
  have hl := lv_entry ([.ref a0_, .int x1_, .int x2_, .int x3_]) (n := 4) (Nat.le_of_ble_eq_true rfl)
  rw [lg_entry_eq]
  generalize (lg_sl ([.ref a0_, .int x1_, .int x2_, .int x3_]) ++ List.replicate (4 - (lg_sl ([.ref a0_, .int x1_, .int x2_, .int x3_])).length) Slot.unset).toArray = ls at hl ⊢
  have hl : lv_has ls 4 [(0, .ref a0_), (1, .int x1_), (2, .int x2_), (3, .int x3_)] := hl
  refine W_q (fun Q hQ => ?_)
  refine lv_iload_n hx hb dX14_isArgument_0 rfl (lv_at hl 2 rfl) ?_
  refine lv_aload_n hx hb dX14_isArgument_1 rfl (lv_at hl 0 rfl) ?_
  refine g_getr (K := 12) (C := RX14) (T := TX14) (N := 67) hx hb hts (mc_ inX14) hown hK g ma0_ ka0_ (by decide) rfl 1 (by decide) rfl (hts _ (List.mem_cons_of_mem _ t_2147)) (fun _ h9 => h9) rfl dX14_isArgument_2 (fun a_1 ma_1 ka_1 g => ?_)
  refine g_getr (K := 175) (C := RX12) (T := TX12) (N := 60) hx hb hts (mc_ inX12) hown hK g ma_1 ka_1 (by decide) rfl 19 (by decide) rfl (hts _ (List.mem_cons_of_mem _ t_1944)) (fun _ h9 => h9) rfl dX14_isArgument_5 (fun a_2 ma_2 ka_2 g => ?_)
  refine lv_iload_n hx hb dX14_isArgument_8 rfl (lv_at hl 1 rfl) ?_
  refine g_iald hx hb hK g ma_2 ka_2 (by decide) rfl (in_bd bx1_ (by decide)) dX14_isArgument_9 (fun x_3 bx_3 cx_3 => ?_)
  refine lv_icmp_ge (tgt := 49) hx hb dX14_isArgument_10 (by decide) (fun c_4 => ?_) (fun c_4 => ?_)
  · have fc_4 := le_f c_4
    have b_5 : bd 0 1 x_3 := leL fc_4 bx_3 bx2_ (by decide)
    refine lv_iload_n hx hb dX14_isArgument_49 rfl (lv_at hl 3 rfl) ?_
    have kb_0 : bd 0 0 (0 : Int32) := ⟨by decide, by decide⟩
    refine lv_if_ne (tgt := 57) hx hb dX14_isArgument_50 (by decide) (fun c_6 => ?_) (fun c_6 => ?_)
    · have fc_6 := neq_f c_6
      refine lv_iconst (v := 0) hx hb dX14_isArgument_57 (by decide) ?_
      subst hQ
      exact W.zret (v := 0) hx hb hr (nar_z (bd_sub kb_0 (by decide) : bd 0 1 _).1 (bd_sub kb_0 (by decide) : bd 0 1 _).2) (fun t ht hW => ⟨⟨_, _, rfl, Or.inl ⟨rfl, trivial⟩, q3_of g hK ht hW⟩, g.2.2.1.F ht⟩) g.2.2.1.2.2 dX14_isArgument_58
    · have fc_6 := eq_f c_6
      have b_7 : bd 0 0 x3_ := eqX fc_6 (bdT x3_) kb_0 (by decide)
      refine lv_iconst (v := 1) hx hb dX14_isArgument_53 (by decide) ?_
      refine lv_goto (tgt := 58) hx hb dX14_isArgument_54 (by decide) ?_
      subst hQ
      have kb_1 : bd 1 1 (1 : Int32) := ⟨by decide, by decide⟩
      exact W.zret (v := 1) hx hb hr (nar_z (bd_sub kb_1 (by decide) : bd 0 1 _).1 (bd_sub kb_1 (by decide) : bd 0 1 _).2) (fun t ht hW => ⟨⟨_, _, rfl, Or.inr (⟨rfl, trivial⟩), q3_of g hK ht hW⟩, g.2.2.1.F ht⟩) g.2.2.1.2.2 dX14_isArgument_58
  · have fc_4 := nle_f c_4
    have b_8 : bd 2 3 x_3 := ltR fc_4 bx2_ bx_3 (by decide)
    refine lv_iload_n hx hb dX14_isArgument_13 rfl (lv_at hl 3 rfl) ?_
    refine lv_i2l hx hb dX14_isArgument_14 rfl ?_
    refine lv_topl (fun y_9 ey_9 => ?_)
    refine lv_aload_n hx hb dX14_isArgument_15 rfl (lv_at hl 0 rfl) ?_
    refine g_getk (C := RX14) (T := TX14) (N := 67) hx hb hts (mc_ inX14) hown hK g rfl 1 (by decide) rfl (hts _ (List.mem_cons_of_mem _ t_2147)) (fun _ h9 => h9) 1 rfl dX14_isArgument_16 ?_
    refine g_getr (K := 176) (C := RX12) (T := TX12) (N := 60) hx hb hts (mc_ inX12) hown hK g ma_1 ka_1 (by decide) rfl 20 (by decide) rfl (hts _ (List.mem_cons_of_mem _ t_1946)) (fun _ h9 => h9) rfl dX14_isArgument_19 (fun a_10 ma_10 ka_10 g => ?_)
    refine lv_iconst (v := 3) hx hb dX14_isArgument_22 (by decide) ?_
    refine lv_iload_n hx hb dX14_isArgument_23 rfl (lv_at hl 1 rfl) ?_
    refine lv_imul hx hb dX14_isArgument_24 ?_
    refine lv_topi (fun y_11 ey_11 => ?_)
    have ty_11 := cmul_bd ey_11 (c := 3) (by decide) bx1_ (by decide)
    have b_12 : bd 0 327 y_11 := mulc_rg ty_11 bx1_ (by decide)
    refine lv_iload_n hx hb dX14_isArgument_25 rfl (lv_at hl 2 rfl) ?_
    refine lv_iadd hx hb dX14_isArgument_26 ?_
    refine lv_topi (fun y_13 ey_13 => ?_)
    have ty_13 := add_bd ey_13 b_12 bx2_ (by decide)
    have b_14 : bd 1 328 y_13 := add_rg ty_13 b_12 bx2_ (by decide)
    refine g_iald hx hb hK g ma_10 ka_10 (by decide) rfl (in_bd b_14 (by decide)) dX14_isArgument_27 (fun x_15 bx_15 cx_15 => ?_)
    refine lv_i2l hx hb dX14_isArgument_28 rfl ?_
    refine lv_topl (fun y_16 ey_16 => ?_)
    refine lv_aload_n hx hb dX14_isArgument_29 rfl (lv_at hl 0 rfl) ?_
    refine g_getk (C := RX14) (T := TX14) (N := 67) hx hb hts (mc_ inX14) hown hK g rfl 1 (by decide) rfl (hts _ (List.mem_cons_of_mem _ t_2147)) (fun _ h9 => h9) 2 rfl dX14_isArgument_30 ?_
    refine g_getr (K := 177) (C := RX12) (T := TX12) (N := 60) hx hb hts (mc_ inX12) hown hK g ma_1 ka_1 (by decide) rfl 21 (by decide) rfl (hts _ (List.mem_cons_of_mem _ t_1948)) (fun _ h9 => h9) rfl dX14_isArgument_33 (fun a_17 ma_17 ka_17 g => ?_)
    refine lv_iconst (v := 3) hx hb dX14_isArgument_36 (by decide) ?_
    refine lv_iload_n hx hb dX14_isArgument_37 rfl (lv_at hl 1 rfl) ?_
    refine lv_imul hx hb dX14_isArgument_38 ?_
    refine lv_topi (fun y_18 ey_18 => ?_)
    obtain rfl : y_11 = y_18 := ey_11.trans ey_18.symm
    refine lv_iload_n hx hb dX14_isArgument_39 rfl (lv_at hl 2 rfl) ?_
    refine lv_iadd hx hb dX14_isArgument_40 ?_
    refine lv_topi (fun y_19 ey_19 => ?_)
    obtain rfl : y_13 = y_19 := ey_13.trans ey_19.symm
    refine g_iald hx hb hK g ma_17 ka_17 (by decide) rfl (in_bd b_14 (by decide)) dX14_isArgument_41 (fun x_20 bx_20 cx_20 => ?_)
    refine lv_i2l hx hb dX14_isArgument_42 rfl ?_
    refine lv_topl (fun y_21 ey_21 => ?_)
    refine g_calli (va_runS (As := [.long y_9, .long y_16, .long y_21]) (rest := []) ⟨hx, hb, hml, hown, hts⟩ (r_X14_in l dC dI L kd tys f0 s.heap.size g.2.2.2.1 y_9 y_16 y_21) (va_cwS 3 hts (gS_ t_2448 t_2449 t_198 t_2450) rfl rfl rfl (by decide +kernel) ⟨(Nat.le_of_ble_eq_true rfl), (Nat.le_of_ble_eq_true rfl)⟩) (pre3S g hK) rfl rfl hl.1 rfl (lv_room (Nat.le_of_ble_eq_true rfl)) dX14_isArgument_43 ⟨(Nat.le_of_ble_eq_true rfl), (Nat.le_of_ble_eq_true rfl)⟩) g hK (by decide) (by decide) (fx' := [(12, 21, a_1, .ref a_17), (12, 20, a_1, .ref a_10), (12, 19, a_1, .ref a_2), (14, 1, a0_, .ref a_1), (14, 52, a0_, .int y0_)]) rfl (fun r_22 fr_22 H locs hp hMr_22 g => ?_)
    rcases hp with ⟨hx_23, h_24, -⟩ | ⟨h_25, h_26, -⟩
    · obtain rfl : r_22 = 0 := h_24
      refine lv_goto (tgt := 58) hx hb dX14_isArgument_46 (by decide) ?_
      subst hQ
      have kb_0 : bd 0 0 (0 : Int32) := ⟨by decide, by decide⟩
      exact W.zret (v := 0) hx hb hr (nar_z (bd_sub kb_0 (by decide) : bd 0 1 _).1 (bd_sub kb_0 (by decide) : bd 0 1 _).2) (fun t ht hW => ⟨⟨_, _, rfl, Or.inl ⟨rfl, trivial⟩, q3_of g hK ht hW⟩, g.2.2.1.F ht⟩) g.2.2.1.2.2 dX14_isArgument_58
    · obtain rfl : r_22 = 1 := h_25
      have f_27 : x_15.toInt ≤ x3_.toInt := in_le h_26.1 (in_v ey_16) (in_v ey_9)
      have f_28 : x3_.toInt ≤ x_20.toInt := in_le h_26.2 (in_v ey_9) (in_v ey_21)
      refine lv_goto (tgt := 58) hx hb dX14_isArgument_46 (by decide) ?_
      subst hQ
      have kb_1 : bd 1 1 (1 : Int32) := ⟨by decide, by decide⟩
      exact W.zret (v := 1) hx hb hr (nar_z (bd_sub kb_1 (by decide) : bd 0 1 _).1 (bd_sub kb_1 (by decide) : bd 0 1 _).2) (fun t ht hW => ⟨⟨_, _, rfl, Or.inr (⟨rfl, trivial⟩), q3_of g hK ht hW⟩, g.2.2.1.F ht⟩) g.2.2.1.2.2 dX14_isArgument_58
set_option maxHeartbeats 4000000 in
set_option maxRecDepth 100000 in
theorem r_X14_isArgument_3 (l : Launch) (dC : Nat → ClassId) (dI : Nat → Nat → Nat) (L : List Nat) (kd : Nat → Nat) (tys : List (ClassId × FieldType)) (f0 : Nat → va_E) (sz : Nat) (hWT : WT L kd tys f0) (a0_ : Nat) (ma0_ : a0_ ∈ L) (ka0_ : kd a0_ = 14) (x1_ : Int32) (bx1_ : bd 0 109 x1_) (x2_ : Int32) (bx2_ : bd 2 2 x2_) (x3_ : Int32) (y0_ : Int32) (by0_ : bd 1 3 y0_) (hfx : Fs L kd f0 [(14, 52, a0_, .int y0_)]) : Met l yX14_isArgument (.code yX14_isArgument cX14_isArgument 4 (some .boolean) :: lw_g) ({ frames := 1, cells := 0, slots := 0, locals := 25 }) (va_Pc [.ref a0_, .int x1_, .int x2_, .int x3_] (P3 (dC, dI) L tys f0 sz)) (va_Qi (fun (r : Int32) (f : Nat → va_E) => (r = 0 ∧ True) ∨ (r = 1 ∧ True)) (Q3 (dC, dI) L kd tys [] [] f0 sz) (pA L sz)) 0 0 (pA L sz) := by
  refine Met.ofW (cc := cX14_isArgument) (maxL := 4) (ret := (some .boolean)) (by decide) rfl ?_
  intro p e s m args below meth c s₁ B hml hv
  obtain ⟨rfl, hsz, hP, hK, hD0⟩ := hv
  have hx := B.exec
  have hb := B.bytes
  have hr := B.returns
  have hts := atoms_spec (ws := (.code yX14_isArgument cX14_isArgument 4 (some .boolean) :: lw_g)) B.pre
  have hown : s.vm.findClass RX14 = some m.cls := findClass_of_methodNamed B.named
  have hlocks := B.notSynchronized
  subst hsz
  have g : G3 (dC, dI) L kd tys s f0 [] [] f0 s.heap [] [(14, 52, a0_, .int y0_)] := G3.start hP hD0 hWT hfx
  have hl := lv_entry ([.ref a0_, .int x1_, .int x2_, .int x3_]) (n := 4) (Nat.le_of_ble_eq_true rfl)
  rw [lg_entry_eq]
  generalize (lg_sl ([.ref a0_, .int x1_, .int x2_, .int x3_]) ++ List.replicate (4 - (lg_sl ([.ref a0_, .int x1_, .int x2_, .int x3_])).length) Slot.unset).toArray = ls at hl ⊢
  have hl : lv_has ls 4 [(0, .ref a0_), (1, .int x1_), (2, .int x2_), (3, .int x3_)] := hl
  refine W_q (fun Q hQ => ?_)
  refine lv_iload_n hx hb dX14_isArgument_0 rfl (lv_at hl 2 rfl) ?_
  refine lv_aload_n hx hb dX14_isArgument_1 rfl (lv_at hl 0 rfl) ?_
  refine g_getr (K := 12) (C := RX14) (T := TX14) (N := 67) hx hb hts (mc_ inX14) hown hK g ma0_ ka0_ (by decide) rfl 1 (by decide) rfl (hts _ (List.mem_cons_of_mem _ t_2147)) (fun _ h9 => h9) rfl dX14_isArgument_2 (fun a_1 ma_1 ka_1 g => ?_)
  refine g_getr (K := 175) (C := RX12) (T := TX12) (N := 60) hx hb hts (mc_ inX12) hown hK g ma_1 ka_1 (by decide) rfl 19 (by decide) rfl (hts _ (List.mem_cons_of_mem _ t_1944)) (fun _ h9 => h9) rfl dX14_isArgument_5 (fun a_2 ma_2 ka_2 g => ?_)
  refine lv_iload_n hx hb dX14_isArgument_8 rfl (lv_at hl 1 rfl) ?_
  refine g_iald hx hb hK g ma_2 ka_2 (by decide) rfl (in_bd bx1_ (by decide)) dX14_isArgument_9 (fun x_3 bx_3 cx_3 => ?_)
  refine lv_icmp_ge (tgt := 49) hx hb dX14_isArgument_10 (by decide) (fun c_4 => ?_) (fun c_4 => ?_)
  · have fc_4 := le_f c_4
    have b_5 : bd 0 2 x_3 := leL fc_4 bx_3 bx2_ (by decide)
    refine lv_iload_n hx hb dX14_isArgument_49 rfl (lv_at hl 3 rfl) ?_
    have kb_0 : bd 0 0 (0 : Int32) := ⟨by decide, by decide⟩
    refine lv_if_ne (tgt := 57) hx hb dX14_isArgument_50 (by decide) (fun c_6 => ?_) (fun c_6 => ?_)
    · have fc_6 := neq_f c_6
      refine lv_iconst (v := 0) hx hb dX14_isArgument_57 (by decide) ?_
      subst hQ
      exact W.zret (v := 0) hx hb hr (nar_z (bd_sub kb_0 (by decide) : bd 0 1 _).1 (bd_sub kb_0 (by decide) : bd 0 1 _).2) (fun t ht hW => ⟨⟨_, _, rfl, Or.inl ⟨rfl, trivial⟩, q3_of g hK ht hW⟩, g.2.2.1.F ht⟩) g.2.2.1.2.2 dX14_isArgument_58
    · have fc_6 := eq_f c_6
      have b_7 : bd 0 0 x3_ := eqX fc_6 (bdT x3_) kb_0 (by decide)
      refine lv_iconst (v := 1) hx hb dX14_isArgument_53 (by decide) ?_
      refine lv_goto (tgt := 58) hx hb dX14_isArgument_54 (by decide) ?_
      subst hQ
      have kb_1 : bd 1 1 (1 : Int32) := ⟨by decide, by decide⟩
      exact W.zret (v := 1) hx hb hr (nar_z (bd_sub kb_1 (by decide) : bd 0 1 _).1 (bd_sub kb_1 (by decide) : bd 0 1 _).2) (fun t ht hW => ⟨⟨_, _, rfl, Or.inr (⟨rfl, trivial⟩), q3_of g hK ht hW⟩, g.2.2.1.F ht⟩) g.2.2.1.2.2 dX14_isArgument_58
  · have fc_4 := nle_f c_4
    have b_8 : bd 3 3 x_3 := ltR fc_4 bx2_ bx_3 (by decide)
    refine lv_iload_n hx hb dX14_isArgument_13 rfl (lv_at hl 3 rfl) ?_
    refine lv_i2l hx hb dX14_isArgument_14 rfl ?_
    refine lv_topl (fun y_9 ey_9 => ?_)
    refine lv_aload_n hx hb dX14_isArgument_15 rfl (lv_at hl 0 rfl) ?_
    refine g_getk (C := RX14) (T := TX14) (N := 67) hx hb hts (mc_ inX14) hown hK g rfl 1 (by decide) rfl (hts _ (List.mem_cons_of_mem _ t_2147)) (fun _ h9 => h9) 1 rfl dX14_isArgument_16 ?_
    refine g_getr (K := 176) (C := RX12) (T := TX12) (N := 60) hx hb hts (mc_ inX12) hown hK g ma_1 ka_1 (by decide) rfl 20 (by decide) rfl (hts _ (List.mem_cons_of_mem _ t_1946)) (fun _ h9 => h9) rfl dX14_isArgument_19 (fun a_10 ma_10 ka_10 g => ?_)
    refine lv_iconst (v := 3) hx hb dX14_isArgument_22 (by decide) ?_
    refine lv_iload_n hx hb dX14_isArgument_23 rfl (lv_at hl 1 rfl) ?_
    refine lv_imul hx hb dX14_isArgument_24 ?_
    refine lv_topi (fun y_11 ey_11 => ?_)
    have ty_11 := cmul_bd ey_11 (c := 3) (by decide) bx1_ (by decide)
    have b_12 : bd 0 327 y_11 := mulc_rg ty_11 bx1_ (by decide)
    refine lv_iload_n hx hb dX14_isArgument_25 rfl (lv_at hl 2 rfl) ?_
    refine lv_iadd hx hb dX14_isArgument_26 ?_
    refine lv_topi (fun y_13 ey_13 => ?_)
    have ty_13 := add_bd ey_13 b_12 bx2_ (by decide)
    have b_14 : bd 2 329 y_13 := add_rg ty_13 b_12 bx2_ (by decide)
    refine g_iald hx hb hK g ma_10 ka_10 (by decide) rfl (in_bd b_14 (by decide)) dX14_isArgument_27 (fun x_15 bx_15 cx_15 => ?_)
    refine lv_i2l hx hb dX14_isArgument_28 rfl ?_
    refine lv_topl (fun y_16 ey_16 => ?_)
    refine lv_aload_n hx hb dX14_isArgument_29 rfl (lv_at hl 0 rfl) ?_
    refine g_getk (C := RX14) (T := TX14) (N := 67) hx hb hts (mc_ inX14) hown hK g rfl 1 (by decide) rfl (hts _ (List.mem_cons_of_mem _ t_2147)) (fun _ h9 => h9) 2 rfl dX14_isArgument_30 ?_
    refine g_getr (K := 177) (C := RX12) (T := TX12) (N := 60) hx hb hts (mc_ inX12) hown hK g ma_1 ka_1 (by decide) rfl 21 (by decide) rfl (hts _ (List.mem_cons_of_mem _ t_1948)) (fun _ h9 => h9) rfl dX14_isArgument_33 (fun a_17 ma_17 ka_17 g => ?_)
    refine lv_iconst (v := 3) hx hb dX14_isArgument_36 (by decide) ?_
    refine lv_iload_n hx hb dX14_isArgument_37 rfl (lv_at hl 1 rfl) ?_
    refine lv_imul hx hb dX14_isArgument_38 ?_
    refine lv_topi (fun y_18 ey_18 => ?_)
    obtain rfl : y_11 = y_18 := ey_11.trans ey_18.symm
    refine lv_iload_n hx hb dX14_isArgument_39 rfl (lv_at hl 2 rfl) ?_
    refine lv_iadd hx hb dX14_isArgument_40 ?_
    refine lv_topi (fun y_19 ey_19 => ?_)
    obtain rfl : y_13 = y_19 := ey_13.trans ey_19.symm
    refine g_iald hx hb hK g ma_17 ka_17 (by decide) rfl (in_bd b_14 (by decide)) dX14_isArgument_41 (fun x_20 bx_20 cx_20 => ?_)
    refine lv_i2l hx hb dX14_isArgument_42 rfl ?_
    refine lv_topl (fun y_21 ey_21 => ?_)
    refine g_calli (va_runS (As := [.long y_9, .long y_16, .long y_21]) (rest := []) ⟨hx, hb, hml, hown, hts⟩ (r_X14_in l dC dI L kd tys f0 s.heap.size g.2.2.2.1 y_9 y_16 y_21) (va_cwS 3 hts (gS_ t_2448 t_2449 t_198 t_2450) rfl rfl rfl (by decide +kernel) ⟨(Nat.le_of_ble_eq_true rfl), (Nat.le_of_ble_eq_true rfl)⟩) (pre3S g hK) rfl rfl hl.1 rfl (lv_room (Nat.le_of_ble_eq_true rfl)) dX14_isArgument_43 ⟨(Nat.le_of_ble_eq_true rfl), (Nat.le_of_ble_eq_true rfl)⟩) g hK (by decide) (by decide) (fx' := [(12, 21, a_1, .ref a_17), (12, 20, a_1, .ref a_10), (12, 19, a_1, .ref a_2), (14, 1, a0_, .ref a_1), (14, 52, a0_, .int y0_)]) rfl (fun r_22 fr_22 H locs hp hMr_22 g => ?_)
    rcases hp with ⟨hx_23, h_24, -⟩ | ⟨h_25, h_26, -⟩
    · obtain rfl : r_22 = 0 := h_24
      refine lv_goto (tgt := 58) hx hb dX14_isArgument_46 (by decide) ?_
      subst hQ
      have kb_0 : bd 0 0 (0 : Int32) := ⟨by decide, by decide⟩
      exact W.zret (v := 0) hx hb hr (nar_z (bd_sub kb_0 (by decide) : bd 0 1 _).1 (bd_sub kb_0 (by decide) : bd 0 1 _).2) (fun t ht hW => ⟨⟨_, _, rfl, Or.inl ⟨rfl, trivial⟩, q3_of g hK ht hW⟩, g.2.2.1.F ht⟩) g.2.2.1.2.2 dX14_isArgument_58
    · obtain rfl : r_22 = 1 := h_25
      have f_27 : x_15.toInt ≤ x3_.toInt := in_le h_26.1 (in_v ey_16) (in_v ey_9)
      have f_28 : x3_.toInt ≤ x_20.toInt := in_le h_26.2 (in_v ey_9) (in_v ey_21)
      refine lv_goto (tgt := 58) hx hb dX14_isArgument_46 (by decide) ?_
      subst hQ
      have kb_1 : bd 1 1 (1 : Int32) := ⟨by decide, by decide⟩
      exact W.zret (v := 1) hx hb hr (nar_z (bd_sub kb_1 (by decide) : bd 0 1 _).1 (bd_sub kb_1 (by decide) : bd 0 1 _).2) (fun t ht hW => ⟨⟨_, _, rfl, Or.inr (⟨rfl, trivial⟩), q3_of g hK ht hW⟩, g.2.2.1.F ht⟩) g.2.2.1.2.2 dX14_isArgument_58
set_option maxHeartbeats 4000000 in
set_option maxRecDepth 100000 in
theorem r_X14_addCall (l : Launch) (dC : Nat → ClassId) (dI : Nat → Nat → Nat) (L : List Nat) (kd : Nat → Nat) (tys : List (ClassId × FieldType)) (f0 : Nat → va_E) (sz : Nat) (hWT : WT L kd tys f0) (a0_ : Nat) (ma0_ : a0_ ∈ L) (ka0_ : kd a0_ = 14) (x1_ : Int32) (bx1_ : bd 0 2 x1_) (x2_ : Int32) (bx2_ : bd 0 11 x2_) (x3_ : Int32) (x4_ : Int32) (x5_ : Int32) (q0_ : Nat) (mq0_ : q0_ ∈ L) (kq0_ : kd q0_ = 12) (r_ : Int32) (br_ : bd 0 9 r_) (k_ : Int32) (bk_ : bd 0 3 k_) (V_ : PV) (δ_ : Nat → Nat) (hW : wfP V_ δ_) (RW_ : RW) (hGWa0_ : isW f0 a0_ RW_) (hGVq0_ : isV f0 q0_ V_) (hrw : rwOK V_ RW_ r_ k_) (ho : x1_.toInt < k_.toInt) (hm : x2_.toInt < (V_.i 15 (RW_.c x1_.toNatClampNeg).toNatClampNeg).toInt) (hfx : Fs L kd f0 [(14, 1, a0_, .ref q0_), (14, 51, a0_, .int r_), (14, 52, a0_, .int k_)]) : Met l yX14_addCall (.code yX14_addCall cX14_addCall 6 none :: lw_g) ({ frames := 0, cells := 0, slots := 0, locals := 0 }) (va_Pc [.ref a0_, .int x1_, .int x2_, .int x3_, .int x4_, .int x5_] (P3 (dC, dI) L tys f0 sz)) (va_Qv (fun (f : Nat → va_E) => ((isW f a0_ (RW_.adC r_ x1_ x2_ x3_ x4_ x5_)) ∧ (adOK V_ RW_ (RW_.adC r_ x1_ x2_ x3_ x4_ x5_) r_ k_ 0) ∧ ∃ z0_ : Int32, (bd 1 10 z0_ ∧ z0_.toInt = r_.toInt + 1) ∧ Fs L kd f [(14, 51, a0_, .int z0_)])) (Q3 (dC, dI) L kd tys [(14, 51)] [222, 223, 224, 225, 226] f0 sz) (pA L sz)) 0 0 (pA L sz) := by
  refine Met.ofW (cc := cX14_addCall) (maxL := 6) (ret := none) (by decide) rfl ?_
  intro p e s m args below meth c s₁ B hml hv
  obtain ⟨rfl, hsz, hP, hK, hD0⟩ := hv
  have hx := B.exec
  have hb := B.bytes
  have hr := B.returns
  have hts := atoms_spec (ws := (.code yX14_addCall cX14_addCall 6 none :: lw_g)) B.pre
  have hown : s.vm.findClass RX14 = some m.cls := findClass_of_methodNamed B.named
  have hlocks := B.notSynchronized
  subst hsz
  have g : G3 (dC, dI) L kd tys s f0 [(14, 51)] [222, 223, 224, 225, 226] f0 s.heap [] [(14, 1, a0_, .ref q0_), (14, 51, a0_, .int r_), (14, 52, a0_, .int k_)] := G3.start hP hD0 hWT hfx
  have hl := lv_entry ([.ref a0_, .int x1_, .int x2_, .int x3_, .int x4_, .int x5_]) (n := 6) (Nat.le_of_ble_eq_true rfl)
  rw [lg_entry_eq]
  generalize (lg_sl ([.ref a0_, .int x1_, .int x2_, .int x3_, .int x4_, .int x5_]) ++ List.replicate (6 - (lg_sl ([.ref a0_, .int x1_, .int x2_, .int x3_, .int x4_, .int x5_])).length) Slot.unset).toArray = ls at hl ⊢
  have hl : lv_has ls 6 [(0, .ref a0_), (1, .int x1_), (2, .int x2_), (3, .int x3_), (4, .int x4_), (5, .int x5_)] := hl
  refine W_q (fun Q hQ => ?_)
  refine lv_aload_n hx hb dX14_addCall_0 rfl (lv_at hl 0 rfl) ?_
  refine g_getr (K := 222) (C := RX14) (T := TX14) (N := 67) hx hb hts (mc_ inX14) hown hK g ma0_ ka0_ (by decide) rfl 46 (by decide) rfl (hts _ (List.mem_cons_of_mem _ t_2192)) (fun _ h9 => h9) rfl dX14_addCall_1 (fun a_1 ma_1 ka_1 g => ?_)
  refine lv_aload_n hx hb dX14_addCall_4 rfl (lv_at hl 0 rfl) ?_
  refine g_getk (C := RX14) (T := TX14) (N := 67) hx hb hts (mc_ inX14) hown hK g rfl 51 (by decide) rfl (hts _ (List.mem_cons_of_mem _ t_2197)) (fun _ h9 => h9) 2 rfl dX14_addCall_5 ?_
  refine lv_iload_n hx hb dX14_addCall_8 rfl (lv_at hl 1 rfl) ?_
  have gp_2 := g
  have go_ := g
  refine g_iastX hx hb hK g ma_1 ka_1 (by decide) rfl (in_bd br_ (by decide)) bx1_ (by decide) dX14_addCall_9 (fun f H locs hM_3 u_5 g => ?_)
  have hG_4 := isV.frame hM_3 go_.2.2.2.1 mq0_ kq0_ (by decide) (by decide) hGVq0_
  have hG_6 := hGWa0_.put46 gp_2 0 rfl ma0_ ka0_ ka_1 u_5
  refine lv_aload_n hx hb dX14_addCall_10 rfl (lv_at hl 0 rfl) ?_
  refine g_getr (K := 223) (C := RX14) (T := TX14) (N := 67) hx hb hts (mc_ inX14) hown hK g ma0_ ka0_ (by decide) rfl 47 (by decide) rfl (hts _ (List.mem_cons_of_mem _ t_2193)) (fun _ h9 => h9) rfl dX14_addCall_11 (fun a_7 ma_7 ka_7 g => ?_)
  refine lv_aload_n hx hb dX14_addCall_14 rfl (lv_at hl 0 rfl) ?_
  refine g_getk (C := RX14) (T := TX14) (N := 67) hx hb hts (mc_ inX14) hown hK g rfl 51 (by decide) rfl (hts _ (List.mem_cons_of_mem _ t_2197)) (fun _ h9 => h9) 3 rfl dX14_addCall_15 ?_
  refine lv_iload_n hx hb dX14_addCall_18 rfl (lv_at hl 2 rfl) ?_
  have gp_8 := g
  have go_ := g
  refine g_iastX hx hb hK g ma_7 ka_7 (by decide) rfl (in_bd br_ (by decide)) (bd_sub bx2_ (by decide)) (by decide) dX14_addCall_19 (fun f H locs hM_9 u_11 g => ?_)
  have hG_10 := isV.frame hM_9 go_.2.2.2.1 mq0_ kq0_ (by decide) (by decide) hG_4
  have hG_12 := hG_6.put47 gp_8 0 rfl ma0_ ka0_ ka_7 u_11
  refine lv_aload_n hx hb dX14_addCall_20 rfl (lv_at hl 0 rfl) ?_
  refine g_getr (K := 224) (C := RX14) (T := TX14) (N := 67) hx hb hts (mc_ inX14) hown hK g ma0_ ka0_ (by decide) rfl 48 (by decide) rfl (hts _ (List.mem_cons_of_mem _ t_2194)) (fun _ h9 => h9) rfl dX14_addCall_21 (fun a_13 ma_13 ka_13 g => ?_)
  refine lv_iconst (v := 3) hx hb dX14_addCall_24 (by decide) ?_
  refine lv_aload_n hx hb dX14_addCall_25 rfl (lv_at hl 0 rfl) ?_
  refine g_getk (C := RX14) (T := TX14) (N := 67) hx hb hts (mc_ inX14) hown hK g rfl 51 (by decide) rfl (hts _ (List.mem_cons_of_mem _ t_2197)) (fun _ h9 => h9) 4 rfl dX14_addCall_26 ?_
  refine lv_imul hx hb dX14_addCall_29 ?_
  refine lv_topi (fun y_14 ey_14 => ?_)
  have ty_14 := cmul_bd ey_14 (c := 3) (by decide) br_ (by decide)
  have b_15 : bd 0 27 y_14 := mulc_rg ty_14 br_ (by decide)
  refine lv_iload_n hx hb dX14_addCall_30 rfl (lv_at hl 3 rfl) ?_
  have gp_16 := g
  have go_ := g
  refine g_iastX hx hb hK g ma_13 ka_13 (by decide) rfl (in_bd b_15 (by decide)) (bdT x3_) (by decide) dX14_addCall_31 (fun f H locs hM_17 u_19 g => ?_)
  have hG_18 := isV.frame hM_17 go_.2.2.2.1 mq0_ kq0_ (by decide) (by decide) hG_10
  have hG_20 := hG_12.put48 gp_16 0 rfl ma0_ ka0_ ka_13 u_19
  refine lv_aload_n hx hb dX14_addCall_32 rfl (lv_at hl 0 rfl) ?_
  refine g_getk (C := RX14) (T := TX14) (N := 67) hx hb hts (mc_ inX14) hown hK g rfl 48 (by decide) rfl (hts _ (List.mem_cons_of_mem _ t_2194)) (fun _ h9 => h9) 0 rfl dX14_addCall_33 ?_
  refine lv_iconst (v := 3) hx hb dX14_addCall_36 (by decide) ?_
  refine lv_aload_n hx hb dX14_addCall_37 rfl (lv_at hl 0 rfl) ?_
  refine g_getk (C := RX14) (T := TX14) (N := 67) hx hb hts (mc_ inX14) hown hK g rfl 51 (by decide) rfl (hts _ (List.mem_cons_of_mem _ t_2197)) (fun _ h9 => h9) 4 rfl dX14_addCall_38 ?_
  refine lv_imul hx hb dX14_addCall_41 ?_
  refine lv_topi (fun y_21 ey_21 => ?_)
  obtain rfl : y_14 = y_21 := ey_14.trans ey_21.symm
  refine lv_iconst (v := 1) hx hb dX14_addCall_42 (by decide) ?_
  have kb_1 : bd 1 1 (1 : Int32) := ⟨by decide, by decide⟩
  refine lv_iadd hx hb dX14_addCall_43 ?_
  refine lv_topi (fun y_22 ey_22 => ?_)
  have ty_22 := add_bd ey_22 b_15 kb_1 (by decide)
  have b_23 : bd 1 28 y_22 := add_rg ty_22 b_15 kb_1 (by decide)
  refine lv_iload hx hb dX14_addCall_44 (lv_at hl 4 rfl) ?_
  have gp_24 := g
  have go_ := g
  refine g_iastX hx hb hK g ma_13 ka_13 (by decide) rfl (in_bd b_23 (by decide)) (bdT x4_) (by decide) dX14_addCall_46 (fun f H locs hM_25 u_27 g => ?_)
  have hG_26 := isV.frame hM_25 go_.2.2.2.1 mq0_ kq0_ (by decide) (by decide) hG_18
  have hG_28 := hG_20.put48 gp_24 0 rfl ma0_ ka0_ ka_13 u_27
  refine lv_aload_n hx hb dX14_addCall_47 rfl (lv_at hl 0 rfl) ?_
  refine g_getk (C := RX14) (T := TX14) (N := 67) hx hb hts (mc_ inX14) hown hK g rfl 48 (by decide) rfl (hts _ (List.mem_cons_of_mem _ t_2194)) (fun _ h9 => h9) 0 rfl dX14_addCall_48 ?_
  refine lv_iconst (v := 3) hx hb dX14_addCall_51 (by decide) ?_
  refine lv_aload_n hx hb dX14_addCall_52 rfl (lv_at hl 0 rfl) ?_
  refine g_getk (C := RX14) (T := TX14) (N := 67) hx hb hts (mc_ inX14) hown hK g rfl 51 (by decide) rfl (hts _ (List.mem_cons_of_mem _ t_2197)) (fun _ h9 => h9) 4 rfl dX14_addCall_53 ?_
  refine lv_imul hx hb dX14_addCall_56 ?_
  refine lv_topi (fun y_29 ey_29 => ?_)
  obtain rfl : y_14 = y_29 := ey_14.trans ey_29.symm
  refine lv_iconst (v := 2) hx hb dX14_addCall_57 (by decide) ?_
  have kb_2 : bd 2 2 (2 : Int32) := ⟨by decide, by decide⟩
  refine lv_iadd hx hb dX14_addCall_58 ?_
  refine lv_topi (fun y_30 ey_30 => ?_)
  have ty_30 := add_bd ey_30 b_15 kb_2 (by decide)
  have b_31 : bd 2 29 y_30 := add_rg ty_30 b_15 kb_2 (by decide)
  refine lv_iload hx hb dX14_addCall_59 (lv_at hl 5 rfl) ?_
  have gp_32 := g
  have go_ := g
  refine g_iastX hx hb hK g ma_13 ka_13 (by decide) rfl (in_bd b_31 (by decide)) (bdT x5_) (by decide) dX14_addCall_61 (fun f H locs hM_33 u_35 g => ?_)
  have hG_34 := isV.frame hM_33 go_.2.2.2.1 mq0_ kq0_ (by decide) (by decide) hG_26
  have hG_36 := hG_28.put48 gp_32 0 rfl ma0_ ka0_ ka_13 u_35
  refine lv_aload_n hx hb dX14_addCall_62 rfl (lv_at hl 0 rfl) ?_
  refine g_getr (K := 225) (C := RX14) (T := TX14) (N := 67) hx hb hts (mc_ inX14) hown hK g ma0_ ka0_ (by decide) rfl 49 (by decide) rfl (hts _ (List.mem_cons_of_mem _ t_2195)) (fun _ h9 => h9) rfl dX14_addCall_63 (fun a_37 ma_37 ka_37 g => ?_)
  refine lv_aload_n hx hb dX14_addCall_66 rfl (lv_at hl 0 rfl) ?_
  refine g_getk (C := RX14) (T := TX14) (N := 67) hx hb hts (mc_ inX14) hown hK g rfl 51 (by decide) rfl (hts _ (List.mem_cons_of_mem _ t_2197)) (fun _ h9 => h9) 5 rfl dX14_addCall_67 ?_
  refine lv_iconst (v := 0) hx hb dX14_addCall_70 (by decide) ?_
  have kb_0 : bd 0 0 (0 : Int32) := ⟨by decide, by decide⟩
  have go_ := g
  refine g_iast hx hb hK g ma_37 ka_37 (by decide) rfl (in_bd br_ (by decide)) (bd_sub kb_0 (by decide)) (by decide) dX14_addCall_71 (fun f H locs hM_38 g => ?_)
  have hG_39 := isV.frame hM_38 go_.2.2.2.1 mq0_ kq0_ (by decide) (by decide) hG_34
  have hG_40 := isW.frame hM_38 go_.2.2.2.1 ma0_ ka0_ (by decide) (by decide) hG_36
  refine lv_aload_n hx hb dX14_addCall_72 rfl (lv_at hl 0 rfl) ?_
  refine g_getr (K := 226) (C := RX14) (T := TX14) (N := 67) hx hb hts (mc_ inX14) hown hK g ma0_ ka0_ (by decide) rfl 50 (by decide) rfl (hts _ (List.mem_cons_of_mem _ t_2196)) (fun _ h9 => h9) rfl dX14_addCall_73 (fun a_41 ma_41 ka_41 g => ?_)
  refine lv_aload_n hx hb dX14_addCall_76 rfl (lv_at hl 0 rfl) ?_
  refine g_getk (C := RX14) (T := TX14) (N := 67) hx hb hts (mc_ inX14) hown hK g rfl 51 (by decide) rfl (hts _ (List.mem_cons_of_mem _ t_2197)) (fun _ h9 => h9) 6 rfl dX14_addCall_77 ?_
  refine lv_iconst (v := 0) hx hb dX14_addCall_80 (by decide) ?_
  have go_ := g
  refine g_iast hx hb hK g ma_41 ka_41 (by decide) rfl (in_bd br_ (by decide)) (bd_sub kb_0 (by decide)) (by decide) dX14_addCall_81 (fun f H locs hM_42 g => ?_)
  have hG_43 := isV.frame hM_42 go_.2.2.2.1 mq0_ kq0_ (by decide) (by decide) hG_39
  have hG_44 := isW.frame hM_42 go_.2.2.2.1 ma0_ ka0_ (by decide) (by decide) hG_40
  refine lv_aload_n hx hb dX14_addCall_82 rfl (lv_at hl 0 rfl) ?_
  refine lv_dup hx hb dX14_addCall_83 rfl ?_
  refine g_getk (C := RX14) (T := TX14) (N := 67) hx hb hts (mc_ inX14) hown hK g rfl 51 (by decide) rfl (hts _ (List.mem_cons_of_mem _ t_2197)) (fun _ h9 => h9) 6 rfl dX14_addCall_84 ?_
  refine lv_iconst (v := 1) hx hb dX14_addCall_87 (by decide) ?_
  refine lv_iadd hx hb dX14_addCall_88 ?_
  refine lv_topi (fun y_45 ey_45 => ?_)
  have ty_45 := add_bd ey_45 br_ kb_1 (by decide)
  have b_46 : bd 1 10 y_45 := add_rg ty_45 br_ kb_1 (by decide)
  have go_ := g
  refine g_put (C := RX14) (T := TX14) (N := 67) hx hb hts (mc_ inX14) tyX14 tyX14_ok nmX14 hown hK g ma0_ ka0_ (by decide) rfl 51 (by decide) (hts _ (List.mem_cons_of_mem _ t_2197)) (fun _ h9 => h9) rfl rfl (okV_i (bd_sub b_46 (by decide))) rfl rfl (by decide) (Or.inr (Or.inl (by decide))) (fx' := [(14, 50, a0_, .ref a_41), (14, 49, a0_, .ref a_37), (14, 48, a0_, .ref a_13), (14, 47, a0_, .ref a_7), (14, 46, a0_, .ref a_1), (14, 1, a0_, .ref q0_), (14, 52, a0_, .int k_)]) rfl dX14_addCall_89 (fun f H locs hM_47 g => ?_)
  have hG_48 := isV.frame hM_47 go_.2.2.2.1 mq0_ kq0_ (by decide) (by decide) hG_43
  have hG_49 := isW.frame hM_47 go_.2.2.2.1 ma0_ ka0_ (by decide) (by decide) hG_44
  subst hQ
  exact W.vret hx hb hr (fun t ht hW => ⟨⟨_, rfl, ⟨(isW.adC hG_49 br_.1 (by have h9_0 := bk_; unfold bd at h9_0; have h9_1 := br_; unfold bd at h9_1; have h9_2 := bx1_; unfold bd at h9_2; have h9_3 := bx2_; unfold bd at h9_3; have h9_4 := b_15; unfold bd at h9_4; have h9_5 := b_23; unfold bd at h9_5; have h9_6 := b_31; unfold bd at h9_6; have h9_7 := b_46; unfold bd at h9_7; have h8_0 := kb_0; unfold bd at h8_0; have h8_1 := kb_1; unfold bd at h8_1; have h8_2 := kb_2; unfold bd at h8_2; omega) (by have h9_0 := bk_; unfold bd at h9_0; have h9_1 := br_; unfold bd at h9_1; have h9_2 := bx1_; unfold bd at h9_2; have h9_3 := bx2_; unfold bd at h9_3; have h9_4 := b_15; unfold bd at h9_4; have h9_5 := b_23; unfold bd at h9_5; have h9_6 := b_31; unfold bd at h9_6; have h9_7 := b_46; unfold bd at h9_7; have h8_0 := kb_0; unfold bd at h8_0; have h8_1 := kb_1; unfold bd at h8_1; have h8_2 := kb_2; unfold bd at h8_2; omega) (by have h9_0 := bk_; unfold bd at h9_0; have h9_1 := br_; unfold bd at h9_1; have h9_2 := bx1_; unfold bd at h9_2; have h9_3 := bx2_; unfold bd at h9_3; have h9_4 := b_15; unfold bd at h9_4; have h9_5 := b_23; unfold bd at h9_5; have h9_6 := b_31; unfold bd at h9_6; have h9_7 := b_46; unfold bd at h9_7; have h8_0 := kb_0; unfold bd at h8_0; have h8_1 := kb_1; unfold bd at h8_1; have h8_2 := kb_2; unfold bd at h8_2; omega)), (adC_ok hrw br_.1 ⟨bx1_.1, ho⟩ ⟨bx2_.1, hm⟩), y_45, ⟨b_46, (by have h9_0 := bk_; unfold bd at h9_0; have h9_1 := br_; unfold bd at h9_1; have h9_2 := bx1_; unfold bd at h9_2; have h9_3 := bx2_; unfold bd at h9_3; have h9_4 := b_15; unfold bd at h9_4; have h9_5 := b_23; unfold bd at h9_5; have h9_6 := b_31; unfold bd at h9_6; have h9_7 := b_46; unfold bd at h9_7; have h8_0 := kb_0; unfold bd at h8_0; have h8_1 := kb_1; unfold bd at h8_1; have h8_2 := kb_2; unfold bd at h8_2; omega)⟩, (g.fcts [0] rfl)⟩, q3_of g hK ht hW⟩, g.2.2.1.F ht⟩) g.2.2.1.2.2 dX14_addCall_92
set_option maxHeartbeats 4000000 in
set_option maxRecDepth 100000 in
theorem r_X14_call (l : Launch) (dC : Nat → ClassId) (dI : Nat → Nat → Nat) (L : List Nat) (kd : Nat → Nat) (tys : List (ClassId × FieldType)) (f0 : Nat → va_E) (sz : Nat) (hWT : WT L kd tys f0) (a0_ : Nat) (ma0_ : a0_ ∈ L) (ka0_ : kd a0_ = 14) (x1_ : Int32) (x2_ : Int32) (x3_ : Int32) (x4_ : Int32) (x5_ : Int32) (q0_ : Nat) (mq0_ : q0_ ∈ L) (kq0_ : kd q0_ = 12) (V_ : PV) (δ_ : Nat → Nat) (hW : wfP V_ δ_) (hGwa0_ : rOK f0 a0_ V_) (hGVq0_ : isV f0 q0_ V_) (hfx : Fs L kd f0 [(14, 1, a0_, .ref q0_)]) : Met l yX14_call (.code yX14_call cX14_call 8 (some .int) :: lw_g) ({ frames := 2, cells := 0, slots := 0, locals := 48 }) (va_Pc [.ref a0_, .int x1_, .int x2_, .int x3_, .int x4_, .int x5_] (P3 (dC, dI) L tys f0 sz)) (va_Qi (fun (r : Int32) (f : Nat → va_E) => ((rOK f a0_ V_) ∧ bd (-3) 10 r ∧ True)) (Q3 (dC, dI) L kd tys [(14, 51), (14, 53)] [222, 223, 224, 225, 226] f0 sz) (pA L sz)) 0 0 (pA L sz) := by
  refine Met.ofW (cc := cX14_call) (maxL := 8) (ret := (some .int)) (by decide) rfl ?_
  intro p e s m args below meth c s₁ B hml hv
  obtain ⟨rfl, hsz, hP, hK, hD0⟩ := hv
  have hx := B.exec
  have hb := B.bytes
  have hr := B.returns
  have hts := atoms_spec (ws := (.code yX14_call cX14_call 8 (some .int) :: lw_g)) B.pre
  have hown : s.vm.findClass RX14 = some m.cls := findClass_of_methodNamed B.named
  have hlocks := B.notSynchronized
  subst hsz
  have g : G3 (dC, dI) L kd tys s f0 [(14, 51), (14, 53)] [222, 223, 224, 225, 226] f0 s.heap [] [(14, 1, a0_, .ref q0_)] := G3.start hP hD0 hWT hfx
  have hl := lv_entry ([.ref a0_, .int x1_, .int x2_, .int x3_, .int x4_, .int x5_]) (n := 8) (Nat.le_of_ble_eq_true rfl)
  rw [lg_entry_eq]
  generalize (lg_sl ([.ref a0_, .int x1_, .int x2_, .int x3_, .int x4_, .int x5_]) ++ List.replicate (8 - (lg_sl ([.ref a0_, .int x1_, .int x2_, .int x3_, .int x4_, .int x5_])).length) Slot.unset).toArray = ls at hl ⊢
  have hl : lv_has ls 8 [(0, .ref a0_), (1, .int x1_), (2, .int x2_), (3, .int x3_), (4, .int x4_), (5, .int x5_)] := hl
  refine W_q (fun Q hQ => ?_)
  obtain ⟨x_1, bx_1, g⟩ := g_facti g ma0_ ka0_ (by decide) 51 rfl
  obtain ⟨x_2, bx_2, g⟩ := g_facti g ma0_ ka0_ (by decide) 52 rfl
  obtain ⟨R_3, hR_4, hrw_5⟩ := (id hGwa0_)
  have hrw_5 := hrw_5 x_1 x_2 (fx_at g (i := 1) rfl).2.2.2 (fx_at g (i := 0) rfl).2.2.2
  refine lv_iload_n hx hb dX14_call_0 rfl (lv_at hl 1 rfl) ?_
  refine lv_i2l hx hb dX14_call_1 rfl ?_
  refine lv_topl (fun y_6 ey_6 => ?_)
  refine lv_lconst (v := 0) hx hb dX14_call_2 (by decide) ?_
  refine lv_aload_n hx hb dX14_call_3 rfl (lv_at hl 0 rfl) ?_
  refine g_getk (C := RX14) (T := TX14) (N := 67) hx hb hts (mc_ inX14) hown hK g rfl 52 (by decide) rfl (hts _ (List.mem_cons_of_mem _ t_2198)) (fun _ h9 => h9) 0 rfl dX14_call_4 ?_
  refine lv_iconst (v := 1) hx hb dX14_call_7 (by decide) ?_
  have kb_1 : bd 1 1 (1 : Int32) := ⟨by decide, by decide⟩
  refine lv_isub hx hb dX14_call_8 ?_
  refine lv_topi (fun y_7 ey_7 => ?_)
  have ty_7 := sub_bd ey_7 bx_2 kb_1 (by decide)
  have b_8 : bd (-1) 2 y_7 := sub_rg ty_7 bx_2 kb_1 (by decide)
  refine lv_i2l hx hb dX14_call_9 rfl ?_
  refine lv_topl (fun y_9 ey_9 => ?_)
  have go_ := g
  refine g_calli (va_runS (As := [.long y_6, .long 0, .long y_9]) (rest := []) ⟨hx, hb, hml, hown, hts⟩ (r_X14_in l dC dI L kd tys f0 s.heap.size g.2.2.2.1 y_6 0 y_9) (va_cwS 3 hts (gS_ t_2448 t_2449 t_198 t_2450) rfl rfl rfl (by decide +kernel) ⟨(Nat.le_of_ble_eq_true rfl), (Nat.le_of_ble_eq_true rfl)⟩) (pre3S g hK) rfl rfl hl.1 rfl (lv_room (Nat.le_of_ble_eq_true rfl)) dX14_call_10 ⟨(Nat.le_of_ble_eq_true rfl), (Nat.le_of_ble_eq_true rfl)⟩) g hK (by decide) (by decide) (fx' := [(14, 52, a0_, .int x_2), (14, 51, a0_, .int x_1), (14, 1, a0_, .ref q0_)]) rfl (fun r_10 fr_10 H locs hp hMr_10 g => ?_)
  rcases hp with ⟨hx_11, h_12, -⟩ | ⟨h_13, h_14, -⟩
  · have hG_15 := rOK.frame hMr_10 go_.2.2.2.1 ma0_ ka0_ (by decide) (by decide) hGwa0_
    have hG_16 := isV.frame hMr_10 go_.2.2.2.1 mq0_ kq0_ (by decide) (by decide) hGVq0_
    have hG_17 := isW.frame hMr_10 go_.2.2.2.1 ma0_ ka0_ (by decide) (by decide) hR_4
    obtain rfl : r_10 = 0 := h_12
    refine lv_if_ne (tgt := 19) hx hb dX14_call_13 (by decide) (fun c_ => absurd c_ (by decide)) (fun c_ => ?_)
    refine lv_bipush (v := (-2)) hx hb dX14_call_16 (by decide) ?_
    have kb_m2 : bd (-2) (-2) ((-2) : Int32) := ⟨by decide, by decide⟩
    subst hQ
    exact W.iret (v := (-2)) hx hb hr (fun t ht hW => ⟨⟨_, _, rfl, ⟨hG_15, (bd_sub kb_m2 (by decide)), trivial⟩, q3_of g hK ht hW⟩, g.2.2.1.F ht⟩) g.2.2.1.2.2 dX14_call_18
  · have hG_18 := rOK.frame hMr_10 go_.2.2.2.1 ma0_ ka0_ (by decide) (by decide) hGwa0_
    have hG_19 := isV.frame hMr_10 go_.2.2.2.1 mq0_ kq0_ (by decide) (by decide) hGVq0_
    have hG_20 := isW.frame hMr_10 go_.2.2.2.1 ma0_ ka0_ (by decide) (by decide) hR_4
    obtain rfl : r_10 = 1 := h_13
    have f_21 : (0 : Int32).toInt ≤ x1_.toInt := in_le h_14.1 (in_k (k := 0) (by decide) (by decide)) (in_v ey_6)
    have f_22 : x1_.toInt ≤ y_7.toInt := in_le h_14.2 (in_v ey_6) (in_v ey_9)
    have kb_0 : bd 0 0 (0 : Int32) := ⟨by decide, by decide⟩
    have b_23 : bd 0 2147483647 x1_ := leR f_21 kb_0 (bdT x1_) (by decide)
    have b_24 : bd 0 2 x1_ := leL f_22 b_23 b_8 (by decide)
    have b_25 : bd 0 2 y_7 := leR f_22 b_23 b_8 (by decide)
    have b_26 : bd 1 3 x_2 := sub_inv ty_7 b_25 bx_2 kb_1 (by decide)
    refine lv_if_ne (tgt := 19) hx hb dX14_call_13 (by decide) (fun c_ => ?_) (fun c_ => absurd c_ (by decide))
    refine lv_aload_n hx hb dX14_call_19 rfl (lv_at hl 0 rfl) ?_
    refine g_getr (K := 227) (C := RX14) (T := TX14) (N := 67) hx hb hts (mc_ inX14) hown hK g ma0_ ka0_ (by decide) rfl 54 (by decide) rfl (hts _ (List.mem_cons_of_mem _ t_2200)) (fun _ h9 => h9) rfl dX14_call_20 (fun a_27 ma_27 ka_27 g => ?_)
    refine lv_iload_n hx hb dX14_call_23 rfl (lv_at hl 1 rfl) ?_
    refine g_iald hx hb hK g ma_27 ka_27 (by decide) rfl (in_bd b_24 (by decide)) dX14_call_24 (fun x_28 bx_28 cx_28 => ?_)
    have vx_28 := hG_20.at54 g 0 rfl cx_28
    refine lv_istore (lv' := [(6, .int x_28), (0, .ref a0_), (1, .int x1_), (2, .int x2_), (3, .int x3_), (4, .int x4_), (5, .int x5_)]) hx hb dX14_call_25 hl (by decide) rfl (fun ls hl => ?_)
    refine lv_iload_n hx hb dX14_call_27 rfl (lv_at hl 3 rfl) ?_
    refine lv_i2l hx hb dX14_call_28 rfl ?_
    refine lv_topl (fun y_29 ey_29 => ?_)
    refine lv_lconst (v := 0) hx hb dX14_call_29 (by decide) ?_
    refine lv_aload_n hx hb dX14_call_30 rfl (lv_at hl 1 rfl) ?_
    refine g_getk (C := RX14) (T := TX14) (N := 67) hx hb hts (mc_ inX14) hown hK g rfl 1 (by decide) rfl (hts _ (List.mem_cons_of_mem _ t_2147)) (fun _ h9 => h9) 3 rfl dX14_call_31 ?_
    refine g_getr (K := 171) (C := RX12) (T := TX12) (N := 60) hx hb hts (mc_ inX12) hown hK g mq0_ kq0_ (by decide) rfl 15 (by decide) rfl (hts _ (List.mem_cons_of_mem _ t_1936)) (fun _ h9 => h9) rfl dX14_call_34 (fun a_30 ma_30 ka_30 g => ?_)
    refine lv_iload hx hb dX14_call_37 (lv_at hl 0 rfl) ?_
    refine g_iald hx hb hK g ma_30 ka_30 (by decide) rfl (in_bd bx_28 (by decide)) dX14_call_39 (fun x_31 bx_31 cx_31 => ?_)
    have vx_31 : x_31 = V_.i 15 x_28.toNatClampNeg := hG_19.at g 0 rfl rfl cx_31
    refine lv_iconst (v := 1) hx hb dX14_call_40 (by decide) ?_
    refine lv_isub hx hb dX14_call_41 ?_
    refine lv_topi (fun y_32 ey_32 => ?_)
    have ty_32 := sub_bd ey_32 bx_31 kb_1 (by decide)
    have b_33 : bd (-1) 11 y_32 := sub_rg ty_32 bx_31 kb_1 (by decide)
    refine lv_i2l hx hb dX14_call_42 rfl ?_
    refine lv_topl (fun y_34 ey_34 => ?_)
    have go_ := g
    refine g_calli (va_runS (As := [.long y_29, .long 0, .long y_34]) (rest := []) ⟨hx, hb, hml, hown, hts⟩ (r_X14_in l dC dI L kd tys fr_10 H.size g.2.2.2.1 y_29 0 y_34) (va_cwS 3 hts (gS_ t_2448 t_2449 t_198 t_2450) rfl rfl rfl (by decide +kernel) ⟨(Nat.le_of_ble_eq_true rfl), (Nat.le_of_ble_eq_true rfl)⟩) (pre3S g hK) rfl rfl hl.1 rfl (lv_room (Nat.le_of_ble_eq_true rfl)) dX14_call_43 ⟨(Nat.le_of_ble_eq_true rfl), (Nat.le_of_ble_eq_true rfl)⟩) g hK (by decide) (by decide) (fx' := [(12, 15, q0_, .ref a_30), (14, 54, a0_, .ref a_27), (14, 52, a0_, .int x_2), (14, 51, a0_, .int x_1), (14, 1, a0_, .ref q0_)]) rfl (fun r_35 fr_35 H locs hp hMr_35 g => ?_)
    rcases hp with ⟨hx_36, h_37, -⟩ | ⟨h_38, h_39, -⟩
    · have hG_40 := rOK.frame hMr_35 go_.2.2.2.1 ma0_ ka0_ (by decide) (by decide) hG_18
      have hG_41 := isV.frame hMr_35 go_.2.2.2.1 mq0_ kq0_ (by decide) (by decide) hG_19
      have hG_42 := isW.frame hMr_35 go_.2.2.2.1 ma0_ ka0_ (by decide) (by decide) hG_20
      obtain rfl : r_35 = 0 := h_37
      refine lv_if_ne (tgt := 52) hx hb dX14_call_46 (by decide) (fun c_ => absurd c_ (by decide)) (fun c_ => ?_)
      refine lv_bipush (v := (-2)) hx hb dX14_call_49 (by decide) ?_
      have kb_m2 : bd (-2) (-2) ((-2) : Int32) := ⟨by decide, by decide⟩
      subst hQ
      exact W.iret (v := (-2)) hx hb hr (fun t ht hW => ⟨⟨_, _, rfl, ⟨hG_40, (bd_sub kb_m2 (by decide)), trivial⟩, q3_of g hK ht hW⟩, g.2.2.1.F ht⟩) g.2.2.1.2.2 dX14_call_51
    · have hG_43 := rOK.frame hMr_35 go_.2.2.2.1 ma0_ ka0_ (by decide) (by decide) hG_18
      have hG_44 := isV.frame hMr_35 go_.2.2.2.1 mq0_ kq0_ (by decide) (by decide) hG_19
      have hG_45 := isW.frame hMr_35 go_.2.2.2.1 ma0_ ka0_ (by decide) (by decide) hG_20
      obtain rfl : r_35 = 1 := h_38
      have f_46 : (0 : Int32).toInt ≤ x2_.toInt := in_le h_39.1 (in_k (k := 0) (by decide) (by decide)) (in_v ey_29)
      have f_47 : x2_.toInt ≤ y_32.toInt := in_le h_39.2 (in_v ey_29) (in_v ey_34)
      have b_48 : bd 0 2147483647 x2_ := leR f_46 kb_0 (bdT x2_) (by decide)
      have b_49 : bd 0 11 x2_ := leL f_47 b_48 b_33 (by decide)
      have b_50 : bd 0 11 y_32 := leR f_47 b_48 b_33 (by decide)
      have b_51 : bd 1 12 x_31 := sub_inv ty_32 b_50 bx_31 kb_1 (by decide)
      refine lv_if_ne (tgt := 52) hx hb dX14_call_46 (by decide) (fun c_ => ?_) (fun c_ => absurd c_ (by decide))
      refine lv_aload_n hx hb dX14_call_52 rfl (lv_at hl 1 rfl) ?_
      refine g_getk (C := RX14) (T := TX14) (N := 67) hx hb hts (mc_ inX14) hown hK g rfl 1 (by decide) rfl (hts _ (List.mem_cons_of_mem _ t_2147)) (fun _ h9 => h9) 4 rfl dX14_call_53 ?_
      refine g_getr (K := 170) (C := RX12) (T := TX12) (N := 60) hx hb hts (mc_ inX12) hown hK g mq0_ kq0_ (by decide) rfl 14 (by decide) rfl (hts _ (List.mem_cons_of_mem _ t_1934)) (fun _ h9 => h9) rfl dX14_call_56 (fun a_52 ma_52 ka_52 g => ?_)
      refine lv_bipush (v := 12) hx hb dX14_call_59 (by decide) ?_
      refine lv_iload hx hb dX14_call_61 (lv_at hl 0 rfl) ?_
      refine lv_imul hx hb dX14_call_63 ?_
      refine lv_topi (fun y_53 ey_53 => ?_)
      have ty_53 := cmul_bd ey_53 (c := 12) (by decide) bx_28 (by decide)
      have b_54 : bd 0 84 y_53 := mulc_rg ty_53 bx_28 (by decide)
      refine lv_iload_n hx hb dX14_call_64 rfl (lv_at hl 3 rfl) ?_
      refine lv_iadd hx hb dX14_call_65 ?_
      refine lv_topi (fun y_55 ey_55 => ?_)
      have ty_55 := add_bd ey_55 b_54 b_49 (by decide)
      have b_56 : bd 0 95 y_55 := add_rg ty_55 b_54 b_49 (by decide)
      refine g_iald hx hb hK g ma_52 ka_52 (by decide) rfl (in_bd b_56 (by decide)) dX14_call_66 (fun x_57 bx_57 cx_57 => ?_)
      have vx_57 : x_57 = V_.i 14 y_55.toNatClampNeg := hG_44.at g 0 rfl rfl cx_57
      refine lv_istore (lv' := [(7, .int x_57), (6, .int x_28), (0, .ref a0_), (1, .int x1_), (2, .int x2_), (3, .int x3_), (4, .int x4_), (5, .int x5_)]) hx hb dX14_call_67 hl (by decide) rfl (fun ls hl => ?_)
      refine lv_aload_n hx hb dX14_call_69 rfl (lv_at hl 2 rfl) ?_
      refine lv_iload hx hb dX14_call_70 (lv_at hl 0 rfl) ?_
      refine lv_iconst (v := 0) hx hb dX14_call_72 (by decide) ?_
      refine lv_iload_n hx hb dX14_call_73 rfl (lv_at hl 5 rfl) ?_
      have go_ := g
      refine g_calli (va_runV (As := [.int x_57, .int 0, .int x3_]) (rest := []) ⟨hx, hb, hml, hown, hts⟩ (r_X14_isArgument l dC dI L kd tys fr_35 H.size g.2.2.2.1 a0_ ma0_ ka0_ x_57 bx_57 0 kb_0 x3_ x_2 b_26 (g.fcts [3] rfl)) (cwV 3 hts (gV_ t_2602 t_2604 t_139 t_198 t_2605) rfl rfl rfl (by decide +kernel) ⟨(Nat.le_of_ble_eq_true rfl), (Nat.le_of_ble_eq_true rfl)⟩) (pre3V g hK ma0_ ka0_ (by decide) (q := (RX14, TX14, 67)) rfl) rfl rfl hl.1 rfl (lv_room (Nat.le_of_ble_eq_true rfl)) dX14_call_74 ⟨(Nat.le_of_ble_eq_true rfl), (Nat.le_of_ble_eq_true rfl)⟩) g hK (by decide) (by decide) (fx' := [(12, 14, q0_, .ref a_52), (12, 15, q0_, .ref a_30), (14, 54, a0_, .ref a_27), (14, 52, a0_, .int x_2), (14, 51, a0_, .int x_1), (14, 1, a0_, .ref q0_)]) rfl (fun r_58 fr_58 H locs hp hMr_58 g => ?_)
      rcases hp with ⟨h_59, -⟩ | ⟨h_60, -⟩
      · have hG_61 := rOK.frame hMr_58 go_.2.2.2.1 ma0_ ka0_ (by decide) (by decide) hG_43
        have hG_62 := isV.frame hMr_58 go_.2.2.2.1 mq0_ kq0_ (by decide) (by decide) hG_44
        have hG_63 := isW.frame hMr_58 go_.2.2.2.1 ma0_ ka0_ (by decide) (by decide) hG_45
        obtain rfl : r_58 = 0 := h_59
        refine lv_if_eq (tgt := 104) hx hb dX14_call_77 (by decide) (fun c_ => ?_) (fun c_ => absurd (by decide) c_)
        refine lv_bipush (v := (-2)) hx hb dX14_call_104 (by decide) ?_
        have kb_m2 : bd (-2) (-2) ((-2) : Int32) := ⟨by decide, by decide⟩
        subst hQ
        exact W.iret (v := (-2)) hx hb hr (fun t ht hW => ⟨⟨_, _, rfl, ⟨hG_61, (bd_sub kb_m2 (by decide)), trivial⟩, q3_of g hK ht hW⟩, g.2.2.1.F ht⟩) g.2.2.1.2.2 dX14_call_106
      · have hG_64 := rOK.frame hMr_58 go_.2.2.2.1 ma0_ ka0_ (by decide) (by decide) hG_43
        have hG_65 := isV.frame hMr_58 go_.2.2.2.1 mq0_ kq0_ (by decide) (by decide) hG_44
        have hG_66 := isW.frame hMr_58 go_.2.2.2.1 ma0_ ka0_ (by decide) (by decide) hG_45
        obtain rfl : r_58 = 1 := h_60
        refine lv_if_eq (tgt := 104) hx hb dX14_call_77 (by decide) (fun c_ => absurd c_ (by decide)) (fun c_ => ?_)
        refine lv_aload_n hx hb dX14_call_80 rfl (lv_at hl 2 rfl) ?_
        refine lv_iload hx hb dX14_call_81 (lv_at hl 0 rfl) ?_
        refine lv_iconst (v := 1) hx hb dX14_call_83 (by decide) ?_
        refine lv_iload hx hb dX14_call_84 (lv_at hl 6 rfl) ?_
        have go_ := g
        refine g_calli (va_runV (As := [.int x_57, .int 1, .int x4_]) (rest := []) ⟨hx, hb, hml, hown, hts⟩ (r_X14_isArgument_2 l dC dI L kd tys fr_58 H.size g.2.2.2.1 a0_ ma0_ ka0_ x_57 bx_57 1 kb_1 x4_ x_2 b_26 (g.fcts [3] rfl)) (cwV 3 hts (gV_ t_2602 t_2604 t_139 t_198 t_2605) rfl rfl rfl (by decide +kernel) ⟨(Nat.le_of_ble_eq_true rfl), (Nat.le_of_ble_eq_true rfl)⟩) (pre3V g hK ma0_ ka0_ (by decide) (q := (RX14, TX14, 67)) rfl) rfl rfl hl.1 rfl (lv_room (Nat.le_of_ble_eq_true rfl)) dX14_call_86 ⟨(Nat.le_of_ble_eq_true rfl), (Nat.le_of_ble_eq_true rfl)⟩) g hK (by decide) (by decide) (fx' := [(12, 14, q0_, .ref a_52), (12, 15, q0_, .ref a_30), (14, 54, a0_, .ref a_27), (14, 52, a0_, .int x_2), (14, 51, a0_, .int x_1), (14, 1, a0_, .ref q0_)]) rfl (fun r_67 fr_67 H locs hp hMr_67 g => ?_)
        rcases hp with ⟨h_68, -⟩ | ⟨h_69, -⟩
        · have hG_70 := rOK.frame hMr_67 go_.2.2.2.1 ma0_ ka0_ (by decide) (by decide) hG_64
          have hG_71 := isV.frame hMr_67 go_.2.2.2.1 mq0_ kq0_ (by decide) (by decide) hG_65
          have hG_72 := isW.frame hMr_67 go_.2.2.2.1 ma0_ ka0_ (by decide) (by decide) hG_66
          obtain rfl : r_67 = 0 := h_68
          refine lv_if_eq (tgt := 104) hx hb dX14_call_89 (by decide) (fun c_ => ?_) (fun c_ => absurd (by decide) c_)
          refine lv_bipush (v := (-2)) hx hb dX14_call_104 (by decide) ?_
          have kb_m2 : bd (-2) (-2) ((-2) : Int32) := ⟨by decide, by decide⟩
          subst hQ
          exact W.iret (v := (-2)) hx hb hr (fun t ht hW => ⟨⟨_, _, rfl, ⟨hG_70, (bd_sub kb_m2 (by decide)), trivial⟩, q3_of g hK ht hW⟩, g.2.2.1.F ht⟩) g.2.2.1.2.2 dX14_call_106
        · have hG_73 := rOK.frame hMr_67 go_.2.2.2.1 ma0_ ka0_ (by decide) (by decide) hG_64
          have hG_74 := isV.frame hMr_67 go_.2.2.2.1 mq0_ kq0_ (by decide) (by decide) hG_65
          have hG_75 := isW.frame hMr_67 go_.2.2.2.1 ma0_ ka0_ (by decide) (by decide) hG_66
          obtain rfl : r_67 = 1 := h_69
          refine lv_if_eq (tgt := 104) hx hb dX14_call_89 (by decide) (fun c_ => absurd c_ (by decide)) (fun c_ => ?_)
          refine lv_aload_n hx hb dX14_call_92 rfl (lv_at hl 2 rfl) ?_
          refine lv_iload hx hb dX14_call_93 (lv_at hl 0 rfl) ?_
          refine lv_iconst (v := 2) hx hb dX14_call_95 (by decide) ?_
          refine lv_iload hx hb dX14_call_96 (lv_at hl 7 rfl) ?_
          have kb_2 : bd 2 2 (2 : Int32) := ⟨by decide, by decide⟩
          have go_ := g
          refine g_calli (va_runV (As := [.int x_57, .int 2, .int x5_]) (rest := []) ⟨hx, hb, hml, hown, hts⟩ (r_X14_isArgument_3 l dC dI L kd tys fr_67 H.size g.2.2.2.1 a0_ ma0_ ka0_ x_57 bx_57 2 kb_2 x5_ x_2 b_26 (g.fcts [3] rfl)) (cwV 3 hts (gV_ t_2602 t_2604 t_139 t_198 t_2605) rfl rfl rfl (by decide +kernel) ⟨(Nat.le_of_ble_eq_true rfl), (Nat.le_of_ble_eq_true rfl)⟩) (pre3V g hK ma0_ ka0_ (by decide) (q := (RX14, TX14, 67)) rfl) rfl rfl hl.1 rfl (lv_room (Nat.le_of_ble_eq_true rfl)) dX14_call_98 ⟨(Nat.le_of_ble_eq_true rfl), (Nat.le_of_ble_eq_true rfl)⟩) g hK (by decide) (by decide) (fx' := [(12, 14, q0_, .ref a_52), (12, 15, q0_, .ref a_30), (14, 54, a0_, .ref a_27), (14, 52, a0_, .int x_2), (14, 51, a0_, .int x_1), (14, 1, a0_, .ref q0_)]) rfl (fun r_76 fr_76 H locs hp hMr_76 g => ?_)
          rcases hp with ⟨h_77, -⟩ | ⟨h_78, -⟩
          · have hG_79 := rOK.frame hMr_76 go_.2.2.2.1 ma0_ ka0_ (by decide) (by decide) hG_73
            have hG_80 := isV.frame hMr_76 go_.2.2.2.1 mq0_ kq0_ (by decide) (by decide) hG_74
            have hG_81 := isW.frame hMr_76 go_.2.2.2.1 ma0_ ka0_ (by decide) (by decide) hG_75
            obtain rfl : r_76 = 0 := h_77
            refine lv_if_ne (tgt := 107) hx hb dX14_call_101 (by decide) (fun c_ => absurd c_ (by decide)) (fun c_ => ?_)
            refine lv_bipush (v := (-2)) hx hb dX14_call_104 (by decide) ?_
            have kb_m2 : bd (-2) (-2) ((-2) : Int32) := ⟨by decide, by decide⟩
            subst hQ
            exact W.iret (v := (-2)) hx hb hr (fun t ht hW => ⟨⟨_, _, rfl, ⟨hG_79, (bd_sub kb_m2 (by decide)), trivial⟩, q3_of g hK ht hW⟩, g.2.2.1.F ht⟩) g.2.2.1.2.2 dX14_call_106
          · have hG_82 := rOK.frame hMr_76 go_.2.2.2.1 ma0_ ka0_ (by decide) (by decide) hG_73
            have hG_83 := isV.frame hMr_76 go_.2.2.2.1 mq0_ kq0_ (by decide) (by decide) hG_74
            have hG_84 := isW.frame hMr_76 go_.2.2.2.1 ma0_ ka0_ (by decide) (by decide) hG_75
            obtain rfl : r_76 = 1 := h_78
            refine lv_if_ne (tgt := 107) hx hb dX14_call_101 (by decide) (fun c_ => ?_) (fun c_ => absurd c_ (by decide))
            refine lv_aload_n hx hb dX14_call_107 rfl (lv_at hl 2 rfl) ?_
            refine g_getk (C := RX14) (T := TX14) (N := 67) hx hb hts (mc_ inX14) hown hK g rfl 51 (by decide) rfl (hts _ (List.mem_cons_of_mem _ t_2197)) (fun _ h9 => h9) 4 rfl dX14_call_108 ?_
            refine lv_bipush (v := 10) hx hb dX14_call_111 (by decide) ?_
            have kb_10 : bd 10 10 (10 : Int32) := ⟨by decide, by decide⟩
            refine lv_icmp_ne (tgt := 119) hx hb dX14_call_113 (by decide) (fun c_85 => ?_) (fun c_85 => ?_)
            · have fc_85 := neq_f c_85
              have b_86 : bd 0 9 x_1 := neX fc_85 bx_1 kb_10 (by decide)
              refine lv_aload_n hx hb dX14_call_119 rfl (lv_at hl 2 rfl) ?_
              refine lv_iconst (v := 1) hx hb dX14_call_120 (by decide) ?_
              have go_ := g
              refine g_put (C := RX14) (T := TX14) (N := 67) hx hb hts (mc_ inX14) tyX14 tyX14_ok nmX14 hown hK g ma0_ ka0_ (by decide) rfl 53 (by decide) (hts _ (List.mem_cons_of_mem _ t_2199)) (fun _ h9 => h9) rfl rfl (okV_i (bd_sub kb_1 (by decide))) rfl rfl (by decide) (Or.inr (Or.inl (by decide))) (fx' := [(12, 14, q0_, .ref a_52), (12, 15, q0_, .ref a_30), (14, 54, a0_, .ref a_27), (14, 52, a0_, .int x_2), (14, 51, a0_, .int x_1), (14, 1, a0_, .ref q0_)]) rfl dX14_call_121 (fun f H locs hM_87 g => ?_)
              have hG_88 := rOK.frame hM_87 go_.2.2.2.1 ma0_ ka0_ (by decide) (by decide) hG_82
              have hG_89 := isV.frame hM_87 go_.2.2.2.1 mq0_ kq0_ (by decide) (by decide) hG_83
              have hG_90 := isW.frame hM_87 go_.2.2.2.1 ma0_ ka0_ (by decide) (by decide) hG_84
              refine lv_aload_n hx hb dX14_call_124 rfl (lv_at hl 2 rfl) ?_
              refine lv_iload_n hx hb dX14_call_125 rfl (lv_at hl 3 rfl) ?_
              refine lv_iload_n hx hb dX14_call_126 rfl (lv_at hl 4 rfl) ?_
              refine lv_iload_n hx hb dX14_call_127 rfl (lv_at hl 5 rfl) ?_
              refine lv_iload hx hb dX14_call_128 (lv_at hl 6 rfl) ?_
              refine lv_iload hx hb dX14_call_130 (lv_at hl 7 rfl) ?_
              have go_ := g
              refine g_callv (va_runV (As := [.int x1_, .int x2_, .int x3_, .int x4_, .int x5_]) (rest := []) ⟨hx, hb, hml, hown, hts⟩ (r_X14_addCall l dC dI L kd tys f H.size g.2.2.2.1 a0_ ma0_ ka0_ x1_ b_24 x2_ b_49 x3_ x4_ x5_ q0_ mq0_ kq0_ x_1 b_86 x_2 (bd_sub b_26 (by decide)) V_ δ_ hW R_3 hG_90 hG_89 hrw_5 (by have h9_0 := b_24; unfold bd at h9_0; have h9_1 := b_49; unfold bd at h9_1; have h9_2 := b_86; unfold bd at h9_2; have h9_3 := b_26; unfold bd at h9_3; have h9_4 := bx_28; unfold bd at h9_4; have h9_5 := b_51; unfold bd at h9_5; have h9_6 := bx_57; unfold bd at h9_6; have h9_7 := b_50; unfold bd at h9_7; have h9_8 := b_54; unfold bd at h9_8; have h9_9 := b_56; unfold bd at h9_9; have h9_10 := b_25; unfold bd at h9_10; have h8_0 := kb_0; unfold bd at h8_0; have h8_1 := kb_1; unfold bd at h8_1; have h8_2 := kb_10; unfold bd at h8_2; have h8_3 := kb_2; unfold bd at h8_3; omega) (by rw [← vx_28, ← vx_31]; have h9_0 := b_24; unfold bd at h9_0; have h9_1 := b_49; unfold bd at h9_1; have h9_2 := b_86; unfold bd at h9_2; have h9_3 := b_26; unfold bd at h9_3; have h9_4 := bx_28; unfold bd at h9_4; have h9_5 := b_51; unfold bd at h9_5; have h9_6 := bx_57; unfold bd at h9_6; have h9_7 := b_50; unfold bd at h9_7; have h9_8 := b_54; unfold bd at h9_8; have h9_9 := b_56; unfold bd at h9_9; have h9_10 := b_25; unfold bd at h9_10; have h8_0 := kb_0; unfold bd at h8_0; have h8_1 := kb_1; unfold bd at h8_1; have h8_2 := kb_10; unfold bd at h8_2; have h8_3 := kb_2; unfold bd at h8_3; omega) (g.fcts [6, 5, 4] rfl)) (cwV 5 hts (gV_ t_2606 t_2608 t_140 t_198 t_2609) rfl rfl rfl (by decide +kernel) ⟨(Nat.le_of_ble_eq_true rfl), (Nat.le_of_ble_eq_true rfl)⟩) (pre3V g hK ma0_ ka0_ (by decide) (q := (RX14, TX14, 67)) rfl) rfl rfl hl.1 rfl (lv_room (Nat.le_of_ble_eq_true rfl)) dX14_call_132 ⟨(Nat.le_of_ble_eq_true rfl), (Nat.le_of_ble_eq_true rfl)⟩) g hK (by decide) (by decide) (fx' := [(14, 53, a0_, .int 1), (12, 14, q0_, .ref a_52), (12, 15, q0_, .ref a_30), (14, 54, a0_, .ref a_27), (14, 52, a0_, .int x_2), (14, 1, a0_, .ref q0_)]) rfl (fun fr_91 H locs hp hMr_91 g => ?_)
              obtain ⟨hx_92, hx_93, x_94, ⟨h_95, rh_95⟩, hF_96⟩ := hp
              have hG_97 := isV.frame hMr_91 go_.2.2.2.1 mq0_ kq0_ (by decide) (by decide) hG_89
              have g := g.more hF_96
              refine lv_aload_n hx hb dX14_call_135 rfl (lv_at hl 2 rfl) ?_
              refine g_getk (C := RX14) (T := TX14) (N := 67) hx hb hts (mc_ inX14) hown hK g rfl 51 (by decide) rfl (hts _ (List.mem_cons_of_mem _ t_2197)) (fun _ h9 => h9) 0 rfl dX14_call_136 ?_
              subst hQ
              exact W.iret (v := x_94) hx hb hr (fun t ht hW => ⟨⟨_, _, rfl, ⟨(rOK.of hx_92 g 0 5 rfl rfl (hx_93.1 _ _ (by have h9_0 := b_24; unfold bd at h9_0; have h9_1 := b_49; unfold bd at h9_1; have h9_2 := b_86; unfold bd at h9_2; have h9_3 := b_26; unfold bd at h9_3; have h9_4 := bx_28; unfold bd at h9_4; have h9_5 := b_51; unfold bd at h9_5; have h9_6 := bx_57; unfold bd at h9_6; have h9_7 := h_95; unfold bd at h9_7; have h9_8 := b_50; unfold bd at h9_8; have h9_9 := b_54; unfold bd at h9_9; have h9_10 := b_56; unfold bd at h9_10; have h9_11 := b_25; unfold bd at h9_11; have h8_0 := kb_0; unfold bd at h8_0; have h8_1 := kb_1; unfold bd at h8_1; have h8_2 := kb_10; unfold bd at h8_2; have h8_3 := kb_2; unfold bd at h8_3; omega) (by have h9_0 := b_24; unfold bd at h9_0; have h9_1 := b_49; unfold bd at h9_1; have h9_2 := b_86; unfold bd at h9_2; have h9_3 := b_26; unfold bd at h9_3; have h9_4 := bx_28; unfold bd at h9_4; have h9_5 := b_51; unfold bd at h9_5; have h9_6 := bx_57; unfold bd at h9_6; have h9_7 := h_95; unfold bd at h9_7; have h9_8 := b_50; unfold bd at h9_8; have h9_9 := b_54; unfold bd at h9_9; have h9_10 := b_56; unfold bd at h9_10; have h9_11 := b_25; unfold bd at h9_11; have h8_0 := kb_0; unfold bd at h8_0; have h8_1 := kb_1; unfold bd at h8_1; have h8_2 := kb_10; unfold bd at h8_2; have h8_3 := kb_2; unfold bd at h8_3; omega))), (bd_sub h_95 (by decide)), trivial⟩, q3_of g hK ht hW⟩, g.2.2.1.F ht⟩) g.2.2.1.2.2 dX14_call_139
            · have fc_85 := eq_f c_85
              have b_98 : bd 10 10 x_1 := eqX fc_85 bx_1 kb_10 (by decide)
              refine lv_bipush (v := (-3)) hx hb dX14_call_116 (by decide) ?_
              have kb_m3 : bd (-3) (-3) ((-3) : Int32) := ⟨by decide, by decide⟩
              subst hQ
              exact W.iret (v := (-3)) hx hb hr (fun t ht hW => ⟨⟨_, _, rfl, ⟨hG_82, (bd_sub kb_m3 (by decide)), trivial⟩, q3_of g hK ht hW⟩, g.2.2.1.F ht⟩) g.2.2.1.2.2 dX14_call_118
set_option maxHeartbeats 4000000 in
set_option maxRecDepth 100000 in
theorem r_X14_toldBy (l : Launch) (dC : Nat → ClassId) (dI : Nat → Nat → Nat) (L : List Nat) (kd : Nat → Nat) (tys : List (ClassId × FieldType)) (f0 : Nat → va_E) (sz : Nat) (hWT : WT L kd tys f0) (a0_ : Nat) (ma0_ : a0_ ∈ L) (ka0_ : kd a0_ = 14) (x1_ : Int32) (bx1_ : bd (-1) 8 x1_) (x2_ : Int32) (bx2_ : bd 0 109 x2_) (q0_ : Nat) (mq0_ : q0_ ∈ L) (kq0_ : kd q0_ = 12) (V_ : PV) (δ_ : Nat → Nat) (hW : wfP V_ δ_) (hGVq0_ : isV f0 q0_ V_) (hfx : Fs L kd f0 [(14, 1, a0_, .ref q0_)]) : Met l yX14_toldBy (.code yX14_toldBy cX14_toldBy 4 (some .int) :: lw_g) ({ frames := 0, cells := 0, slots := 0, locals := 0 }) (va_Pc [.ref a0_, .int x1_, .int x2_] (P3 (dC, dI) L tys f0 sz)) (va_Qi (fun (r : Int32) (f : Nat → va_E) => (r = (-1) ∧ True) ∨ ((tB V_ x1_ r) ∧ bd 0 109 r ∧ bd 0 8 x1_ ∧ ∃ z0_ : Int32, bd 1 110 z0_ ∧ Fs L kd f [(12, 27, q0_, .int z0_)])) (Q3 (dC, dI) L kd tys [] [] f0 sz) (pA L sz)) 0 0 (pA L sz) := by
  refine Met.ofW (cc := cX14_toldBy) (maxL := 4) (ret := (some .int)) (by decide) rfl ?_
  intro p e s m args below meth c s₁ B hml hv
  obtain ⟨rfl, hsz, hP, hK, hD0⟩ := hv
  have hx := B.exec
  have hb := B.bytes
  have hr := B.returns
  have hts := atoms_spec (ws := (.code yX14_toldBy cX14_toldBy 4 (some .int) :: lw_g)) B.pre
  have hown : s.vm.findClass RX14 = some m.cls := findClass_of_methodNamed B.named
  have hlocks := B.notSynchronized
  subst hsz
  have g : G3 (dC, dI) L kd tys s f0 [] [] f0 s.heap [] [(14, 1, a0_, .ref q0_)] := G3.start hP hD0 hWT hfx
  have hl := lv_entry ([.ref a0_, .int x1_, .int x2_]) (n := 4) (Nat.le_of_ble_eq_true rfl)
  rw [lg_entry_eq]
  generalize (lg_sl ([.ref a0_, .int x1_, .int x2_]) ++ List.replicate (4 - (lg_sl ([.ref a0_, .int x1_, .int x2_])).length) Slot.unset).toArray = ls at hl ⊢
  have hl : lv_has ls 4 [(0, .ref a0_), (1, .int x1_), (2, .int x2_)] := hl
  refine W_q (fun Q hQ => ?_)
  refine lv_iconst (v := 0) hx hb dX14_toldBy_0 (by decide) ?_
  refine lv_istore_n (lv' := [(3, .int 0), (0, .ref a0_), (1, .int x1_), (2, .int x2_)]) hx hb dX14_toldBy_1 rfl hl (by decide) rfl (fun ls hl => ?_)
  have loop_1 : ∀ (n : Nat) (v2_3 : Int32), bd 0 110 v2_3 → (110 - v2_3.toInt < (n : Int)) → ∀ (f : Nat → va_E) (H : Heap) (locs : List Loc) (ls : Array Slot), G3 (dC, dI) L kd tys s f0 [] [] f H locs [(14, 1, a0_, .ref q0_)] → isV f q0_ V_ → lv_has ls 4 [(3, .int v2_3), (0, .ref a0_), (1, .int x1_), (2, .int x2_)] → W p l e ({ frames := 0, cells := 0, slots := 0, locals := 0 } : Room) s m [.ref a0_, .int x1_, .int x2_].toArray below meth c H locs 0 0 Q (F0 m 2 ls []) := by
    intro n2
    induction n2 with
    | zero =>
      intro v2_3 bv2_3 hm2 f H locs ls g hG2_V_q0_ hl
      exact absurd hm2 (by have h9_v2_3 := bv2_3; unfold bd at h9_v2_3; omega)
    | succ n2 ih2 =>
      intro v2_3 bv2_3 hm2 f H locs ls g hG2_V_q0_ hl
      refine lv_iload_n hx hb dX14_toldBy_2 rfl (lv_at hl 0 rfl) ?_
      refine lv_aload_n hx hb dX14_toldBy_3 rfl (lv_at hl 1 rfl) ?_
      refine g_getk (C := RX14) (T := TX14) (N := 67) hx hb hts (mc_ inX14) hown hK g rfl 1 (by decide) rfl (hts _ (List.mem_cons_of_mem _ t_2147)) (fun _ h9 => h9) 0 rfl dX14_toldBy_4 ?_
      refine g_geti (C := RX12) (T := TX12) (N := 60) hx hb hts (mc_ inX12) hown hK g mq0_ kq0_ (by decide) rfl 27 (by decide) rfl (hts _ (List.mem_cons_of_mem _ t_1959)) (fun _ h9 => h9) rfl dX14_toldBy_7 (fun x_2 bx_2 g => ?_)
      refine lv_icmp_ge (tgt := 78) hx hb dX14_toldBy_10 (by decide) (fun c_3 => ?_) (fun c_3 => ?_)
      · have fc_3 := le_f c_3
        refine lv_iconst (v := (-1)) hx hb dX14_toldBy_78 (by decide) ?_
        subst hQ
        exact W.iret (v := (-1)) hx hb hr (fun t ht hW => ⟨⟨_, _, rfl, Or.inl ⟨rfl, trivial⟩, q3_of g hK ht hW⟩, g.2.2.1.F ht⟩) g.2.2.1.2.2 dX14_toldBy_79
      · have fc_3 := nle_f c_3
        have b_4 : bd 0 109 v2_3 := ltL fc_3 bv2_3 bx_2 (by decide)
        have b_5 : bd 1 110 x_2 := ltR fc_3 bv2_3 bx_2 (by decide)
        refine lv_aload_n hx hb dX14_toldBy_13 rfl (lv_at hl 1 rfl) ?_
        refine g_getk (C := RX14) (T := TX14) (N := 67) hx hb hts (mc_ inX14) hown hK g rfl 1 (by decide) rfl (hts _ (List.mem_cons_of_mem _ t_2147)) (fun _ h9 => h9) 1 rfl dX14_toldBy_14 ?_
        refine g_getr (K := 174) (C := RX12) (T := TX12) (N := 60) hx hb hts (mc_ inX12) hown hK g mq0_ kq0_ (by decide) rfl 18 (by decide) rfl (hts _ (List.mem_cons_of_mem _ t_1942)) (fun _ h9 => h9) rfl dX14_toldBy_17 (fun a_6 ma_6 ka_6 g => ?_)
        refine lv_iload_n hx hb dX14_toldBy_20 rfl (lv_at hl 0 rfl) ?_
        refine g_iald hx hb hK g ma_6 ka_6 (by decide) rfl (in_bd b_4 (by decide)) dX14_toldBy_21 (fun x_7 bx_7 cx_7 => ?_)
        have vx_7 : x_7 = V_.i 18 v2_3.toNatClampNeg := hG2_V_q0_.at g 0 rfl rfl cx_7
        refine lv_iload_n hx hb dX14_toldBy_22 rfl (lv_at hl 2 rfl) ?_
        refine lv_icmp_ne (tgt := 72) hx hb dX14_toldBy_23 (by decide) (fun c_8 => ?_) (fun c_8 => ?_)
        · have fc_8 := neq_f c_8
          have kb_1 : bd 1 1 (1 : Int32) := ⟨by decide, by decide⟩
          obtain ⟨y_9, ey_9⟩ : ∃ z : Int32, z = v2_3 + 1 := ⟨_, rfl⟩
          refine lv_iinc (v := y_9) (lv' := [(3, .int y_9), (0, .ref a0_), (1, .int x1_), (2, .int x2_)]) hx hb dX14_toldBy_72 hl (k := 0) rfl (by rw [ey_9]; rfl) (by decide) rfl (fun ls hl => ?_)
          have ty_9 := add_bd ey_9 b_4 kb_1 (by decide)
          have b_10 : bd 1 110 y_9 := add_rg ty_9 b_4 kb_1 (by decide)
          refine lv_goto (tgt := 2) hx hb dX14_toldBy_75 (by decide) ?_
          have hl9 := lv_sub hl [0, 1, 2, 3] (by rfl : lv_pick [(3, .int y_9), (0, .ref a0_), (1, .int x1_), (2, .int x2_)] [0, 1, 2, 3] = [(3, .int y_9), (0, .ref a0_), (1, .int x1_), (2, .int x2_)])
          have g9 := g.sub (fx' := [(14, 1, a0_, .ref q0_)]) [2] rfl
          exact ih2  y_9 (bd_sub b_10 (by decide)) (by have h9_0 := b_10; unfold bd at h9_0; have h9_1 := bv2_3; unfold bd at h9_1; have h9_2 := kb_1; unfold bd at h9_2; omega) _ _ _ _ g9 hG2_V_q0_ hl9
        · have fc_8 := eq_f c_8
          have b_11 : bd 0 8 x1_ := eqX fc_8.symm bx1_ bx_7 (by decide)
          refine lv_aload_n hx hb dX14_toldBy_26 rfl (lv_at hl 1 rfl) ?_
          refine g_getk (C := RX14) (T := TX14) (N := 67) hx hb hts (mc_ inX14) hown hK g rfl 1 (by decide) rfl (hts _ (List.mem_cons_of_mem _ t_2147)) (fun _ h9 => h9) 2 rfl dX14_toldBy_27 ?_
          refine g_getr (K := 172) (C := RX12) (T := TX12) (N := 60) hx hb hts (mc_ inX12) hown hK g mq0_ kq0_ (by decide) rfl 16 (by decide) rfl (hts _ (List.mem_cons_of_mem _ t_1938)) (fun _ h9 => h9) rfl dX14_toldBy_30 (fun a_12 ma_12 ka_12 g => ?_)
          refine lv_iload_n hx hb dX14_toldBy_33 rfl (lv_at hl 0 rfl) ?_
          refine g_laldX hx hb hK g ma_12 ka_12 (by decide) rfl (in_bd b_4 (by decide)) dX14_toldBy_34 (fun x_13 cx_13 => ?_)
          have vx_13 : x_13 = V_.l 16 v2_3.toNatClampNeg := hG2_V_q0_.atL g 0 rfl rfl cx_13
          refine lv_aload_n hx hb dX14_toldBy_35 rfl (lv_at hl 1 rfl) ?_
          refine g_getk (C := RX14) (T := TX14) (N := 67) hx hb hts (mc_ inX14) hown hK g rfl 1 (by decide) rfl (hts _ (List.mem_cons_of_mem _ t_2147)) (fun _ h9 => h9) 3 rfl dX14_toldBy_36 ?_
          refine g_getk (C := RX12) (T := TX12) (N := 60) hx hb hts (mc_ inX12) hown hK g rfl 16 (by decide) rfl (hts _ (List.mem_cons_of_mem _ t_1938)) (fun _ h9 => h9) 0 rfl dX14_toldBy_39 ?_
          refine lv_iload_n hx hb dX14_toldBy_42 rfl (lv_at hl 3 rfl) ?_
          refine g_laldX hx hb hK g ma_12 ka_12 (by decide) rfl (in_bd bx2_ (by decide)) dX14_toldBy_43 (fun x_14 cx_14 => ?_)
          have vx_14 : x_14 = V_.l 16 x2_.toNatClampNeg := hG2_V_q0_.atL g 0 rfl rfl cx_14
          refine W.lcmp hx hb dX14_toldBy_44 ?_
          refine lv_if_ne (tgt := 72) hx hb dX14_toldBy_45 (by decide) (fun c_15 => ?_) (fun c_15 => ?_)
          · have kb_1 : bd 1 1 (1 : Int32) := ⟨by decide, by decide⟩
            obtain ⟨y_16, ey_16⟩ : ∃ z : Int32, z = v2_3 + 1 := ⟨_, rfl⟩
            refine lv_iinc (v := y_16) (lv' := [(3, .int y_16), (0, .ref a0_), (1, .int x1_), (2, .int x2_)]) hx hb dX14_toldBy_72 hl (k := 0) rfl (by rw [ey_16]; rfl) (by decide) rfl (fun ls hl => ?_)
            have ty_16 := add_bd ey_16 b_4 kb_1 (by decide)
            have b_17 : bd 1 110 y_16 := add_rg ty_16 b_4 kb_1 (by decide)
            refine lv_goto (tgt := 2) hx hb dX14_toldBy_75 (by decide) ?_
            have hl9 := lv_sub hl [0, 1, 2, 3] (by rfl : lv_pick [(3, .int y_16), (0, .ref a0_), (1, .int x1_), (2, .int x2_)] [0, 1, 2, 3] = [(3, .int y_16), (0, .ref a0_), (1, .int x1_), (2, .int x2_)])
            have g9 := g.sub (fx' := [(14, 1, a0_, .ref q0_)]) [3] rfl
            exact ih2  y_16 (bd_sub b_17 (by decide)) (by have h9_0 := b_17; unfold bd at h9_0; have h9_1 := bv2_3; unfold bd at h9_1; have h9_2 := kb_1; unfold bd at h9_2; omega) _ _ _ _ g9 hG2_V_q0_ hl9
          · refine lv_aload_n hx hb dX14_toldBy_48 rfl (lv_at hl 1 rfl) ?_
            refine g_getk (C := RX14) (T := TX14) (N := 67) hx hb hts (mc_ inX14) hown hK g rfl 1 (by decide) rfl (hts _ (List.mem_cons_of_mem _ t_2147)) (fun _ h9 => h9) 3 rfl dX14_toldBy_49 ?_
            refine g_getr (K := 173) (C := RX12) (T := TX12) (N := 60) hx hb hts (mc_ inX12) hown hK g mq0_ kq0_ (by decide) rfl 17 (by decide) rfl (hts _ (List.mem_cons_of_mem _ t_1940)) (fun _ h9 => h9) rfl dX14_toldBy_52 (fun a_18 ma_18 ka_18 g => ?_)
            refine lv_iload_n hx hb dX14_toldBy_55 rfl (lv_at hl 0 rfl) ?_
            refine g_laldX hx hb hK g ma_18 ka_18 (by decide) rfl (in_bd b_4 (by decide)) dX14_toldBy_56 (fun x_19 cx_19 => ?_)
            have vx_19 : x_19 = V_.l 17 v2_3.toNatClampNeg := hG2_V_q0_.atL g 0 rfl rfl cx_19
            refine lv_aload_n hx hb dX14_toldBy_57 rfl (lv_at hl 1 rfl) ?_
            refine g_getk (C := RX14) (T := TX14) (N := 67) hx hb hts (mc_ inX14) hown hK g rfl 1 (by decide) rfl (hts _ (List.mem_cons_of_mem _ t_2147)) (fun _ h9 => h9) 4 rfl dX14_toldBy_58 ?_
            refine g_getk (C := RX12) (T := TX12) (N := 60) hx hb hts (mc_ inX12) hown hK g rfl 17 (by decide) rfl (hts _ (List.mem_cons_of_mem _ t_1940)) (fun _ h9 => h9) 0 rfl dX14_toldBy_61 ?_
            refine lv_iload_n hx hb dX14_toldBy_64 rfl (lv_at hl 3 rfl) ?_
            refine g_laldX hx hb hK g ma_18 ka_18 (by decide) rfl (in_bd bx2_ (by decide)) dX14_toldBy_65 (fun x_20 cx_20 => ?_)
            have vx_20 : x_20 = V_.l 17 x2_.toNatClampNeg := hG2_V_q0_.atL g 0 rfl rfl cx_20
            refine W.lcmp hx hb dX14_toldBy_66 ?_
            refine lv_if_ne (tgt := 72) hx hb dX14_toldBy_67 (by decide) (fun c_21 => ?_) (fun c_21 => ?_)
            · have kb_1 : bd 1 1 (1 : Int32) := ⟨by decide, by decide⟩
              obtain ⟨y_22, ey_22⟩ : ∃ z : Int32, z = v2_3 + 1 := ⟨_, rfl⟩
              refine lv_iinc (v := y_22) (lv' := [(3, .int y_22), (0, .ref a0_), (1, .int x1_), (2, .int x2_)]) hx hb dX14_toldBy_72 hl (k := 0) rfl (by rw [ey_22]; rfl) (by decide) rfl (fun ls hl => ?_)
              have ty_22 := add_bd ey_22 b_4 kb_1 (by decide)
              have b_23 : bd 1 110 y_22 := add_rg ty_22 b_4 kb_1 (by decide)
              refine lv_goto (tgt := 2) hx hb dX14_toldBy_75 (by decide) ?_
              have hl9 := lv_sub hl [0, 1, 2, 3] (by rfl : lv_pick [(3, .int y_22), (0, .ref a0_), (1, .int x1_), (2, .int x2_)] [0, 1, 2, 3] = [(3, .int y_22), (0, .ref a0_), (1, .int x1_), (2, .int x2_)])
              have g9 := g.sub (fx' := [(14, 1, a0_, .ref q0_)]) [4] rfl
              exact ih2  y_22 (bd_sub b_23 (by decide)) (by have h9_0 := b_23; unfold bd at h9_0; have h9_1 := bv2_3; unfold bd at h9_1; have h9_2 := kb_1; unfold bd at h9_2; omega) _ _ _ _ g9 hG2_V_q0_ hl9
            · refine lv_iload_n hx hb dX14_toldBy_70 rfl (lv_at hl 0 rfl) ?_
              subst hQ
              exact W.iret (v := v2_3) hx hb hr (fun t ht hW => ⟨⟨_, _, rfl, Or.inr (⟨⟨b_4.1, (by rw [← hG2_V_q0_.nn g 3 rfl rfl]; exact fc_3), vx_7.symm.trans (Int32.toInt_inj.mp fc_8)⟩, b_4, b_11, x_2, b_5, (g.fcts [3] rfl)⟩), q3_of g hK ht hW⟩, g.2.2.1.F ht⟩) g.2.2.1.2.2 dX14_toldBy_71
  have kb_0 : bd 0 0 (0 : Int32) := ⟨by decide, by decide⟩
  have hl9 := lv_sub hl [0, 1, 2, 3] (by rfl : lv_pick [(3, .int 0), (0, .ref a0_), (1, .int x1_), (2, .int x2_)] [0, 1, 2, 3] = [(3, .int 0), (0, .ref a0_), (1, .int x1_), (2, .int x2_)])
  have g9 := g.sub (fx' := [(14, 1, a0_, .ref q0_)]) [0] rfl
  exact loop_1 (223) 0 (bd_sub kb_0 (by decide)) (by have h9_0 := kb_0; unfold bd at h9_0; omega) _ _ _ _ g9 hGVq0_ hl9
